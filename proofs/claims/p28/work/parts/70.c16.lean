theorem iw_X8_addDoubleNuts_X3 : ∀ w ∈ wsX30, w ∈ wsX8_addDoubleNuts := fun _ h => List.mem_cons_of_mem _ (List.mem_append_left _ (List.mem_append_left _ (List.mem_append_right _ h)))
set_option maxHeartbeats 4000000 in
set_option maxRecDepth 100000 in
theorem c_X8_addDoubleNuts (l : Launch) (dC : Nat → ClassId) (dI : Nat → Nat → Nat) (ad : Nat → Nat) (tN : Nat) (fN : Nat → Int64) (cB cI cJ cZ : ClassId) (h0 : Nat) (h1 : Nat) (r0 : Nat → Nat) (w0 : va_W) (r1 : Nat → Nat) (pl1 : Nat) (w1 : va_W) (r2 : Nat → Nat) (fc2 : Int32) (dc2 : Int32) (rk2 : Nat → Int32) (w2 : va_W) (o0 : ok_rank ad cB cI cJ cZ h0 r0 w0) (o1 : ok_frame ad cB cI cJ cZ h1 r1 pl1 w1) (o2 : ok_plan ad cB cI cJ cZ pl1 r2 fc2 dc2 rk2 w2) (sz : Nat) : Met l yX8_addDoubleNuts wsX8_addDoubleNuts ({ frames := 3, cells := 0, slots := 0, locals := 94 } : Room) (va_Pc [.ref h0, .ref h1] (fun U => U.heap.size = sz ∧ va_P (dC, dI) vwCl (List.flatten [w0, w1, w2]) U.heap ∧ va_K (dC, dI) vwCl [(cB, .byte), (cI, .int), (cJ, .long), (cZ, .boolean)] U ∧ va_D (fun _ => True) (List.flatten [w0, w1, w2]) ∧ ex_Y ad tN fN (va_A (List.flatten [w0, w1, w2]) sz) U)) (va_Qv (fun _ : Unit => True) (fun (_ : Unit) (t : State) => ∃ (w09 : va_W), ok_rank ad cB cI cJ cZ h0 r0 w09 ∧ va_P (dC, dI) vwCl (List.flatten [w09, w1, w2]) t.heap ∧ va_D (va_A (List.flatten [w0, w1, w2]) sz) (List.flatten [w09, w1, w2])) (va_A (List.flatten [w0, w1, w2]) sz)) 0 0 (va_A (List.flatten [w0, w1, w2]) sz) := by
  refine Met.ofW (cc := cX8_addDoubleNuts) (maxL := 5) (ret := none) (by decide) rfl ?_
  intro p e s m args below meth c s₁ B hml hv
  obtain ⟨rfl, hsz, hP, hK, hD0, hE⟩ := hv
  have hx := B.exec
  have hb := B.bytes
  have hr := B.returns
  have hts := atoms_spec (ws := wsX8_addDoubleNuts) B.pre
  have hown : s.vm.findClass RX8 = some m.cls := findClass_of_methodNamed B.named
  have hlocks := B.notSynchronized
  subst hsz
  have hD := hD0.self (sz := s.heap.size)
  generalize hAe : va_A (List.flatten [w0, w1, w2]) s.heap.size = A at hD hE ⊢
  have hA : ∀ q : Nat, s.heap.size ≤ q → A q := fun q h => by rw [← hAe]; exact Or.inr h
  have hS : va_S A s.heap s.heap [] := va_S.rf
  have hl := lv_entry ([.ref h0, .ref h1]) (n := 5) (Nat.le_of_ble_eq_true rfl)
  rw [lg_entry_eq]
  generalize (lg_sl ([.ref h0, .ref h1]) ++ List.replicate (5 - (lg_sl ([.ref h0, .ref h1])).length) Slot.unset).toArray = ls at hl ⊢
  have hl : lv_has ls 5 [(0, .ref h0), (1, .ref h1)] := hl
  clear hAe
  refine W_name (fun Q0 hQ0 => ?_)
  refine lv_aload_n hx hb dX8_addDoubleNuts_0 rfl (lv_at hl 1 rfl) ?_
  obtain ⟨fr_1, dr_4, rc_7, f_10, f_12, gn_13, f_14, f_15, f_16, f_17, f_18, sc_19, jc_20, f_23, f_25, rfl, hl_2, hh_3, hl_5, hh_6, hl_8, hh_9, hr_11, hl_21, hh_22, hr_24, hr_26⟩ := o1
  have hpm : List.Perm ([w0, [(h1, .inr (2, [.ref pl1, .int fr_1, .int dr_4, .int rc_7, .ref (r1 0), .ref (r1 1), .int gn_13, .ref (r1 2), .ref (r1 3), .ref (r1 4), .ref (r1 5), .ref (r1 6), .long sc_19, .int jc_20, .ref (r1 7), .ref (r1 8)])), (r1 0, .inl (cI, 10, .inl f_10)), (r1 1, .inl (cI, 10, .inl f_12)), (r1 2, .inl (cI, 6, .inl f_14)), (r1 3, .inl (cJ, 6, .inr (.inl f_15))), (r1 4, .inl (cJ, 6, .inr (.inl f_16))), (r1 5, .inl (cJ, 6, .inr (.inl f_17))), (r1 6, .inl (cJ, 10, .inr (.inl f_18))), (r1 7, .inl (cI, 70, .inl f_23)), (r1 8, .inl (cI, 70, .inl f_25))], w2] : List va_W) (([[(h1, .inr (2, [.ref pl1, .int fr_1, .int dr_4, .int rc_7, .ref (r1 0), .ref (r1 1), .int gn_13, .ref (r1 2), .ref (r1 3), .ref (r1 4), .ref (r1 5), .ref (r1 6), .long sc_19, .int jc_20, .ref (r1 7), .ref (r1 8)])), (r1 0, .inl (cI, 10, .inl f_10)), (r1 1, .inl (cI, 10, .inl f_12)), (r1 2, .inl (cI, 6, .inl f_14)), (r1 3, .inl (cJ, 6, .inr (.inl f_15))), (r1 4, .inl (cJ, 6, .inr (.inl f_16))), (r1 5, .inl (cJ, 6, .inr (.inl f_17))), (r1 6, .inl (cJ, 10, .inr (.inl f_18))), (r1 7, .inl (cI, 70, .inl f_23)), (r1 8, .inl (cI, 70, .inl f_25))], w2] : List va_W) ++ ([w0] : List va_W)) := pm_n 3 [1, 2, 0] (by decide) rfl rfl
  have hPc := bk_P hpm hP
  have hDc := bk_D hpm hD
  have hFc := bk_F hpm hD hS hA
  refine va_calli (va_runV (As := []) (rest := []) ⟨hx, hb, hml, hown, hts⟩ (c_X3_doubleFloors l dC dI ad tN fN cB cI cJ cZ h1 r1 pl1 _ r2 fc2 dc2 rk2 _ ⟨fr_1, dr_4, rc_7, f_10, f_12, gn_13, f_14, f_15, f_16, f_17, f_18, sc_19, jc_20, f_23, f_25, rfl, by omega, by omega, by omega, by omega, by omega, by omega, hr_11, by omega, by omega, hr_24, hr_26⟩ o2 s.heap.size) (cwV 0 hts gX8_addDoubleNuts_X3_doubleFloors rfl rfl rfl (by decide +kernel) ⟨(Nat.le_of_ble_eq_true rfl), (Nat.le_of_ble_eq_true rfl)⟩) ⟨fun a U g mk q => by obtain ⟨q0, q1, qP, qK, qD, qE⟩ := q; exact ⟨q0, q1, qP, va_K.moved (u := U) (U := U.calling g mk a) (Vm.Alike.refl U.vm) qK, qD, ey_blind qE⟩, va_recv hK hPc (ci := 2) (q0 := 0) rfl rfl, fun U hU hW => ⟨rfl, by rw [hU], by rw [hU]; exact hPc, va_K.moved hW.alike hK, hDc.weaken (fun _ _ _ _ => trivial), ey_call hE hS hFc hU hW⟩⟩ rfl rfl hl.1 rfl (lv_room (Nat.le_of_ble_eq_true rfl)) dX8_addDoubleNuts_1 ⟨(Nat.le_of_ble_eq_true rfl), (Nat.le_of_ble_eq_true rfl)⟩) hS (fun q _ h => hFc q h) hFc (fun r_27 u t H locs ht hvm hw hB hz1 hk1 hS => ?_)
  obtain ⟨hP1, hD1⟩ := hB
  rw [ht] at hP1
  obtain ⟨hP, hD⟩ := bk_join hpm hP hD hk1 hFc (Cs1 := [[(h1, .inr (2, [.ref pl1, .int fr_1, .int dr_4, .int rc_7, .ref (r1 0), .ref (r1 1), .int gn_13, .ref (r1 2), .ref (r1 3), .ref (r1 4), .ref (r1 5), .ref (r1 6), .long sc_19, .int jc_20, .ref (r1 7), .ref (r1 8)])), (r1 0, .inl (cI, 10, .inl f_10)), (r1 1, .inl (cI, 10, .inl f_12)), (r1 2, .inl (cI, 6, .inl f_14)), (r1 3, .inl (cJ, 6, .inr (.inl f_15))), (r1 4, .inl (cJ, 6, .inr (.inl f_16))), (r1 5, .inl (cJ, 6, .inr (.inl f_17))), (r1 6, .inl (cJ, 10, .inr (.inl f_18))), (r1 7, .inl (cI, 70, .inl f_23)), (r1 8, .inl (cI, 70, .inl f_25))], w2]) hP1 hD1
  have hpm2 : List.Perm (([[(h1, .inr (2, [.ref pl1, .int fr_1, .int dr_4, .int rc_7, .ref (r1 0), .ref (r1 1), .int gn_13, .ref (r1 2), .ref (r1 3), .ref (r1 4), .ref (r1 5), .ref (r1 6), .long sc_19, .int jc_20, .ref (r1 7), .ref (r1 8)])), (r1 0, .inl (cI, 10, .inl f_10)), (r1 1, .inl (cI, 10, .inl f_12)), (r1 2, .inl (cI, 6, .inl f_14)), (r1 3, .inl (cJ, 6, .inr (.inl f_15))), (r1 4, .inl (cJ, 6, .inr (.inl f_16))), (r1 5, .inl (cJ, 6, .inr (.inl f_17))), (r1 6, .inl (cJ, 10, .inr (.inl f_18))), (r1 7, .inl (cI, 70, .inl f_23)), (r1 8, .inl (cI, 70, .inl f_25))], w2] : List va_W) ++ ([w0] : List va_W)) ([w0, [(h1, .inr (2, [.ref pl1, .int fr_1, .int dr_4, .int rc_7, .ref (r1 0), .ref (r1 1), .int gn_13, .ref (r1 2), .ref (r1 3), .ref (r1 4), .ref (r1 5), .ref (r1 6), .long sc_19, .int jc_20, .ref (r1 7), .ref (r1 8)])), (r1 0, .inl (cI, 10, .inl f_10)), (r1 1, .inl (cI, 10, .inl f_12)), (r1 2, .inl (cI, 6, .inl f_14)), (r1 3, .inl (cJ, 6, .inr (.inl f_15))), (r1 4, .inl (cJ, 6, .inr (.inl f_16))), (r1 5, .inl (cJ, 6, .inr (.inl f_17))), (r1 6, .inl (cJ, 10, .inr (.inl f_18))), (r1 7, .inl (cI, 70, .inl f_23)), (r1 8, .inl (cI, 70, .inl f_25))], w2] : List va_W) := pm_n 3 [2, 0, 1] (by decide) rfl rfl
  have hP := bk_reP hpm2 hP
  have hD := bk_reD hpm2 hD
  have hP : va_P (dC, dI) vwCl (List.flatten [w0, [(h1, .inr (2, [.ref pl1, .int fr_1, .int dr_4, .int rc_7, .ref (r1 0), .ref (r1 1), .int gn_13, .ref (r1 2), .ref (r1 3), .ref (r1 4), .ref (r1 5), .ref (r1 6), .long sc_19, .int jc_20, .ref (r1 7), .ref (r1 8)])), (r1 0, .inl (cI, 10, .inl f_10)), (r1 1, .inl (cI, 10, .inl f_12)), (r1 2, .inl (cI, 6, .inl f_14)), (r1 3, .inl (cJ, 6, .inr (.inl f_15))), (r1 4, .inl (cJ, 6, .inr (.inl f_16))), (r1 5, .inl (cJ, 6, .inr (.inl f_17))), (r1 6, .inl (cJ, 10, .inr (.inl f_18))), (r1 7, .inl (cI, 70, .inl f_23)), (r1 8, .inl (cI, 70, .inl f_25))], w2]) H := hP
  have hD : va_D A (List.flatten [w0, [(h1, .inr (2, [.ref pl1, .int fr_1, .int dr_4, .int rc_7, .ref (r1 0), .ref (r1 1), .int gn_13, .ref (r1 2), .ref (r1 3), .ref (r1 4), .ref (r1 5), .ref (r1 6), .long sc_19, .int jc_20, .ref (r1 7), .ref (r1 8)])), (r1 0, .inl (cI, 10, .inl f_10)), (r1 1, .inl (cI, 10, .inl f_12)), (r1 2, .inl (cI, 6, .inl f_14)), (r1 3, .inl (cJ, 6, .inr (.inl f_15))), (r1 4, .inl (cJ, 6, .inr (.inl f_16))), (r1 5, .inl (cJ, 6, .inr (.inl f_17))), (r1 6, .inl (cJ, 10, .inr (.inl f_18))), (r1 7, .inl (cI, 70, .inl f_23)), (r1 8, .inl (cI, 70, .inl f_25))], w2]) := hD
  refine lv_istore_n (lv' := [(2, .int r_27), (0, .ref h0), (1, .ref h1)]) hx hb dX8_addDoubleNuts_4 rfl hl (by decide) rfl (fun ls hl => ?_)
  refine lv_iconst (v := 0) hx hb dX8_addDoubleNuts_5 (by decide) ?_
  refine lv_istore_n (lv' := [(3, .int 0), (2, .int r_27), (0, .ref h0), (1, .ref h1)]) hx hb dX8_addDoubleNuts_6 rfl hl (by decide) rfl (fun ls hl => ?_)
  obtain ⟨ct_54, f_57, f_58, f_59, rfl, hl_55, hh_56⟩ := o0
  have lp_408 : ∀ (n : Nat) (g_28 : Int32) (gw_79 : va_W), ok_rank ad cB cI cJ cZ h0 r0 gw_79 → 0 ≤ g_28.toInt → g_28.toInt ≤ 70 → g_28.toInt - jc_20.toInt ≤ 0 → (70 - g_28.toInt).toNat < n → ∀ (H : Heap) (locs : List Loc), va_P (dC, dI) vwCl (List.flatten [gw_79, [(h1, .inr (2, [.ref pl1, .int fr_1, .int dr_4, .int rc_7, .ref (r1 0), .ref (r1 1), .int gn_13, .ref (r1 2), .ref (r1 3), .ref (r1 4), .ref (r1 5), .ref (r1 6), .long sc_19, .int jc_20, .ref (r1 7), .ref (r1 8)])), (r1 0, .inl (cI, 10, .inl f_10)), (r1 1, .inl (cI, 10, .inl f_12)), (r1 2, .inl (cI, 6, .inl f_14)), (r1 3, .inl (cJ, 6, .inr (.inl f_15))), (r1 4, .inl (cJ, 6, .inr (.inl f_16))), (r1 5, .inl (cJ, 6, .inr (.inl f_17))), (r1 6, .inl (cJ, 10, .inr (.inl f_18))), (r1 7, .inl (cI, 70, .inl f_23)), (r1 8, .inl (cI, 70, .inl f_25))], w2]) H → va_D A (List.flatten [gw_79, [(h1, .inr (2, [.ref pl1, .int fr_1, .int dr_4, .int rc_7, .ref (r1 0), .ref (r1 1), .int gn_13, .ref (r1 2), .ref (r1 3), .ref (r1 4), .ref (r1 5), .ref (r1 6), .long sc_19, .int jc_20, .ref (r1 7), .ref (r1 8)])), (r1 0, .inl (cI, 10, .inl f_10)), (r1 1, .inl (cI, 10, .inl f_12)), (r1 2, .inl (cI, 6, .inl f_14)), (r1 3, .inl (cJ, 6, .inr (.inl f_15))), (r1 4, .inl (cJ, 6, .inr (.inl f_16))), (r1 5, .inl (cJ, 6, .inr (.inl f_17))), (r1 6, .inl (cJ, 10, .inr (.inl f_18))), (r1 7, .inl (cI, 70, .inl f_23)), (r1 8, .inl (cI, 70, .inl f_25))], w2]) → va_S A s.heap H locs → ∀ (ls : Array Slot), lv_has ls 5 [(3, .int g_28), (2, .int r_27), (0, .ref h0), (1, .ref h1)] → W p l e (headSpec wsX8_addDoubleNuts ({ frames := 3, cells := 0, slots := 0, locals := 94 } : Room)).room s m ([.ref h0, .ref h1] : List Value).toArray below meth c H locs 0 0 Q0 (F0 m 7 ls []) := by
    intro n
    induction n with
    | zero => intro g_28 gw_79 okgw_79 iv_405 iv_406 iv_407 hm; exact absurd hm (Nat.not_lt_zero _)
    | succ n ih_409 =>
      intro g_28 gw_79 okgw_79 iv_405 iv_406 iv_407 hm H locs hP hD hS ls hl
      refine lv_iload_n hx hb dX8_addDoubleNuts_7 rfl (lv_at hl 0 rfl) ?_
      refine lv_aload_n hx hb dX8_addDoubleNuts_8 rfl (lv_at hl 3 rfl) ?_
      obtain ⟨ct_410, f_413, f_414, f_415, rfl, hl_411, hh_412⟩ := okgw_79
      refine va_get (D := (dC, dI)) (ci := 2) (v := .int jc_20) (C := RX3) (T := TX3) (N := 16) hx hb hts iw_X8_addDoubleNuts_X3 hown hK hP 4 rfl rfl 13 (by decide) (hts (.fieldLink RX8 32 "HungFloors$Frame" "jointCount" "I") (by decide +kernel)) (fun _ h9 => h9) rfl dX8_addDoubleNuts_9 ?_
      refine lv_icmp_ge (tgt := 72) hx hb dX8_addDoubleNuts_12 (by decide) (fun c_416 => ?_) (fun c_416 => ?_)
      · have c_416 : jc_20.toInt ≤ g_28.toInt := f_le rfl rfl c_416
        rw [hQ0]
        exact W.vret hx hb hr (fun t ht hW => ⟨⟨(), rfl, trivial, ⟨_, ⟨ct_410, f_413, f_414, f_415, rfl, by omega, by omega⟩, by rw [ht]; exact hP, hD⟩⟩, hS.F ht⟩) hS.2.2 dX8_addDoubleNuts_72
      · have c_416 : g_28.toInt < jc_20.toInt := f_nle rfl rfl c_416
        refine lv_aload_n hx hb dX8_addDoubleNuts_15 rfl (lv_at hl 3 rfl) ?_
        refine va_get (D := (dC, dI)) (ci := 2) (v := .ref (r1 8)) (C := RX3) (T := TX3) (N := 16) hx hb hts iw_X8_addDoubleNuts_X3 hown hK hP 4 rfl rfl 15 (by decide) (hts (.fieldLink RX8 35 "HungFloors$Frame" "jointFloor" "[I") (by decide +kernel)) (fun _ h9 => h9) rfl dX8_addDoubleNuts_16 ?_
        refine lv_iload_n hx hb dX8_addDoubleNuts_19 rfl (lv_at hl 0 rfl) ?_
        refine va_iald hx hb hK hP 13 1 rfl rfl (v_in rfl (by omega) (by omega)) dX8_addDoubleNuts_20 ?_
        refine lv_topi (fun z_417 ez_417 => ?_)
        have gz_417 := rg_at hr_26 ez_417
        have g1z_417 := gz_417.1
        have g2z_417 := gz_417.2
        refine lv_istore (lv' := [(4, .int z_417), (3, .int g_28), (2, .int r_27), (0, .ref h0), (1, .ref h1)]) hx hb dX8_addDoubleNuts_21 hl (by decide) rfl (fun ls hl => ?_)
        refine lv_iload hx hb dX8_addDoubleNuts_23 (lv_at hl 0 rfl) ?_
        refine lv_if_lt (tgt := 66) hx hb dX8_addDoubleNuts_25 (by decide) (fun c_418 => ?_) (fun c_418 => ?_)
        · have c_418 : z_417.toInt < 0 := f_lt rfl tI_0 c_418
          obtain ⟨z_419, ez_419⟩ : ∃ y : Int32, y = g_28 + 1 := ⟨_, rfl⟩
          have hz_419 : z_419.toInt = g_28.toInt + 1 := by rw [ez_419]; exact t_add rfl tI_1 (by omega) (by omega)
          refine lv_iinc (v := z_419) (lv' := [(3, .int z_419), (4, .int z_417), (2, .int r_27), (0, .ref h0), (1, .ref h1)]) hx hb dX8_addDoubleNuts_66 hl (k := 1) rfl (by rw [ez_419]; rfl) (by decide) rfl (fun ls hl => ?_)
          refine lv_goto (tgt := 7) hx hb dX8_addDoubleNuts_69 (by decide) ?_
          exact ih_409 z_419 _ ⟨ct_410, f_413, f_414, f_415, rfl, by omega, by omega⟩ (by omega) (by omega) (by omega) (by omega) _ _ hP hD hS ls (lv_sub hl [0, 2, 3, 4] rfl)
        · have c_418 : 0 ≤ z_417.toInt := f_nlt rfl tI_0 c_418
          refine lv_iload_n hx hb dX8_addDoubleNuts_28 rfl (lv_at hl 2 rfl) ?_
          refine lv_iload hx hb dX8_addDoubleNuts_29 (lv_at hl 0 rfl) ?_
          refine lv_ishr hx hb dX8_addDoubleNuts_31 ?_
          refine lv_topi (fun z_420 ez_420 => ?_)
          refine lv_iconst (v := 1) hx hb dX8_addDoubleNuts_32 (by decide) ?_
          refine lv_iand hx hb dX8_addDoubleNuts_33 ?_
          refine lv_topi (fun z_421 ez_421 => ?_)
          refine lv_if_eq (tgt := 66) hx hb dX8_addDoubleNuts_34 (by decide) (fun c_422 => ?_) (fun c_422 => ?_)
          · have c_422 : z_421.toInt = 0 := f_eq rfl tI_0 c_422
            obtain ⟨z_423, ez_423⟩ : ∃ y : Int32, y = g_28 + 1 := ⟨_, rfl⟩
            have hz_423 : z_423.toInt = g_28.toInt + 1 := by rw [ez_423]; exact t_add rfl tI_1 (by omega) (by omega)
            refine lv_iinc (v := z_423) (lv' := [(3, .int z_423), (4, .int z_417), (2, .int r_27), (0, .ref h0), (1, .ref h1)]) hx hb dX8_addDoubleNuts_66 hl (k := 1) rfl (by rw [ez_423]; rfl) (by decide) rfl (fun ls hl => ?_)
            refine lv_goto (tgt := 7) hx hb dX8_addDoubleNuts_69 (by decide) ?_
            exact ih_409 z_423 _ ⟨ct_410, f_413, f_414, f_415, rfl, by omega, by omega⟩ (by omega) (by omega) (by omega) (by omega) _ _ hP hD hS ls (lv_sub hl [0, 2, 3, 4] rfl)
          · have c_422 : ¬ z_421.toInt = 0 := f_ne rfl tI_0 c_422
            refine lv_aload_n hx hb dX8_addDoubleNuts_37 rfl (lv_at hl 3 rfl) ?_
            refine lv_bipush (v := 100) hx hb dX8_addDoubleNuts_38 (by decide) ?_
            refine lv_aload_n hx hb dX8_addDoubleNuts_40 rfl (lv_at hl 4 rfl) ?_
            refine va_get (D := (dC, dI)) (ci := 2) (v := .int dr_4) (C := RX3) (T := TX3) (N := 16) hx hb hts iw_X8_addDoubleNuts_X3 hown hK hP 4 rfl rfl 2 (by decide) (hts (.fieldLink RX8 38 "HungFloors$Frame" "drawing" "I") (by decide +kernel)) (fun _ h9 => h9) rfl dX8_addDoubleNuts_41 ?_
            refine lv_imul hx hb dX8_addDoubleNuts_44 ?_
            refine lv_topi (fun z_424 ez_424 => ?_)
            have hz_424 : z_424.toInt = 100 * dr_4.toInt := by rw [ez_424]; exact t_mul tI_100 rfl (by omega) (by omega)
            refine lv_iload_n hx hb dX8_addDoubleNuts_45 rfl (lv_at hl 1 rfl) ?_
            refine lv_iadd hx hb dX8_addDoubleNuts_46 ?_
            refine lv_topi (fun z_425 ez_425 => ?_)
            have hz_425 : z_425.toInt = z_424.toInt + g_28.toInt := by rw [ez_425]; exact t_add rfl rfl (by omega) (by omega)
            refine lv_aload_n hx hb dX8_addDoubleNuts_47 rfl (lv_at hl 4 rfl) ?_
            refine lv_iload_n hx hb dX8_addDoubleNuts_48 rfl (lv_at hl 1 rfl) ?_
            have hpm : List.Perm ([[(h0, .inr (6, [.int ct_410, .ref (r0 0), .ref (r0 1), .ref (r0 2)])), (r0 0, .inl (cI, 180, .inl f_413)), (r0 1, .inl (cJ, 180, .inr (.inl f_414))), (r0 2, .inl (cJ, 180, .inr (.inl f_415)))], [(h1, .inr (2, [.ref pl1, .int fr_1, .int dr_4, .int rc_7, .ref (r1 0), .ref (r1 1), .int gn_13, .ref (r1 2), .ref (r1 3), .ref (r1 4), .ref (r1 5), .ref (r1 6), .long sc_19, .int jc_20, .ref (r1 7), .ref (r1 8)])), (r1 0, .inl (cI, 10, .inl f_10)), (r1 1, .inl (cI, 10, .inl f_12)), (r1 2, .inl (cI, 6, .inl f_14)), (r1 3, .inl (cJ, 6, .inr (.inl f_15))), (r1 4, .inl (cJ, 6, .inr (.inl f_16))), (r1 5, .inl (cJ, 6, .inr (.inl f_17))), (r1 6, .inl (cJ, 10, .inr (.inl f_18))), (r1 7, .inl (cI, 70, .inl f_23)), (r1 8, .inl (cI, 70, .inl f_25))], w2] : List va_W) (([[(h1, .inr (2, [.ref pl1, .int fr_1, .int dr_4, .int rc_7, .ref (r1 0), .ref (r1 1), .int gn_13, .ref (r1 2), .ref (r1 3), .ref (r1 4), .ref (r1 5), .ref (r1 6), .long sc_19, .int jc_20, .ref (r1 7), .ref (r1 8)])), (r1 0, .inl (cI, 10, .inl f_10)), (r1 1, .inl (cI, 10, .inl f_12)), (r1 2, .inl (cI, 6, .inl f_14)), (r1 3, .inl (cJ, 6, .inr (.inl f_15))), (r1 4, .inl (cJ, 6, .inr (.inl f_16))), (r1 5, .inl (cJ, 6, .inr (.inl f_17))), (r1 6, .inl (cJ, 10, .inr (.inl f_18))), (r1 7, .inl (cI, 70, .inl f_23)), (r1 8, .inl (cI, 70, .inl f_25))]] : List va_W) ++ ([[(h0, .inr (6, [.int ct_410, .ref (r0 0), .ref (r0 1), .ref (r0 2)])), (r0 0, .inl (cI, 180, .inl f_413)), (r0 1, .inl (cJ, 180, .inr (.inl f_414))), (r0 2, .inl (cJ, 180, .inr (.inl f_415)))], w2] : List va_W)) := pm_n 3 [1, 0, 2] (by decide) rfl rfl
            have hPc := bk_P hpm hP
            have hDc := bk_D hpm hD
            have hFc := bk_F hpm hD hS hA
            refine va_calll (va_runV (As := [.int g_28]) (rest := [.int z_425, .ref h0]) ⟨hx, hb, hml, hown, hts⟩ (c_X3_bornBy l dC dI ad tN fN cB cI cJ cZ h1 g_28 r1 pl1 _ ⟨fr_1, dr_4, rc_7, f_10, f_12, gn_13, f_14, f_15, f_16, f_17, f_18, sc_19, jc_20, f_23, f_25, rfl, by omega, by omega, by omega, by omega, by omega, by omega, hr_11, by omega, by omega, hr_24, hr_26⟩ H.size (by omega) (by omega)) (cwV 1 hts gX8_addDoubleNuts_X3_bornBy rfl rfl rfl (by decide +kernel) ⟨(Nat.le_of_ble_eq_true rfl), (Nat.le_of_ble_eq_true rfl)⟩) ⟨fun a U g mk q => by obtain ⟨q0, q1, qP, qK, qD, qE⟩ := q; exact ⟨q0, q1, qP, va_K.moved (u := U) (U := U.calling g mk a) (Vm.Alike.refl U.vm) qK, qD, ey_blind qE⟩, va_recv hK hPc (ci := 2) (q0 := 0) rfl rfl, fun U hU hW => ⟨rfl, by rw [hU], by rw [hU]; exact hPc, va_K.moved hW.alike hK, hDc.weaken (fun _ _ _ _ => trivial), ey_call hE hS hFc hU hW⟩⟩ rfl rfl hl.1 rfl (lv_room (Nat.le_of_ble_eq_true rfl)) dX8_addDoubleNuts_49 ⟨(Nat.le_of_ble_eq_true rfl), (Nat.le_of_ble_eq_true rfl)⟩) hS (fun q _ h => hFc q h) hFc (fun r_426 u t H locs ht hvm hw hB hz1 hk1 hS => ?_)
            obtain ⟨hP1, hD1⟩ := hB
            rw [ht] at hP1
            obtain ⟨hP, hD⟩ := bk_join hpm hP hD hk1 hFc (Cs1 := [[(h1, .inr (2, [.ref pl1, .int fr_1, .int dr_4, .int rc_7, .ref (r1 0), .ref (r1 1), .int gn_13, .ref (r1 2), .ref (r1 3), .ref (r1 4), .ref (r1 5), .ref (r1 6), .long sc_19, .int jc_20, .ref (r1 7), .ref (r1 8)])), (r1 0, .inl (cI, 10, .inl f_10)), (r1 1, .inl (cI, 10, .inl f_12)), (r1 2, .inl (cI, 6, .inl f_14)), (r1 3, .inl (cJ, 6, .inr (.inl f_15))), (r1 4, .inl (cJ, 6, .inr (.inl f_16))), (r1 5, .inl (cJ, 6, .inr (.inl f_17))), (r1 6, .inl (cJ, 10, .inr (.inl f_18))), (r1 7, .inl (cI, 70, .inl f_23)), (r1 8, .inl (cI, 70, .inl f_25))]]) hP1 hD1
            have hpm2 : List.Perm (([[(h1, .inr (2, [.ref pl1, .int fr_1, .int dr_4, .int rc_7, .ref (r1 0), .ref (r1 1), .int gn_13, .ref (r1 2), .ref (r1 3), .ref (r1 4), .ref (r1 5), .ref (r1 6), .long sc_19, .int jc_20, .ref (r1 7), .ref (r1 8)])), (r1 0, .inl (cI, 10, .inl f_10)), (r1 1, .inl (cI, 10, .inl f_12)), (r1 2, .inl (cI, 6, .inl f_14)), (r1 3, .inl (cJ, 6, .inr (.inl f_15))), (r1 4, .inl (cJ, 6, .inr (.inl f_16))), (r1 5, .inl (cJ, 6, .inr (.inl f_17))), (r1 6, .inl (cJ, 10, .inr (.inl f_18))), (r1 7, .inl (cI, 70, .inl f_23)), (r1 8, .inl (cI, 70, .inl f_25))]] : List va_W) ++ ([[(h0, .inr (6, [.int ct_410, .ref (r0 0), .ref (r0 1), .ref (r0 2)])), (r0 0, .inl (cI, 180, .inl f_413)), (r0 1, .inl (cJ, 180, .inr (.inl f_414))), (r0 2, .inl (cJ, 180, .inr (.inl f_415)))], w2] : List va_W)) ([[(h0, .inr (6, [.int ct_410, .ref (r0 0), .ref (r0 1), .ref (r0 2)])), (r0 0, .inl (cI, 180, .inl f_413)), (r0 1, .inl (cJ, 180, .inr (.inl f_414))), (r0 2, .inl (cJ, 180, .inr (.inl f_415)))], [(h1, .inr (2, [.ref pl1, .int fr_1, .int dr_4, .int rc_7, .ref (r1 0), .ref (r1 1), .int gn_13, .ref (r1 2), .ref (r1 3), .ref (r1 4), .ref (r1 5), .ref (r1 6), .long sc_19, .int jc_20, .ref (r1 7), .ref (r1 8)])), (r1 0, .inl (cI, 10, .inl f_10)), (r1 1, .inl (cI, 10, .inl f_12)), (r1 2, .inl (cI, 6, .inl f_14)), (r1 3, .inl (cJ, 6, .inr (.inl f_15))), (r1 4, .inl (cJ, 6, .inr (.inl f_16))), (r1 5, .inl (cJ, 6, .inr (.inl f_17))), (r1 6, .inl (cJ, 10, .inr (.inl f_18))), (r1 7, .inl (cI, 70, .inl f_23)), (r1 8, .inl (cI, 70, .inl f_25))], w2] : List va_W) := pm_n 3 [1, 0, 2] (by decide) rfl rfl
            have hP := bk_reP hpm2 hP
            have hD := bk_reD hpm2 hD
            have hP : va_P (dC, dI) vwCl (List.flatten [[(h0, .inr (6, [.int ct_410, .ref (r0 0), .ref (r0 1), .ref (r0 2)])), (r0 0, .inl (cI, 180, .inl f_413)), (r0 1, .inl (cJ, 180, .inr (.inl f_414))), (r0 2, .inl (cJ, 180, .inr (.inl f_415)))], [(h1, .inr (2, [.ref pl1, .int fr_1, .int dr_4, .int rc_7, .ref (r1 0), .ref (r1 1), .int gn_13, .ref (r1 2), .ref (r1 3), .ref (r1 4), .ref (r1 5), .ref (r1 6), .long sc_19, .int jc_20, .ref (r1 7), .ref (r1 8)])), (r1 0, .inl (cI, 10, .inl f_10)), (r1 1, .inl (cI, 10, .inl f_12)), (r1 2, .inl (cI, 6, .inl f_14)), (r1 3, .inl (cJ, 6, .inr (.inl f_15))), (r1 4, .inl (cJ, 6, .inr (.inl f_16))), (r1 5, .inl (cJ, 6, .inr (.inl f_17))), (r1 6, .inl (cJ, 10, .inr (.inl f_18))), (r1 7, .inl (cI, 70, .inl f_23)), (r1 8, .inl (cI, 70, .inl f_25))], w2]) H := hP
            have hD : va_D A (List.flatten [[(h0, .inr (6, [.int ct_410, .ref (r0 0), .ref (r0 1), .ref (r0 2)])), (r0 0, .inl (cI, 180, .inl f_413)), (r0 1, .inl (cJ, 180, .inr (.inl f_414))), (r0 2, .inl (cJ, 180, .inr (.inl f_415)))], [(h1, .inr (2, [.ref pl1, .int fr_1, .int dr_4, .int rc_7, .ref (r1 0), .ref (r1 1), .int gn_13, .ref (r1 2), .ref (r1 3), .ref (r1 4), .ref (r1 5), .ref (r1 6), .long sc_19, .int jc_20, .ref (r1 7), .ref (r1 8)])), (r1 0, .inl (cI, 10, .inl f_10)), (r1 1, .inl (cI, 10, .inl f_12)), (r1 2, .inl (cI, 6, .inl f_14)), (r1 3, .inl (cJ, 6, .inr (.inl f_15))), (r1 4, .inl (cJ, 6, .inr (.inl f_16))), (r1 5, .inl (cJ, 6, .inr (.inl f_17))), (r1 6, .inl (cJ, 10, .inr (.inl f_18))), (r1 7, .inl (cI, 70, .inl f_23)), (r1 8, .inl (cI, 70, .inl f_25))], w2]) := hD
            refine lv_aload_n hx hb dX8_addDoubleNuts_52 rfl (lv_at hl 4 rfl) ?_
            refine lv_iload_n hx hb dX8_addDoubleNuts_53 rfl (lv_at hl 1 rfl) ?_
            have hpm : List.Perm ([[(h0, .inr (6, [.int ct_410, .ref (r0 0), .ref (r0 1), .ref (r0 2)])), (r0 0, .inl (cI, 180, .inl f_413)), (r0 1, .inl (cJ, 180, .inr (.inl f_414))), (r0 2, .inl (cJ, 180, .inr (.inl f_415)))], [(h1, .inr (2, [.ref pl1, .int fr_1, .int dr_4, .int rc_7, .ref (r1 0), .ref (r1 1), .int gn_13, .ref (r1 2), .ref (r1 3), .ref (r1 4), .ref (r1 5), .ref (r1 6), .long sc_19, .int jc_20, .ref (r1 7), .ref (r1 8)])), (r1 0, .inl (cI, 10, .inl f_10)), (r1 1, .inl (cI, 10, .inl f_12)), (r1 2, .inl (cI, 6, .inl f_14)), (r1 3, .inl (cJ, 6, .inr (.inl f_15))), (r1 4, .inl (cJ, 6, .inr (.inl f_16))), (r1 5, .inl (cJ, 6, .inr (.inl f_17))), (r1 6, .inl (cJ, 10, .inr (.inl f_18))), (r1 7, .inl (cI, 70, .inl f_23)), (r1 8, .inl (cI, 70, .inl f_25))], w2] : List va_W) (([[(h1, .inr (2, [.ref pl1, .int fr_1, .int dr_4, .int rc_7, .ref (r1 0), .ref (r1 1), .int gn_13, .ref (r1 2), .ref (r1 3), .ref (r1 4), .ref (r1 5), .ref (r1 6), .long sc_19, .int jc_20, .ref (r1 7), .ref (r1 8)])), (r1 0, .inl (cI, 10, .inl f_10)), (r1 1, .inl (cI, 10, .inl f_12)), (r1 2, .inl (cI, 6, .inl f_14)), (r1 3, .inl (cJ, 6, .inr (.inl f_15))), (r1 4, .inl (cJ, 6, .inr (.inl f_16))), (r1 5, .inl (cJ, 6, .inr (.inl f_17))), (r1 6, .inl (cJ, 10, .inr (.inl f_18))), (r1 7, .inl (cI, 70, .inl f_23)), (r1 8, .inl (cI, 70, .inl f_25))], w2] : List va_W) ++ ([[(h0, .inr (6, [.int ct_410, .ref (r0 0), .ref (r0 1), .ref (r0 2)])), (r0 0, .inl (cI, 180, .inl f_413)), (r0 1, .inl (cJ, 180, .inr (.inl f_414))), (r0 2, .inl (cJ, 180, .inr (.inl f_415)))]] : List va_W)) := pm_n 3 [1, 2, 0] (by decide) rfl rfl
            have hPc := bk_P hpm hP
            have hDc := bk_D hpm hD
            have hFc := bk_F hpm hD hS hA
            refine va_calli (va_runV (As := [.int g_28]) (rest := [.long r_426, .int z_425, .ref h0]) ⟨hx, hb, hml, hown, hts⟩ (c_X3_canOf l dC dI ad tN fN cB cI cJ cZ h1 g_28 r1 pl1 _ r2 fc2 dc2 rk2 _ ⟨fr_1, dr_4, rc_7, f_10, f_12, gn_13, f_14, f_15, f_16, f_17, f_18, sc_19, jc_20, f_23, f_25, rfl, by omega, by omega, by omega, by omega, by omega, by omega, hr_11, by omega, by omega, hr_24, hr_26⟩ o2 H.size (by omega) (by omega)) (cwV 1 hts gX8_addDoubleNuts_X3_canOf rfl rfl rfl (by decide +kernel) ⟨(Nat.le_of_ble_eq_true rfl), (Nat.le_of_ble_eq_true rfl)⟩) ⟨fun a U g mk q => by obtain ⟨q0, q1, qP, qK, qD, qE⟩ := q; exact ⟨q0, q1, qP, va_K.moved (u := U) (U := U.calling g mk a) (Vm.Alike.refl U.vm) qK, qD, ey_blind qE⟩, va_recv hK hPc (ci := 2) (q0 := 0) rfl rfl, fun U hU hW => ⟨rfl, by rw [hU], by rw [hU]; exact hPc, va_K.moved hW.alike hK, hDc.weaken (fun _ _ _ _ => trivial), ey_call hE hS hFc hU hW⟩⟩ rfl rfl hl.1 rfl (lv_room (Nat.le_of_ble_eq_true rfl)) dX8_addDoubleNuts_54 ⟨(Nat.le_of_ble_eq_true rfl), (Nat.le_of_ble_eq_true rfl)⟩) hS (fun q _ h => hFc q h) hFc (fun r_427 u t H locs ht hvm hw hB hz1 hk1 hS => ?_)
            obtain ⟨hP1, hD1⟩ := hB
            rw [ht] at hP1
            obtain ⟨hP, hD⟩ := bk_join hpm hP hD hk1 hFc (Cs1 := [[(h1, .inr (2, [.ref pl1, .int fr_1, .int dr_4, .int rc_7, .ref (r1 0), .ref (r1 1), .int gn_13, .ref (r1 2), .ref (r1 3), .ref (r1 4), .ref (r1 5), .ref (r1 6), .long sc_19, .int jc_20, .ref (r1 7), .ref (r1 8)])), (r1 0, .inl (cI, 10, .inl f_10)), (r1 1, .inl (cI, 10, .inl f_12)), (r1 2, .inl (cI, 6, .inl f_14)), (r1 3, .inl (cJ, 6, .inr (.inl f_15))), (r1 4, .inl (cJ, 6, .inr (.inl f_16))), (r1 5, .inl (cJ, 6, .inr (.inl f_17))), (r1 6, .inl (cJ, 10, .inr (.inl f_18))), (r1 7, .inl (cI, 70, .inl f_23)), (r1 8, .inl (cI, 70, .inl f_25))], w2]) hP1 hD1
            have hpm2 : List.Perm (([[(h1, .inr (2, [.ref pl1, .int fr_1, .int dr_4, .int rc_7, .ref (r1 0), .ref (r1 1), .int gn_13, .ref (r1 2), .ref (r1 3), .ref (r1 4), .ref (r1 5), .ref (r1 6), .long sc_19, .int jc_20, .ref (r1 7), .ref (r1 8)])), (r1 0, .inl (cI, 10, .inl f_10)), (r1 1, .inl (cI, 10, .inl f_12)), (r1 2, .inl (cI, 6, .inl f_14)), (r1 3, .inl (cJ, 6, .inr (.inl f_15))), (r1 4, .inl (cJ, 6, .inr (.inl f_16))), (r1 5, .inl (cJ, 6, .inr (.inl f_17))), (r1 6, .inl (cJ, 10, .inr (.inl f_18))), (r1 7, .inl (cI, 70, .inl f_23)), (r1 8, .inl (cI, 70, .inl f_25))], w2] : List va_W) ++ ([[(h0, .inr (6, [.int ct_410, .ref (r0 0), .ref (r0 1), .ref (r0 2)])), (r0 0, .inl (cI, 180, .inl f_413)), (r0 1, .inl (cJ, 180, .inr (.inl f_414))), (r0 2, .inl (cJ, 180, .inr (.inl f_415)))]] : List va_W)) ([[(h0, .inr (6, [.int ct_410, .ref (r0 0), .ref (r0 1), .ref (r0 2)])), (r0 0, .inl (cI, 180, .inl f_413)), (r0 1, .inl (cJ, 180, .inr (.inl f_414))), (r0 2, .inl (cJ, 180, .inr (.inl f_415)))], [(h1, .inr (2, [.ref pl1, .int fr_1, .int dr_4, .int rc_7, .ref (r1 0), .ref (r1 1), .int gn_13, .ref (r1 2), .ref (r1 3), .ref (r1 4), .ref (r1 5), .ref (r1 6), .long sc_19, .int jc_20, .ref (r1 7), .ref (r1 8)])), (r1 0, .inl (cI, 10, .inl f_10)), (r1 1, .inl (cI, 10, .inl f_12)), (r1 2, .inl (cI, 6, .inl f_14)), (r1 3, .inl (cJ, 6, .inr (.inl f_15))), (r1 4, .inl (cJ, 6, .inr (.inl f_16))), (r1 5, .inl (cJ, 6, .inr (.inl f_17))), (r1 6, .inl (cJ, 10, .inr (.inl f_18))), (r1 7, .inl (cI, 70, .inl f_23)), (r1 8, .inl (cI, 70, .inl f_25))], w2] : List va_W) := pm_n 3 [2, 0, 1] (by decide) rfl rfl
            have hP := bk_reP hpm2 hP
            have hD := bk_reD hpm2 hD
            have hP : va_P (dC, dI) vwCl (List.flatten [[(h0, .inr (6, [.int ct_410, .ref (r0 0), .ref (r0 1), .ref (r0 2)])), (r0 0, .inl (cI, 180, .inl f_413)), (r0 1, .inl (cJ, 180, .inr (.inl f_414))), (r0 2, .inl (cJ, 180, .inr (.inl f_415)))], [(h1, .inr (2, [.ref pl1, .int fr_1, .int dr_4, .int rc_7, .ref (r1 0), .ref (r1 1), .int gn_13, .ref (r1 2), .ref (r1 3), .ref (r1 4), .ref (r1 5), .ref (r1 6), .long sc_19, .int jc_20, .ref (r1 7), .ref (r1 8)])), (r1 0, .inl (cI, 10, .inl f_10)), (r1 1, .inl (cI, 10, .inl f_12)), (r1 2, .inl (cI, 6, .inl f_14)), (r1 3, .inl (cJ, 6, .inr (.inl f_15))), (r1 4, .inl (cJ, 6, .inr (.inl f_16))), (r1 5, .inl (cJ, 6, .inr (.inl f_17))), (r1 6, .inl (cJ, 10, .inr (.inl f_18))), (r1 7, .inl (cI, 70, .inl f_23)), (r1 8, .inl (cI, 70, .inl f_25))], w2]) H := hP
            have hD : va_D A (List.flatten [[(h0, .inr (6, [.int ct_410, .ref (r0 0), .ref (r0 1), .ref (r0 2)])), (r0 0, .inl (cI, 180, .inl f_413)), (r0 1, .inl (cJ, 180, .inr (.inl f_414))), (r0 2, .inl (cJ, 180, .inr (.inl f_415)))], [(h1, .inr (2, [.ref pl1, .int fr_1, .int dr_4, .int rc_7, .ref (r1 0), .ref (r1 1), .int gn_13, .ref (r1 2), .ref (r1 3), .ref (r1 4), .ref (r1 5), .ref (r1 6), .long sc_19, .int jc_20, .ref (r1 7), .ref (r1 8)])), (r1 0, .inl (cI, 10, .inl f_10)), (r1 1, .inl (cI, 10, .inl f_12)), (r1 2, .inl (cI, 6, .inl f_14)), (r1 3, .inl (cJ, 6, .inr (.inl f_15))), (r1 4, .inl (cJ, 6, .inr (.inl f_16))), (r1 5, .inl (cJ, 6, .inr (.inl f_17))), (r1 6, .inl (cJ, 10, .inr (.inl f_18))), (r1 7, .inl (cI, 70, .inl f_23)), (r1 8, .inl (cI, 70, .inl f_25))], w2]) := hD
            obtain ⟨z_428, ez_428⟩ : ∃ y : Int64, (r_427 : Int32).toInt64 = y := ⟨_, rfl⟩
            refine lv_i2l (v := z_428) hx hb dX8_addDoubleNuts_57 ez_428 ?_
            refine lv_aload_n hx hb dX8_addDoubleNuts_58 rfl (lv_at hl 4 rfl) ?_
            have hpm : List.Perm ([[(h0, .inr (6, [.int ct_410, .ref (r0 0), .ref (r0 1), .ref (r0 2)])), (r0 0, .inl (cI, 180, .inl f_413)), (r0 1, .inl (cJ, 180, .inr (.inl f_414))), (r0 2, .inl (cJ, 180, .inr (.inl f_415)))], [(h1, .inr (2, [.ref pl1, .int fr_1, .int dr_4, .int rc_7, .ref (r1 0), .ref (r1 1), .int gn_13, .ref (r1 2), .ref (r1 3), .ref (r1 4), .ref (r1 5), .ref (r1 6), .long sc_19, .int jc_20, .ref (r1 7), .ref (r1 8)])), (r1 0, .inl (cI, 10, .inl f_10)), (r1 1, .inl (cI, 10, .inl f_12)), (r1 2, .inl (cI, 6, .inl f_14)), (r1 3, .inl (cJ, 6, .inr (.inl f_15))), (r1 4, .inl (cJ, 6, .inr (.inl f_16))), (r1 5, .inl (cJ, 6, .inr (.inl f_17))), (r1 6, .inl (cJ, 10, .inr (.inl f_18))), (r1 7, .inl (cI, 70, .inl f_23)), (r1 8, .inl (cI, 70, .inl f_25))], w2] : List va_W) (([[(h1, .inr (2, [.ref pl1, .int fr_1, .int dr_4, .int rc_7, .ref (r1 0), .ref (r1 1), .int gn_13, .ref (r1 2), .ref (r1 3), .ref (r1 4), .ref (r1 5), .ref (r1 6), .long sc_19, .int jc_20, .ref (r1 7), .ref (r1 8)])), (r1 0, .inl (cI, 10, .inl f_10)), (r1 1, .inl (cI, 10, .inl f_12)), (r1 2, .inl (cI, 6, .inl f_14)), (r1 3, .inl (cJ, 6, .inr (.inl f_15))), (r1 4, .inl (cJ, 6, .inr (.inl f_16))), (r1 5, .inl (cJ, 6, .inr (.inl f_17))), (r1 6, .inl (cJ, 10, .inr (.inl f_18))), (r1 7, .inl (cI, 70, .inl f_23)), (r1 8, .inl (cI, 70, .inl f_25))]] : List va_W) ++ ([[(h0, .inr (6, [.int ct_410, .ref (r0 0), .ref (r0 1), .ref (r0 2)])), (r0 0, .inl (cI, 180, .inl f_413)), (r0 1, .inl (cJ, 180, .inr (.inl f_414))), (r0 2, .inl (cJ, 180, .inr (.inl f_415)))], w2] : List va_W)) := pm_n 3 [1, 0, 2] (by decide) rfl rfl
            have hPc := bk_P hpm hP
            have hDc := bk_D hpm hD
            have hFc := bk_F hpm hD hS hA
            refine va_calll (va_runV (As := []) (rest := [.long z_428, .long r_426, .int z_425, .ref h0]) ⟨hx, hb, hml, hown, hts⟩ (c_X3_unit l dC dI ad tN fN cB cI cJ cZ h1 r1 pl1 _ ⟨fr_1, dr_4, rc_7, f_10, f_12, gn_13, f_14, f_15, f_16, f_17, f_18, sc_19, jc_20, f_23, f_25, rfl, by omega, by omega, by omega, by omega, by omega, by omega, hr_11, by omega, by omega, hr_24, hr_26⟩ H.size) (cwV 0 hts gX8_addDoubleNuts_X3_unit rfl rfl rfl (by decide +kernel) ⟨(Nat.le_of_ble_eq_true rfl), (Nat.le_of_ble_eq_true rfl)⟩) ⟨fun a U g mk q => by obtain ⟨q0, q1, qP, qK, qD, qE⟩ := q; exact ⟨q0, q1, qP, va_K.moved (u := U) (U := U.calling g mk a) (Vm.Alike.refl U.vm) qK, qD, ey_blind qE⟩, va_recv hK hPc (ci := 2) (q0 := 0) rfl rfl, fun U hU hW => ⟨rfl, by rw [hU], by rw [hU]; exact hPc, va_K.moved hW.alike hK, hDc.weaken (fun _ _ _ _ => trivial), ey_call hE hS hFc hU hW⟩⟩ rfl rfl hl.1 rfl (lv_room (Nat.le_of_ble_eq_true rfl)) dX8_addDoubleNuts_59 ⟨(Nat.le_of_ble_eq_true rfl), (Nat.le_of_ble_eq_true rfl)⟩) hS (fun q _ h => hFc q h) hFc (fun r_429 u t H locs ht hvm hw hB hz1 hk1 hS => ?_)
            obtain ⟨hP1, hD1⟩ := hB
            rw [ht] at hP1
            obtain ⟨hP, hD⟩ := bk_join hpm hP hD hk1 hFc (Cs1 := [[(h1, .inr (2, [.ref pl1, .int fr_1, .int dr_4, .int rc_7, .ref (r1 0), .ref (r1 1), .int gn_13, .ref (r1 2), .ref (r1 3), .ref (r1 4), .ref (r1 5), .ref (r1 6), .long sc_19, .int jc_20, .ref (r1 7), .ref (r1 8)])), (r1 0, .inl (cI, 10, .inl f_10)), (r1 1, .inl (cI, 10, .inl f_12)), (r1 2, .inl (cI, 6, .inl f_14)), (r1 3, .inl (cJ, 6, .inr (.inl f_15))), (r1 4, .inl (cJ, 6, .inr (.inl f_16))), (r1 5, .inl (cJ, 6, .inr (.inl f_17))), (r1 6, .inl (cJ, 10, .inr (.inl f_18))), (r1 7, .inl (cI, 70, .inl f_23)), (r1 8, .inl (cI, 70, .inl f_25))]]) hP1 hD1
            have hpm2 : List.Perm (([[(h1, .inr (2, [.ref pl1, .int fr_1, .int dr_4, .int rc_7, .ref (r1 0), .ref (r1 1), .int gn_13, .ref (r1 2), .ref (r1 3), .ref (r1 4), .ref (r1 5), .ref (r1 6), .long sc_19, .int jc_20, .ref (r1 7), .ref (r1 8)])), (r1 0, .inl (cI, 10, .inl f_10)), (r1 1, .inl (cI, 10, .inl f_12)), (r1 2, .inl (cI, 6, .inl f_14)), (r1 3, .inl (cJ, 6, .inr (.inl f_15))), (r1 4, .inl (cJ, 6, .inr (.inl f_16))), (r1 5, .inl (cJ, 6, .inr (.inl f_17))), (r1 6, .inl (cJ, 10, .inr (.inl f_18))), (r1 7, .inl (cI, 70, .inl f_23)), (r1 8, .inl (cI, 70, .inl f_25))]] : List va_W) ++ ([[(h0, .inr (6, [.int ct_410, .ref (r0 0), .ref (r0 1), .ref (r0 2)])), (r0 0, .inl (cI, 180, .inl f_413)), (r0 1, .inl (cJ, 180, .inr (.inl f_414))), (r0 2, .inl (cJ, 180, .inr (.inl f_415)))], w2] : List va_W)) ([[(h0, .inr (6, [.int ct_410, .ref (r0 0), .ref (r0 1), .ref (r0 2)])), (r0 0, .inl (cI, 180, .inl f_413)), (r0 1, .inl (cJ, 180, .inr (.inl f_414))), (r0 2, .inl (cJ, 180, .inr (.inl f_415)))], [(h1, .inr (2, [.ref pl1, .int fr_1, .int dr_4, .int rc_7, .ref (r1 0), .ref (r1 1), .int gn_13, .ref (r1 2), .ref (r1 3), .ref (r1 4), .ref (r1 5), .ref (r1 6), .long sc_19, .int jc_20, .ref (r1 7), .ref (r1 8)])), (r1 0, .inl (cI, 10, .inl f_10)), (r1 1, .inl (cI, 10, .inl f_12)), (r1 2, .inl (cI, 6, .inl f_14)), (r1 3, .inl (cJ, 6, .inr (.inl f_15))), (r1 4, .inl (cJ, 6, .inr (.inl f_16))), (r1 5, .inl (cJ, 6, .inr (.inl f_17))), (r1 6, .inl (cJ, 10, .inr (.inl f_18))), (r1 7, .inl (cI, 70, .inl f_23)), (r1 8, .inl (cI, 70, .inl f_25))], w2] : List va_W) := pm_n 3 [1, 0, 2] (by decide) rfl rfl
            have hP := bk_reP hpm2 hP
            have hD := bk_reD hpm2 hD
            have hP : va_P (dC, dI) vwCl (List.flatten [[(h0, .inr (6, [.int ct_410, .ref (r0 0), .ref (r0 1), .ref (r0 2)])), (r0 0, .inl (cI, 180, .inl f_413)), (r0 1, .inl (cJ, 180, .inr (.inl f_414))), (r0 2, .inl (cJ, 180, .inr (.inl f_415)))], [(h1, .inr (2, [.ref pl1, .int fr_1, .int dr_4, .int rc_7, .ref (r1 0), .ref (r1 1), .int gn_13, .ref (r1 2), .ref (r1 3), .ref (r1 4), .ref (r1 5), .ref (r1 6), .long sc_19, .int jc_20, .ref (r1 7), .ref (r1 8)])), (r1 0, .inl (cI, 10, .inl f_10)), (r1 1, .inl (cI, 10, .inl f_12)), (r1 2, .inl (cI, 6, .inl f_14)), (r1 3, .inl (cJ, 6, .inr (.inl f_15))), (r1 4, .inl (cJ, 6, .inr (.inl f_16))), (r1 5, .inl (cJ, 6, .inr (.inl f_17))), (r1 6, .inl (cJ, 10, .inr (.inl f_18))), (r1 7, .inl (cI, 70, .inl f_23)), (r1 8, .inl (cI, 70, .inl f_25))], w2]) H := hP
            have hD : va_D A (List.flatten [[(h0, .inr (6, [.int ct_410, .ref (r0 0), .ref (r0 1), .ref (r0 2)])), (r0 0, .inl (cI, 180, .inl f_413)), (r0 1, .inl (cJ, 180, .inr (.inl f_414))), (r0 2, .inl (cJ, 180, .inr (.inl f_415)))], [(h1, .inr (2, [.ref pl1, .int fr_1, .int dr_4, .int rc_7, .ref (r1 0), .ref (r1 1), .int gn_13, .ref (r1 2), .ref (r1 3), .ref (r1 4), .ref (r1 5), .ref (r1 6), .long sc_19, .int jc_20, .ref (r1 7), .ref (r1 8)])), (r1 0, .inl (cI, 10, .inl f_10)), (r1 1, .inl (cI, 10, .inl f_12)), (r1 2, .inl (cI, 6, .inl f_14)), (r1 3, .inl (cJ, 6, .inr (.inl f_15))), (r1 4, .inl (cJ, 6, .inr (.inl f_16))), (r1 5, .inl (cJ, 6, .inr (.inl f_17))), (r1 6, .inl (cJ, 10, .inr (.inl f_18))), (r1 7, .inl (cI, 70, .inl f_23)), (r1 8, .inl (cI, 70, .inl f_25))], w2]) := hD
            refine lv_lmul hx hb dX8_addDoubleNuts_62 ?_
            refine lv_topl (fun z_430 ez_430 => ?_)
            have hpm : List.Perm ([[(h0, .inr (6, [.int ct_410, .ref (r0 0), .ref (r0 1), .ref (r0 2)])), (r0 0, .inl (cI, 180, .inl f_413)), (r0 1, .inl (cJ, 180, .inr (.inl f_414))), (r0 2, .inl (cJ, 180, .inr (.inl f_415)))], [(h1, .inr (2, [.ref pl1, .int fr_1, .int dr_4, .int rc_7, .ref (r1 0), .ref (r1 1), .int gn_13, .ref (r1 2), .ref (r1 3), .ref (r1 4), .ref (r1 5), .ref (r1 6), .long sc_19, .int jc_20, .ref (r1 7), .ref (r1 8)])), (r1 0, .inl (cI, 10, .inl f_10)), (r1 1, .inl (cI, 10, .inl f_12)), (r1 2, .inl (cI, 6, .inl f_14)), (r1 3, .inl (cJ, 6, .inr (.inl f_15))), (r1 4, .inl (cJ, 6, .inr (.inl f_16))), (r1 5, .inl (cJ, 6, .inr (.inl f_17))), (r1 6, .inl (cJ, 10, .inr (.inl f_18))), (r1 7, .inl (cI, 70, .inl f_23)), (r1 8, .inl (cI, 70, .inl f_25))], w2] : List va_W) (([[(h0, .inr (6, [.int ct_410, .ref (r0 0), .ref (r0 1), .ref (r0 2)])), (r0 0, .inl (cI, 180, .inl f_413)), (r0 1, .inl (cJ, 180, .inr (.inl f_414))), (r0 2, .inl (cJ, 180, .inr (.inl f_415)))]] : List va_W) ++ ([[(h1, .inr (2, [.ref pl1, .int fr_1, .int dr_4, .int rc_7, .ref (r1 0), .ref (r1 1), .int gn_13, .ref (r1 2), .ref (r1 3), .ref (r1 4), .ref (r1 5), .ref (r1 6), .long sc_19, .int jc_20, .ref (r1 7), .ref (r1 8)])), (r1 0, .inl (cI, 10, .inl f_10)), (r1 1, .inl (cI, 10, .inl f_12)), (r1 2, .inl (cI, 6, .inl f_14)), (r1 3, .inl (cJ, 6, .inr (.inl f_15))), (r1 4, .inl (cJ, 6, .inr (.inl f_16))), (r1 5, .inl (cJ, 6, .inr (.inl f_17))), (r1 6, .inl (cJ, 10, .inr (.inl f_18))), (r1 7, .inl (cI, 70, .inl f_23)), (r1 8, .inl (cI, 70, .inl f_25))], w2] : List va_W)) := pm_n 3 [0, 1, 2] (by decide) rfl rfl
            have hPc := bk_P hpm hP
            have hDc := bk_D hpm hD
            have hFc := bk_F hpm hD hS hA
            refine va_callv (va_runV (As := [.int z_425, .long r_426, .long z_430]) (rest := []) ⟨hx, hb, hml, hown, hts⟩ (c_X8_insert l dC dI ad tN fN cB cI cJ cZ h0 z_425 r_426 z_430 r0 _ ⟨ct_410, f_413, f_414, f_415, rfl, by omega, by omega⟩ H.size) (cwV 3 hts gX8_addDoubleNuts_X8_insert rfl rfl rfl (by decide +kernel) ⟨(Nat.le_of_ble_eq_true rfl), (Nat.le_of_ble_eq_true rfl)⟩) ⟨fun a U g mk q => by obtain ⟨q0, q1, qP, qK, qD, qE⟩ := q; exact ⟨q0, q1, qP, va_K.moved (u := U) (U := U.calling g mk a) (Vm.Alike.refl U.vm) qK, qD, ey_blind qE⟩, va_recv hK hPc (ci := 6) (q0 := 0) rfl rfl, fun U hU hW => ⟨rfl, by rw [hU], by rw [hU]; exact hPc, va_K.moved hW.alike hK, hDc.weaken (fun _ _ _ _ => trivial), ey_call hE hS hFc hU hW⟩⟩ rfl rfl hl.1 rfl (lv_room (Nat.le_of_ble_eq_true rfl)) dX8_addDoubleNuts_63 ⟨(Nat.le_of_ble_eq_true rfl), (Nat.le_of_ble_eq_true rfl)⟩) hS (fun q _ h => hFc q h) hFc (fun u t H locs ht hvm hw hB hz1 hk1 hS => ?_)
            obtain ⟨w_432, o_433, hP1, hD1⟩ := hB
            rw [ht] at hP1
            obtain ⟨hP, hD⟩ := bk_join hpm hP hD hk1 hFc (Cs1 := [w_432]) hP1 hD1
            have hpm2 : List.Perm (([w_432] : List va_W) ++ ([[(h1, .inr (2, [.ref pl1, .int fr_1, .int dr_4, .int rc_7, .ref (r1 0), .ref (r1 1), .int gn_13, .ref (r1 2), .ref (r1 3), .ref (r1 4), .ref (r1 5), .ref (r1 6), .long sc_19, .int jc_20, .ref (r1 7), .ref (r1 8)])), (r1 0, .inl (cI, 10, .inl f_10)), (r1 1, .inl (cI, 10, .inl f_12)), (r1 2, .inl (cI, 6, .inl f_14)), (r1 3, .inl (cJ, 6, .inr (.inl f_15))), (r1 4, .inl (cJ, 6, .inr (.inl f_16))), (r1 5, .inl (cJ, 6, .inr (.inl f_17))), (r1 6, .inl (cJ, 10, .inr (.inl f_18))), (r1 7, .inl (cI, 70, .inl f_23)), (r1 8, .inl (cI, 70, .inl f_25))], w2] : List va_W)) ([w_432, [(h1, .inr (2, [.ref pl1, .int fr_1, .int dr_4, .int rc_7, .ref (r1 0), .ref (r1 1), .int gn_13, .ref (r1 2), .ref (r1 3), .ref (r1 4), .ref (r1 5), .ref (r1 6), .long sc_19, .int jc_20, .ref (r1 7), .ref (r1 8)])), (r1 0, .inl (cI, 10, .inl f_10)), (r1 1, .inl (cI, 10, .inl f_12)), (r1 2, .inl (cI, 6, .inl f_14)), (r1 3, .inl (cJ, 6, .inr (.inl f_15))), (r1 4, .inl (cJ, 6, .inr (.inl f_16))), (r1 5, .inl (cJ, 6, .inr (.inl f_17))), (r1 6, .inl (cJ, 10, .inr (.inl f_18))), (r1 7, .inl (cI, 70, .inl f_23)), (r1 8, .inl (cI, 70, .inl f_25))], w2] : List va_W) := pm_n 3 [0, 1, 2] (by decide) rfl rfl
            have hP := bk_reP hpm2 hP
            have hD := bk_reD hpm2 hD
            have hP : va_P (dC, dI) vwCl (List.flatten [w_432, [(h1, .inr (2, [.ref pl1, .int fr_1, .int dr_4, .int rc_7, .ref (r1 0), .ref (r1 1), .int gn_13, .ref (r1 2), .ref (r1 3), .ref (r1 4), .ref (r1 5), .ref (r1 6), .long sc_19, .int jc_20, .ref (r1 7), .ref (r1 8)])), (r1 0, .inl (cI, 10, .inl f_10)), (r1 1, .inl (cI, 10, .inl f_12)), (r1 2, .inl (cI, 6, .inl f_14)), (r1 3, .inl (cJ, 6, .inr (.inl f_15))), (r1 4, .inl (cJ, 6, .inr (.inl f_16))), (r1 5, .inl (cJ, 6, .inr (.inl f_17))), (r1 6, .inl (cJ, 10, .inr (.inl f_18))), (r1 7, .inl (cI, 70, .inl f_23)), (r1 8, .inl (cI, 70, .inl f_25))], w2]) H := hP
            have hD : va_D A (List.flatten [w_432, [(h1, .inr (2, [.ref pl1, .int fr_1, .int dr_4, .int rc_7, .ref (r1 0), .ref (r1 1), .int gn_13, .ref (r1 2), .ref (r1 3), .ref (r1 4), .ref (r1 5), .ref (r1 6), .long sc_19, .int jc_20, .ref (r1 7), .ref (r1 8)])), (r1 0, .inl (cI, 10, .inl f_10)), (r1 1, .inl (cI, 10, .inl f_12)), (r1 2, .inl (cI, 6, .inl f_14)), (r1 3, .inl (cJ, 6, .inr (.inl f_15))), (r1 4, .inl (cJ, 6, .inr (.inl f_16))), (r1 5, .inl (cJ, 6, .inr (.inl f_17))), (r1 6, .inl (cJ, 10, .inr (.inl f_18))), (r1 7, .inl (cI, 70, .inl f_23)), (r1 8, .inl (cI, 70, .inl f_25))], w2]) := hD
            obtain ⟨z_434, ez_434⟩ : ∃ y : Int32, y = g_28 + 1 := ⟨_, rfl⟩
            have hz_434 : z_434.toInt = g_28.toInt + 1 := by rw [ez_434]; exact t_add rfl tI_1 (by omega) (by omega)
            refine lv_iinc (v := z_434) (lv' := [(3, .int z_434), (4, .int z_417), (2, .int r_27), (0, .ref h0), (1, .ref h1)]) hx hb dX8_addDoubleNuts_66 hl (k := 1) rfl (by rw [ez_434]; rfl) (by decide) rfl (fun ls hl => ?_)
            refine lv_goto (tgt := 7) hx hb dX8_addDoubleNuts_69 (by decide) ?_
            exact ih_409 z_434 _ o_433 (by omega) (by omega) (by omega) (by omega) _ _ hP hD hS ls (lv_sub hl [0, 2, 3, 4] rfl)
  exact lp_408 _ 0 _ ⟨ct_54, f_57, f_58, f_59, rfl, by omega, by omega⟩ (by have := tI_0; omega) (by have := tI_0; omega) (by have := tI_0; omega) (Nat.lt_succ_self _) _ _ hP hD hS ls (lv_sub hl [0, 1, 2, 3] rfl)
theorem iw_X6_forgetAll_X6 : ∀ w ∈ wsX60, w ∈ wsX6_forgetAll := fun _ h => List.mem_cons_of_mem _ (List.mem_append_right _ h)
set_option maxHeartbeats 4000000 in
set_option maxRecDepth 100000 in
theorem c_X6_forgetAll (l : Launch) (dC : Nat → ClassId) (dI : Nat → Nat → Nat) (ad : Nat → Nat) (tN : Nat) (fN : Nat → Int64) (cB cI cJ cZ : ClassId) (h0 : Nat) (r0 : Nat → Nat) (pc0 : Int32) (w0 : va_W) (o0 : ok_pap ad cB cI cJ cZ h0 r0 pc0 w0) (sz : Nat) : Met l yX6_forgetAll wsX6_forgetAll ({ frames := 0, cells := 0, slots := 0, locals := 0 } : Room) (va_Pc [.ref h0] (fun U => U.heap.size = sz ∧ va_P (dC, dI) vwCl (List.flatten [w0]) U.heap ∧ va_K (dC, dI) vwCl [(cB, .byte), (cI, .int), (cJ, .long), (cZ, .boolean)] U ∧ va_D (fun _ => True) (List.flatten [w0]) ∧ ex_Y ad tN fN (va_A (List.flatten [w0]) sz) U)) (va_Qv (fun _ : Unit => True) (fun (_ : Unit) (t : State) => ∃ (w09 : va_W), ok_pap ad cB cI cJ cZ h0 r0 0 w09 ∧ va_P (dC, dI) vwCl (List.flatten [w09]) t.heap ∧ va_D (va_A (List.flatten [w0]) sz) (List.flatten [w09])) (va_A (List.flatten [w0]) sz)) 0 0 (va_A (List.flatten [w0]) sz) := by
  refine Met.ofW (cc := cX6_forgetAll) (maxL := 1) (ret := none) (by decide) rfl ?_
  intro p e s m args below meth c s₁ B hml hv
  obtain ⟨rfl, hsz, hP, hK, hD0, hE⟩ := hv
  have hx := B.exec
  have hb := B.bytes
  have hr := B.returns
  have hts := atoms_spec (ws := wsX6_forgetAll) B.pre
  have hown : s.vm.findClass RX6 = some m.cls := findClass_of_methodNamed B.named
  have hlocks := B.notSynchronized
  subst hsz
  have hD := hD0.self (sz := s.heap.size)
  generalize hAe : va_A (List.flatten [w0]) s.heap.size = A at hD hE ⊢
  have hA : ∀ q : Nat, s.heap.size ≤ q → A q := fun q h => by rw [← hAe]; exact Or.inr h
  have hS : va_S A s.heap s.heap [] := va_S.rf
  have hl := lv_entry ([.ref h0]) (n := 1) (Nat.le_of_ble_eq_true rfl)
  rw [lg_entry_eq]
  generalize (lg_sl ([.ref h0]) ++ List.replicate (1 - (lg_sl ([.ref h0])).length) Slot.unset).toArray = ls at hl ⊢
  have hl : lv_has ls 1 [(0, .ref h0)] := hl
  clear hAe
  refine W_name (fun Q0 hQ0 => ?_)
  refine lv_aload_n hx hb dX6_forgetAll_0 rfl (lv_at hl 0 rfl) ?_
  refine lv_iconst (v := 0) hx hb dX6_forgetAll_1 (by decide) ?_
  obtain ⟨f_3, f_4, f_5, f_6, f_7, f_8, f_9, sc_10, f_13, f_15, f_16, rfl, hl_1, hh_2, hl_11, hh_12, hr_14⟩ := o0
  refine va_put (D := (dC, dI)) (ci := 4) (v := .int 0) (ty := .int) (C := RX6) (T := TX6) (N := 12) hx hb hts iw_X6_forgetAll_X6 tyX6 tyX6_ok nmX6 hown hK hP hD hS 0 rfl rfl 0 (by decide) (hts (.fieldLink RX6 9 "HungFloors$Papers" "count" "I") (by decide +kernel)) (fun _ h9 => h9) rfl (by decide +kernel) rfl rfl (Nat.le_of_ble_eq_true rfl) dX6_forgetAll_2 (fun H locs hP hD hS => ?_)
  have hP : va_P (dC, dI) vwCl (List.flatten [[(h0, .inr (4, [.int 0, .ref (r0 0), .ref (r0 1), .ref (r0 2), .ref (r0 3), .ref (r0 4), .ref (r0 5), .ref (r0 6), .int sc_10, .ref (r0 7), .ref (r0 8), .ref (r0 9)])), (r0 0, .inl (cI, 60, .inl f_3)), (r0 1, .inl (cI, 60, .inl f_4)), (r0 2, .inl (cI, 60, .inl f_5)), (r0 3, .inl (cI, 60, .inl f_6)), (r0 4, .inl (cZ, 60, .inl f_7)), (r0 5, .inl (cI, 60, .inl f_8)), (r0 6, .inl (cI, 60, .inl f_9)), (r0 7, .inl (cI, 9, .inl f_13)), (r0 8, .inl (cI, 9, .inl f_15)), (r0 9, .inl (cI, 9, .inl f_16))]]) H := hP
  have hD : va_D A (List.flatten [[(h0, .inr (4, [.int 0, .ref (r0 0), .ref (r0 1), .ref (r0 2), .ref (r0 3), .ref (r0 4), .ref (r0 5), .ref (r0 6), .int sc_10, .ref (r0 7), .ref (r0 8), .ref (r0 9)])), (r0 0, .inl (cI, 60, .inl f_3)), (r0 1, .inl (cI, 60, .inl f_4)), (r0 2, .inl (cI, 60, .inl f_5)), (r0 3, .inl (cI, 60, .inl f_6)), (r0 4, .inl (cZ, 60, .inl f_7)), (r0 5, .inl (cI, 60, .inl f_8)), (r0 6, .inl (cI, 60, .inl f_9)), (r0 7, .inl (cI, 9, .inl f_13)), (r0 8, .inl (cI, 9, .inl f_15)), (r0 9, .inl (cI, 9, .inl f_16))]]) := hD
  refine lv_aload_n hx hb dX6_forgetAll_5 rfl (lv_at hl 0 rfl) ?_
  refine lv_iconst (v := 0) hx hb dX6_forgetAll_6 (by decide) ?_
  refine va_put (D := (dC, dI)) (ci := 4) (v := .int 0) (ty := .int) (C := RX6) (T := TX6) (N := 12) hx hb hts iw_X6_forgetAll_X6 tyX6 tyX6_ok nmX6 hown hK hP hD hS 0 rfl rfl 8 (by decide) (hts (.fieldLink RX6 38 "HungFloors$Papers" "storyCount" "I") (by decide +kernel)) (fun _ h9 => h9) rfl (by decide +kernel) rfl rfl (Nat.le_of_ble_eq_true rfl) dX6_forgetAll_7 (fun H locs hP hD hS => ?_)
  have hP : va_P (dC, dI) vwCl (List.flatten [[(h0, .inr (4, [.int 0, .ref (r0 0), .ref (r0 1), .ref (r0 2), .ref (r0 3), .ref (r0 4), .ref (r0 5), .ref (r0 6), .int 0, .ref (r0 7), .ref (r0 8), .ref (r0 9)])), (r0 0, .inl (cI, 60, .inl f_3)), (r0 1, .inl (cI, 60, .inl f_4)), (r0 2, .inl (cI, 60, .inl f_5)), (r0 3, .inl (cI, 60, .inl f_6)), (r0 4, .inl (cZ, 60, .inl f_7)), (r0 5, .inl (cI, 60, .inl f_8)), (r0 6, .inl (cI, 60, .inl f_9)), (r0 7, .inl (cI, 9, .inl f_13)), (r0 8, .inl (cI, 9, .inl f_15)), (r0 9, .inl (cI, 9, .inl f_16))]]) H := hP
  have hD : va_D A (List.flatten [[(h0, .inr (4, [.int 0, .ref (r0 0), .ref (r0 1), .ref (r0 2), .ref (r0 3), .ref (r0 4), .ref (r0 5), .ref (r0 6), .int 0, .ref (r0 7), .ref (r0 8), .ref (r0 9)])), (r0 0, .inl (cI, 60, .inl f_3)), (r0 1, .inl (cI, 60, .inl f_4)), (r0 2, .inl (cI, 60, .inl f_5)), (r0 3, .inl (cI, 60, .inl f_6)), (r0 4, .inl (cZ, 60, .inl f_7)), (r0 5, .inl (cI, 60, .inl f_8)), (r0 6, .inl (cI, 60, .inl f_9)), (r0 7, .inl (cI, 9, .inl f_13)), (r0 8, .inl (cI, 9, .inl f_15)), (r0 9, .inl (cI, 9, .inl f_16))]]) := hD
  rw [hQ0]
  exact W.vret hx hb hr (fun t ht hW => ⟨⟨(), rfl, trivial, ⟨_, ⟨f_3, f_4, f_5, f_6, f_7, f_8, f_9, 0, f_13, f_15, f_16, rfl, by decide, by decide, by decide, by decide, hr_14⟩, by rw [ht]; exact hP, hD⟩⟩, hS.F ht⟩) hS.2.2 dX6_forgetAll_10
theorem iw_X6_tell_X6 : ∀ w ∈ wsX60, w ∈ wsX6_tell := fun _ h => List.mem_cons_of_mem _ (List.mem_append_right _ h)
set_option maxHeartbeats 4000000 in
set_option maxRecDepth 100000 in
theorem c_X6_tell (l : Launch) (dC : Nat → ClassId) (dI : Nat → Nat → Nat) (ad : Nat → Nat) (tN : Nat) (fN : Nat → Int64) (cB cI cJ cZ : ClassId) (h0 : Nat) (p1 : Int32) (p2 : Int32) (p3 : Int32) (p4 : Int32) (p5 : Int32) (p6 : Int32) (r0 : Nat → Nat) (pc0 : Int32) (w0 : va_W) (o0 : ok_pap ad cB cI cJ cZ h0 r0 pc0 w0) (sz : Nat) : Met l yX6_tell wsX6_tell ({ frames := 0, cells := 0, slots := 0, locals := 0 } : Room) (va_Pc [.ref h0, .int p1, .int p2, .int p3, .int p4, .int p5, .int p6] (fun U => U.heap.size = sz ∧ va_P (dC, dI) vwCl (List.flatten [w0]) U.heap ∧ va_K (dC, dI) vwCl [(cB, .byte), (cI, .int), (cJ, .long), (cZ, .boolean)] U ∧ va_D (fun _ => True) (List.flatten [w0]) ∧ ex_Y ad tN fN (va_A (List.flatten [w0]) sz) U)) (va_Qi (fun (r : Int32) (_ : Unit) => -1 ≤ r.toInt ∧ r.toInt ≤ 59) (fun (_ : Unit) (t : State) => ∃ (pc09 : Int32) (w09 : va_W), ok_pap ad cB cI cJ cZ h0 r0 pc09 w09 ∧ va_P (dC, dI) vwCl (List.flatten [w09]) t.heap ∧ va_D (va_A (List.flatten [w0]) sz) (List.flatten [w09])) (va_A (List.flatten [w0]) sz)) 0 0 (va_A (List.flatten [w0]) sz) := by
  refine Met.ofW (cc := cX6_tell) (maxL := 7) (ret := (some .int)) (by decide) rfl ?_
  intro p e s m args below meth c s₁ B hml hv
  obtain ⟨rfl, hsz, hP, hK, hD0, hE⟩ := hv
  have hx := B.exec
  have hb := B.bytes
  have hr := B.returns
  have hts := atoms_spec (ws := wsX6_tell) B.pre
  have hown : s.vm.findClass RX6 = some m.cls := findClass_of_methodNamed B.named
  have hlocks := B.notSynchronized
  subst hsz
  have hD := hD0.self (sz := s.heap.size)
  generalize hAe : va_A (List.flatten [w0]) s.heap.size = A at hD hE ⊢
  have hA : ∀ q : Nat, s.heap.size ≤ q → A q := fun q h => by rw [← hAe]; exact Or.inr h
  have hS : va_S A s.heap s.heap [] := va_S.rf
  have hl := lv_entry ([.ref h0, .int p1, .int p2, .int p3, .int p4, .int p5, .int p6]) (n := 7) (Nat.le_of_ble_eq_true rfl)
  rw [lg_entry_eq]
  generalize (lg_sl ([.ref h0, .int p1, .int p2, .int p3, .int p4, .int p5, .int p6]) ++ List.replicate (7 - (lg_sl ([.ref h0, .int p1, .int p2, .int p3, .int p4, .int p5, .int p6])).length) Slot.unset).toArray = ls at hl ⊢
  have hl : lv_has ls 7 [(0, .ref h0), (1, .int p1), (2, .int p2), (3, .int p3), (4, .int p4), (5, .int p5), (6, .int p6)] := hl
  clear hAe
  refine W_name (fun Q0 hQ0 => ?_)
  refine lv_aload_n hx hb dX6_tell_0 rfl (lv_at hl 0 rfl) ?_
  obtain ⟨f_3, f_4, f_5, f_6, f_7, f_8, f_9, sc_10, f_13, f_15, f_16, rfl, hl_1, hh_2, hl_11, hh_12, hr_14⟩ := o0
  refine va_get (D := (dC, dI)) (ci := 4) (v := .int pc0) (C := RX6) (T := TX6) (N := 12) hx hb hts iw_X6_tell_X6 hown hK hP 0 rfl rfl 0 (by decide) (hts (.fieldLink RX6 9 "HungFloors$Papers" "count" "I") (by decide +kernel)) (fun _ h9 => h9) rfl dX6_tell_1 ?_
  refine lv_bipush (v := 60) hx hb dX6_tell_4 (by decide) ?_
  refine lv_icmp_lt (tgt := 11) hx hb dX6_tell_6 (by decide) (fun c_17 => ?_) (fun c_17 => ?_)
  · have c_17 : pc0.toInt < 60 := f_lt rfl tI_60 c_17
    refine lv_aload_n hx hb dX6_tell_11 rfl (lv_at hl 0 rfl) ?_
    refine va_get (D := (dC, dI)) (ci := 4) (v := .ref (r0 0)) (C := RX6) (T := TX6) (N := 12) hx hb hts iw_X6_tell_X6 hown hK hP 0 rfl rfl 1 (by decide) (hts (.fieldLink RX6 15 "HungFloors$Papers" "office" "[I") (by decide +kernel)) (fun _ h9 => h9) rfl dX6_tell_12 ?_
    refine lv_aload_n hx hb dX6_tell_15 rfl (lv_at hl 0 rfl) ?_
    refine va_get (D := (dC, dI)) (ci := 4) (v := .int pc0) (C := RX6) (T := TX6) (N := 12) hx hb hts iw_X6_tell_X6 hown hK hP 0 rfl rfl 0 (by decide) (hts (.fieldLink RX6 9 "HungFloors$Papers" "count" "I") (by decide +kernel)) (fun _ h9 => h9) rfl dX6_tell_16 ?_
    refine lv_iload_n hx hb dX6_tell_19 rfl (lv_at hl 1 rfl) ?_
    refine va_iast hx hb hK hP hD hS 1 1 rfl rfl (v_in rfl (by omega) (by omega)) dX6_tell_20 (fun H locs hP hD hS => ?_)
    obtain ⟨f_18, hP, hD⟩ : ∃ f_18 : Nat → Int32, va_P (dC, dI) vwCl (List.flatten [[(h0, .inr (4, [.int pc0, .ref (r0 0), .ref (r0 1), .ref (r0 2), .ref (r0 3), .ref (r0 4), .ref (r0 5), .ref (r0 6), .int sc_10, .ref (r0 7), .ref (r0 8), .ref (r0 9)])), (r0 0, .inl (cI, 60, .inl f_18)), (r0 1, .inl (cI, 60, .inl f_4)), (r0 2, .inl (cI, 60, .inl f_5)), (r0 3, .inl (cI, 60, .inl f_6)), (r0 4, .inl (cZ, 60, .inl f_7)), (r0 5, .inl (cI, 60, .inl f_8)), (r0 6, .inl (cI, 60, .inl f_9)), (r0 7, .inl (cI, 9, .inl f_13)), (r0 8, .inl (cI, 9, .inl f_15)), (r0 9, .inl (cI, 9, .inl f_16))]]) H ∧ va_D A (List.flatten [[(h0, .inr (4, [.int pc0, .ref (r0 0), .ref (r0 1), .ref (r0 2), .ref (r0 3), .ref (r0 4), .ref (r0 5), .ref (r0 6), .int sc_10, .ref (r0 7), .ref (r0 8), .ref (r0 9)])), (r0 0, .inl (cI, 60, .inl f_18)), (r0 1, .inl (cI, 60, .inl f_4)), (r0 2, .inl (cI, 60, .inl f_5)), (r0 3, .inl (cI, 60, .inl f_6)), (r0 4, .inl (cZ, 60, .inl f_7)), (r0 5, .inl (cI, 60, .inl f_8)), (r0 6, .inl (cI, 60, .inl f_9)), (r0 7, .inl (cI, 9, .inl f_13)), (r0 8, .inl (cI, 9, .inl f_15)), (r0 9, .inl (cI, 9, .inl f_16))]]) := ⟨_, hP, hD⟩
    refine lv_aload_n hx hb dX6_tell_21 rfl (lv_at hl 0 rfl) ?_
    refine va_get (D := (dC, dI)) (ci := 4) (v := .ref (r0 1)) (C := RX6) (T := TX6) (N := 12) hx hb hts iw_X6_tell_X6 hown hK hP 0 rfl rfl 2 (by decide) (hts (.fieldLink RX6 19 "HungFloors$Papers" "day" "[I") (by decide +kernel)) (fun _ h9 => h9) rfl dX6_tell_22 ?_
    refine lv_aload_n hx hb dX6_tell_25 rfl (lv_at hl 0 rfl) ?_
    refine va_get (D := (dC, dI)) (ci := 4) (v := .int pc0) (C := RX6) (T := TX6) (N := 12) hx hb hts iw_X6_tell_X6 hown hK hP 0 rfl rfl 0 (by decide) (hts (.fieldLink RX6 9 "HungFloors$Papers" "count" "I") (by decide +kernel)) (fun _ h9 => h9) rfl dX6_tell_26 ?_
    refine lv_iload_n hx hb dX6_tell_29 rfl (lv_at hl 2 rfl) ?_
    refine va_iast hx hb hK hP hD hS 2 1 rfl rfl (v_in rfl (by omega) (by omega)) dX6_tell_30 (fun H locs hP hD hS => ?_)
    obtain ⟨f_19, hP, hD⟩ : ∃ f_19 : Nat → Int32, va_P (dC, dI) vwCl (List.flatten [[(h0, .inr (4, [.int pc0, .ref (r0 0), .ref (r0 1), .ref (r0 2), .ref (r0 3), .ref (r0 4), .ref (r0 5), .ref (r0 6), .int sc_10, .ref (r0 7), .ref (r0 8), .ref (r0 9)])), (r0 0, .inl (cI, 60, .inl f_18)), (r0 1, .inl (cI, 60, .inl f_19)), (r0 2, .inl (cI, 60, .inl f_5)), (r0 3, .inl (cI, 60, .inl f_6)), (r0 4, .inl (cZ, 60, .inl f_7)), (r0 5, .inl (cI, 60, .inl f_8)), (r0 6, .inl (cI, 60, .inl f_9)), (r0 7, .inl (cI, 9, .inl f_13)), (r0 8, .inl (cI, 9, .inl f_15)), (r0 9, .inl (cI, 9, .inl f_16))]]) H ∧ va_D A (List.flatten [[(h0, .inr (4, [.int pc0, .ref (r0 0), .ref (r0 1), .ref (r0 2), .ref (r0 3), .ref (r0 4), .ref (r0 5), .ref (r0 6), .int sc_10, .ref (r0 7), .ref (r0 8), .ref (r0 9)])), (r0 0, .inl (cI, 60, .inl f_18)), (r0 1, .inl (cI, 60, .inl f_19)), (r0 2, .inl (cI, 60, .inl f_5)), (r0 3, .inl (cI, 60, .inl f_6)), (r0 4, .inl (cZ, 60, .inl f_7)), (r0 5, .inl (cI, 60, .inl f_8)), (r0 6, .inl (cI, 60, .inl f_9)), (r0 7, .inl (cI, 9, .inl f_13)), (r0 8, .inl (cI, 9, .inl f_15)), (r0 9, .inl (cI, 9, .inl f_16))]]) := ⟨_, hP, hD⟩
    refine lv_aload_n hx hb dX6_tell_31 rfl (lv_at hl 0 rfl) ?_
    refine va_get (D := (dC, dI)) (ci := 4) (v := .ref (r0 2)) (C := RX6) (T := TX6) (N := 12) hx hb hts iw_X6_tell_X6 hown hK hP 0 rfl rfl 3 (by decide) (hts (.fieldLink RX6 22 "HungFloors$Papers" "drawing" "[I") (by decide +kernel)) (fun _ h9 => h9) rfl dX6_tell_32 ?_
    refine lv_aload_n hx hb dX6_tell_35 rfl (lv_at hl 0 rfl) ?_
    refine va_get (D := (dC, dI)) (ci := 4) (v := .int pc0) (C := RX6) (T := TX6) (N := 12) hx hb hts iw_X6_tell_X6 hown hK hP 0 rfl rfl 0 (by decide) (hts (.fieldLink RX6 9 "HungFloors$Papers" "count" "I") (by decide +kernel)) (fun _ h9 => h9) rfl dX6_tell_36 ?_
    refine lv_iload_n hx hb dX6_tell_39 rfl (lv_at hl 3 rfl) ?_
    refine va_iast hx hb hK hP hD hS 3 1 rfl rfl (v_in rfl (by omega) (by omega)) dX6_tell_40 (fun H locs hP hD hS => ?_)
    obtain ⟨f_20, hP, hD⟩ : ∃ f_20 : Nat → Int32, va_P (dC, dI) vwCl (List.flatten [[(h0, .inr (4, [.int pc0, .ref (r0 0), .ref (r0 1), .ref (r0 2), .ref (r0 3), .ref (r0 4), .ref (r0 5), .ref (r0 6), .int sc_10, .ref (r0 7), .ref (r0 8), .ref (r0 9)])), (r0 0, .inl (cI, 60, .inl f_18)), (r0 1, .inl (cI, 60, .inl f_19)), (r0 2, .inl (cI, 60, .inl f_20)), (r0 3, .inl (cI, 60, .inl f_6)), (r0 4, .inl (cZ, 60, .inl f_7)), (r0 5, .inl (cI, 60, .inl f_8)), (r0 6, .inl (cI, 60, .inl f_9)), (r0 7, .inl (cI, 9, .inl f_13)), (r0 8, .inl (cI, 9, .inl f_15)), (r0 9, .inl (cI, 9, .inl f_16))]]) H ∧ va_D A (List.flatten [[(h0, .inr (4, [.int pc0, .ref (r0 0), .ref (r0 1), .ref (r0 2), .ref (r0 3), .ref (r0 4), .ref (r0 5), .ref (r0 6), .int sc_10, .ref (r0 7), .ref (r0 8), .ref (r0 9)])), (r0 0, .inl (cI, 60, .inl f_18)), (r0 1, .inl (cI, 60, .inl f_19)), (r0 2, .inl (cI, 60, .inl f_20)), (r0 3, .inl (cI, 60, .inl f_6)), (r0 4, .inl (cZ, 60, .inl f_7)), (r0 5, .inl (cI, 60, .inl f_8)), (r0 6, .inl (cI, 60, .inl f_9)), (r0 7, .inl (cI, 9, .inl f_13)), (r0 8, .inl (cI, 9, .inl f_15)), (r0 9, .inl (cI, 9, .inl f_16))]]) := ⟨_, hP, hD⟩
    refine lv_aload_n hx hb dX6_tell_41 rfl (lv_at hl 0 rfl) ?_
    refine va_get (D := (dC, dI)) (ci := 4) (v := .ref (r0 3)) (C := RX6) (T := TX6) (N := 12) hx hb hts iw_X6_tell_X6 hown hK hP 0 rfl rfl 4 (by decide) (hts (.fieldLink RX6 25 "HungFloors$Papers" "hours" "[I") (by decide +kernel)) (fun _ h9 => h9) rfl dX6_tell_42 ?_
    refine lv_aload_n hx hb dX6_tell_45 rfl (lv_at hl 0 rfl) ?_
    refine va_get (D := (dC, dI)) (ci := 4) (v := .int pc0) (C := RX6) (T := TX6) (N := 12) hx hb hts iw_X6_tell_X6 hown hK hP 0 rfl rfl 0 (by decide) (hts (.fieldLink RX6 9 "HungFloors$Papers" "count" "I") (by decide +kernel)) (fun _ h9 => h9) rfl dX6_tell_46 ?_
    refine lv_iload hx hb dX6_tell_49 (lv_at hl 4 rfl) ?_
    refine va_iast hx hb hK hP hD hS 4 1 rfl rfl (v_in rfl (by omega) (by omega)) dX6_tell_51 (fun H locs hP hD hS => ?_)
    obtain ⟨f_21, hP, hD⟩ : ∃ f_21 : Nat → Int32, va_P (dC, dI) vwCl (List.flatten [[(h0, .inr (4, [.int pc0, .ref (r0 0), .ref (r0 1), .ref (r0 2), .ref (r0 3), .ref (r0 4), .ref (r0 5), .ref (r0 6), .int sc_10, .ref (r0 7), .ref (r0 8), .ref (r0 9)])), (r0 0, .inl (cI, 60, .inl f_18)), (r0 1, .inl (cI, 60, .inl f_19)), (r0 2, .inl (cI, 60, .inl f_20)), (r0 3, .inl (cI, 60, .inl f_21)), (r0 4, .inl (cZ, 60, .inl f_7)), (r0 5, .inl (cI, 60, .inl f_8)), (r0 6, .inl (cI, 60, .inl f_9)), (r0 7, .inl (cI, 9, .inl f_13)), (r0 8, .inl (cI, 9, .inl f_15)), (r0 9, .inl (cI, 9, .inl f_16))]]) H ∧ va_D A (List.flatten [[(h0, .inr (4, [.int pc0, .ref (r0 0), .ref (r0 1), .ref (r0 2), .ref (r0 3), .ref (r0 4), .ref (r0 5), .ref (r0 6), .int sc_10, .ref (r0 7), .ref (r0 8), .ref (r0 9)])), (r0 0, .inl (cI, 60, .inl f_18)), (r0 1, .inl (cI, 60, .inl f_19)), (r0 2, .inl (cI, 60, .inl f_20)), (r0 3, .inl (cI, 60, .inl f_21)), (r0 4, .inl (cZ, 60, .inl f_7)), (r0 5, .inl (cI, 60, .inl f_8)), (r0 6, .inl (cI, 60, .inl f_9)), (r0 7, .inl (cI, 9, .inl f_13)), (r0 8, .inl (cI, 9, .inl f_15)), (r0 9, .inl (cI, 9, .inl f_16))]]) := ⟨_, hP, hD⟩
    refine lv_aload_n hx hb dX6_tell_52 rfl (lv_at hl 0 rfl) ?_
    refine va_get (D := (dC, dI)) (ci := 4) (v := .ref (r0 4)) (C := RX6) (T := TX6) (N := 12) hx hb hts iw_X6_tell_X6 hown hK hP 0 rfl rfl 5 (by decide) (hts (.fieldLink RX6 28 "HungFloors$Papers" "stamped" "[Z") (by decide +kernel)) (fun _ h9 => h9) rfl dX6_tell_53 ?_
    refine lv_aload_n hx hb dX6_tell_56 rfl (lv_at hl 0 rfl) ?_
    refine va_get (D := (dC, dI)) (ci := 4) (v := .int pc0) (C := RX6) (T := TX6) (N := 12) hx hb hts iw_X6_tell_X6 hown hK hP 0 rfl rfl 0 (by decide) (hts (.fieldLink RX6 9 "HungFloors$Papers" "count" "I") (by decide +kernel)) (fun _ h9 => h9) rfl dX6_tell_57 ?_
    refine lv_iload hx hb dX6_tell_60 (lv_at hl 5 rfl) ?_
    refine va_zast hx hb hK hP hD hS 5 3 rfl rfl (v_in rfl (by omega) (by omega)) dX6_tell_62 (fun H locs hP hD hS => ?_)
    obtain ⟨f_22, hP, hD⟩ : ∃ f_22 : Nat → Int32, va_P (dC, dI) vwCl (List.flatten [[(h0, .inr (4, [.int pc0, .ref (r0 0), .ref (r0 1), .ref (r0 2), .ref (r0 3), .ref (r0 4), .ref (r0 5), .ref (r0 6), .int sc_10, .ref (r0 7), .ref (r0 8), .ref (r0 9)])), (r0 0, .inl (cI, 60, .inl f_18)), (r0 1, .inl (cI, 60, .inl f_19)), (r0 2, .inl (cI, 60, .inl f_20)), (r0 3, .inl (cI, 60, .inl f_21)), (r0 4, .inl (cZ, 60, .inl f_22)), (r0 5, .inl (cI, 60, .inl f_8)), (r0 6, .inl (cI, 60, .inl f_9)), (r0 7, .inl (cI, 9, .inl f_13)), (r0 8, .inl (cI, 9, .inl f_15)), (r0 9, .inl (cI, 9, .inl f_16))]]) H ∧ va_D A (List.flatten [[(h0, .inr (4, [.int pc0, .ref (r0 0), .ref (r0 1), .ref (r0 2), .ref (r0 3), .ref (r0 4), .ref (r0 5), .ref (r0 6), .int sc_10, .ref (r0 7), .ref (r0 8), .ref (r0 9)])), (r0 0, .inl (cI, 60, .inl f_18)), (r0 1, .inl (cI, 60, .inl f_19)), (r0 2, .inl (cI, 60, .inl f_20)), (r0 3, .inl (cI, 60, .inl f_21)), (r0 4, .inl (cZ, 60, .inl f_22)), (r0 5, .inl (cI, 60, .inl f_8)), (r0 6, .inl (cI, 60, .inl f_9)), (r0 7, .inl (cI, 9, .inl f_13)), (r0 8, .inl (cI, 9, .inl f_15)), (r0 9, .inl (cI, 9, .inl f_16))]]) := ⟨_, hP, hD⟩
    refine lv_aload_n hx hb dX6_tell_63 rfl (lv_at hl 0 rfl) ?_
    refine va_get (D := (dC, dI)) (ci := 4) (v := .ref (r0 5)) (C := RX6) (T := TX6) (N := 12) hx hb hts iw_X6_tell_X6 hown hK hP 0 rfl rfl 6 (by decide) (hts (.fieldLink RX6 32 "HungFloors$Papers" "toldAt" "[I") (by decide +kernel)) (fun _ h9 => h9) rfl dX6_tell_64 ?_
    refine lv_aload_n hx hb dX6_tell_67 rfl (lv_at hl 0 rfl) ?_
    refine va_get (D := (dC, dI)) (ci := 4) (v := .int pc0) (C := RX6) (T := TX6) (N := 12) hx hb hts iw_X6_tell_X6 hown hK hP 0 rfl rfl 0 (by decide) (hts (.fieldLink RX6 9 "HungFloors$Papers" "count" "I") (by decide +kernel)) (fun _ h9 => h9) rfl dX6_tell_68 ?_
    refine lv_iload hx hb dX6_tell_71 (lv_at hl 6 rfl) ?_
    refine va_iast hx hb hK hP hD hS 6 1 rfl rfl (v_in rfl (by omega) (by omega)) dX6_tell_73 (fun H locs hP hD hS => ?_)
    obtain ⟨f_23, hP, hD⟩ : ∃ f_23 : Nat → Int32, va_P (dC, dI) vwCl (List.flatten [[(h0, .inr (4, [.int pc0, .ref (r0 0), .ref (r0 1), .ref (r0 2), .ref (r0 3), .ref (r0 4), .ref (r0 5), .ref (r0 6), .int sc_10, .ref (r0 7), .ref (r0 8), .ref (r0 9)])), (r0 0, .inl (cI, 60, .inl f_18)), (r0 1, .inl (cI, 60, .inl f_19)), (r0 2, .inl (cI, 60, .inl f_20)), (r0 3, .inl (cI, 60, .inl f_21)), (r0 4, .inl (cZ, 60, .inl f_22)), (r0 5, .inl (cI, 60, .inl f_23)), (r0 6, .inl (cI, 60, .inl f_9)), (r0 7, .inl (cI, 9, .inl f_13)), (r0 8, .inl (cI, 9, .inl f_15)), (r0 9, .inl (cI, 9, .inl f_16))]]) H ∧ va_D A (List.flatten [[(h0, .inr (4, [.int pc0, .ref (r0 0), .ref (r0 1), .ref (r0 2), .ref (r0 3), .ref (r0 4), .ref (r0 5), .ref (r0 6), .int sc_10, .ref (r0 7), .ref (r0 8), .ref (r0 9)])), (r0 0, .inl (cI, 60, .inl f_18)), (r0 1, .inl (cI, 60, .inl f_19)), (r0 2, .inl (cI, 60, .inl f_20)), (r0 3, .inl (cI, 60, .inl f_21)), (r0 4, .inl (cZ, 60, .inl f_22)), (r0 5, .inl (cI, 60, .inl f_23)), (r0 6, .inl (cI, 60, .inl f_9)), (r0 7, .inl (cI, 9, .inl f_13)), (r0 8, .inl (cI, 9, .inl f_15)), (r0 9, .inl (cI, 9, .inl f_16))]]) := ⟨_, hP, hD⟩
    refine lv_aload_n hx hb dX6_tell_74 rfl (lv_at hl 0 rfl) ?_
    refine va_get (D := (dC, dI)) (ci := 4) (v := .ref (r0 6)) (C := RX6) (T := TX6) (N := 12) hx hb hts iw_X6_tell_X6 hown hK hP 0 rfl rfl 7 (by decide) (hts (.fieldLink RX6 35 "HungFloors$Papers" "untoldAt" "[I") (by decide +kernel)) (fun _ h9 => h9) rfl dX6_tell_75 ?_
    refine lv_aload_n hx hb dX6_tell_78 rfl (lv_at hl 0 rfl) ?_
    refine va_get (D := (dC, dI)) (ci := 4) (v := .int pc0) (C := RX6) (T := TX6) (N := 12) hx hb hts iw_X6_tell_X6 hown hK hP 0 rfl rfl 0 (by decide) (hts (.fieldLink RX6 9 "HungFloors$Papers" "count" "I") (by decide +kernel)) (fun _ h9 => h9) rfl dX6_tell_79 ?_
    refine lv_iconst (v := (-1)) hx hb dX6_tell_82 (by decide) ?_
    refine va_iast hx hb hK hP hD hS 7 1 rfl rfl (v_in rfl (by omega) (by omega)) dX6_tell_83 (fun H locs hP hD hS => ?_)
    obtain ⟨f_24, hP, hD⟩ : ∃ f_24 : Nat → Int32, va_P (dC, dI) vwCl (List.flatten [[(h0, .inr (4, [.int pc0, .ref (r0 0), .ref (r0 1), .ref (r0 2), .ref (r0 3), .ref (r0 4), .ref (r0 5), .ref (r0 6), .int sc_10, .ref (r0 7), .ref (r0 8), .ref (r0 9)])), (r0 0, .inl (cI, 60, .inl f_18)), (r0 1, .inl (cI, 60, .inl f_19)), (r0 2, .inl (cI, 60, .inl f_20)), (r0 3, .inl (cI, 60, .inl f_21)), (r0 4, .inl (cZ, 60, .inl f_22)), (r0 5, .inl (cI, 60, .inl f_23)), (r0 6, .inl (cI, 60, .inl f_24)), (r0 7, .inl (cI, 9, .inl f_13)), (r0 8, .inl (cI, 9, .inl f_15)), (r0 9, .inl (cI, 9, .inl f_16))]]) H ∧ va_D A (List.flatten [[(h0, .inr (4, [.int pc0, .ref (r0 0), .ref (r0 1), .ref (r0 2), .ref (r0 3), .ref (r0 4), .ref (r0 5), .ref (r0 6), .int sc_10, .ref (r0 7), .ref (r0 8), .ref (r0 9)])), (r0 0, .inl (cI, 60, .inl f_18)), (r0 1, .inl (cI, 60, .inl f_19)), (r0 2, .inl (cI, 60, .inl f_20)), (r0 3, .inl (cI, 60, .inl f_21)), (r0 4, .inl (cZ, 60, .inl f_22)), (r0 5, .inl (cI, 60, .inl f_23)), (r0 6, .inl (cI, 60, .inl f_24)), (r0 7, .inl (cI, 9, .inl f_13)), (r0 8, .inl (cI, 9, .inl f_15)), (r0 9, .inl (cI, 9, .inl f_16))]]) := ⟨_, hP, hD⟩
    refine lv_aload_n hx hb dX6_tell_84 rfl (lv_at hl 0 rfl) ?_
    refine lv_dup hx hb dX6_tell_85 rfl ?_
    refine va_get (D := (dC, dI)) (ci := 4) (v := .int pc0) (C := RX6) (T := TX6) (N := 12) hx hb hts iw_X6_tell_X6 hown hK hP 0 rfl rfl 0 (by decide) (hts (.fieldLink RX6 9 "HungFloors$Papers" "count" "I") (by decide +kernel)) (fun _ h9 => h9) rfl dX6_tell_86 ?_
    refine lv_iconst (v := 1) hx hb dX6_tell_89 (by decide) ?_
    refine lv_iadd hx hb dX6_tell_90 ?_
    refine lv_topi (fun z_25 ez_25 => ?_)
    have hz_25 : z_25.toInt = pc0.toInt + 1 := by rw [ez_25]; exact t_add rfl tI_1 (by omega) (by omega)
    have fz_25 : z_25 = (pc0 + 1) := by rw [ez_25]
    refine va_put (D := (dC, dI)) (ci := 4) (v := .int z_25) (ty := .int) (C := RX6) (T := TX6) (N := 12) hx hb hts iw_X6_tell_X6 tyX6 tyX6_ok nmX6 hown hK hP hD hS 0 rfl rfl 0 (by decide) (hts (.fieldLink RX6 9 "HungFloors$Papers" "count" "I") (by decide +kernel)) (fun _ h9 => h9) rfl (by decide +kernel) rfl rfl (Nat.le_of_ble_eq_true rfl) dX6_tell_91 (fun H locs hP hD hS => ?_)
    have hP : va_P (dC, dI) vwCl (List.flatten [[(h0, .inr (4, [.int z_25, .ref (r0 0), .ref (r0 1), .ref (r0 2), .ref (r0 3), .ref (r0 4), .ref (r0 5), .ref (r0 6), .int sc_10, .ref (r0 7), .ref (r0 8), .ref (r0 9)])), (r0 0, .inl (cI, 60, .inl f_18)), (r0 1, .inl (cI, 60, .inl f_19)), (r0 2, .inl (cI, 60, .inl f_20)), (r0 3, .inl (cI, 60, .inl f_21)), (r0 4, .inl (cZ, 60, .inl f_22)), (r0 5, .inl (cI, 60, .inl f_23)), (r0 6, .inl (cI, 60, .inl f_24)), (r0 7, .inl (cI, 9, .inl f_13)), (r0 8, .inl (cI, 9, .inl f_15)), (r0 9, .inl (cI, 9, .inl f_16))]]) H := hP
    have hD : va_D A (List.flatten [[(h0, .inr (4, [.int z_25, .ref (r0 0), .ref (r0 1), .ref (r0 2), .ref (r0 3), .ref (r0 4), .ref (r0 5), .ref (r0 6), .int sc_10, .ref (r0 7), .ref (r0 8), .ref (r0 9)])), (r0 0, .inl (cI, 60, .inl f_18)), (r0 1, .inl (cI, 60, .inl f_19)), (r0 2, .inl (cI, 60, .inl f_20)), (r0 3, .inl (cI, 60, .inl f_21)), (r0 4, .inl (cZ, 60, .inl f_22)), (r0 5, .inl (cI, 60, .inl f_23)), (r0 6, .inl (cI, 60, .inl f_24)), (r0 7, .inl (cI, 9, .inl f_13)), (r0 8, .inl (cI, 9, .inl f_15)), (r0 9, .inl (cI, 9, .inl f_16))]]) := hD
    refine lv_aload_n hx hb dX6_tell_94 rfl (lv_at hl 0 rfl) ?_
    refine va_get (D := (dC, dI)) (ci := 4) (v := .int z_25) (C := RX6) (T := TX6) (N := 12) hx hb hts iw_X6_tell_X6 hown hK hP 0 rfl rfl 0 (by decide) (hts (.fieldLink RX6 9 "HungFloors$Papers" "count" "I") (by decide +kernel)) (fun _ h9 => h9) rfl dX6_tell_95 ?_
    refine lv_iconst (v := 1) hx hb dX6_tell_98 (by decide) ?_
    refine lv_isub hx hb dX6_tell_99 ?_
    refine lv_topi (fun z_26 ez_26 => ?_)
    have hz_26 : z_26.toInt = z_25.toInt - 1 := by rw [ez_26]; exact t_sub rfl tI_1 (by omega) (by omega)
    have fz_26 : z_26 = ((pc0 + 1) - 1) := by rw [ez_26, fz_25]
    rw [hQ0]
    exact W.iret (v := z_26) hx hb hr (fun t ht hW => ⟨⟨z_26, (), rfl, ⟨by omega, by omega⟩, ⟨z_25, _, ⟨f_18, f_19, f_20, f_21, f_22, f_23, f_24, sc_10, f_13, f_15, f_16, rfl, by omega, by omega, by omega, by omega, hr_14⟩, by rw [ht]; exact hP, hD⟩⟩, hS.F ht⟩) hS.2.2 dX6_tell_100
  · have c_17 : 60 ≤ pc0.toInt := f_nlt rfl tI_60 c_17
    refine lv_iconst (v := (-1)) hx hb dX6_tell_9 (by decide) ?_
    rw [hQ0]
    exact W.iret (v := (-1)) hx hb hr (fun t ht hW => ⟨⟨(-1), (), rfl, ⟨by decide, by decide⟩, ⟨pc0, _, ⟨f_3, f_4, f_5, f_6, f_7, f_8, f_9, sc_10, f_13, f_15, f_16, rfl, by omega, by omega, by omega, by omega, hr_14⟩, by rw [ht]; exact hP, hD⟩⟩, hS.F ht⟩) hS.2.2 dX6_tell_10
theorem iw_X6_isPaper_X6 : ∀ w ∈ wsX60, w ∈ wsX6_isPaper := fun _ h => List.mem_cons_of_mem _ (List.mem_append_right _ h)
set_option maxHeartbeats 4000000 in
set_option maxRecDepth 100000 in
theorem c_X6_isPaper (l : Launch) (dC : Nat → ClassId) (dI : Nat → Nat → Nat) (ad : Nat → Nat) (tN : Nat) (fN : Nat → Int64) (cB cI cJ cZ : ClassId) (h0 : Nat) (p1 : Int32) (r0 : Nat → Nat) (pc0 : Int32) (w0 : va_W) (o0 : ok_pap ad cB cI cJ cZ h0 r0 pc0 w0) (sz : Nat) : Met l yX6_isPaper wsX6_isPaper ({ frames := 0, cells := 0, slots := 0, locals := 0 } : Room) (va_Pc [.ref h0, .int p1] (fun U => U.heap.size = sz ∧ va_P (dC, dI) vwCl (List.flatten [w0]) U.heap ∧ va_K (dC, dI) vwCl [(cB, .byte), (cI, .int), (cJ, .long), (cZ, .boolean)] U ∧ va_D (fun _ => True) (List.flatten [w0]) ∧ ex_Y ad tN fN (va_A (List.flatten [w0]) sz) U)) (va_Qi (fun (r : Int32) (_ : Unit) => (r = 0 ∧ p1.toInt < 0) ∨ (r = 0 ∧ 0 ≤ p1.toInt ∧ pc0.toInt ≤ p1.toInt) ∨ (r = 1 ∧ 0 ≤ p1.toInt ∧ p1.toInt < pc0.toInt)) (fun (_ : Unit) (t : State) => va_P (dC, dI) vwCl (List.flatten [w0]) t.heap ∧ va_D (va_A (List.flatten [w0]) sz) (List.flatten [w0])) (va_A (List.flatten [w0]) sz)) 0 0 (va_A (List.flatten [w0]) sz) := by
  refine Met.ofW (cc := cX6_isPaper) (maxL := 2) (ret := (some .boolean)) (by decide) rfl ?_
  intro p e s m args below meth c s₁ B hml hv
  obtain ⟨rfl, hsz, hP, hK, hD0, hE⟩ := hv
  have hx := B.exec
  have hb := B.bytes
  have hr := B.returns
  have hts := atoms_spec (ws := wsX6_isPaper) B.pre
  have hown : s.vm.findClass RX6 = some m.cls := findClass_of_methodNamed B.named
  have hlocks := B.notSynchronized
  subst hsz
  have hD := hD0.self (sz := s.heap.size)
  generalize hAe : va_A (List.flatten [w0]) s.heap.size = A at hD hE ⊢
  have hA : ∀ q : Nat, s.heap.size ≤ q → A q := fun q h => by rw [← hAe]; exact Or.inr h
  have hS : va_S A s.heap s.heap [] := va_S.rf
  have hl := lv_entry ([.ref h0, .int p1]) (n := 2) (Nat.le_of_ble_eq_true rfl)
  rw [lg_entry_eq]
  generalize (lg_sl ([.ref h0, .int p1]) ++ List.replicate (2 - (lg_sl ([.ref h0, .int p1])).length) Slot.unset).toArray = ls at hl ⊢
  have hl : lv_has ls 2 [(0, .ref h0), (1, .int p1)] := hl
  clear hAe
  refine W_name (fun Q0 hQ0 => ?_)
  refine lv_iload_n hx hb dX6_isPaper_0 rfl (lv_at hl 1 rfl) ?_
  refine lv_if_lt (tgt := 16) hx hb dX6_isPaper_1 (by decide) (fun c_1 => ?_) (fun c_1 => ?_)
  · have c_1 : p1.toInt < 0 := f_lt rfl tI_0 c_1
    refine lv_iconst (v := 0) hx hb dX6_isPaper_16 (by decide) ?_
    rw [hQ0]
    exact W.zret (v := 0) hx hb hr (by decide) (fun t ht hW => ⟨⟨0, (), rfl, Or.inl ⟨rfl, c_1⟩, ⟨by rw [ht]; exact hP, hD⟩⟩, hS.F ht⟩) hS.2.2 dX6_isPaper_17
  · have c_1 : 0 ≤ p1.toInt := f_nlt rfl tI_0 c_1
    refine lv_iload_n hx hb dX6_isPaper_4 rfl (lv_at hl 1 rfl) ?_
    refine lv_aload_n hx hb dX6_isPaper_5 rfl (lv_at hl 0 rfl) ?_
    obtain ⟨f_4, f_5, f_6, f_7, f_8, f_9, f_10, sc_11, f_14, f_16, f_17, rfl, hl_2, hh_3, hl_12, hh_13, hr_15⟩ := o0
    refine va_get (D := (dC, dI)) (ci := 4) (v := .int pc0) (C := RX6) (T := TX6) (N := 12) hx hb hts iw_X6_isPaper_X6 hown hK hP 0 rfl rfl 0 (by decide) (hts (.fieldLink RX6 9 "HungFloors$Papers" "count" "I") (by decide +kernel)) (fun _ h9 => h9) rfl dX6_isPaper_6 ?_
    refine lv_icmp_ge (tgt := 16) hx hb dX6_isPaper_9 (by decide) (fun c_18 => ?_) (fun c_18 => ?_)
    · have c_18 : pc0.toInt ≤ p1.toInt := f_le rfl rfl c_18
      refine lv_iconst (v := 0) hx hb dX6_isPaper_16 (by decide) ?_
      rw [hQ0]
      exact W.zret (v := 0) hx hb hr (by decide) (fun t ht hW => ⟨⟨0, (), rfl, Or.inr (Or.inl ⟨rfl, c_1, c_18⟩), ⟨by rw [ht]; exact hP, hD⟩⟩, hS.F ht⟩) hS.2.2 dX6_isPaper_17
    · have c_18 : p1.toInt < pc0.toInt := f_nle rfl rfl c_18
      refine lv_iconst (v := 1) hx hb dX6_isPaper_12 (by decide) ?_
      refine lv_goto (tgt := 17) hx hb dX6_isPaper_13 (by decide) ?_
      rw [hQ0]
      exact W.zret (v := 1) hx hb hr (by decide) (fun t ht hW => ⟨⟨1, (), rfl, Or.inr (Or.inr (⟨rfl, c_1, c_18⟩)), ⟨by rw [ht]; exact hP, hD⟩⟩, hS.F ht⟩) hS.2.2 dX6_isPaper_17
theorem iw_X6_takeBack_X6 : ∀ w ∈ wsX60, w ∈ wsX6_takeBack := fun _ h => List.mem_cons_of_mem _ (List.mem_append_right _ h)
set_option maxHeartbeats 4000000 in
set_option maxRecDepth 100000 in
theorem c_X6_takeBack (l : Launch) (dC : Nat → ClassId) (dI : Nat → Nat → Nat) (ad : Nat → Nat) (tN : Nat) (fN : Nat → Int64) (cB cI cJ cZ : ClassId) (h0 : Nat) (p1 : Int32) (p2 : Int32) (r0 : Nat → Nat) (pc0 : Int32) (w0 : va_W) (o0 : ok_pap ad cB cI cJ cZ h0 r0 pc0 w0) (sz : Nat) : Met l yX6_takeBack wsX6_takeBack ({ frames := 1, cells := 0, slots := 0, locals := 21 } : Room) (va_Pc [.ref h0, .int p1, .int p2] (fun U => U.heap.size = sz ∧ va_P (dC, dI) vwCl (List.flatten [w0]) U.heap ∧ va_K (dC, dI) vwCl [(cB, .byte), (cI, .int), (cJ, .long), (cZ, .boolean)] U ∧ va_D (fun _ => True) (List.flatten [w0]) ∧ ex_Y ad tN fN (va_A (List.flatten [w0]) sz) U)) (va_Qi (fun (r : Int32) (_ : Unit) => 0 ≤ r.toInt ∧ r.toInt ≤ 1) (fun (_ : Unit) (t : State) => ∃ (w09 : va_W), ok_pap ad cB cI cJ cZ h0 r0 pc0 w09 ∧ va_P (dC, dI) vwCl (List.flatten [w09]) t.heap ∧ va_D (va_A (List.flatten [w0]) sz) (List.flatten [w09])) (va_A (List.flatten [w0]) sz)) 0 0 (va_A (List.flatten [w0]) sz) := by
  refine Met.ofW (cc := cX6_takeBack) (maxL := 3) (ret := (some .boolean)) (by decide) rfl ?_
  intro p e s m args below meth c s₁ B hml hv
  obtain ⟨rfl, hsz, hP, hK, hD0, hE⟩ := hv
  have hx := B.exec
  have hb := B.bytes
  have hr := B.returns
  have hts := atoms_spec (ws := wsX6_takeBack) B.pre
  have hown : s.vm.findClass RX6 = some m.cls := findClass_of_methodNamed B.named
  have hlocks := B.notSynchronized
  subst hsz
  have hD := hD0.self (sz := s.heap.size)
  generalize hAe : va_A (List.flatten [w0]) s.heap.size = A at hD hE ⊢
  have hA : ∀ q : Nat, s.heap.size ≤ q → A q := fun q h => by rw [← hAe]; exact Or.inr h
  have hS : va_S A s.heap s.heap [] := va_S.rf
  have hl := lv_entry ([.ref h0, .int p1, .int p2]) (n := 3) (Nat.le_of_ble_eq_true rfl)
  rw [lg_entry_eq]
  generalize (lg_sl ([.ref h0, .int p1, .int p2]) ++ List.replicate (3 - (lg_sl ([.ref h0, .int p1, .int p2])).length) Slot.unset).toArray = ls at hl ⊢
  have hl : lv_has ls 3 [(0, .ref h0), (1, .int p1), (2, .int p2)] := hl
  clear hAe
  refine W_name (fun Q0 hQ0 => ?_)
  refine lv_aload_n hx hb dX6_takeBack_0 rfl (lv_at hl 0 rfl) ?_
  refine lv_iload_n hx hb dX6_takeBack_1 rfl (lv_at hl 1 rfl) ?_
  obtain ⟨f_3, f_4, f_5, f_6, f_7, f_8, f_9, sc_10, f_13, f_15, f_16, rfl, hl_1, hh_2, hl_11, hh_12, hr_14⟩ := o0
  have hpm : List.Perm ([[(h0, .inr (4, [.int pc0, .ref (r0 0), .ref (r0 1), .ref (r0 2), .ref (r0 3), .ref (r0 4), .ref (r0 5), .ref (r0 6), .int sc_10, .ref (r0 7), .ref (r0 8), .ref (r0 9)])), (r0 0, .inl (cI, 60, .inl f_3)), (r0 1, .inl (cI, 60, .inl f_4)), (r0 2, .inl (cI, 60, .inl f_5)), (r0 3, .inl (cI, 60, .inl f_6)), (r0 4, .inl (cZ, 60, .inl f_7)), (r0 5, .inl (cI, 60, .inl f_8)), (r0 6, .inl (cI, 60, .inl f_9)), (r0 7, .inl (cI, 9, .inl f_13)), (r0 8, .inl (cI, 9, .inl f_15)), (r0 9, .inl (cI, 9, .inl f_16))]] : List va_W) (([[(h0, .inr (4, [.int pc0, .ref (r0 0), .ref (r0 1), .ref (r0 2), .ref (r0 3), .ref (r0 4), .ref (r0 5), .ref (r0 6), .int sc_10, .ref (r0 7), .ref (r0 8), .ref (r0 9)])), (r0 0, .inl (cI, 60, .inl f_3)), (r0 1, .inl (cI, 60, .inl f_4)), (r0 2, .inl (cI, 60, .inl f_5)), (r0 3, .inl (cI, 60, .inl f_6)), (r0 4, .inl (cZ, 60, .inl f_7)), (r0 5, .inl (cI, 60, .inl f_8)), (r0 6, .inl (cI, 60, .inl f_9)), (r0 7, .inl (cI, 9, .inl f_13)), (r0 8, .inl (cI, 9, .inl f_15)), (r0 9, .inl (cI, 9, .inl f_16))]] : List va_W) ++ ([] : List va_W)) := pm_n 1 [0] (by decide) rfl rfl
  have hPc := bk_P hpm hP
  have hDc := bk_D hpm hD
  have hFc := bk_F hpm hD hS hA
  refine va_calli (va_runV (As := [.int p1]) (rest := []) ⟨hx, hb, hml, hown, hts⟩ (c_X6_isPaper l dC dI ad tN fN cB cI cJ cZ h0 p1 r0 pc0 _ ⟨f_3, f_4, f_5, f_6, f_7, f_8, f_9, sc_10, f_13, f_15, f_16, rfl, by omega, by omega, by omega, by omega, hr_14⟩ s.heap.size) (cwV 1 hts gX6_takeBack_X6_isPaper rfl rfl rfl (by decide +kernel) ⟨(Nat.le_of_ble_eq_true rfl), (Nat.le_of_ble_eq_true rfl)⟩) ⟨fun a U g mk q => by obtain ⟨q0, q1, qP, qK, qD, qE⟩ := q; exact ⟨q0, q1, qP, va_K.moved (u := U) (U := U.calling g mk a) (Vm.Alike.refl U.vm) qK, qD, ey_blind qE⟩, va_recv hK hPc (ci := 4) (q0 := 0) rfl rfl, fun U hU hW => ⟨rfl, by rw [hU], by rw [hU]; exact hPc, va_K.moved hW.alike hK, hDc.weaken (fun _ _ _ _ => trivial), ey_call hE hS hFc hU hW⟩⟩ rfl rfl hl.1 rfl (lv_room (Nat.le_of_ble_eq_true rfl)) dX6_takeBack_2 ⟨(Nat.le_of_ble_eq_true rfl), (Nat.le_of_ble_eq_true rfl)⟩) hS (fun q _ h => hFc q h) hFc (fun r_17 u t H locs ht hvm hw hB hz1 hk1 hS => ?_)
  obtain ⟨hP1, hD1⟩ := hB
  rw [ht] at hP1
  obtain ⟨hP, hD⟩ := bk_join hpm hP hD hk1 hFc (Cs1 := [[(h0, .inr (4, [.int pc0, .ref (r0 0), .ref (r0 1), .ref (r0 2), .ref (r0 3), .ref (r0 4), .ref (r0 5), .ref (r0 6), .int sc_10, .ref (r0 7), .ref (r0 8), .ref (r0 9)])), (r0 0, .inl (cI, 60, .inl f_3)), (r0 1, .inl (cI, 60, .inl f_4)), (r0 2, .inl (cI, 60, .inl f_5)), (r0 3, .inl (cI, 60, .inl f_6)), (r0 4, .inl (cZ, 60, .inl f_7)), (r0 5, .inl (cI, 60, .inl f_8)), (r0 6, .inl (cI, 60, .inl f_9)), (r0 7, .inl (cI, 9, .inl f_13)), (r0 8, .inl (cI, 9, .inl f_15)), (r0 9, .inl (cI, 9, .inl f_16))]]) hP1 hD1
  have hpm2 : List.Perm (([[(h0, .inr (4, [.int pc0, .ref (r0 0), .ref (r0 1), .ref (r0 2), .ref (r0 3), .ref (r0 4), .ref (r0 5), .ref (r0 6), .int sc_10, .ref (r0 7), .ref (r0 8), .ref (r0 9)])), (r0 0, .inl (cI, 60, .inl f_3)), (r0 1, .inl (cI, 60, .inl f_4)), (r0 2, .inl (cI, 60, .inl f_5)), (r0 3, .inl (cI, 60, .inl f_6)), (r0 4, .inl (cZ, 60, .inl f_7)), (r0 5, .inl (cI, 60, .inl f_8)), (r0 6, .inl (cI, 60, .inl f_9)), (r0 7, .inl (cI, 9, .inl f_13)), (r0 8, .inl (cI, 9, .inl f_15)), (r0 9, .inl (cI, 9, .inl f_16))]] : List va_W) ++ ([] : List va_W)) ([[(h0, .inr (4, [.int pc0, .ref (r0 0), .ref (r0 1), .ref (r0 2), .ref (r0 3), .ref (r0 4), .ref (r0 5), .ref (r0 6), .int sc_10, .ref (r0 7), .ref (r0 8), .ref (r0 9)])), (r0 0, .inl (cI, 60, .inl f_3)), (r0 1, .inl (cI, 60, .inl f_4)), (r0 2, .inl (cI, 60, .inl f_5)), (r0 3, .inl (cI, 60, .inl f_6)), (r0 4, .inl (cZ, 60, .inl f_7)), (r0 5, .inl (cI, 60, .inl f_8)), (r0 6, .inl (cI, 60, .inl f_9)), (r0 7, .inl (cI, 9, .inl f_13)), (r0 8, .inl (cI, 9, .inl f_15)), (r0 9, .inl (cI, 9, .inl f_16))]] : List va_W) := pm_n 1 [0] (by decide) rfl rfl
  have hP := bk_reP hpm2 hP
  have hD := bk_reD hpm2 hD
  have hP : va_P (dC, dI) vwCl (List.flatten [[(h0, .inr (4, [.int pc0, .ref (r0 0), .ref (r0 1), .ref (r0 2), .ref (r0 3), .ref (r0 4), .ref (r0 5), .ref (r0 6), .int sc_10, .ref (r0 7), .ref (r0 8), .ref (r0 9)])), (r0 0, .inl (cI, 60, .inl f_3)), (r0 1, .inl (cI, 60, .inl f_4)), (r0 2, .inl (cI, 60, .inl f_5)), (r0 3, .inl (cI, 60, .inl f_6)), (r0 4, .inl (cZ, 60, .inl f_7)), (r0 5, .inl (cI, 60, .inl f_8)), (r0 6, .inl (cI, 60, .inl f_9)), (r0 7, .inl (cI, 9, .inl f_13)), (r0 8, .inl (cI, 9, .inl f_15)), (r0 9, .inl (cI, 9, .inl f_16))]]) H := hP
  have hD : va_D A (List.flatten [[(h0, .inr (4, [.int pc0, .ref (r0 0), .ref (r0 1), .ref (r0 2), .ref (r0 3), .ref (r0 4), .ref (r0 5), .ref (r0 6), .int sc_10, .ref (r0 7), .ref (r0 8), .ref (r0 9)])), (r0 0, .inl (cI, 60, .inl f_3)), (r0 1, .inl (cI, 60, .inl f_4)), (r0 2, .inl (cI, 60, .inl f_5)), (r0 3, .inl (cI, 60, .inl f_6)), (r0 4, .inl (cZ, 60, .inl f_7)), (r0 5, .inl (cI, 60, .inl f_8)), (r0 6, .inl (cI, 60, .inl f_9)), (r0 7, .inl (cI, 9, .inl f_13)), (r0 8, .inl (cI, 9, .inl f_15)), (r0 9, .inl (cI, 9, .inl f_16))]]) := hD
  rcases hw with ⟨rfl, c_18⟩ | ⟨rfl, c_19, c_20⟩ | ⟨rfl, c_21, c_22⟩
  · refine lv_if_eq (tgt := 17) hx hb dX6_takeBack_5 (by decide) (fun c_23 => ?_) (fun c_23 => absurd c_23 (by decide))
    refine lv_iconst (v := 0) hx hb dX6_takeBack_17 (by decide) ?_
    rw [hQ0]
    exact W.zret (v := 0) hx hb hr (by decide) (fun t ht hW => ⟨⟨0, (), rfl, ⟨by decide, by decide⟩, ⟨_, ⟨f_3, f_4, f_5, f_6, f_7, f_8, f_9, sc_10, f_13, f_15, f_16, rfl, by omega, by omega, by omega, by omega, hr_14⟩, by rw [ht]; exact hP, hD⟩⟩, hS.F ht⟩) hS.2.2 dX6_takeBack_18
  · refine lv_if_eq (tgt := 17) hx hb dX6_takeBack_5 (by decide) (fun c_24 => ?_) (fun c_24 => absurd c_24 (by decide))
    refine lv_iconst (v := 0) hx hb dX6_takeBack_17 (by decide) ?_
    rw [hQ0]
    exact W.zret (v := 0) hx hb hr (by decide) (fun t ht hW => ⟨⟨0, (), rfl, ⟨by decide, by decide⟩, ⟨_, ⟨f_3, f_4, f_5, f_6, f_7, f_8, f_9, sc_10, f_13, f_15, f_16, rfl, by omega, by omega, by omega, by omega, hr_14⟩, by rw [ht]; exact hP, hD⟩⟩, hS.F ht⟩) hS.2.2 dX6_takeBack_18
  · refine lv_if_eq (tgt := 17) hx hb dX6_takeBack_5 (by decide) (fun c_25 => absurd c_25 (by decide)) (fun c_25 => ?_)
    refine lv_aload_n hx hb dX6_takeBack_8 rfl (lv_at hl 0 rfl) ?_
    refine va_get (D := (dC, dI)) (ci := 4) (v := .ref (r0 6)) (C := RX6) (T := TX6) (N := 12) hx hb hts iw_X6_takeBack_X6 hown hK hP 0 rfl rfl 7 (by decide) (hts (.fieldLink RX6 35 "HungFloors$Papers" "untoldAt" "[I") (by decide +kernel)) (fun _ h9 => h9) rfl dX6_takeBack_9 ?_
    refine lv_iload_n hx hb dX6_takeBack_12 rfl (lv_at hl 1 rfl) ?_
    refine va_iald hx hb hK hP 7 1 rfl rfl (v_in rfl (by omega) (by omega)) dX6_takeBack_13 ?_
    refine lv_topi (fun z_26 ez_26 => ?_)
    refine lv_if_lt (tgt := 19) hx hb dX6_takeBack_14 (by decide) (fun c_27 => ?_) (fun c_27 => ?_)
    · have c_27 : z_26.toInt < 0 := f_lt rfl tI_0 c_27
      refine lv_aload_n hx hb dX6_takeBack_19 rfl (lv_at hl 0 rfl) ?_
      refine va_get (D := (dC, dI)) (ci := 4) (v := .ref (r0 6)) (C := RX6) (T := TX6) (N := 12) hx hb hts iw_X6_takeBack_X6 hown hK hP 0 rfl rfl 7 (by decide) (hts (.fieldLink RX6 35 "HungFloors$Papers" "untoldAt" "[I") (by decide +kernel)) (fun _ h9 => h9) rfl dX6_takeBack_20 ?_
      refine lv_iload_n hx hb dX6_takeBack_23 rfl (lv_at hl 1 rfl) ?_
      refine lv_iload_n hx hb dX6_takeBack_24 rfl (lv_at hl 2 rfl) ?_
      refine va_iast hx hb hK hP hD hS 7 1 rfl rfl (v_in rfl (by omega) (by omega)) dX6_takeBack_25 (fun H locs hP hD hS => ?_)
      obtain ⟨f_28, hP, hD⟩ : ∃ f_28 : Nat → Int32, va_P (dC, dI) vwCl (List.flatten [[(h0, .inr (4, [.int pc0, .ref (r0 0), .ref (r0 1), .ref (r0 2), .ref (r0 3), .ref (r0 4), .ref (r0 5), .ref (r0 6), .int sc_10, .ref (r0 7), .ref (r0 8), .ref (r0 9)])), (r0 0, .inl (cI, 60, .inl f_3)), (r0 1, .inl (cI, 60, .inl f_4)), (r0 2, .inl (cI, 60, .inl f_5)), (r0 3, .inl (cI, 60, .inl f_6)), (r0 4, .inl (cZ, 60, .inl f_7)), (r0 5, .inl (cI, 60, .inl f_8)), (r0 6, .inl (cI, 60, .inl f_28)), (r0 7, .inl (cI, 9, .inl f_13)), (r0 8, .inl (cI, 9, .inl f_15)), (r0 9, .inl (cI, 9, .inl f_16))]]) H ∧ va_D A (List.flatten [[(h0, .inr (4, [.int pc0, .ref (r0 0), .ref (r0 1), .ref (r0 2), .ref (r0 3), .ref (r0 4), .ref (r0 5), .ref (r0 6), .int sc_10, .ref (r0 7), .ref (r0 8), .ref (r0 9)])), (r0 0, .inl (cI, 60, .inl f_3)), (r0 1, .inl (cI, 60, .inl f_4)), (r0 2, .inl (cI, 60, .inl f_5)), (r0 3, .inl (cI, 60, .inl f_6)), (r0 4, .inl (cZ, 60, .inl f_7)), (r0 5, .inl (cI, 60, .inl f_8)), (r0 6, .inl (cI, 60, .inl f_28)), (r0 7, .inl (cI, 9, .inl f_13)), (r0 8, .inl (cI, 9, .inl f_15)), (r0 9, .inl (cI, 9, .inl f_16))]]) := ⟨_, hP, hD⟩
      refine lv_iconst (v := 1) hx hb dX6_takeBack_26 (by decide) ?_
      rw [hQ0]
      exact W.zret (v := 1) hx hb hr (by decide) (fun t ht hW => ⟨⟨1, (), rfl, ⟨by decide, by decide⟩, ⟨_, ⟨f_3, f_4, f_5, f_6, f_7, f_8, f_28, sc_10, f_13, f_15, f_16, rfl, by omega, by omega, by omega, by omega, hr_14⟩, by rw [ht]; exact hP, hD⟩⟩, hS.F ht⟩) hS.2.2 dX6_takeBack_27
    · have c_27 : 0 ≤ z_26.toInt := f_nlt rfl tI_0 c_27
      refine lv_iconst (v := 0) hx hb dX6_takeBack_17 (by decide) ?_
      rw [hQ0]
      exact W.zret (v := 0) hx hb hr (by decide) (fun t ht hW => ⟨⟨0, (), rfl, ⟨by decide, by decide⟩, ⟨_, ⟨f_3, f_4, f_5, f_6, f_7, f_8, f_9, sc_10, f_13, f_15, f_16, rfl, by omega, by omega, by omega, by omega, hr_14⟩, by rw [ht]; exact hP, hD⟩⟩, hS.F ht⟩) hS.2.2 dX6_takeBack_18
theorem iw_X6_isKnown_X6 : ∀ w ∈ wsX60, w ∈ wsX6_isKnown := fun _ h => List.mem_cons_of_mem _ (List.mem_append_right _ h)
set_option maxHeartbeats 4000000 in
set_option maxRecDepth 100000 in
theorem c_X6_isKnown (l : Launch) (dC : Nat → ClassId) (dI : Nat → Nat → Nat) (ad : Nat → Nat) (tN : Nat) (fN : Nat → Int64) (cB cI cJ cZ : ClassId) (h0 : Nat) (p1 : Int32) (p2 : Int32) (r0 : Nat → Nat) (pc0 : Int32) (w0 : va_W) (o0 : ok_pap ad cB cI cJ cZ h0 r0 pc0 w0) (sz : Nat) (up11 : 0 ≤ p1.toInt) (up12 : p1.toInt ≤ 59) : Met l yX6_isKnown wsX6_isKnown ({ frames := 0, cells := 0, slots := 0, locals := 0 } : Room) (va_Pc [.ref h0, .int p1, .int p2] (fun U => U.heap.size = sz ∧ va_P (dC, dI) vwCl (List.flatten [w0]) U.heap ∧ va_K (dC, dI) vwCl [(cB, .byte), (cI, .int), (cJ, .long), (cZ, .boolean)] U ∧ va_D (fun _ => True) (List.flatten [w0]) ∧ ex_Y ad tN fN (va_A (List.flatten [w0]) sz) U)) (va_Qi (fun (r : Int32) (_ : Unit) => 0 ≤ r.toInt ∧ r.toInt ≤ 1) (fun (_ : Unit) (t : State) => va_P (dC, dI) vwCl (List.flatten [w0]) t.heap ∧ va_D (va_A (List.flatten [w0]) sz) (List.flatten [w0])) (va_A (List.flatten [w0]) sz)) 0 0 (va_A (List.flatten [w0]) sz) := by
  refine Met.ofW (cc := cX6_isKnown) (maxL := 4) (ret := (some .boolean)) (by decide) rfl ?_
  intro p e s m args below meth c s₁ B hml hv
  obtain ⟨rfl, hsz, hP, hK, hD0, hE⟩ := hv
  have hx := B.exec
  have hb := B.bytes
  have hr := B.returns
  have hts := atoms_spec (ws := wsX6_isKnown) B.pre
  have hown : s.vm.findClass RX6 = some m.cls := findClass_of_methodNamed B.named
  have hlocks := B.notSynchronized
  subst hsz
  have hD := hD0.self (sz := s.heap.size)
  generalize hAe : va_A (List.flatten [w0]) s.heap.size = A at hD hE ⊢
  have hA : ∀ q : Nat, s.heap.size ≤ q → A q := fun q h => by rw [← hAe]; exact Or.inr h
  have hS : va_S A s.heap s.heap [] := va_S.rf
  have hl := lv_entry ([.ref h0, .int p1, .int p2]) (n := 4) (Nat.le_of_ble_eq_true rfl)
  rw [lg_entry_eq]
  generalize (lg_sl ([.ref h0, .int p1, .int p2]) ++ List.replicate (4 - (lg_sl ([.ref h0, .int p1, .int p2])).length) Slot.unset).toArray = ls at hl ⊢
  have hl : lv_has ls 4 [(0, .ref h0), (1, .int p1), (2, .int p2)] := hl
  clear hAe
  refine W_name (fun Q0 hQ0 => ?_)
  refine lv_aload_n hx hb dX6_isKnown_0 rfl (lv_at hl 0 rfl) ?_
  obtain ⟨f_3, f_4, f_5, f_6, f_7, f_8, f_9, sc_10, f_13, f_15, f_16, rfl, hl_1, hh_2, hl_11, hh_12, hr_14⟩ := o0
  refine va_get (D := (dC, dI)) (ci := 4) (v := .ref (r0 6)) (C := RX6) (T := TX6) (N := 12) hx hb hts iw_X6_isKnown_X6 hown hK hP 0 rfl rfl 7 (by decide) (hts (.fieldLink RX6 35 "HungFloors$Papers" "untoldAt" "[I") (by decide +kernel)) (fun _ h9 => h9) rfl dX6_isKnown_1 ?_
  refine lv_iload_n hx hb dX6_isKnown_4 rfl (lv_at hl 1 rfl) ?_
  refine va_iald hx hb hK hP 7 1 rfl rfl (v_in rfl (by omega) (by omega)) dX6_isKnown_5 ?_
  refine lv_topi (fun z_17 ez_17 => ?_)
  refine lv_if_lt (tgt := 23) hx hb dX6_isKnown_6 (by decide) (fun c_18 => ?_) (fun c_18 => ?_)
  · have c_18 : z_17.toInt < 0 := f_lt rfl tI_0 c_18
    refine lv_iconst (v := 0) hx hb dX6_isKnown_23 (by decide) ?_
    refine lv_istore_n (lv' := [(3, .int 0), (0, .ref h0), (1, .int p1), (2, .int p2)]) hx hb dX6_isKnown_24 rfl hl (by decide) rfl (fun ls hl => ?_)
    refine lv_aload_n hx hb dX6_isKnown_25 rfl (lv_at hl 1 rfl) ?_
    refine va_get (D := (dC, dI)) (ci := 4) (v := .ref (r0 5)) (C := RX6) (T := TX6) (N := 12) hx hb hts iw_X6_isKnown_X6 hown hK hP 0 rfl rfl 6 (by decide) (hts (.fieldLink RX6 32 "HungFloors$Papers" "toldAt" "[I") (by decide +kernel)) (fun _ h9 => h9) rfl dX6_isKnown_26 ?_
    refine lv_iload_n hx hb dX6_isKnown_29 rfl (lv_at hl 2 rfl) ?_
    refine va_iald hx hb hK hP 6 1 rfl rfl (v_in rfl (by omega) (by omega)) dX6_isKnown_30 ?_
    refine lv_topi (fun z_19 ez_19 => ?_)
    refine lv_iload_n hx hb dX6_isKnown_31 rfl (lv_at hl 3 rfl) ?_
    refine lv_icmp_gt (tgt := 43) hx hb dX6_isKnown_32 (by decide) (fun c_20 => ?_) (fun c_20 => ?_)
    · have c_20 : p2.toInt < z_19.toInt := f_lt rfl rfl c_20
      refine lv_iconst (v := 0) hx hb dX6_isKnown_43 (by decide) ?_
      rw [hQ0]
      exact W.zret (v := 0) hx hb hr (by decide) (fun t ht hW => ⟨⟨0, (), rfl, ⟨by decide, by decide⟩, ⟨by rw [ht]; exact hP, hD⟩⟩, hS.F ht⟩) hS.2.2 dX6_isKnown_44
    · have c_20 : z_19.toInt ≤ p2.toInt := f_nlt rfl rfl c_20
      refine lv_iload_n hx hb dX6_isKnown_35 rfl (lv_at hl 0 rfl) ?_
      refine lv_if_ne (tgt := 43) hx hb dX6_isKnown_36 (by decide) (fun c_21 => absurd c_21 (by decide)) (fun c_21 => ?_)
      refine lv_iconst (v := 1) hx hb dX6_isKnown_39 (by decide) ?_
      refine lv_goto (tgt := 44) hx hb dX6_isKnown_40 (by decide) ?_
      rw [hQ0]
      exact W.zret (v := 1) hx hb hr (by decide) (fun t ht hW => ⟨⟨1, (), rfl, ⟨by decide, by decide⟩, ⟨by rw [ht]; exact hP, hD⟩⟩, hS.F ht⟩) hS.2.2 dX6_isKnown_44
  · have c_18 : 0 ≤ z_17.toInt := f_nlt rfl tI_0 c_18
    refine lv_aload_n hx hb dX6_isKnown_9 rfl (lv_at hl 0 rfl) ?_
    refine va_get (D := (dC, dI)) (ci := 4) (v := .ref (r0 6)) (C := RX6) (T := TX6) (N := 12) hx hb hts iw_X6_isKnown_X6 hown hK hP 0 rfl rfl 7 (by decide) (hts (.fieldLink RX6 35 "HungFloors$Papers" "untoldAt" "[I") (by decide +kernel)) (fun _ h9 => h9) rfl dX6_isKnown_10 ?_
    refine lv_iload_n hx hb dX6_isKnown_13 rfl (lv_at hl 1 rfl) ?_
    refine va_iald hx hb hK hP 7 1 rfl rfl (v_in rfl (by omega) (by omega)) dX6_isKnown_14 ?_
    refine lv_topi (fun z_22 ez_22 => ?_)
    have qz_22 : z_22.toInt = z_17.toInt := by rw [ez_22, ez_17]
    refine lv_iload_n hx hb dX6_isKnown_15 rfl (lv_at hl 2 rfl) ?_
    refine lv_icmp_gt (tgt := 23) hx hb dX6_isKnown_16 (by decide) (fun c_23 => ?_) (fun c_23 => ?_)
    · have c_23 : p2.toInt < z_22.toInt := f_lt rfl rfl c_23
      refine lv_iconst (v := 0) hx hb dX6_isKnown_23 (by decide) ?_
      refine lv_istore_n (lv' := [(3, .int 0), (0, .ref h0), (1, .int p1), (2, .int p2)]) hx hb dX6_isKnown_24 rfl hl (by decide) rfl (fun ls hl => ?_)
      refine lv_aload_n hx hb dX6_isKnown_25 rfl (lv_at hl 1 rfl) ?_
      refine va_get (D := (dC, dI)) (ci := 4) (v := .ref (r0 5)) (C := RX6) (T := TX6) (N := 12) hx hb hts iw_X6_isKnown_X6 hown hK hP 0 rfl rfl 6 (by decide) (hts (.fieldLink RX6 32 "HungFloors$Papers" "toldAt" "[I") (by decide +kernel)) (fun _ h9 => h9) rfl dX6_isKnown_26 ?_
      refine lv_iload_n hx hb dX6_isKnown_29 rfl (lv_at hl 2 rfl) ?_
      refine va_iald hx hb hK hP 6 1 rfl rfl (v_in rfl (by omega) (by omega)) dX6_isKnown_30 ?_
      refine lv_topi (fun z_24 ez_24 => ?_)
      refine lv_iload_n hx hb dX6_isKnown_31 rfl (lv_at hl 3 rfl) ?_
      refine lv_icmp_gt (tgt := 43) hx hb dX6_isKnown_32 (by decide) (fun c_25 => ?_) (fun c_25 => ?_)
      · have c_25 : p2.toInt < z_24.toInt := f_lt rfl rfl c_25
        refine lv_iconst (v := 0) hx hb dX6_isKnown_43 (by decide) ?_
        rw [hQ0]
        exact W.zret (v := 0) hx hb hr (by decide) (fun t ht hW => ⟨⟨0, (), rfl, ⟨by decide, by decide⟩, ⟨by rw [ht]; exact hP, hD⟩⟩, hS.F ht⟩) hS.2.2 dX6_isKnown_44
      · have c_25 : z_24.toInt ≤ p2.toInt := f_nlt rfl rfl c_25
        refine lv_iload_n hx hb dX6_isKnown_35 rfl (lv_at hl 0 rfl) ?_
        refine lv_if_ne (tgt := 43) hx hb dX6_isKnown_36 (by decide) (fun c_26 => absurd c_26 (by decide)) (fun c_26 => ?_)
        refine lv_iconst (v := 1) hx hb dX6_isKnown_39 (by decide) ?_
        refine lv_goto (tgt := 44) hx hb dX6_isKnown_40 (by decide) ?_
        rw [hQ0]
        exact W.zret (v := 1) hx hb hr (by decide) (fun t ht hW => ⟨⟨1, (), rfl, ⟨by decide, by decide⟩, ⟨by rw [ht]; exact hP, hD⟩⟩, hS.F ht⟩) hS.2.2 dX6_isKnown_44
    · have c_23 : z_22.toInt ≤ p2.toInt := f_nlt rfl rfl c_23
      refine lv_iconst (v := 1) hx hb dX6_isKnown_19 (by decide) ?_
      refine lv_goto (tgt := 24) hx hb dX6_isKnown_20 (by decide) ?_
      refine lv_istore_n (lv' := [(3, .int 1), (0, .ref h0), (1, .int p1), (2, .int p2)]) hx hb dX6_isKnown_24 rfl hl (by decide) rfl (fun ls hl => ?_)
      refine lv_aload_n hx hb dX6_isKnown_25 rfl (lv_at hl 1 rfl) ?_
      refine va_get (D := (dC, dI)) (ci := 4) (v := .ref (r0 5)) (C := RX6) (T := TX6) (N := 12) hx hb hts iw_X6_isKnown_X6 hown hK hP 0 rfl rfl 6 (by decide) (hts (.fieldLink RX6 32 "HungFloors$Papers" "toldAt" "[I") (by decide +kernel)) (fun _ h9 => h9) rfl dX6_isKnown_26 ?_
      refine lv_iload_n hx hb dX6_isKnown_29 rfl (lv_at hl 2 rfl) ?_
      refine va_iald hx hb hK hP 6 1 rfl rfl (v_in rfl (by omega) (by omega)) dX6_isKnown_30 ?_
      refine lv_topi (fun z_27 ez_27 => ?_)
      refine lv_iload_n hx hb dX6_isKnown_31 rfl (lv_at hl 3 rfl) ?_
      refine lv_icmp_gt (tgt := 43) hx hb dX6_isKnown_32 (by decide) (fun c_28 => ?_) (fun c_28 => ?_)
      · have c_28 : p2.toInt < z_27.toInt := f_lt rfl rfl c_28
        refine lv_iconst (v := 0) hx hb dX6_isKnown_43 (by decide) ?_
        rw [hQ0]
        exact W.zret (v := 0) hx hb hr (by decide) (fun t ht hW => ⟨⟨0, (), rfl, ⟨by decide, by decide⟩, ⟨by rw [ht]; exact hP, hD⟩⟩, hS.F ht⟩) hS.2.2 dX6_isKnown_44
      · have c_28 : z_27.toInt ≤ p2.toInt := f_nlt rfl rfl c_28
        refine lv_iload_n hx hb dX6_isKnown_35 rfl (lv_at hl 0 rfl) ?_
        refine lv_if_ne (tgt := 43) hx hb dX6_isKnown_36 (by decide) (fun c_29 => ?_) (fun c_29 => absurd c_29 (by decide))
        refine lv_iconst (v := 0) hx hb dX6_isKnown_43 (by decide) ?_
        rw [hQ0]
        exact W.zret (v := 0) hx hb hr (by decide) (fun t ht hW => ⟨⟨0, (), rfl, ⟨by decide, by decide⟩, ⟨by rw [ht]; exact hP, hD⟩⟩, hS.F ht⟩) hS.2.2 dX6_isKnown_44
theorem iw_X6_isOf_X6 : ∀ w ∈ wsX60, w ∈ wsX6_isOf := fun _ h => List.mem_cons_of_mem _ (List.mem_append_right _ h)
set_option maxHeartbeats 4000000 in
set_option maxRecDepth 100000 in
theorem c_X6_isOf (l : Launch) (dC : Nat → ClassId) (dI : Nat → Nat → Nat) (ad : Nat → Nat) (tN : Nat) (fN : Nat → Int64) (cB cI cJ cZ : ClassId) (h0 : Nat) (p1 : Int32) (p2 : Int32) (p3 : Int32) (r0 : Nat → Nat) (pc0 : Int32) (w0 : va_W) (o0 : ok_pap ad cB cI cJ cZ h0 r0 pc0 w0) (sz : Nat) (up11 : 0 ≤ p1.toInt) (up12 : p1.toInt ≤ 59) : Met l yX6_isOf wsX6_isOf ({ frames := 0, cells := 0, slots := 0, locals := 0 } : Room) (va_Pc [.ref h0, .int p1, .int p2, .int p3] (fun U => U.heap.size = sz ∧ va_P (dC, dI) vwCl (List.flatten [w0]) U.heap ∧ va_K (dC, dI) vwCl [(cB, .byte), (cI, .int), (cJ, .long), (cZ, .boolean)] U ∧ va_D (fun _ => True) (List.flatten [w0]) ∧ ex_Y ad tN fN (va_A (List.flatten [w0]) sz) U)) (va_Qi (fun (r : Int32) (_ : Unit) => 0 ≤ r.toInt ∧ r.toInt ≤ 1) (fun (_ : Unit) (t : State) => va_P (dC, dI) vwCl (List.flatten [w0]) t.heap ∧ va_D (va_A (List.flatten [w0]) sz) (List.flatten [w0])) (va_A (List.flatten [w0]) sz)) 0 0 (va_A (List.flatten [w0]) sz) := by
  refine Met.ofW (cc := cX6_isOf) (maxL := 4) (ret := (some .boolean)) (by decide) rfl ?_
  intro p e s m args below meth c s₁ B hml hv
  obtain ⟨rfl, hsz, hP, hK, hD0, hE⟩ := hv
  have hx := B.exec
  have hb := B.bytes
  have hr := B.returns
  have hts := atoms_spec (ws := wsX6_isOf) B.pre
  have hown : s.vm.findClass RX6 = some m.cls := findClass_of_methodNamed B.named
  have hlocks := B.notSynchronized
  subst hsz
  have hD := hD0.self (sz := s.heap.size)
  generalize hAe : va_A (List.flatten [w0]) s.heap.size = A at hD hE ⊢
  have hA : ∀ q : Nat, s.heap.size ≤ q → A q := fun q h => by rw [← hAe]; exact Or.inr h
  have hS : va_S A s.heap s.heap [] := va_S.rf
  have hl := lv_entry ([.ref h0, .int p1, .int p2, .int p3]) (n := 4) (Nat.le_of_ble_eq_true rfl)
  rw [lg_entry_eq]
  generalize (lg_sl ([.ref h0, .int p1, .int p2, .int p3]) ++ List.replicate (4 - (lg_sl ([.ref h0, .int p1, .int p2, .int p3])).length) Slot.unset).toArray = ls at hl ⊢
  have hl : lv_has ls 4 [(0, .ref h0), (1, .int p1), (2, .int p2), (3, .int p3)] := hl
  clear hAe
  refine W_name (fun Q0 hQ0 => ?_)
  refine lv_aload_n hx hb dX6_isOf_0 rfl (lv_at hl 0 rfl) ?_
  obtain ⟨f_3, f_4, f_5, f_6, f_7, f_8, f_9, sc_10, f_13, f_15, f_16, rfl, hl_1, hh_2, hl_11, hh_12, hr_14⟩ := o0
  refine va_get (D := (dC, dI)) (ci := 4) (v := .ref (r0 0)) (C := RX6) (T := TX6) (N := 12) hx hb hts iw_X6_isOf_X6 hown hK hP 0 rfl rfl 1 (by decide) (hts (.fieldLink RX6 15 "HungFloors$Papers" "office" "[I") (by decide +kernel)) (fun _ h9 => h9) rfl dX6_isOf_1 ?_
  refine lv_iload_n hx hb dX6_isOf_4 rfl (lv_at hl 1 rfl) ?_
  refine va_iald hx hb hK hP 1 1 rfl rfl (v_in rfl (by omega) (by omega)) dX6_isOf_5 ?_
  refine lv_topi (fun z_17 ez_17 => ?_)
  refine lv_iload_n hx hb dX6_isOf_6 rfl (lv_at hl 2 rfl) ?_
  refine lv_icmp_ne (tgt := 24) hx hb dX6_isOf_7 (by decide) (fun c_18 => ?_) (fun c_18 => ?_)
  · have c_18 : ¬ z_17.toInt = p2.toInt := f_ne rfl rfl c_18
    refine lv_iconst (v := 0) hx hb dX6_isOf_24 (by decide) ?_
    rw [hQ0]
    exact W.zret (v := 0) hx hb hr (by decide) (fun t ht hW => ⟨⟨0, (), rfl, ⟨by decide, by decide⟩, ⟨by rw [ht]; exact hP, hD⟩⟩, hS.F ht⟩) hS.2.2 dX6_isOf_25
  · have c_18 : z_17.toInt = p2.toInt := f_eq rfl rfl c_18
    refine lv_aload_n hx hb dX6_isOf_10 rfl (lv_at hl 0 rfl) ?_
    refine va_get (D := (dC, dI)) (ci := 4) (v := .ref (r0 2)) (C := RX6) (T := TX6) (N := 12) hx hb hts iw_X6_isOf_X6 hown hK hP 0 rfl rfl 3 (by decide) (hts (.fieldLink RX6 22 "HungFloors$Papers" "drawing" "[I") (by decide +kernel)) (fun _ h9 => h9) rfl dX6_isOf_11 ?_
    refine lv_iload_n hx hb dX6_isOf_14 rfl (lv_at hl 1 rfl) ?_
    refine va_iald hx hb hK hP 3 1 rfl rfl (v_in rfl (by omega) (by omega)) dX6_isOf_15 ?_
    refine lv_topi (fun z_19 ez_19 => ?_)
    refine lv_iload_n hx hb dX6_isOf_16 rfl (lv_at hl 3 rfl) ?_
    refine lv_icmp_ne (tgt := 24) hx hb dX6_isOf_17 (by decide) (fun c_20 => ?_) (fun c_20 => ?_)
    · have c_20 : ¬ z_19.toInt = p3.toInt := f_ne rfl rfl c_20
      refine lv_iconst (v := 0) hx hb dX6_isOf_24 (by decide) ?_
      rw [hQ0]
      exact W.zret (v := 0) hx hb hr (by decide) (fun t ht hW => ⟨⟨0, (), rfl, ⟨by decide, by decide⟩, ⟨by rw [ht]; exact hP, hD⟩⟩, hS.F ht⟩) hS.2.2 dX6_isOf_25
    · have c_20 : z_19.toInt = p3.toInt := f_eq rfl rfl c_20
      refine lv_iconst (v := 1) hx hb dX6_isOf_20 (by decide) ?_
      refine lv_goto (tgt := 25) hx hb dX6_isOf_21 (by decide) ?_
      rw [hQ0]
      exact W.zret (v := 1) hx hb hr (by decide) (fun t ht hW => ⟨⟨1, (), rfl, ⟨by decide, by decide⟩, ⟨by rw [ht]; exact hP, hD⟩⟩, hS.F ht⟩) hS.2.2 dX6_isOf_25
theorem iw_X6_hoursUpTo_X6 : ∀ w ∈ wsX60, w ∈ wsX6_hoursUpTo := fun _ h => List.mem_cons_of_mem _ (List.mem_append_right _ h)
set_option maxHeartbeats 4000000 in
set_option maxRecDepth 100000 in
theorem c_X6_hoursUpTo (l : Launch) (dC : Nat → ClassId) (dI : Nat → Nat → Nat) (ad : Nat → Nat) (tN : Nat) (fN : Nat → Int64) (cB cI cJ cZ : ClassId) (h0 : Nat) (p1 : Int32) (p2 : Int32) (p3 : Int32) (p4 : Int32) (r0 : Nat → Nat) (pc0 : Int32) (w0 : va_W) (o0 : ok_pap ad cB cI cJ cZ h0 r0 pc0 w0) (sz : Nat) : Met l yX6_hoursUpTo wsX6_hoursUpTo ({ frames := 1, cells := 0, slots := 0, locals := 23 } : Room) (va_Pc [.ref h0, .int p1, .int p2, .int p3, .int p4] (fun U => U.heap.size = sz ∧ va_P (dC, dI) vwCl (List.flatten [w0]) U.heap ∧ va_K (dC, dI) vwCl [(cB, .byte), (cI, .int), (cJ, .long), (cZ, .boolean)] U ∧ va_D (fun _ => True) (List.flatten [w0]) ∧ ex_Y ad tN fN (va_A (List.flatten [w0]) sz) U)) (va_Qi (fun (r : Int32) (_ : Unit) => True) (fun (_ : Unit) (t : State) => va_P (dC, dI) vwCl (List.flatten [w0]) t.heap ∧ va_D (va_A (List.flatten [w0]) sz) (List.flatten [w0])) (va_A (List.flatten [w0]) sz)) 0 0 (va_A (List.flatten [w0]) sz) := by
  refine Met.ofW (cc := cX6_hoursUpTo) (maxL := 7) (ret := (some .int)) (by decide) rfl ?_
  intro p e s m args below meth c s₁ B hml hv
  obtain ⟨rfl, hsz, hP, hK, hD0, hE⟩ := hv
  have hx := B.exec
  have hb := B.bytes
  have hr := B.returns
  have hts := atoms_spec (ws := wsX6_hoursUpTo) B.pre
  have hown : s.vm.findClass RX6 = some m.cls := findClass_of_methodNamed B.named
  have hlocks := B.notSynchronized
  subst hsz
  have hD := hD0.self (sz := s.heap.size)
  generalize hAe : va_A (List.flatten [w0]) s.heap.size = A at hD hE ⊢
  have hA : ∀ q : Nat, s.heap.size ≤ q → A q := fun q h => by rw [← hAe]; exact Or.inr h
  have hS : va_S A s.heap s.heap [] := va_S.rf
  have hl := lv_entry ([.ref h0, .int p1, .int p2, .int p3, .int p4]) (n := 7) (Nat.le_of_ble_eq_true rfl)
  rw [lg_entry_eq]
  generalize (lg_sl ([.ref h0, .int p1, .int p2, .int p3, .int p4]) ++ List.replicate (7 - (lg_sl ([.ref h0, .int p1, .int p2, .int p3, .int p4])).length) Slot.unset).toArray = ls at hl ⊢
  have hl : lv_has ls 7 [(0, .ref h0), (1, .int p1), (2, .int p2), (3, .int p3), (4, .int p4)] := hl
  clear hAe
  refine W_name (fun Q0 hQ0 => ?_)
  refine lv_iconst (v := 0) hx hb dX6_hoursUpTo_0 (by decide) ?_
  refine lv_istore (lv' := [(5, .int 0), (0, .ref h0), (1, .int p1), (2, .int p2), (3, .int p3), (4, .int p4)]) hx hb dX6_hoursUpTo_1 hl (by decide) rfl (fun ls hl => ?_)
  refine lv_iconst (v := 0) hx hb dX6_hoursUpTo_3 (by decide) ?_
  refine lv_istore (lv' := [(6, .int 0), (5, .int 0), (0, .ref h0), (1, .int p1), (2, .int p2), (3, .int p3), (4, .int p4)]) hx hb dX6_hoursUpTo_4 hl (by decide) rfl (fun ls hl => ?_)
  obtain ⟨f_34, f_35, f_36, f_37, f_38, f_39, f_40, sc_41, f_44, f_46, f_47, rfl, hl_32, hh_33, hl_42, hh_43, hr_45⟩ := o0
  have lp_233 : ∀ (n : Nat) (g_1 : Int32) (g_2 : Int32), 0 ≤ g_1.toInt → g_1.toInt ≤ 70 → g_1.toInt - pc0.toInt ≤ 0 → (70 - g_1.toInt).toNat < n → ∀ (H : Heap) (locs : List Loc), va_P (dC, dI) vwCl (List.flatten [[(h0, .inr (4, [.int pc0, .ref (r0 0), .ref (r0 1), .ref (r0 2), .ref (r0 3), .ref (r0 4), .ref (r0 5), .ref (r0 6), .int sc_41, .ref (r0 7), .ref (r0 8), .ref (r0 9)])), (r0 0, .inl (cI, 60, .inl f_34)), (r0 1, .inl (cI, 60, .inl f_35)), (r0 2, .inl (cI, 60, .inl f_36)), (r0 3, .inl (cI, 60, .inl f_37)), (r0 4, .inl (cZ, 60, .inl f_38)), (r0 5, .inl (cI, 60, .inl f_39)), (r0 6, .inl (cI, 60, .inl f_40)), (r0 7, .inl (cI, 9, .inl f_44)), (r0 8, .inl (cI, 9, .inl f_46)), (r0 9, .inl (cI, 9, .inl f_47))]]) H → va_D A (List.flatten [[(h0, .inr (4, [.int pc0, .ref (r0 0), .ref (r0 1), .ref (r0 2), .ref (r0 3), .ref (r0 4), .ref (r0 5), .ref (r0 6), .int sc_41, .ref (r0 7), .ref (r0 8), .ref (r0 9)])), (r0 0, .inl (cI, 60, .inl f_34)), (r0 1, .inl (cI, 60, .inl f_35)), (r0 2, .inl (cI, 60, .inl f_36)), (r0 3, .inl (cI, 60, .inl f_37)), (r0 4, .inl (cZ, 60, .inl f_38)), (r0 5, .inl (cI, 60, .inl f_39)), (r0 6, .inl (cI, 60, .inl f_40)), (r0 7, .inl (cI, 9, .inl f_44)), (r0 8, .inl (cI, 9, .inl f_46)), (r0 9, .inl (cI, 9, .inl f_47))]]) → va_S A s.heap H locs → ∀ (ls : Array Slot), lv_has ls 7 [(6, .int g_1), (5, .int g_2), (0, .ref h0), (1, .int p1), (2, .int p2), (3, .int p3), (4, .int p4)] → W p l e (headSpec wsX6_hoursUpTo ({ frames := 1, cells := 0, slots := 0, locals := 23 } : Room)).room s m ([.ref h0, .int p1, .int p2, .int p3, .int p4] : List Value).toArray below meth c H locs 0 0 Q0 (F0 m 6 ls []) := by
    intro n
    induction n with
    | zero => intro g_1 g_2 iv_230 iv_231 iv_232 hm; exact absurd hm (Nat.not_lt_zero _)
    | succ n ih_234 =>
      intro g_1 g_2 iv_230 iv_231 iv_232 hm H locs hP hD hS ls hl
      refine lv_iload hx hb dX6_hoursUpTo_6 (lv_at hl 0 rfl) ?_
      refine lv_aload_n hx hb dX6_hoursUpTo_8 rfl (lv_at hl 2 rfl) ?_
      refine va_get (D := (dC, dI)) (ci := 4) (v := .int pc0) (C := RX6) (T := TX6) (N := 12) hx hb hts iw_X6_hoursUpTo_X6 hown hK hP 0 rfl rfl 0 (by decide) (hts (.fieldLink RX6 9 "HungFloors$Papers" "count" "I") (by decide +kernel)) (fun _ h9 => h9) rfl dX6_hoursUpTo_9 ?_
      refine lv_icmp_ge (tgt := 66) hx hb dX6_hoursUpTo_12 (by decide) (fun c_235 => ?_) (fun c_235 => ?_)
      · have c_235 : pc0.toInt ≤ g_1.toInt := f_le rfl rfl c_235
        refine lv_iload hx hb dX6_hoursUpTo_66 (lv_at hl 1 rfl) ?_
        rw [hQ0]
        exact W.iret (v := g_2) hx hb hr (fun t ht hW => ⟨⟨g_2, (), rfl, trivial, ⟨by rw [ht]; exact hP, hD⟩⟩, hS.F ht⟩) hS.2.2 dX6_hoursUpTo_68
      · have c_235 : g_1.toInt < pc0.toInt := f_nle rfl rfl c_235
        refine lv_aload_n hx hb dX6_hoursUpTo_15 rfl (lv_at hl 2 rfl) ?_
        refine va_get (D := (dC, dI)) (ci := 4) (v := .ref (r0 1)) (C := RX6) (T := TX6) (N := 12) hx hb hts iw_X6_hoursUpTo_X6 hown hK hP 0 rfl rfl 2 (by decide) (hts (.fieldLink RX6 19 "HungFloors$Papers" "day" "[I") (by decide +kernel)) (fun _ h9 => h9) rfl dX6_hoursUpTo_16 ?_
        refine lv_iload hx hb dX6_hoursUpTo_19 (lv_at hl 0 rfl) ?_
        refine va_iald hx hb hK hP 2 1 rfl rfl (v_in rfl (by omega) (by omega)) dX6_hoursUpTo_21 ?_
        refine lv_topi (fun z_236 ez_236 => ?_)
        refine lv_iload_n hx hb dX6_hoursUpTo_22 rfl (lv_at hl 5 rfl) ?_
        refine lv_icmp_gt (tgt := 60) hx hb dX6_hoursUpTo_23 (by decide) (fun c_237 => ?_) (fun c_237 => ?_)
        · have c_237 : p3.toInt < z_236.toInt := f_lt rfl rfl c_237
          obtain ⟨z_238, ez_238⟩ : ∃ y : Int32, y = g_1 + 1 := ⟨_, rfl⟩
          have hz_238 : z_238.toInt = g_1.toInt + 1 := by rw [ez_238]; exact t_add rfl tI_1 (by omega) (by omega)
          refine lv_iinc (v := z_238) (lv' := [(6, .int z_238), (5, .int g_2), (0, .ref h0), (1, .int p1), (2, .int p2), (3, .int p3), (4, .int p4)]) hx hb dX6_hoursUpTo_60 hl (k := 0) rfl (by rw [ez_238]; rfl) (by decide) rfl (fun ls hl => ?_)
          refine lv_goto (tgt := 6) hx hb dX6_hoursUpTo_63 (by decide) ?_
          exact ih_234 z_238 g_2 (by omega) (by omega) (by omega) (by omega) _ _ hP hD hS ls (lv_sub hl [0, 1, 2, 3, 4, 5, 6] rfl)
        · have c_237 : z_236.toInt ≤ p3.toInt := f_nlt rfl rfl c_237
          refine lv_aload_n hx hb dX6_hoursUpTo_26 rfl (lv_at hl 2 rfl) ?_
          refine lv_iload hx hb dX6_hoursUpTo_27 (lv_at hl 0 rfl) ?_
          refine lv_iload_n hx hb dX6_hoursUpTo_29 rfl (lv_at hl 3 rfl) ?_
          refine lv_iload_n hx hb dX6_hoursUpTo_30 rfl (lv_at hl 4 rfl) ?_
          have hpm : List.Perm ([[(h0, .inr (4, [.int pc0, .ref (r0 0), .ref (r0 1), .ref (r0 2), .ref (r0 3), .ref (r0 4), .ref (r0 5), .ref (r0 6), .int sc_41, .ref (r0 7), .ref (r0 8), .ref (r0 9)])), (r0 0, .inl (cI, 60, .inl f_34)), (r0 1, .inl (cI, 60, .inl f_35)), (r0 2, .inl (cI, 60, .inl f_36)), (r0 3, .inl (cI, 60, .inl f_37)), (r0 4, .inl (cZ, 60, .inl f_38)), (r0 5, .inl (cI, 60, .inl f_39)), (r0 6, .inl (cI, 60, .inl f_40)), (r0 7, .inl (cI, 9, .inl f_44)), (r0 8, .inl (cI, 9, .inl f_46)), (r0 9, .inl (cI, 9, .inl f_47))]] : List va_W) (([[(h0, .inr (4, [.int pc0, .ref (r0 0), .ref (r0 1), .ref (r0 2), .ref (r0 3), .ref (r0 4), .ref (r0 5), .ref (r0 6), .int sc_41, .ref (r0 7), .ref (r0 8), .ref (r0 9)])), (r0 0, .inl (cI, 60, .inl f_34)), (r0 1, .inl (cI, 60, .inl f_35)), (r0 2, .inl (cI, 60, .inl f_36)), (r0 3, .inl (cI, 60, .inl f_37)), (r0 4, .inl (cZ, 60, .inl f_38)), (r0 5, .inl (cI, 60, .inl f_39)), (r0 6, .inl (cI, 60, .inl f_40)), (r0 7, .inl (cI, 9, .inl f_44)), (r0 8, .inl (cI, 9, .inl f_46)), (r0 9, .inl (cI, 9, .inl f_47))]] : List va_W) ++ ([] : List va_W)) := pm_n 1 [0] (by decide) rfl rfl
          have hPc := bk_P hpm hP
          have hDc := bk_D hpm hD
          have hFc := bk_F hpm hD hS hA
          refine va_calli (va_runV (As := [.int g_1, .int p1, .int p2]) (rest := []) ⟨hx, hb, hml, hown, hts⟩ (c_X6_isOf l dC dI ad tN fN cB cI cJ cZ h0 g_1 p1 p2 r0 pc0 _ ⟨f_34, f_35, f_36, f_37, f_38, f_39, f_40, sc_41, f_44, f_46, f_47, rfl, by omega, by omega, by omega, by omega, hr_45⟩ H.size (by omega) (by omega)) (cwV 3 hts gX6_hoursUpTo_X6_isOf rfl rfl rfl (by decide +kernel) ⟨(Nat.le_of_ble_eq_true rfl), (Nat.le_of_ble_eq_true rfl)⟩) ⟨fun a U g mk q => by obtain ⟨q0, q1, qP, qK, qD, qE⟩ := q; exact ⟨q0, q1, qP, va_K.moved (u := U) (U := U.calling g mk a) (Vm.Alike.refl U.vm) qK, qD, ey_blind qE⟩, va_recv hK hPc (ci := 4) (q0 := 0) rfl rfl, fun U hU hW => ⟨rfl, by rw [hU], by rw [hU]; exact hPc, va_K.moved hW.alike hK, hDc.weaken (fun _ _ _ _ => trivial), ey_call hE hS hFc hU hW⟩⟩ rfl rfl hl.1 rfl (lv_room (Nat.le_of_ble_eq_true rfl)) dX6_hoursUpTo_31 ⟨(Nat.le_of_ble_eq_true rfl), (Nat.le_of_ble_eq_true rfl)⟩) hS (fun q _ h => hFc q h) hFc (fun r_239 u t H locs ht hvm hw hB hz1 hk1 hS => ?_)
          obtain ⟨hP1, hD1⟩ := hB
          rw [ht] at hP1
          obtain ⟨hP, hD⟩ := bk_join hpm hP hD hk1 hFc (Cs1 := [[(h0, .inr (4, [.int pc0, .ref (r0 0), .ref (r0 1), .ref (r0 2), .ref (r0 3), .ref (r0 4), .ref (r0 5), .ref (r0 6), .int sc_41, .ref (r0 7), .ref (r0 8), .ref (r0 9)])), (r0 0, .inl (cI, 60, .inl f_34)), (r0 1, .inl (cI, 60, .inl f_35)), (r0 2, .inl (cI, 60, .inl f_36)), (r0 3, .inl (cI, 60, .inl f_37)), (r0 4, .inl (cZ, 60, .inl f_38)), (r0 5, .inl (cI, 60, .inl f_39)), (r0 6, .inl (cI, 60, .inl f_40)), (r0 7, .inl (cI, 9, .inl f_44)), (r0 8, .inl (cI, 9, .inl f_46)), (r0 9, .inl (cI, 9, .inl f_47))]]) hP1 hD1
          have hpm2 : List.Perm (([[(h0, .inr (4, [.int pc0, .ref (r0 0), .ref (r0 1), .ref (r0 2), .ref (r0 3), .ref (r0 4), .ref (r0 5), .ref (r0 6), .int sc_41, .ref (r0 7), .ref (r0 8), .ref (r0 9)])), (r0 0, .inl (cI, 60, .inl f_34)), (r0 1, .inl (cI, 60, .inl f_35)), (r0 2, .inl (cI, 60, .inl f_36)), (r0 3, .inl (cI, 60, .inl f_37)), (r0 4, .inl (cZ, 60, .inl f_38)), (r0 5, .inl (cI, 60, .inl f_39)), (r0 6, .inl (cI, 60, .inl f_40)), (r0 7, .inl (cI, 9, .inl f_44)), (r0 8, .inl (cI, 9, .inl f_46)), (r0 9, .inl (cI, 9, .inl f_47))]] : List va_W) ++ ([] : List va_W)) ([[(h0, .inr (4, [.int pc0, .ref (r0 0), .ref (r0 1), .ref (r0 2), .ref (r0 3), .ref (r0 4), .ref (r0 5), .ref (r0 6), .int sc_41, .ref (r0 7), .ref (r0 8), .ref (r0 9)])), (r0 0, .inl (cI, 60, .inl f_34)), (r0 1, .inl (cI, 60, .inl f_35)), (r0 2, .inl (cI, 60, .inl f_36)), (r0 3, .inl (cI, 60, .inl f_37)), (r0 4, .inl (cZ, 60, .inl f_38)), (r0 5, .inl (cI, 60, .inl f_39)), (r0 6, .inl (cI, 60, .inl f_40)), (r0 7, .inl (cI, 9, .inl f_44)), (r0 8, .inl (cI, 9, .inl f_46)), (r0 9, .inl (cI, 9, .inl f_47))]] : List va_W) := pm_n 1 [0] (by decide) rfl rfl
          have hP := bk_reP hpm2 hP
          have hD := bk_reD hpm2 hD
          have hP : va_P (dC, dI) vwCl (List.flatten [[(h0, .inr (4, [.int pc0, .ref (r0 0), .ref (r0 1), .ref (r0 2), .ref (r0 3), .ref (r0 4), .ref (r0 5), .ref (r0 6), .int sc_41, .ref (r0 7), .ref (r0 8), .ref (r0 9)])), (r0 0, .inl (cI, 60, .inl f_34)), (r0 1, .inl (cI, 60, .inl f_35)), (r0 2, .inl (cI, 60, .inl f_36)), (r0 3, .inl (cI, 60, .inl f_37)), (r0 4, .inl (cZ, 60, .inl f_38)), (r0 5, .inl (cI, 60, .inl f_39)), (r0 6, .inl (cI, 60, .inl f_40)), (r0 7, .inl (cI, 9, .inl f_44)), (r0 8, .inl (cI, 9, .inl f_46)), (r0 9, .inl (cI, 9, .inl f_47))]]) H := hP
          have hD : va_D A (List.flatten [[(h0, .inr (4, [.int pc0, .ref (r0 0), .ref (r0 1), .ref (r0 2), .ref (r0 3), .ref (r0 4), .ref (r0 5), .ref (r0 6), .int sc_41, .ref (r0 7), .ref (r0 8), .ref (r0 9)])), (r0 0, .inl (cI, 60, .inl f_34)), (r0 1, .inl (cI, 60, .inl f_35)), (r0 2, .inl (cI, 60, .inl f_36)), (r0 3, .inl (cI, 60, .inl f_37)), (r0 4, .inl (cZ, 60, .inl f_38)), (r0 5, .inl (cI, 60, .inl f_39)), (r0 6, .inl (cI, 60, .inl f_40)), (r0 7, .inl (cI, 9, .inl f_44)), (r0 8, .inl (cI, 9, .inl f_46)), (r0 9, .inl (cI, 9, .inl f_47))]]) := hD
          obtain ⟨hlr_239, hhr_239⟩ := hw
          refine lv_if_eq (tgt := 60) hx hb dX6_hoursUpTo_34 (by decide) (fun c_240 => ?_) (fun c_240 => ?_)
          · have c_240 : r_239.toInt = 0 := f_eq rfl tI_0 c_240
            obtain ⟨z_241, ez_241⟩ : ∃ y : Int32, y = g_1 + 1 := ⟨_, rfl⟩
            have hz_241 : z_241.toInt = g_1.toInt + 1 := by rw [ez_241]; exact t_add rfl tI_1 (by omega) (by omega)
            refine lv_iinc (v := z_241) (lv' := [(6, .int z_241), (5, .int g_2), (0, .ref h0), (1, .int p1), (2, .int p2), (3, .int p3), (4, .int p4)]) hx hb dX6_hoursUpTo_60 hl (k := 0) rfl (by rw [ez_241]; rfl) (by decide) rfl (fun ls hl => ?_)
            refine lv_goto (tgt := 6) hx hb dX6_hoursUpTo_63 (by decide) ?_
            exact ih_234 z_241 g_2 (by omega) (by omega) (by omega) (by omega) _ _ hP hD hS ls (lv_sub hl [0, 1, 2, 3, 4, 5, 6] rfl)
          · have c_240 : ¬ r_239.toInt = 0 := f_ne rfl tI_0 c_240
            refine lv_aload_n hx hb dX6_hoursUpTo_37 rfl (lv_at hl 2 rfl) ?_
            refine lv_iload hx hb dX6_hoursUpTo_38 (lv_at hl 0 rfl) ?_
            refine lv_iload hx hb dX6_hoursUpTo_40 (lv_at hl 6 rfl) ?_
            have hpm : List.Perm ([[(h0, .inr (4, [.int pc0, .ref (r0 0), .ref (r0 1), .ref (r0 2), .ref (r0 3), .ref (r0 4), .ref (r0 5), .ref (r0 6), .int sc_41, .ref (r0 7), .ref (r0 8), .ref (r0 9)])), (r0 0, .inl (cI, 60, .inl f_34)), (r0 1, .inl (cI, 60, .inl f_35)), (r0 2, .inl (cI, 60, .inl f_36)), (r0 3, .inl (cI, 60, .inl f_37)), (r0 4, .inl (cZ, 60, .inl f_38)), (r0 5, .inl (cI, 60, .inl f_39)), (r0 6, .inl (cI, 60, .inl f_40)), (r0 7, .inl (cI, 9, .inl f_44)), (r0 8, .inl (cI, 9, .inl f_46)), (r0 9, .inl (cI, 9, .inl f_47))]] : List va_W) (([[(h0, .inr (4, [.int pc0, .ref (r0 0), .ref (r0 1), .ref (r0 2), .ref (r0 3), .ref (r0 4), .ref (r0 5), .ref (r0 6), .int sc_41, .ref (r0 7), .ref (r0 8), .ref (r0 9)])), (r0 0, .inl (cI, 60, .inl f_34)), (r0 1, .inl (cI, 60, .inl f_35)), (r0 2, .inl (cI, 60, .inl f_36)), (r0 3, .inl (cI, 60, .inl f_37)), (r0 4, .inl (cZ, 60, .inl f_38)), (r0 5, .inl (cI, 60, .inl f_39)), (r0 6, .inl (cI, 60, .inl f_40)), (r0 7, .inl (cI, 9, .inl f_44)), (r0 8, .inl (cI, 9, .inl f_46)), (r0 9, .inl (cI, 9, .inl f_47))]] : List va_W) ++ ([] : List va_W)) := pm_n 1 [0] (by decide) rfl rfl
            have hPc := bk_P hpm hP
            have hDc := bk_D hpm hD
            have hFc := bk_F hpm hD hS hA
            refine va_calli (va_runV (As := [.int g_1, .int p4]) (rest := []) ⟨hx, hb, hml, hown, hts⟩ (c_X6_isKnown l dC dI ad tN fN cB cI cJ cZ h0 g_1 p4 r0 pc0 _ ⟨f_34, f_35, f_36, f_37, f_38, f_39, f_40, sc_41, f_44, f_46, f_47, rfl, by omega, by omega, by omega, by omega, hr_45⟩ H.size (by omega) (by omega)) (cwV 2 hts gX6_hoursUpTo_X6_isKnown rfl rfl rfl (by decide +kernel) ⟨(Nat.le_of_ble_eq_true rfl), (Nat.le_of_ble_eq_true rfl)⟩) ⟨fun a U g mk q => by obtain ⟨q0, q1, qP, qK, qD, qE⟩ := q; exact ⟨q0, q1, qP, va_K.moved (u := U) (U := U.calling g mk a) (Vm.Alike.refl U.vm) qK, qD, ey_blind qE⟩, va_recv hK hPc (ci := 4) (q0 := 0) rfl rfl, fun U hU hW => ⟨rfl, by rw [hU], by rw [hU]; exact hPc, va_K.moved hW.alike hK, hDc.weaken (fun _ _ _ _ => trivial), ey_call hE hS hFc hU hW⟩⟩ rfl rfl hl.1 rfl (lv_room (Nat.le_of_ble_eq_true rfl)) dX6_hoursUpTo_42 ⟨(Nat.le_of_ble_eq_true rfl), (Nat.le_of_ble_eq_true rfl)⟩) hS (fun q _ h => hFc q h) hFc (fun r_242 u t H locs ht hvm hw hB hz1 hk1 hS => ?_)
            obtain ⟨hP1, hD1⟩ := hB
            rw [ht] at hP1
            obtain ⟨hP, hD⟩ := bk_join hpm hP hD hk1 hFc (Cs1 := [[(h0, .inr (4, [.int pc0, .ref (r0 0), .ref (r0 1), .ref (r0 2), .ref (r0 3), .ref (r0 4), .ref (r0 5), .ref (r0 6), .int sc_41, .ref (r0 7), .ref (r0 8), .ref (r0 9)])), (r0 0, .inl (cI, 60, .inl f_34)), (r0 1, .inl (cI, 60, .inl f_35)), (r0 2, .inl (cI, 60, .inl f_36)), (r0 3, .inl (cI, 60, .inl f_37)), (r0 4, .inl (cZ, 60, .inl f_38)), (r0 5, .inl (cI, 60, .inl f_39)), (r0 6, .inl (cI, 60, .inl f_40)), (r0 7, .inl (cI, 9, .inl f_44)), (r0 8, .inl (cI, 9, .inl f_46)), (r0 9, .inl (cI, 9, .inl f_47))]]) hP1 hD1
            have hpm2 : List.Perm (([[(h0, .inr (4, [.int pc0, .ref (r0 0), .ref (r0 1), .ref (r0 2), .ref (r0 3), .ref (r0 4), .ref (r0 5), .ref (r0 6), .int sc_41, .ref (r0 7), .ref (r0 8), .ref (r0 9)])), (r0 0, .inl (cI, 60, .inl f_34)), (r0 1, .inl (cI, 60, .inl f_35)), (r0 2, .inl (cI, 60, .inl f_36)), (r0 3, .inl (cI, 60, .inl f_37)), (r0 4, .inl (cZ, 60, .inl f_38)), (r0 5, .inl (cI, 60, .inl f_39)), (r0 6, .inl (cI, 60, .inl f_40)), (r0 7, .inl (cI, 9, .inl f_44)), (r0 8, .inl (cI, 9, .inl f_46)), (r0 9, .inl (cI, 9, .inl f_47))]] : List va_W) ++ ([] : List va_W)) ([[(h0, .inr (4, [.int pc0, .ref (r0 0), .ref (r0 1), .ref (r0 2), .ref (r0 3), .ref (r0 4), .ref (r0 5), .ref (r0 6), .int sc_41, .ref (r0 7), .ref (r0 8), .ref (r0 9)])), (r0 0, .inl (cI, 60, .inl f_34)), (r0 1, .inl (cI, 60, .inl f_35)), (r0 2, .inl (cI, 60, .inl f_36)), (r0 3, .inl (cI, 60, .inl f_37)), (r0 4, .inl (cZ, 60, .inl f_38)), (r0 5, .inl (cI, 60, .inl f_39)), (r0 6, .inl (cI, 60, .inl f_40)), (r0 7, .inl (cI, 9, .inl f_44)), (r0 8, .inl (cI, 9, .inl f_46)), (r0 9, .inl (cI, 9, .inl f_47))]] : List va_W) := pm_n 1 [0] (by decide) rfl rfl
            have hP := bk_reP hpm2 hP
            have hD := bk_reD hpm2 hD
            have hP : va_P (dC, dI) vwCl (List.flatten [[(h0, .inr (4, [.int pc0, .ref (r0 0), .ref (r0 1), .ref (r0 2), .ref (r0 3), .ref (r0 4), .ref (r0 5), .ref (r0 6), .int sc_41, .ref (r0 7), .ref (r0 8), .ref (r0 9)])), (r0 0, .inl (cI, 60, .inl f_34)), (r0 1, .inl (cI, 60, .inl f_35)), (r0 2, .inl (cI, 60, .inl f_36)), (r0 3, .inl (cI, 60, .inl f_37)), (r0 4, .inl (cZ, 60, .inl f_38)), (r0 5, .inl (cI, 60, .inl f_39)), (r0 6, .inl (cI, 60, .inl f_40)), (r0 7, .inl (cI, 9, .inl f_44)), (r0 8, .inl (cI, 9, .inl f_46)), (r0 9, .inl (cI, 9, .inl f_47))]]) H := hP
            have hD : va_D A (List.flatten [[(h0, .inr (4, [.int pc0, .ref (r0 0), .ref (r0 1), .ref (r0 2), .ref (r0 3), .ref (r0 4), .ref (r0 5), .ref (r0 6), .int sc_41, .ref (r0 7), .ref (r0 8), .ref (r0 9)])), (r0 0, .inl (cI, 60, .inl f_34)), (r0 1, .inl (cI, 60, .inl f_35)), (r0 2, .inl (cI, 60, .inl f_36)), (r0 3, .inl (cI, 60, .inl f_37)), (r0 4, .inl (cZ, 60, .inl f_38)), (r0 5, .inl (cI, 60, .inl f_39)), (r0 6, .inl (cI, 60, .inl f_40)), (r0 7, .inl (cI, 9, .inl f_44)), (r0 8, .inl (cI, 9, .inl f_46)), (r0 9, .inl (cI, 9, .inl f_47))]]) := hD
            obtain ⟨hlr_242, hhr_242⟩ := hw
            refine lv_if_eq (tgt := 60) hx hb dX6_hoursUpTo_45 (by decide) (fun c_243 => ?_) (fun c_243 => ?_)
            · have c_243 : r_242.toInt = 0 := f_eq rfl tI_0 c_243
              obtain ⟨z_244, ez_244⟩ : ∃ y : Int32, y = g_1 + 1 := ⟨_, rfl⟩
              have hz_244 : z_244.toInt = g_1.toInt + 1 := by rw [ez_244]; exact t_add rfl tI_1 (by omega) (by omega)
              refine lv_iinc (v := z_244) (lv' := [(6, .int z_244), (5, .int g_2), (0, .ref h0), (1, .int p1), (2, .int p2), (3, .int p3), (4, .int p4)]) hx hb dX6_hoursUpTo_60 hl (k := 0) rfl (by rw [ez_244]; rfl) (by decide) rfl (fun ls hl => ?_)
              refine lv_goto (tgt := 6) hx hb dX6_hoursUpTo_63 (by decide) ?_
              exact ih_234 z_244 g_2 (by omega) (by omega) (by omega) (by omega) _ _ hP hD hS ls (lv_sub hl [0, 1, 2, 3, 4, 5, 6] rfl)
            · have c_243 : ¬ r_242.toInt = 0 := f_ne rfl tI_0 c_243
              refine lv_iload hx hb dX6_hoursUpTo_48 (lv_at hl 1 rfl) ?_
              refine lv_aload_n hx hb dX6_hoursUpTo_50 rfl (lv_at hl 2 rfl) ?_
              refine va_get (D := (dC, dI)) (ci := 4) (v := .ref (r0 3)) (C := RX6) (T := TX6) (N := 12) hx hb hts iw_X6_hoursUpTo_X6 hown hK hP 0 rfl rfl 4 (by decide) (hts (.fieldLink RX6 25 "HungFloors$Papers" "hours" "[I") (by decide +kernel)) (fun _ h9 => h9) rfl dX6_hoursUpTo_51 ?_
              refine lv_iload hx hb dX6_hoursUpTo_54 (lv_at hl 0 rfl) ?_
              refine va_iald hx hb hK hP 4 1 rfl rfl (v_in rfl (by omega) (by omega)) dX6_hoursUpTo_56 ?_
              refine lv_topi (fun z_245 ez_245 => ?_)
              refine lv_iadd hx hb dX6_hoursUpTo_57 ?_
              refine lv_topi (fun z_246 ez_246 => ?_)
              refine lv_istore (lv' := [(5, .int z_246), (6, .int g_1), (0, .ref h0), (1, .int p1), (2, .int p2), (3, .int p3), (4, .int p4)]) hx hb dX6_hoursUpTo_58 hl (by decide) rfl (fun ls hl => ?_)
              obtain ⟨z_247, ez_247⟩ : ∃ y : Int32, y = g_1 + 1 := ⟨_, rfl⟩
              have hz_247 : z_247.toInt = g_1.toInt + 1 := by rw [ez_247]; exact t_add rfl tI_1 (by omega) (by omega)
              refine lv_iinc (v := z_247) (lv' := [(6, .int z_247), (5, .int z_246), (0, .ref h0), (1, .int p1), (2, .int p2), (3, .int p3), (4, .int p4)]) hx hb dX6_hoursUpTo_60 hl (k := 1) rfl (by rw [ez_247]; rfl) (by decide) rfl (fun ls hl => ?_)
              refine lv_goto (tgt := 6) hx hb dX6_hoursUpTo_63 (by decide) ?_
              exact ih_234 z_247 z_246 (by omega) (by omega) (by omega) (by omega) _ _ hP hD hS ls (lv_sub hl [0, 1, 2, 3, 4, 5, 6] rfl)
  exact lp_233 _ 0 0 (by have := tI_0; omega) (by have := tI_0; omega) (by have := tI_0; omega) (Nat.lt_succ_self _) _ _ hP hD hS ls (lv_sub hl [0, 1, 2, 3, 4, 5, 6] rfl)
