theorem iw_X3_worstJoint_X3 : ∀ w ∈ wsX30, w ∈ wsX3_worstJoint := fun _ h => List.mem_cons_of_mem _ (List.mem_append_left _ (List.mem_append_right _ h))
set_option maxHeartbeats 4000000 in
set_option maxRecDepth 100000 in
theorem c_X3_worstJoint (l : Launch) (dC : Nat → ClassId) (dI : Nat → Nat → Nat) (ad : Nat → Nat) (tN : Nat) (fN : Nat → Int64) (cB cI cJ cZ : ClassId) (h0 : Nat) (r0 : Nat → Nat) (pl0 : Nat) (w0 : va_W) (r1 : Nat → Nat) (fc1 : Int32) (dc1 : Int32) (rk1 : Nat → Int32) (w1 : va_W) (o0 : ok_frame ad cB cI cJ cZ h0 r0 pl0 w0) (o1 : ok_plan ad cB cI cJ cZ pl0 r1 fc1 dc1 rk1 w1) (sz : Nat) : Met l yX3_worstJoint wsX3_worstJoint ({ frames := 3, cells := 0, slots := 0, locals := 65 } : Room) (va_Pc [.ref h0] (fun U => U.heap.size = sz ∧ va_P (dC, dI) vwCl (List.flatten [w0, w1]) U.heap ∧ va_K (dC, dI) vwCl [(cB, .byte), (cI, .int), (cJ, .long), (cZ, .boolean)] U ∧ va_D (fun _ => True) (List.flatten [w0, w1]) ∧ ex_Y ad tN fN (va_A (List.flatten [w0, w1]) sz) U)) (va_Qi (fun (r : Int32) (_ : Unit) => -1 ≤ r.toInt ∧ r.toInt ≤ 69) (fun (_ : Unit) (t : State) => va_P (dC, dI) vwCl (List.flatten [w0, w1]) t.heap ∧ va_D (va_A (List.flatten [w0, w1]) sz) (List.flatten [w0, w1])) (va_A (List.flatten [w0, w1]) sz)) 0 0 (va_A (List.flatten [w0, w1]) sz) := by
  refine Met.ofW (cc := cX3_worstJoint) (maxL := 3) (ret := (some .int)) (by decide) rfl ?_
  intro p e s m args below meth c s₁ B hml hv
  obtain ⟨rfl, hsz, hP, hK, hD0, hE⟩ := hv
  have hx := B.exec
  have hb := B.bytes
  have hr := B.returns
  have hts := atoms_spec (ws := wsX3_worstJoint) B.pre
  have hown : s.vm.findClass RX3 = some m.cls := findClass_of_methodNamed B.named
  have hlocks := B.notSynchronized
  subst hsz
  have hD := hD0.self (sz := s.heap.size)
  generalize hAe : va_A (List.flatten [w0, w1]) s.heap.size = A at hD hE ⊢
  have hA : ∀ q : Nat, s.heap.size ≤ q → A q := fun q h => by rw [← hAe]; exact Or.inr h
  have hS : va_S A s.heap s.heap [] := va_S.rf
  have hl := lv_entry ([.ref h0]) (n := 3) (Nat.le_of_ble_eq_true rfl)
  rw [lg_entry_eq]
  generalize (lg_sl ([.ref h0]) ++ List.replicate (3 - (lg_sl ([.ref h0])).length) Slot.unset).toArray = ls at hl ⊢
  have hl : lv_has ls 3 [(0, .ref h0)] := hl
  clear hAe
  refine W_name (fun Q0 hQ0 => ?_)
  refine lv_iconst (v := (-1)) hx hb dX3_worstJoint_0 (by decide) ?_
  refine lv_istore_n (lv' := [(1, .int (-1)), (0, .ref h0)]) hx hb dX3_worstJoint_1 rfl hl (by decide) rfl (fun ls hl => ?_)
  refine lv_iconst (v := 0) hx hb dX3_worstJoint_2 (by decide) ?_
  refine lv_istore_n (lv' := [(2, .int 0), (1, .int (-1)), (0, .ref h0)]) hx hb dX3_worstJoint_3 rfl hl (by decide) rfl (fun ls hl => ?_)
  obtain ⟨fr_35, dr_38, rc_41, f_44, f_46, gn_47, f_48, f_49, f_50, f_51, f_52, sc_53, jc_54, f_57, f_59, rfl, hl_36, hh_37, hl_39, hh_40, hl_42, hh_43, hr_45, hl_55, hh_56, hr_58, hr_60⟩ := o0
  have lp_308 : ∀ (n : Nat) (g_1 : Int32) (g_2 : Int32), 0 ≤ g_1.toInt → g_1.toInt ≤ 70 → -1 ≤ g_2.toInt → g_2.toInt ≤ 70 → g_1.toInt - jc_54.toInt ≤ 0 → g_2.toInt - jc_54.toInt ≤ -1 → g_2.toInt - g_1.toInt ≤ -1 → (70 - g_1.toInt).toNat < n → ∀ (H : Heap) (locs : List Loc), va_P (dC, dI) vwCl (List.flatten [[(h0, .inr (2, [.ref pl0, .int fr_35, .int dr_38, .int rc_41, .ref (r0 0), .ref (r0 1), .int gn_47, .ref (r0 2), .ref (r0 3), .ref (r0 4), .ref (r0 5), .ref (r0 6), .long sc_53, .int jc_54, .ref (r0 7), .ref (r0 8)])), (r0 0, .inl (cI, 10, .inl f_44)), (r0 1, .inl (cI, 10, .inl f_46)), (r0 2, .inl (cI, 6, .inl f_48)), (r0 3, .inl (cJ, 6, .inr (.inl f_49))), (r0 4, .inl (cJ, 6, .inr (.inl f_50))), (r0 5, .inl (cJ, 6, .inr (.inl f_51))), (r0 6, .inl (cJ, 10, .inr (.inl f_52))), (r0 7, .inl (cI, 70, .inl f_57)), (r0 8, .inl (cI, 70, .inl f_59))], w1]) H → va_D A (List.flatten [[(h0, .inr (2, [.ref pl0, .int fr_35, .int dr_38, .int rc_41, .ref (r0 0), .ref (r0 1), .int gn_47, .ref (r0 2), .ref (r0 3), .ref (r0 4), .ref (r0 5), .ref (r0 6), .long sc_53, .int jc_54, .ref (r0 7), .ref (r0 8)])), (r0 0, .inl (cI, 10, .inl f_44)), (r0 1, .inl (cI, 10, .inl f_46)), (r0 2, .inl (cI, 6, .inl f_48)), (r0 3, .inl (cJ, 6, .inr (.inl f_49))), (r0 4, .inl (cJ, 6, .inr (.inl f_50))), (r0 5, .inl (cJ, 6, .inr (.inl f_51))), (r0 6, .inl (cJ, 10, .inr (.inl f_52))), (r0 7, .inl (cI, 70, .inl f_57)), (r0 8, .inl (cI, 70, .inl f_59))], w1]) → va_S A s.heap H locs → ∀ (ls : Array Slot), lv_has ls 3 [(2, .int g_1), (1, .int g_2), (0, .ref h0)] → W p l e (headSpec wsX3_worstJoint ({ frames := 3, cells := 0, slots := 0, locals := 65 } : Room)).room s m ([.ref h0] : List Value).toArray below meth c H locs 0 0 Q0 (F0 m 4 ls []) := by
    intro n
    induction n with
    | zero => intro g_1 g_2 iv_301 iv_302 iv_303 iv_304 iv_305 iv_306 iv_307 hm; exact absurd hm (Nat.not_lt_zero _)
    | succ n ih_309 =>
      intro g_1 g_2 iv_301 iv_302 iv_303 iv_304 iv_305 iv_306 iv_307 hm H locs hP hD hS ls hl
      refine lv_iload_n hx hb dX3_worstJoint_4 rfl (lv_at hl 0 rfl) ?_
      refine lv_aload_n hx hb dX3_worstJoint_5 rfl (lv_at hl 2 rfl) ?_
      refine va_get (D := (dC, dI)) (ci := 2) (v := .int jc_54) (C := RX3) (T := TX3) (N := 16) hx hb hts iw_X3_worstJoint_X3 hown hK hP 0 rfl rfl 13 (by decide) (hts (.fieldLink RX3 58 "HungFloors$Frame" "jointCount" "I") (by decide +kernel)) (fun _ h9 => h9) rfl dX3_worstJoint_6 ?_
      refine lv_icmp_ge (tgt := 60) hx hb dX3_worstJoint_9 (by decide) (fun c_310 => ?_) (fun c_310 => ?_)
      · have c_310 : jc_54.toInt ≤ g_1.toInt := f_le rfl rfl c_310
        refine lv_iload_n hx hb dX3_worstJoint_60 rfl (lv_at hl 1 rfl) ?_
        rw [hQ0]
        exact W.iret (v := g_2) hx hb hr (fun t ht hW => ⟨⟨g_2, (), rfl, ⟨by omega, by omega⟩, ⟨by rw [ht]; exact hP, hD⟩⟩, hS.F ht⟩) hS.2.2 dX3_worstJoint_61
      · have c_310 : g_1.toInt < jc_54.toInt := f_nle rfl rfl c_310
        refine lv_aload_n hx hb dX3_worstJoint_12 rfl (lv_at hl 2 rfl) ?_
        refine lv_iload_n hx hb dX3_worstJoint_13 rfl (lv_at hl 0 rfl) ?_
        have hpm : List.Perm ([[(h0, .inr (2, [.ref pl0, .int fr_35, .int dr_38, .int rc_41, .ref (r0 0), .ref (r0 1), .int gn_47, .ref (r0 2), .ref (r0 3), .ref (r0 4), .ref (r0 5), .ref (r0 6), .long sc_53, .int jc_54, .ref (r0 7), .ref (r0 8)])), (r0 0, .inl (cI, 10, .inl f_44)), (r0 1, .inl (cI, 10, .inl f_46)), (r0 2, .inl (cI, 6, .inl f_48)), (r0 3, .inl (cJ, 6, .inr (.inl f_49))), (r0 4, .inl (cJ, 6, .inr (.inl f_50))), (r0 5, .inl (cJ, 6, .inr (.inl f_51))), (r0 6, .inl (cJ, 10, .inr (.inl f_52))), (r0 7, .inl (cI, 70, .inl f_57)), (r0 8, .inl (cI, 70, .inl f_59))], w1] : List va_W) (([[(h0, .inr (2, [.ref pl0, .int fr_35, .int dr_38, .int rc_41, .ref (r0 0), .ref (r0 1), .int gn_47, .ref (r0 2), .ref (r0 3), .ref (r0 4), .ref (r0 5), .ref (r0 6), .long sc_53, .int jc_54, .ref (r0 7), .ref (r0 8)])), (r0 0, .inl (cI, 10, .inl f_44)), (r0 1, .inl (cI, 10, .inl f_46)), (r0 2, .inl (cI, 6, .inl f_48)), (r0 3, .inl (cJ, 6, .inr (.inl f_49))), (r0 4, .inl (cJ, 6, .inr (.inl f_50))), (r0 5, .inl (cJ, 6, .inr (.inl f_51))), (r0 6, .inl (cJ, 10, .inr (.inl f_52))), (r0 7, .inl (cI, 70, .inl f_57)), (r0 8, .inl (cI, 70, .inl f_59))]] : List va_W) ++ ([w1] : List va_W)) := pm_n 2 [0, 1] (by decide) rfl rfl
        have hPc := bk_P hpm hP
        have hDc := bk_D hpm hD
        have hFc := bk_F hpm hD hS hA
        refine va_calli (va_runV (As := [.int g_1]) (rest := []) ⟨hx, hb, hml, hown, hts⟩ (c_X3_isJointThere l dC dI ad tN fN cB cI cJ cZ h0 g_1 r0 pl0 _ ⟨fr_35, dr_38, rc_41, f_44, f_46, gn_47, f_48, f_49, f_50, f_51, f_52, sc_53, jc_54, f_57, f_59, rfl, by omega, by omega, by omega, by omega, by omega, by omega, hr_45, by omega, by omega, hr_58, hr_60⟩ H.size (by omega) (by omega)) (cwV 1 hts gX3_worstJoint_X3_isJointThere rfl rfl rfl (by decide +kernel) ⟨(Nat.le_of_ble_eq_true rfl), (Nat.le_of_ble_eq_true rfl)⟩) ⟨fun a U g mk q => by obtain ⟨q0, q1, qP, qK, qD, qE⟩ := q; exact ⟨q0, q1, qP, va_K.moved (u := U) (U := U.calling g mk a) (Vm.Alike.refl U.vm) qK, qD, ey_blind qE⟩, va_recv hK hPc (ci := 2) (q0 := 0) rfl rfl, fun U hU hW => ⟨rfl, by rw [hU], by rw [hU]; exact hPc, va_K.moved hW.alike hK, hDc.weaken (fun _ _ _ _ => trivial), ey_call hE hS hFc hU hW⟩⟩ rfl rfl hl.1 rfl (lv_room (Nat.le_of_ble_eq_true rfl)) dX3_worstJoint_14 ⟨(Nat.le_of_ble_eq_true rfl), (Nat.le_of_ble_eq_true rfl)⟩) hS (fun q _ h => hFc q h) hFc (fun r_311 u t H locs ht hvm hw hB hz1 hk1 hS => ?_)
        obtain ⟨hP1, hD1⟩ := hB
        rw [ht] at hP1
        obtain ⟨hP, hD⟩ := bk_join hpm hP hD hk1 hFc (Cs1 := [[(h0, .inr (2, [.ref pl0, .int fr_35, .int dr_38, .int rc_41, .ref (r0 0), .ref (r0 1), .int gn_47, .ref (r0 2), .ref (r0 3), .ref (r0 4), .ref (r0 5), .ref (r0 6), .long sc_53, .int jc_54, .ref (r0 7), .ref (r0 8)])), (r0 0, .inl (cI, 10, .inl f_44)), (r0 1, .inl (cI, 10, .inl f_46)), (r0 2, .inl (cI, 6, .inl f_48)), (r0 3, .inl (cJ, 6, .inr (.inl f_49))), (r0 4, .inl (cJ, 6, .inr (.inl f_50))), (r0 5, .inl (cJ, 6, .inr (.inl f_51))), (r0 6, .inl (cJ, 10, .inr (.inl f_52))), (r0 7, .inl (cI, 70, .inl f_57)), (r0 8, .inl (cI, 70, .inl f_59))]]) hP1 hD1
        have hpm2 : List.Perm (([[(h0, .inr (2, [.ref pl0, .int fr_35, .int dr_38, .int rc_41, .ref (r0 0), .ref (r0 1), .int gn_47, .ref (r0 2), .ref (r0 3), .ref (r0 4), .ref (r0 5), .ref (r0 6), .long sc_53, .int jc_54, .ref (r0 7), .ref (r0 8)])), (r0 0, .inl (cI, 10, .inl f_44)), (r0 1, .inl (cI, 10, .inl f_46)), (r0 2, .inl (cI, 6, .inl f_48)), (r0 3, .inl (cJ, 6, .inr (.inl f_49))), (r0 4, .inl (cJ, 6, .inr (.inl f_50))), (r0 5, .inl (cJ, 6, .inr (.inl f_51))), (r0 6, .inl (cJ, 10, .inr (.inl f_52))), (r0 7, .inl (cI, 70, .inl f_57)), (r0 8, .inl (cI, 70, .inl f_59))]] : List va_W) ++ ([w1] : List va_W)) ([[(h0, .inr (2, [.ref pl0, .int fr_35, .int dr_38, .int rc_41, .ref (r0 0), .ref (r0 1), .int gn_47, .ref (r0 2), .ref (r0 3), .ref (r0 4), .ref (r0 5), .ref (r0 6), .long sc_53, .int jc_54, .ref (r0 7), .ref (r0 8)])), (r0 0, .inl (cI, 10, .inl f_44)), (r0 1, .inl (cI, 10, .inl f_46)), (r0 2, .inl (cI, 6, .inl f_48)), (r0 3, .inl (cJ, 6, .inr (.inl f_49))), (r0 4, .inl (cJ, 6, .inr (.inl f_50))), (r0 5, .inl (cJ, 6, .inr (.inl f_51))), (r0 6, .inl (cJ, 10, .inr (.inl f_52))), (r0 7, .inl (cI, 70, .inl f_57)), (r0 8, .inl (cI, 70, .inl f_59))], w1] : List va_W) := pm_n 2 [0, 1] (by decide) rfl rfl
        have hP := bk_reP hpm2 hP
        have hD := bk_reD hpm2 hD
        have hP : va_P (dC, dI) vwCl (List.flatten [[(h0, .inr (2, [.ref pl0, .int fr_35, .int dr_38, .int rc_41, .ref (r0 0), .ref (r0 1), .int gn_47, .ref (r0 2), .ref (r0 3), .ref (r0 4), .ref (r0 5), .ref (r0 6), .long sc_53, .int jc_54, .ref (r0 7), .ref (r0 8)])), (r0 0, .inl (cI, 10, .inl f_44)), (r0 1, .inl (cI, 10, .inl f_46)), (r0 2, .inl (cI, 6, .inl f_48)), (r0 3, .inl (cJ, 6, .inr (.inl f_49))), (r0 4, .inl (cJ, 6, .inr (.inl f_50))), (r0 5, .inl (cJ, 6, .inr (.inl f_51))), (r0 6, .inl (cJ, 10, .inr (.inl f_52))), (r0 7, .inl (cI, 70, .inl f_57)), (r0 8, .inl (cI, 70, .inl f_59))], w1]) H := hP
        have hD : va_D A (List.flatten [[(h0, .inr (2, [.ref pl0, .int fr_35, .int dr_38, .int rc_41, .ref (r0 0), .ref (r0 1), .int gn_47, .ref (r0 2), .ref (r0 3), .ref (r0 4), .ref (r0 5), .ref (r0 6), .long sc_53, .int jc_54, .ref (r0 7), .ref (r0 8)])), (r0 0, .inl (cI, 10, .inl f_44)), (r0 1, .inl (cI, 10, .inl f_46)), (r0 2, .inl (cI, 6, .inl f_48)), (r0 3, .inl (cJ, 6, .inr (.inl f_49))), (r0 4, .inl (cJ, 6, .inr (.inl f_50))), (r0 5, .inl (cJ, 6, .inr (.inl f_51))), (r0 6, .inl (cJ, 10, .inr (.inl f_52))), (r0 7, .inl (cI, 70, .inl f_57)), (r0 8, .inl (cI, 70, .inl f_59))], w1]) := hD
        obtain ⟨hlr_311, hhr_311⟩ := hw
        refine lv_if_eq (tgt := 54) hx hb dX3_worstJoint_17 (by decide) (fun c_312 => ?_) (fun c_312 => ?_)
        · have c_312 : r_311.toInt = 0 := f_eq rfl tI_0 c_312
          obtain ⟨z_313, ez_313⟩ : ∃ y : Int32, y = g_1 + 1 := ⟨_, rfl⟩
          have hz_313 : z_313.toInt = g_1.toInt + 1 := by rw [ez_313]; exact t_add rfl tI_1 (by omega) (by omega)
          refine lv_iinc (v := z_313) (lv' := [(2, .int z_313), (1, .int g_2), (0, .ref h0)]) hx hb dX3_worstJoint_54 hl (k := 0) rfl (by rw [ez_313]; rfl) (by decide) rfl (fun ls hl => ?_)
          refine lv_goto (tgt := 4) hx hb dX3_worstJoint_57 (by decide) ?_
          exact ih_309 z_313 g_2 (by omega) (by omega) (by omega) (by omega) (by omega) (by omega) (by omega) (by omega) _ _ hP hD hS ls (lv_sub hl [0, 1, 2] rfl)
        · have c_312 : ¬ r_311.toInt = 0 := f_ne rfl tI_0 c_312
          refine lv_iload_n hx hb dX3_worstJoint_20 rfl (lv_at hl 1 rfl) ?_
          refine lv_if_lt (tgt := 52) hx hb dX3_worstJoint_21 (by decide) (fun c_314 => ?_) (fun c_314 => ?_)
          · have c_314 : g_2.toInt < 0 := f_lt rfl tI_0 c_314
            refine lv_iload_n hx hb dX3_worstJoint_52 rfl (lv_at hl 0 rfl) ?_
            refine lv_istore_n (lv' := [(1, .int g_1), (2, .int g_1), (0, .ref h0)]) hx hb dX3_worstJoint_53 rfl hl (by decide) rfl (fun ls hl => ?_)
            obtain ⟨z_315, ez_315⟩ : ∃ y : Int32, y = g_1 + 1 := ⟨_, rfl⟩
            have hz_315 : z_315.toInt = g_1.toInt + 1 := by rw [ez_315]; exact t_add rfl tI_1 (by omega) (by omega)
            refine lv_iinc (v := z_315) (lv' := [(2, .int z_315), (1, .int g_1), (0, .ref h0)]) hx hb dX3_worstJoint_54 hl (k := 1) rfl (by rw [ez_315]; rfl) (by decide) rfl (fun ls hl => ?_)
            refine lv_goto (tgt := 4) hx hb dX3_worstJoint_57 (by decide) ?_
            exact ih_309 z_315 g_1 (by omega) (by omega) (by omega) (by omega) (by omega) (by omega) (by omega) (by omega) _ _ hP hD hS ls (lv_sub hl [0, 1, 2] rfl)
          · have c_314 : 0 ≤ g_2.toInt := f_nlt rfl tI_0 c_314
            refine lv_aload_n hx hb dX3_worstJoint_24 rfl (lv_at hl 2 rfl) ?_
            refine lv_iload_n hx hb dX3_worstJoint_25 rfl (lv_at hl 0 rfl) ?_
            have hpm : List.Perm ([[(h0, .inr (2, [.ref pl0, .int fr_35, .int dr_38, .int rc_41, .ref (r0 0), .ref (r0 1), .int gn_47, .ref (r0 2), .ref (r0 3), .ref (r0 4), .ref (r0 5), .ref (r0 6), .long sc_53, .int jc_54, .ref (r0 7), .ref (r0 8)])), (r0 0, .inl (cI, 10, .inl f_44)), (r0 1, .inl (cI, 10, .inl f_46)), (r0 2, .inl (cI, 6, .inl f_48)), (r0 3, .inl (cJ, 6, .inr (.inl f_49))), (r0 4, .inl (cJ, 6, .inr (.inl f_50))), (r0 5, .inl (cJ, 6, .inr (.inl f_51))), (r0 6, .inl (cJ, 10, .inr (.inl f_52))), (r0 7, .inl (cI, 70, .inl f_57)), (r0 8, .inl (cI, 70, .inl f_59))], w1] : List va_W) (([[(h0, .inr (2, [.ref pl0, .int fr_35, .int dr_38, .int rc_41, .ref (r0 0), .ref (r0 1), .int gn_47, .ref (r0 2), .ref (r0 3), .ref (r0 4), .ref (r0 5), .ref (r0 6), .long sc_53, .int jc_54, .ref (r0 7), .ref (r0 8)])), (r0 0, .inl (cI, 10, .inl f_44)), (r0 1, .inl (cI, 10, .inl f_46)), (r0 2, .inl (cI, 6, .inl f_48)), (r0 3, .inl (cJ, 6, .inr (.inl f_49))), (r0 4, .inl (cJ, 6, .inr (.inl f_50))), (r0 5, .inl (cJ, 6, .inr (.inl f_51))), (r0 6, .inl (cJ, 10, .inr (.inl f_52))), (r0 7, .inl (cI, 70, .inl f_57)), (r0 8, .inl (cI, 70, .inl f_59))]] : List va_W) ++ ([w1] : List va_W)) := pm_n 2 [0, 1] (by decide) rfl rfl
            have hPc := bk_P hpm hP
            have hDc := bk_D hpm hD
            have hFc := bk_F hpm hD hS hA
            refine va_calll (va_runV (As := [.int g_1]) (rest := []) ⟨hx, hb, hml, hown, hts⟩ (c_X3_bornBy l dC dI ad tN fN cB cI cJ cZ h0 g_1 r0 pl0 _ ⟨fr_35, dr_38, rc_41, f_44, f_46, gn_47, f_48, f_49, f_50, f_51, f_52, sc_53, jc_54, f_57, f_59, rfl, by omega, by omega, by omega, by omega, by omega, by omega, hr_45, by omega, by omega, hr_58, hr_60⟩ H.size (by omega) (by omega)) (cwV 1 hts gX3_worstJoint_X3_bornBy rfl rfl rfl (by decide +kernel) ⟨(Nat.le_of_ble_eq_true rfl), (Nat.le_of_ble_eq_true rfl)⟩) ⟨fun a U g mk q => by obtain ⟨q0, q1, qP, qK, qD, qE⟩ := q; exact ⟨q0, q1, qP, va_K.moved (u := U) (U := U.calling g mk a) (Vm.Alike.refl U.vm) qK, qD, ey_blind qE⟩, va_recv hK hPc (ci := 2) (q0 := 0) rfl rfl, fun U hU hW => ⟨rfl, by rw [hU], by rw [hU]; exact hPc, va_K.moved hW.alike hK, hDc.weaken (fun _ _ _ _ => trivial), ey_call hE hS hFc hU hW⟩⟩ rfl rfl hl.1 rfl (lv_room (Nat.le_of_ble_eq_true rfl)) dX3_worstJoint_26 ⟨(Nat.le_of_ble_eq_true rfl), (Nat.le_of_ble_eq_true rfl)⟩) hS (fun q _ h => hFc q h) hFc (fun r_316 u t H locs ht hvm hw hB hz1 hk1 hS => ?_)
            obtain ⟨hP1, hD1⟩ := hB
            rw [ht] at hP1
            obtain ⟨hP, hD⟩ := bk_join hpm hP hD hk1 hFc (Cs1 := [[(h0, .inr (2, [.ref pl0, .int fr_35, .int dr_38, .int rc_41, .ref (r0 0), .ref (r0 1), .int gn_47, .ref (r0 2), .ref (r0 3), .ref (r0 4), .ref (r0 5), .ref (r0 6), .long sc_53, .int jc_54, .ref (r0 7), .ref (r0 8)])), (r0 0, .inl (cI, 10, .inl f_44)), (r0 1, .inl (cI, 10, .inl f_46)), (r0 2, .inl (cI, 6, .inl f_48)), (r0 3, .inl (cJ, 6, .inr (.inl f_49))), (r0 4, .inl (cJ, 6, .inr (.inl f_50))), (r0 5, .inl (cJ, 6, .inr (.inl f_51))), (r0 6, .inl (cJ, 10, .inr (.inl f_52))), (r0 7, .inl (cI, 70, .inl f_57)), (r0 8, .inl (cI, 70, .inl f_59))]]) hP1 hD1
            have hpm2 : List.Perm (([[(h0, .inr (2, [.ref pl0, .int fr_35, .int dr_38, .int rc_41, .ref (r0 0), .ref (r0 1), .int gn_47, .ref (r0 2), .ref (r0 3), .ref (r0 4), .ref (r0 5), .ref (r0 6), .long sc_53, .int jc_54, .ref (r0 7), .ref (r0 8)])), (r0 0, .inl (cI, 10, .inl f_44)), (r0 1, .inl (cI, 10, .inl f_46)), (r0 2, .inl (cI, 6, .inl f_48)), (r0 3, .inl (cJ, 6, .inr (.inl f_49))), (r0 4, .inl (cJ, 6, .inr (.inl f_50))), (r0 5, .inl (cJ, 6, .inr (.inl f_51))), (r0 6, .inl (cJ, 10, .inr (.inl f_52))), (r0 7, .inl (cI, 70, .inl f_57)), (r0 8, .inl (cI, 70, .inl f_59))]] : List va_W) ++ ([w1] : List va_W)) ([[(h0, .inr (2, [.ref pl0, .int fr_35, .int dr_38, .int rc_41, .ref (r0 0), .ref (r0 1), .int gn_47, .ref (r0 2), .ref (r0 3), .ref (r0 4), .ref (r0 5), .ref (r0 6), .long sc_53, .int jc_54, .ref (r0 7), .ref (r0 8)])), (r0 0, .inl (cI, 10, .inl f_44)), (r0 1, .inl (cI, 10, .inl f_46)), (r0 2, .inl (cI, 6, .inl f_48)), (r0 3, .inl (cJ, 6, .inr (.inl f_49))), (r0 4, .inl (cJ, 6, .inr (.inl f_50))), (r0 5, .inl (cJ, 6, .inr (.inl f_51))), (r0 6, .inl (cJ, 10, .inr (.inl f_52))), (r0 7, .inl (cI, 70, .inl f_57)), (r0 8, .inl (cI, 70, .inl f_59))], w1] : List va_W) := pm_n 2 [0, 1] (by decide) rfl rfl
            have hP := bk_reP hpm2 hP
            have hD := bk_reD hpm2 hD
            have hP : va_P (dC, dI) vwCl (List.flatten [[(h0, .inr (2, [.ref pl0, .int fr_35, .int dr_38, .int rc_41, .ref (r0 0), .ref (r0 1), .int gn_47, .ref (r0 2), .ref (r0 3), .ref (r0 4), .ref (r0 5), .ref (r0 6), .long sc_53, .int jc_54, .ref (r0 7), .ref (r0 8)])), (r0 0, .inl (cI, 10, .inl f_44)), (r0 1, .inl (cI, 10, .inl f_46)), (r0 2, .inl (cI, 6, .inl f_48)), (r0 3, .inl (cJ, 6, .inr (.inl f_49))), (r0 4, .inl (cJ, 6, .inr (.inl f_50))), (r0 5, .inl (cJ, 6, .inr (.inl f_51))), (r0 6, .inl (cJ, 10, .inr (.inl f_52))), (r0 7, .inl (cI, 70, .inl f_57)), (r0 8, .inl (cI, 70, .inl f_59))], w1]) H := hP
            have hD : va_D A (List.flatten [[(h0, .inr (2, [.ref pl0, .int fr_35, .int dr_38, .int rc_41, .ref (r0 0), .ref (r0 1), .int gn_47, .ref (r0 2), .ref (r0 3), .ref (r0 4), .ref (r0 5), .ref (r0 6), .long sc_53, .int jc_54, .ref (r0 7), .ref (r0 8)])), (r0 0, .inl (cI, 10, .inl f_44)), (r0 1, .inl (cI, 10, .inl f_46)), (r0 2, .inl (cI, 6, .inl f_48)), (r0 3, .inl (cJ, 6, .inr (.inl f_49))), (r0 4, .inl (cJ, 6, .inr (.inl f_50))), (r0 5, .inl (cJ, 6, .inr (.inl f_51))), (r0 6, .inl (cJ, 10, .inr (.inl f_52))), (r0 7, .inl (cI, 70, .inl f_57)), (r0 8, .inl (cI, 70, .inl f_59))], w1]) := hD
            refine lv_aload_n hx hb dX3_worstJoint_29 rfl (lv_at hl 2 rfl) ?_
            refine lv_iload_n hx hb dX3_worstJoint_30 rfl (lv_at hl 1 rfl) ?_
            have hpm : List.Perm ([[(h0, .inr (2, [.ref pl0, .int fr_35, .int dr_38, .int rc_41, .ref (r0 0), .ref (r0 1), .int gn_47, .ref (r0 2), .ref (r0 3), .ref (r0 4), .ref (r0 5), .ref (r0 6), .long sc_53, .int jc_54, .ref (r0 7), .ref (r0 8)])), (r0 0, .inl (cI, 10, .inl f_44)), (r0 1, .inl (cI, 10, .inl f_46)), (r0 2, .inl (cI, 6, .inl f_48)), (r0 3, .inl (cJ, 6, .inr (.inl f_49))), (r0 4, .inl (cJ, 6, .inr (.inl f_50))), (r0 5, .inl (cJ, 6, .inr (.inl f_51))), (r0 6, .inl (cJ, 10, .inr (.inl f_52))), (r0 7, .inl (cI, 70, .inl f_57)), (r0 8, .inl (cI, 70, .inl f_59))], w1] : List va_W) (([[(h0, .inr (2, [.ref pl0, .int fr_35, .int dr_38, .int rc_41, .ref (r0 0), .ref (r0 1), .int gn_47, .ref (r0 2), .ref (r0 3), .ref (r0 4), .ref (r0 5), .ref (r0 6), .long sc_53, .int jc_54, .ref (r0 7), .ref (r0 8)])), (r0 0, .inl (cI, 10, .inl f_44)), (r0 1, .inl (cI, 10, .inl f_46)), (r0 2, .inl (cI, 6, .inl f_48)), (r0 3, .inl (cJ, 6, .inr (.inl f_49))), (r0 4, .inl (cJ, 6, .inr (.inl f_50))), (r0 5, .inl (cJ, 6, .inr (.inl f_51))), (r0 6, .inl (cJ, 10, .inr (.inl f_52))), (r0 7, .inl (cI, 70, .inl f_57)), (r0 8, .inl (cI, 70, .inl f_59))], w1] : List va_W) ++ ([] : List va_W)) := pm_n 2 [0, 1] (by decide) rfl rfl
            have hPc := bk_P hpm hP
            have hDc := bk_D hpm hD
            have hFc := bk_F hpm hD hS hA
            refine va_calli (va_runV (As := [.int g_2]) (rest := [.long r_316]) ⟨hx, hb, hml, hown, hts⟩ (c_X3_canOf l dC dI ad tN fN cB cI cJ cZ h0 g_2 r0 pl0 _ r1 fc1 dc1 rk1 _ ⟨fr_35, dr_38, rc_41, f_44, f_46, gn_47, f_48, f_49, f_50, f_51, f_52, sc_53, jc_54, f_57, f_59, rfl, by omega, by omega, by omega, by omega, by omega, by omega, hr_45, by omega, by omega, hr_58, hr_60⟩ o1 H.size (by omega) (by omega)) (cwV 1 hts gX3_worstJoint_X3_canOf rfl rfl rfl (by decide +kernel) ⟨(Nat.le_of_ble_eq_true rfl), (Nat.le_of_ble_eq_true rfl)⟩) ⟨fun a U g mk q => by obtain ⟨q0, q1, qP, qK, qD, qE⟩ := q; exact ⟨q0, q1, qP, va_K.moved (u := U) (U := U.calling g mk a) (Vm.Alike.refl U.vm) qK, qD, ey_blind qE⟩, va_recv hK hPc (ci := 2) (q0 := 0) rfl rfl, fun U hU hW => ⟨rfl, by rw [hU], by rw [hU]; exact hPc, va_K.moved hW.alike hK, hDc.weaken (fun _ _ _ _ => trivial), ey_call hE hS hFc hU hW⟩⟩ rfl rfl hl.1 rfl (lv_room (Nat.le_of_ble_eq_true rfl)) dX3_worstJoint_31 ⟨(Nat.le_of_ble_eq_true rfl), (Nat.le_of_ble_eq_true rfl)⟩) hS (fun q _ h => hFc q h) hFc (fun r_317 u t H locs ht hvm hw hB hz1 hk1 hS => ?_)
            obtain ⟨hP1, hD1⟩ := hB
            rw [ht] at hP1
            obtain ⟨hP, hD⟩ := bk_join hpm hP hD hk1 hFc (Cs1 := [[(h0, .inr (2, [.ref pl0, .int fr_35, .int dr_38, .int rc_41, .ref (r0 0), .ref (r0 1), .int gn_47, .ref (r0 2), .ref (r0 3), .ref (r0 4), .ref (r0 5), .ref (r0 6), .long sc_53, .int jc_54, .ref (r0 7), .ref (r0 8)])), (r0 0, .inl (cI, 10, .inl f_44)), (r0 1, .inl (cI, 10, .inl f_46)), (r0 2, .inl (cI, 6, .inl f_48)), (r0 3, .inl (cJ, 6, .inr (.inl f_49))), (r0 4, .inl (cJ, 6, .inr (.inl f_50))), (r0 5, .inl (cJ, 6, .inr (.inl f_51))), (r0 6, .inl (cJ, 10, .inr (.inl f_52))), (r0 7, .inl (cI, 70, .inl f_57)), (r0 8, .inl (cI, 70, .inl f_59))], w1]) hP1 hD1
            have hpm2 : List.Perm (([[(h0, .inr (2, [.ref pl0, .int fr_35, .int dr_38, .int rc_41, .ref (r0 0), .ref (r0 1), .int gn_47, .ref (r0 2), .ref (r0 3), .ref (r0 4), .ref (r0 5), .ref (r0 6), .long sc_53, .int jc_54, .ref (r0 7), .ref (r0 8)])), (r0 0, .inl (cI, 10, .inl f_44)), (r0 1, .inl (cI, 10, .inl f_46)), (r0 2, .inl (cI, 6, .inl f_48)), (r0 3, .inl (cJ, 6, .inr (.inl f_49))), (r0 4, .inl (cJ, 6, .inr (.inl f_50))), (r0 5, .inl (cJ, 6, .inr (.inl f_51))), (r0 6, .inl (cJ, 10, .inr (.inl f_52))), (r0 7, .inl (cI, 70, .inl f_57)), (r0 8, .inl (cI, 70, .inl f_59))], w1] : List va_W) ++ ([] : List va_W)) ([[(h0, .inr (2, [.ref pl0, .int fr_35, .int dr_38, .int rc_41, .ref (r0 0), .ref (r0 1), .int gn_47, .ref (r0 2), .ref (r0 3), .ref (r0 4), .ref (r0 5), .ref (r0 6), .long sc_53, .int jc_54, .ref (r0 7), .ref (r0 8)])), (r0 0, .inl (cI, 10, .inl f_44)), (r0 1, .inl (cI, 10, .inl f_46)), (r0 2, .inl (cI, 6, .inl f_48)), (r0 3, .inl (cJ, 6, .inr (.inl f_49))), (r0 4, .inl (cJ, 6, .inr (.inl f_50))), (r0 5, .inl (cJ, 6, .inr (.inl f_51))), (r0 6, .inl (cJ, 10, .inr (.inl f_52))), (r0 7, .inl (cI, 70, .inl f_57)), (r0 8, .inl (cI, 70, .inl f_59))], w1] : List va_W) := pm_n 2 [0, 1] (by decide) rfl rfl
            have hP := bk_reP hpm2 hP
            have hD := bk_reD hpm2 hD
            have hP : va_P (dC, dI) vwCl (List.flatten [[(h0, .inr (2, [.ref pl0, .int fr_35, .int dr_38, .int rc_41, .ref (r0 0), .ref (r0 1), .int gn_47, .ref (r0 2), .ref (r0 3), .ref (r0 4), .ref (r0 5), .ref (r0 6), .long sc_53, .int jc_54, .ref (r0 7), .ref (r0 8)])), (r0 0, .inl (cI, 10, .inl f_44)), (r0 1, .inl (cI, 10, .inl f_46)), (r0 2, .inl (cI, 6, .inl f_48)), (r0 3, .inl (cJ, 6, .inr (.inl f_49))), (r0 4, .inl (cJ, 6, .inr (.inl f_50))), (r0 5, .inl (cJ, 6, .inr (.inl f_51))), (r0 6, .inl (cJ, 10, .inr (.inl f_52))), (r0 7, .inl (cI, 70, .inl f_57)), (r0 8, .inl (cI, 70, .inl f_59))], w1]) H := hP
            have hD : va_D A (List.flatten [[(h0, .inr (2, [.ref pl0, .int fr_35, .int dr_38, .int rc_41, .ref (r0 0), .ref (r0 1), .int gn_47, .ref (r0 2), .ref (r0 3), .ref (r0 4), .ref (r0 5), .ref (r0 6), .long sc_53, .int jc_54, .ref (r0 7), .ref (r0 8)])), (r0 0, .inl (cI, 10, .inl f_44)), (r0 1, .inl (cI, 10, .inl f_46)), (r0 2, .inl (cI, 6, .inl f_48)), (r0 3, .inl (cJ, 6, .inr (.inl f_49))), (r0 4, .inl (cJ, 6, .inr (.inl f_50))), (r0 5, .inl (cJ, 6, .inr (.inl f_51))), (r0 6, .inl (cJ, 10, .inr (.inl f_52))), (r0 7, .inl (cI, 70, .inl f_57)), (r0 8, .inl (cI, 70, .inl f_59))], w1]) := hD
            obtain ⟨z_318, ez_318⟩ : ∃ y : Int64, (r_317 : Int32).toInt64 = y := ⟨_, rfl⟩
            refine lv_i2l (v := z_318) hx hb dX3_worstJoint_34 ez_318 ?_
            refine lv_lmul hx hb dX3_worstJoint_35 ?_
            refine lv_topl (fun z_319 ez_319 => ?_)
            refine lv_aload_n hx hb dX3_worstJoint_36 rfl (lv_at hl 2 rfl) ?_
            refine lv_iload_n hx hb dX3_worstJoint_37 rfl (lv_at hl 1 rfl) ?_
            have hpm : List.Perm ([[(h0, .inr (2, [.ref pl0, .int fr_35, .int dr_38, .int rc_41, .ref (r0 0), .ref (r0 1), .int gn_47, .ref (r0 2), .ref (r0 3), .ref (r0 4), .ref (r0 5), .ref (r0 6), .long sc_53, .int jc_54, .ref (r0 7), .ref (r0 8)])), (r0 0, .inl (cI, 10, .inl f_44)), (r0 1, .inl (cI, 10, .inl f_46)), (r0 2, .inl (cI, 6, .inl f_48)), (r0 3, .inl (cJ, 6, .inr (.inl f_49))), (r0 4, .inl (cJ, 6, .inr (.inl f_50))), (r0 5, .inl (cJ, 6, .inr (.inl f_51))), (r0 6, .inl (cJ, 10, .inr (.inl f_52))), (r0 7, .inl (cI, 70, .inl f_57)), (r0 8, .inl (cI, 70, .inl f_59))], w1] : List va_W) (([[(h0, .inr (2, [.ref pl0, .int fr_35, .int dr_38, .int rc_41, .ref (r0 0), .ref (r0 1), .int gn_47, .ref (r0 2), .ref (r0 3), .ref (r0 4), .ref (r0 5), .ref (r0 6), .long sc_53, .int jc_54, .ref (r0 7), .ref (r0 8)])), (r0 0, .inl (cI, 10, .inl f_44)), (r0 1, .inl (cI, 10, .inl f_46)), (r0 2, .inl (cI, 6, .inl f_48)), (r0 3, .inl (cJ, 6, .inr (.inl f_49))), (r0 4, .inl (cJ, 6, .inr (.inl f_50))), (r0 5, .inl (cJ, 6, .inr (.inl f_51))), (r0 6, .inl (cJ, 10, .inr (.inl f_52))), (r0 7, .inl (cI, 70, .inl f_57)), (r0 8, .inl (cI, 70, .inl f_59))]] : List va_W) ++ ([w1] : List va_W)) := pm_n 2 [0, 1] (by decide) rfl rfl
            have hPc := bk_P hpm hP
            have hDc := bk_D hpm hD
            have hFc := bk_F hpm hD hS hA
            refine va_calll (va_runV (As := [.int g_2]) (rest := [.long z_319]) ⟨hx, hb, hml, hown, hts⟩ (c_X3_bornBy l dC dI ad tN fN cB cI cJ cZ h0 g_2 r0 pl0 _ ⟨fr_35, dr_38, rc_41, f_44, f_46, gn_47, f_48, f_49, f_50, f_51, f_52, sc_53, jc_54, f_57, f_59, rfl, by omega, by omega, by omega, by omega, by omega, by omega, hr_45, by omega, by omega, hr_58, hr_60⟩ H.size (by omega) (by omega)) (cwV 1 hts gX3_worstJoint_X3_bornBy rfl rfl rfl (by decide +kernel) ⟨(Nat.le_of_ble_eq_true rfl), (Nat.le_of_ble_eq_true rfl)⟩) ⟨fun a U g mk q => by obtain ⟨q0, q1, qP, qK, qD, qE⟩ := q; exact ⟨q0, q1, qP, va_K.moved (u := U) (U := U.calling g mk a) (Vm.Alike.refl U.vm) qK, qD, ey_blind qE⟩, va_recv hK hPc (ci := 2) (q0 := 0) rfl rfl, fun U hU hW => ⟨rfl, by rw [hU], by rw [hU]; exact hPc, va_K.moved hW.alike hK, hDc.weaken (fun _ _ _ _ => trivial), ey_call hE hS hFc hU hW⟩⟩ rfl rfl hl.1 rfl (lv_room (Nat.le_of_ble_eq_true rfl)) dX3_worstJoint_38 ⟨(Nat.le_of_ble_eq_true rfl), (Nat.le_of_ble_eq_true rfl)⟩) hS (fun q _ h => hFc q h) hFc (fun r_320 u t H locs ht hvm hw hB hz1 hk1 hS => ?_)
            obtain ⟨hP1, hD1⟩ := hB
            rw [ht] at hP1
            obtain ⟨hP, hD⟩ := bk_join hpm hP hD hk1 hFc (Cs1 := [[(h0, .inr (2, [.ref pl0, .int fr_35, .int dr_38, .int rc_41, .ref (r0 0), .ref (r0 1), .int gn_47, .ref (r0 2), .ref (r0 3), .ref (r0 4), .ref (r0 5), .ref (r0 6), .long sc_53, .int jc_54, .ref (r0 7), .ref (r0 8)])), (r0 0, .inl (cI, 10, .inl f_44)), (r0 1, .inl (cI, 10, .inl f_46)), (r0 2, .inl (cI, 6, .inl f_48)), (r0 3, .inl (cJ, 6, .inr (.inl f_49))), (r0 4, .inl (cJ, 6, .inr (.inl f_50))), (r0 5, .inl (cJ, 6, .inr (.inl f_51))), (r0 6, .inl (cJ, 10, .inr (.inl f_52))), (r0 7, .inl (cI, 70, .inl f_57)), (r0 8, .inl (cI, 70, .inl f_59))]]) hP1 hD1
            have hpm2 : List.Perm (([[(h0, .inr (2, [.ref pl0, .int fr_35, .int dr_38, .int rc_41, .ref (r0 0), .ref (r0 1), .int gn_47, .ref (r0 2), .ref (r0 3), .ref (r0 4), .ref (r0 5), .ref (r0 6), .long sc_53, .int jc_54, .ref (r0 7), .ref (r0 8)])), (r0 0, .inl (cI, 10, .inl f_44)), (r0 1, .inl (cI, 10, .inl f_46)), (r0 2, .inl (cI, 6, .inl f_48)), (r0 3, .inl (cJ, 6, .inr (.inl f_49))), (r0 4, .inl (cJ, 6, .inr (.inl f_50))), (r0 5, .inl (cJ, 6, .inr (.inl f_51))), (r0 6, .inl (cJ, 10, .inr (.inl f_52))), (r0 7, .inl (cI, 70, .inl f_57)), (r0 8, .inl (cI, 70, .inl f_59))]] : List va_W) ++ ([w1] : List va_W)) ([[(h0, .inr (2, [.ref pl0, .int fr_35, .int dr_38, .int rc_41, .ref (r0 0), .ref (r0 1), .int gn_47, .ref (r0 2), .ref (r0 3), .ref (r0 4), .ref (r0 5), .ref (r0 6), .long sc_53, .int jc_54, .ref (r0 7), .ref (r0 8)])), (r0 0, .inl (cI, 10, .inl f_44)), (r0 1, .inl (cI, 10, .inl f_46)), (r0 2, .inl (cI, 6, .inl f_48)), (r0 3, .inl (cJ, 6, .inr (.inl f_49))), (r0 4, .inl (cJ, 6, .inr (.inl f_50))), (r0 5, .inl (cJ, 6, .inr (.inl f_51))), (r0 6, .inl (cJ, 10, .inr (.inl f_52))), (r0 7, .inl (cI, 70, .inl f_57)), (r0 8, .inl (cI, 70, .inl f_59))], w1] : List va_W) := pm_n 2 [0, 1] (by decide) rfl rfl
            have hP := bk_reP hpm2 hP
            have hD := bk_reD hpm2 hD
            have hP : va_P (dC, dI) vwCl (List.flatten [[(h0, .inr (2, [.ref pl0, .int fr_35, .int dr_38, .int rc_41, .ref (r0 0), .ref (r0 1), .int gn_47, .ref (r0 2), .ref (r0 3), .ref (r0 4), .ref (r0 5), .ref (r0 6), .long sc_53, .int jc_54, .ref (r0 7), .ref (r0 8)])), (r0 0, .inl (cI, 10, .inl f_44)), (r0 1, .inl (cI, 10, .inl f_46)), (r0 2, .inl (cI, 6, .inl f_48)), (r0 3, .inl (cJ, 6, .inr (.inl f_49))), (r0 4, .inl (cJ, 6, .inr (.inl f_50))), (r0 5, .inl (cJ, 6, .inr (.inl f_51))), (r0 6, .inl (cJ, 10, .inr (.inl f_52))), (r0 7, .inl (cI, 70, .inl f_57)), (r0 8, .inl (cI, 70, .inl f_59))], w1]) H := hP
            have hD : va_D A (List.flatten [[(h0, .inr (2, [.ref pl0, .int fr_35, .int dr_38, .int rc_41, .ref (r0 0), .ref (r0 1), .int gn_47, .ref (r0 2), .ref (r0 3), .ref (r0 4), .ref (r0 5), .ref (r0 6), .long sc_53, .int jc_54, .ref (r0 7), .ref (r0 8)])), (r0 0, .inl (cI, 10, .inl f_44)), (r0 1, .inl (cI, 10, .inl f_46)), (r0 2, .inl (cI, 6, .inl f_48)), (r0 3, .inl (cJ, 6, .inr (.inl f_49))), (r0 4, .inl (cJ, 6, .inr (.inl f_50))), (r0 5, .inl (cJ, 6, .inr (.inl f_51))), (r0 6, .inl (cJ, 10, .inr (.inl f_52))), (r0 7, .inl (cI, 70, .inl f_57)), (r0 8, .inl (cI, 70, .inl f_59))], w1]) := hD
            refine lv_aload_n hx hb dX3_worstJoint_41 rfl (lv_at hl 2 rfl) ?_
            refine lv_iload_n hx hb dX3_worstJoint_42 rfl (lv_at hl 0 rfl) ?_
            have hpm : List.Perm ([[(h0, .inr (2, [.ref pl0, .int fr_35, .int dr_38, .int rc_41, .ref (r0 0), .ref (r0 1), .int gn_47, .ref (r0 2), .ref (r0 3), .ref (r0 4), .ref (r0 5), .ref (r0 6), .long sc_53, .int jc_54, .ref (r0 7), .ref (r0 8)])), (r0 0, .inl (cI, 10, .inl f_44)), (r0 1, .inl (cI, 10, .inl f_46)), (r0 2, .inl (cI, 6, .inl f_48)), (r0 3, .inl (cJ, 6, .inr (.inl f_49))), (r0 4, .inl (cJ, 6, .inr (.inl f_50))), (r0 5, .inl (cJ, 6, .inr (.inl f_51))), (r0 6, .inl (cJ, 10, .inr (.inl f_52))), (r0 7, .inl (cI, 70, .inl f_57)), (r0 8, .inl (cI, 70, .inl f_59))], w1] : List va_W) (([[(h0, .inr (2, [.ref pl0, .int fr_35, .int dr_38, .int rc_41, .ref (r0 0), .ref (r0 1), .int gn_47, .ref (r0 2), .ref (r0 3), .ref (r0 4), .ref (r0 5), .ref (r0 6), .long sc_53, .int jc_54, .ref (r0 7), .ref (r0 8)])), (r0 0, .inl (cI, 10, .inl f_44)), (r0 1, .inl (cI, 10, .inl f_46)), (r0 2, .inl (cI, 6, .inl f_48)), (r0 3, .inl (cJ, 6, .inr (.inl f_49))), (r0 4, .inl (cJ, 6, .inr (.inl f_50))), (r0 5, .inl (cJ, 6, .inr (.inl f_51))), (r0 6, .inl (cJ, 10, .inr (.inl f_52))), (r0 7, .inl (cI, 70, .inl f_57)), (r0 8, .inl (cI, 70, .inl f_59))], w1] : List va_W) ++ ([] : List va_W)) := pm_n 2 [0, 1] (by decide) rfl rfl
            have hPc := bk_P hpm hP
            have hDc := bk_D hpm hD
            have hFc := bk_F hpm hD hS hA
            refine va_calli (va_runV (As := [.int g_1]) (rest := [.long r_320, .long z_319]) ⟨hx, hb, hml, hown, hts⟩ (c_X3_canOf l dC dI ad tN fN cB cI cJ cZ h0 g_1 r0 pl0 _ r1 fc1 dc1 rk1 _ ⟨fr_35, dr_38, rc_41, f_44, f_46, gn_47, f_48, f_49, f_50, f_51, f_52, sc_53, jc_54, f_57, f_59, rfl, by omega, by omega, by omega, by omega, by omega, by omega, hr_45, by omega, by omega, hr_58, hr_60⟩ o1 H.size (by omega) (by omega)) (cwV 1 hts gX3_worstJoint_X3_canOf rfl rfl rfl (by decide +kernel) ⟨(Nat.le_of_ble_eq_true rfl), (Nat.le_of_ble_eq_true rfl)⟩) ⟨fun a U g mk q => by obtain ⟨q0, q1, qP, qK, qD, qE⟩ := q; exact ⟨q0, q1, qP, va_K.moved (u := U) (U := U.calling g mk a) (Vm.Alike.refl U.vm) qK, qD, ey_blind qE⟩, va_recv hK hPc (ci := 2) (q0 := 0) rfl rfl, fun U hU hW => ⟨rfl, by rw [hU], by rw [hU]; exact hPc, va_K.moved hW.alike hK, hDc.weaken (fun _ _ _ _ => trivial), ey_call hE hS hFc hU hW⟩⟩ rfl rfl hl.1 rfl (lv_room (Nat.le_of_ble_eq_true rfl)) dX3_worstJoint_43 ⟨(Nat.le_of_ble_eq_true rfl), (Nat.le_of_ble_eq_true rfl)⟩) hS (fun q _ h => hFc q h) hFc (fun r_321 u t H locs ht hvm hw hB hz1 hk1 hS => ?_)
            obtain ⟨hP1, hD1⟩ := hB
            rw [ht] at hP1
            obtain ⟨hP, hD⟩ := bk_join hpm hP hD hk1 hFc (Cs1 := [[(h0, .inr (2, [.ref pl0, .int fr_35, .int dr_38, .int rc_41, .ref (r0 0), .ref (r0 1), .int gn_47, .ref (r0 2), .ref (r0 3), .ref (r0 4), .ref (r0 5), .ref (r0 6), .long sc_53, .int jc_54, .ref (r0 7), .ref (r0 8)])), (r0 0, .inl (cI, 10, .inl f_44)), (r0 1, .inl (cI, 10, .inl f_46)), (r0 2, .inl (cI, 6, .inl f_48)), (r0 3, .inl (cJ, 6, .inr (.inl f_49))), (r0 4, .inl (cJ, 6, .inr (.inl f_50))), (r0 5, .inl (cJ, 6, .inr (.inl f_51))), (r0 6, .inl (cJ, 10, .inr (.inl f_52))), (r0 7, .inl (cI, 70, .inl f_57)), (r0 8, .inl (cI, 70, .inl f_59))], w1]) hP1 hD1
            have hpm2 : List.Perm (([[(h0, .inr (2, [.ref pl0, .int fr_35, .int dr_38, .int rc_41, .ref (r0 0), .ref (r0 1), .int gn_47, .ref (r0 2), .ref (r0 3), .ref (r0 4), .ref (r0 5), .ref (r0 6), .long sc_53, .int jc_54, .ref (r0 7), .ref (r0 8)])), (r0 0, .inl (cI, 10, .inl f_44)), (r0 1, .inl (cI, 10, .inl f_46)), (r0 2, .inl (cI, 6, .inl f_48)), (r0 3, .inl (cJ, 6, .inr (.inl f_49))), (r0 4, .inl (cJ, 6, .inr (.inl f_50))), (r0 5, .inl (cJ, 6, .inr (.inl f_51))), (r0 6, .inl (cJ, 10, .inr (.inl f_52))), (r0 7, .inl (cI, 70, .inl f_57)), (r0 8, .inl (cI, 70, .inl f_59))], w1] : List va_W) ++ ([] : List va_W)) ([[(h0, .inr (2, [.ref pl0, .int fr_35, .int dr_38, .int rc_41, .ref (r0 0), .ref (r0 1), .int gn_47, .ref (r0 2), .ref (r0 3), .ref (r0 4), .ref (r0 5), .ref (r0 6), .long sc_53, .int jc_54, .ref (r0 7), .ref (r0 8)])), (r0 0, .inl (cI, 10, .inl f_44)), (r0 1, .inl (cI, 10, .inl f_46)), (r0 2, .inl (cI, 6, .inl f_48)), (r0 3, .inl (cJ, 6, .inr (.inl f_49))), (r0 4, .inl (cJ, 6, .inr (.inl f_50))), (r0 5, .inl (cJ, 6, .inr (.inl f_51))), (r0 6, .inl (cJ, 10, .inr (.inl f_52))), (r0 7, .inl (cI, 70, .inl f_57)), (r0 8, .inl (cI, 70, .inl f_59))], w1] : List va_W) := pm_n 2 [0, 1] (by decide) rfl rfl
            have hP := bk_reP hpm2 hP
            have hD := bk_reD hpm2 hD
            have hP : va_P (dC, dI) vwCl (List.flatten [[(h0, .inr (2, [.ref pl0, .int fr_35, .int dr_38, .int rc_41, .ref (r0 0), .ref (r0 1), .int gn_47, .ref (r0 2), .ref (r0 3), .ref (r0 4), .ref (r0 5), .ref (r0 6), .long sc_53, .int jc_54, .ref (r0 7), .ref (r0 8)])), (r0 0, .inl (cI, 10, .inl f_44)), (r0 1, .inl (cI, 10, .inl f_46)), (r0 2, .inl (cI, 6, .inl f_48)), (r0 3, .inl (cJ, 6, .inr (.inl f_49))), (r0 4, .inl (cJ, 6, .inr (.inl f_50))), (r0 5, .inl (cJ, 6, .inr (.inl f_51))), (r0 6, .inl (cJ, 10, .inr (.inl f_52))), (r0 7, .inl (cI, 70, .inl f_57)), (r0 8, .inl (cI, 70, .inl f_59))], w1]) H := hP
            have hD : va_D A (List.flatten [[(h0, .inr (2, [.ref pl0, .int fr_35, .int dr_38, .int rc_41, .ref (r0 0), .ref (r0 1), .int gn_47, .ref (r0 2), .ref (r0 3), .ref (r0 4), .ref (r0 5), .ref (r0 6), .long sc_53, .int jc_54, .ref (r0 7), .ref (r0 8)])), (r0 0, .inl (cI, 10, .inl f_44)), (r0 1, .inl (cI, 10, .inl f_46)), (r0 2, .inl (cI, 6, .inl f_48)), (r0 3, .inl (cJ, 6, .inr (.inl f_49))), (r0 4, .inl (cJ, 6, .inr (.inl f_50))), (r0 5, .inl (cJ, 6, .inr (.inl f_51))), (r0 6, .inl (cJ, 10, .inr (.inl f_52))), (r0 7, .inl (cI, 70, .inl f_57)), (r0 8, .inl (cI, 70, .inl f_59))], w1]) := hD
            obtain ⟨z_322, ez_322⟩ : ∃ y : Int64, (r_321 : Int32).toInt64 = y := ⟨_, rfl⟩
            refine lv_i2l (v := z_322) hx hb dX3_worstJoint_46 ez_322 ?_
            refine lv_lmul hx hb dX3_worstJoint_47 ?_
            refine lv_topl (fun z_323 ez_323 => ?_)
            refine W.lcmp hx hb dX3_worstJoint_48 ?_
            refine lv_topi (fun z_324 ez_324 => ?_)
            refine lv_if_le (tgt := 54) hx hb dX3_worstJoint_49 (by decide) (fun c_325 => ?_) (fun c_325 => ?_)
            · have c_325 : z_324.toInt ≤ 0 := f_le rfl tI_0 c_325
              obtain ⟨z_326, ez_326⟩ : ∃ y : Int32, y = g_1 + 1 := ⟨_, rfl⟩
              have hz_326 : z_326.toInt = g_1.toInt + 1 := by rw [ez_326]; exact t_add rfl tI_1 (by omega) (by omega)
              refine lv_iinc (v := z_326) (lv' := [(2, .int z_326), (1, .int g_2), (0, .ref h0)]) hx hb dX3_worstJoint_54 hl (k := 0) rfl (by rw [ez_326]; rfl) (by decide) rfl (fun ls hl => ?_)
              refine lv_goto (tgt := 4) hx hb dX3_worstJoint_57 (by decide) ?_
              exact ih_309 z_326 g_2 (by omega) (by omega) (by omega) (by omega) (by omega) (by omega) (by omega) (by omega) _ _ hP hD hS ls (lv_sub hl [0, 1, 2] rfl)
            · have c_325 : 0 < z_324.toInt := f_nle rfl tI_0 c_325
              refine lv_iload_n hx hb dX3_worstJoint_52 rfl (lv_at hl 0 rfl) ?_
              refine lv_istore_n (lv' := [(1, .int g_1), (2, .int g_1), (0, .ref h0)]) hx hb dX3_worstJoint_53 rfl hl (by decide) rfl (fun ls hl => ?_)
              obtain ⟨z_327, ez_327⟩ : ∃ y : Int32, y = g_1 + 1 := ⟨_, rfl⟩
              have hz_327 : z_327.toInt = g_1.toInt + 1 := by rw [ez_327]; exact t_add rfl tI_1 (by omega) (by omega)
              refine lv_iinc (v := z_327) (lv' := [(2, .int z_327), (1, .int g_1), (0, .ref h0)]) hx hb dX3_worstJoint_54 hl (k := 1) rfl (by rw [ez_327]; rfl) (by decide) rfl (fun ls hl => ?_)
              refine lv_goto (tgt := 4) hx hb dX3_worstJoint_57 (by decide) ?_
              exact ih_309 z_327 g_1 (by omega) (by omega) (by omega) (by omega) (by omega) (by omega) (by omega) (by omega) _ _ hP hD hS ls (lv_sub hl [0, 1, 2] rfl)
  exact lp_308 _ 0 (-1) (by have := tI_m1; have := tI_0; omega) (by have := tI_m1; have := tI_0; omega) (by have := tI_m1; have := tI_0; omega) (by have := tI_m1; have := tI_0; omega) (by have := tI_m1; have := tI_0; omega) (by have := tI_m1; have := tI_0; omega) (by have := tI_m1; have := tI_0; omega) (Nat.lt_succ_self _) _ _ hP hD hS ls (lv_sub hl [0, 1, 2] rfl)
theorem iw_X3_openFloors_X3 : ∀ w ∈ wsX30, w ∈ wsX3_openFloors := fun _ h => List.mem_cons_of_mem _ (List.mem_append_left _ (List.mem_append_right _ h))
theorem iw_X3_openFloors_X7 : ∀ w ∈ wsX70, w ∈ wsX3_openFloors := fun _ h => List.mem_cons_of_mem _ (List.mem_append_right _ h)
set_option maxHeartbeats 4000000 in
set_option maxRecDepth 100000 in
theorem c_X3_openFloors (l : Launch) (dC : Nat → ClassId) (dI : Nat → Nat → Nat) (ad : Nat → Nat) (tN : Nat) (fN : Nat → Int64) (cB cI cJ cZ : ClassId) (h0 : Nat) (r0 : Nat → Nat) (pl0 : Nat) (w0 : va_W) (r1 : Nat → Nat) (fc1 : Int32) (dc1 : Int32) (rk1 : Nat → Int32) (w1 : va_W) (o0 : ok_frame ad cB cI cJ cZ h0 r0 pl0 w0) (o1 : ok_plan ad cB cI cJ cZ pl0 r1 fc1 dc1 rk1 w1) (sz : Nat) : Met l yX3_openFloors wsX3_openFloors ({ frames := 1, cells := 0, slots := 0, locals := 21 } : Room) (va_Pc [.ref h0] (fun U => U.heap.size = sz ∧ va_P (dC, dI) vwCl (List.flatten [w0, w1]) U.heap ∧ va_K (dC, dI) vwCl [(cB, .byte), (cI, .int), (cJ, .long), (cZ, .boolean)] U ∧ va_D (fun _ => True) (List.flatten [w0, w1]) ∧ ex_Y ad tN fN (va_A (List.flatten [w0, w1]) sz) U)) (va_Qi (fun (r : Int32) (_ : Unit) => True) (fun (_ : Unit) (t : State) => va_P (dC, dI) vwCl (List.flatten [w0, w1]) t.heap ∧ va_D (va_A (List.flatten [w0, w1]) sz) (List.flatten [w0, w1])) (va_A (List.flatten [w0, w1]) sz)) 0 0 (va_A (List.flatten [w0, w1]) sz) := by
  refine Met.ofW (cc := cX3_openFloors) (maxL := 3) (ret := (some .int)) (by decide) rfl ?_
  intro p e s m args below meth c s₁ B hml hv
  obtain ⟨rfl, hsz, hP, hK, hD0, hE⟩ := hv
  have hx := B.exec
  have hb := B.bytes
  have hr := B.returns
  have hts := atoms_spec (ws := wsX3_openFloors) B.pre
  have hown : s.vm.findClass RX3 = some m.cls := findClass_of_methodNamed B.named
  have hlocks := B.notSynchronized
  subst hsz
  have hD := hD0.self (sz := s.heap.size)
  generalize hAe : va_A (List.flatten [w0, w1]) s.heap.size = A at hD hE ⊢
  have hA : ∀ q : Nat, s.heap.size ≤ q → A q := fun q h => by rw [← hAe]; exact Or.inr h
  have hS : va_S A s.heap s.heap [] := va_S.rf
  have hl := lv_entry ([.ref h0]) (n := 3) (Nat.le_of_ble_eq_true rfl)
  rw [lg_entry_eq]
  generalize (lg_sl ([.ref h0]) ++ List.replicate (3 - (lg_sl ([.ref h0])).length) Slot.unset).toArray = ls at hl ⊢
  have hl : lv_has ls 3 [(0, .ref h0)] := hl
  clear hAe
  refine W_name (fun Q0 hQ0 => ?_)
  refine lv_iconst (v := 0) hx hb dX3_openFloors_0 (by decide) ?_
  refine lv_istore_n (lv' := [(1, .int 0), (0, .ref h0)]) hx hb dX3_openFloors_1 rfl hl (by decide) rfl (fun ls hl => ?_)
  refine lv_iconst (v := 0) hx hb dX3_openFloors_2 (by decide) ?_
  refine lv_istore_n (lv' := [(2, .int 0), (1, .int 0), (0, .ref h0)]) hx hb dX3_openFloors_3 rfl hl (by decide) rfl (fun ls hl => ?_)
  obtain ⟨fr_56, dr_59, rc_62, f_65, f_67, gn_68, f_69, f_70, f_71, f_72, f_73, sc_74, jc_75, f_78, f_80, rfl, hl_57, hh_58, hl_60, hh_61, hl_63, hh_64, hr_66, hl_76, hh_77, hr_79, hr_81⟩ := o0
  obtain ⟨f_84, f_85, f_86, f_87, f_90, f_92, f_93, f_95, f_96, rfl, hl_82, hh_83, hl_88, hh_89, hr_91, hr_94⟩ := o1
  have lp_232 : ∀ (n : Nat) (g_1 : Int32) (g_2 : Int32), 0 ≤ g_1.toInt → g_1.toInt ≤ 10 → g_1.toInt - rc_62.toInt ≤ 0 → (10 - g_1.toInt).toNat < n → ∀ (H : Heap) (locs : List Loc), va_P (dC, dI) vwCl (List.flatten [[(h0, .inr (2, [.ref pl0, .int fr_56, .int dr_59, .int rc_62, .ref (r0 0), .ref (r0 1), .int gn_68, .ref (r0 2), .ref (r0 3), .ref (r0 4), .ref (r0 5), .ref (r0 6), .long sc_74, .int jc_75, .ref (r0 7), .ref (r0 8)])), (r0 0, .inl (cI, 10, .inl f_65)), (r0 1, .inl (cI, 10, .inl f_67)), (r0 2, .inl (cI, 6, .inl f_69)), (r0 3, .inl (cJ, 6, .inr (.inl f_70))), (r0 4, .inl (cJ, 6, .inr (.inl f_71))), (r0 5, .inl (cJ, 6, .inr (.inl f_72))), (r0 6, .inl (cJ, 10, .inr (.inl f_73))), (r0 7, .inl (cI, 70, .inl f_78)), (r0 8, .inl (cI, 70, .inl f_80))], [(pl0, .inr (5, [.int fc1, .ref (r1 0), .ref (r1 1), .ref (r1 2), .ref (r1 3), .int dc1, .ref (r1 4), .ref (r1 5), .ref (r1 6), .ref (r1 7), .ref (r1 8), .ref (r1 9)])), (r1 0, .inl (cJ, 6, .inr (.inl f_84))), (r1 1, .inl (cI, 6, .inl f_85)), (r1 2, .inl (cI, 6, .inl f_86)), (r1 3, .inl (cI, 6, .inl f_87)), (r1 4, .inl (cJ, 4, .inr (.inl f_90))), (r1 5, .inl (cI, 4, .inl rk1)), (r1 6, .inl (cJ, 40, .inr (.inl f_92))), (r1 7, .inl (cI, 40, .inl f_93)), (r1 8, .inl (cI, 40, .inl f_95)), (r1 9, .inl (cI, 40, .inl f_96))]]) H → va_D A (List.flatten [[(h0, .inr (2, [.ref pl0, .int fr_56, .int dr_59, .int rc_62, .ref (r0 0), .ref (r0 1), .int gn_68, .ref (r0 2), .ref (r0 3), .ref (r0 4), .ref (r0 5), .ref (r0 6), .long sc_74, .int jc_75, .ref (r0 7), .ref (r0 8)])), (r0 0, .inl (cI, 10, .inl f_65)), (r0 1, .inl (cI, 10, .inl f_67)), (r0 2, .inl (cI, 6, .inl f_69)), (r0 3, .inl (cJ, 6, .inr (.inl f_70))), (r0 4, .inl (cJ, 6, .inr (.inl f_71))), (r0 5, .inl (cJ, 6, .inr (.inl f_72))), (r0 6, .inl (cJ, 10, .inr (.inl f_73))), (r0 7, .inl (cI, 70, .inl f_78)), (r0 8, .inl (cI, 70, .inl f_80))], [(pl0, .inr (5, [.int fc1, .ref (r1 0), .ref (r1 1), .ref (r1 2), .ref (r1 3), .int dc1, .ref (r1 4), .ref (r1 5), .ref (r1 6), .ref (r1 7), .ref (r1 8), .ref (r1 9)])), (r1 0, .inl (cJ, 6, .inr (.inl f_84))), (r1 1, .inl (cI, 6, .inl f_85)), (r1 2, .inl (cI, 6, .inl f_86)), (r1 3, .inl (cI, 6, .inl f_87)), (r1 4, .inl (cJ, 4, .inr (.inl f_90))), (r1 5, .inl (cI, 4, .inl rk1)), (r1 6, .inl (cJ, 40, .inr (.inl f_92))), (r1 7, .inl (cI, 40, .inl f_93)), (r1 8, .inl (cI, 40, .inl f_95)), (r1 9, .inl (cI, 40, .inl f_96))]]) → va_S A s.heap H locs → ∀ (ls : Array Slot), lv_has ls 3 [(2, .int g_1), (1, .int g_2), (0, .ref h0)] → W p l e (headSpec wsX3_openFloors ({ frames := 1, cells := 0, slots := 0, locals := 21 } : Room)).room s m ([.ref h0] : List Value).toArray below meth c H locs 0 0 Q0 (F0 m 4 ls []) := by
    intro n
    induction n with
    | zero => intro g_1 g_2 iv_229 iv_230 iv_231 hm; exact absurd hm (Nat.not_lt_zero _)
    | succ n ih_233 =>
      intro g_1 g_2 iv_229 iv_230 iv_231 hm H locs hP hD hS ls hl
      refine lv_iload_n hx hb dX3_openFloors_4 rfl (lv_at hl 0 rfl) ?_
      refine lv_aload_n hx hb dX3_openFloors_5 rfl (lv_at hl 2 rfl) ?_
      refine va_get (D := (dC, dI)) (ci := 2) (v := .int rc_62) (C := RX3) (T := TX3) (N := 16) hx hb hts iw_X3_openFloors_X3 hown hK hP 0 rfl rfl 3 (by decide) (hts (.fieldLink RX3 25 "HungFloors$Frame" "rodCount" "I") (by decide +kernel)) (fun _ h9 => h9) rfl dX3_openFloors_6 ?_
      refine lv_icmp_ge (tgt := 39) hx hb dX3_openFloors_9 (by decide) (fun c_234 => ?_) (fun c_234 => ?_)
      · have c_234 : rc_62.toInt ≤ g_1.toInt := f_le rfl rfl c_234
        refine lv_iload_n hx hb dX3_openFloors_39 rfl (lv_at hl 1 rfl) ?_
        refine lv_iconst (v := (-1)) hx hb dX3_openFloors_40 (by decide) ?_
        refine lv_ixor hx hb dX3_openFloors_41 ?_
        refine lv_topi (fun z_235 ez_235 => ?_)
        refine lv_iconst (v := 1) hx hb dX3_openFloors_42 (by decide) ?_
        refine lv_aload_n hx hb dX3_openFloors_43 rfl (lv_at hl 2 rfl) ?_
        refine va_get (D := (dC, dI)) (ci := 2) (v := .ref pl0) (C := RX3) (T := TX3) (N := 16) hx hb hts iw_X3_openFloors_X3 hown hK hP 0 rfl rfl 0 (by decide) (hts (.fieldLink RX3 12 "HungFloors$Frame" "plan" "LHungFloors$Plan;") (by decide +kernel)) (fun _ h9 => h9) rfl dX3_openFloors_44 ?_
        refine va_get (D := (dC, dI)) (ci := 5) (v := .int fc1) (C := RX7) (T := TX7) (N := 12) hx hb hts iw_X3_openFloors_X7 hown hK hP 10 rfl rfl 0 (by decide) (hts (.fieldLink RX3 79 "HungFloors$Plan" "floorCount" "I") (by decide +kernel)) (fun _ h9 => h9) rfl dX3_openFloors_47 ?_
        refine lv_ishl hx hb dX3_openFloors_50 ?_
        refine lv_topi (fun z_236 ez_236 => ?_)
        have hz_236 := t_shl1 (by omega) (by omega) ez_236
        have h1z_236 := hz_236.1
        have h2z_236 := hz_236.2
        refine lv_iconst (v := 1) hx hb dX3_openFloors_51 (by decide) ?_
        refine lv_isub hx hb dX3_openFloors_52 ?_
        refine lv_topi (fun z_237 ez_237 => ?_)
        have hz_237 : z_237.toInt = z_236.toInt - 1 := by rw [ez_237]; exact t_sub rfl tI_1 (by omega) (by omega)
        refine lv_iand hx hb dX3_openFloors_53 ?_
        refine lv_topi (fun z_238 ez_238 => ?_)
        rw [hQ0]
        exact W.iret (v := z_238) hx hb hr (fun t ht hW => ⟨⟨z_238, (), rfl, trivial, ⟨by rw [ht]; exact hP, hD⟩⟩, hS.F ht⟩) hS.2.2 dX3_openFloors_54
      · have c_234 : g_1.toInt < rc_62.toInt := f_nle rfl rfl c_234
        refine lv_iload_n hx hb dX3_openFloors_12 rfl (lv_at hl 1 rfl) ?_
        refine lv_aload_n hx hb dX3_openFloors_13 rfl (lv_at hl 2 rfl) ?_
        refine lv_iload_n hx hb dX3_openFloors_14 rfl (lv_at hl 0 rfl) ?_
        have hpm : List.Perm ([[(h0, .inr (2, [.ref pl0, .int fr_56, .int dr_59, .int rc_62, .ref (r0 0), .ref (r0 1), .int gn_68, .ref (r0 2), .ref (r0 3), .ref (r0 4), .ref (r0 5), .ref (r0 6), .long sc_74, .int jc_75, .ref (r0 7), .ref (r0 8)])), (r0 0, .inl (cI, 10, .inl f_65)), (r0 1, .inl (cI, 10, .inl f_67)), (r0 2, .inl (cI, 6, .inl f_69)), (r0 3, .inl (cJ, 6, .inr (.inl f_70))), (r0 4, .inl (cJ, 6, .inr (.inl f_71))), (r0 5, .inl (cJ, 6, .inr (.inl f_72))), (r0 6, .inl (cJ, 10, .inr (.inl f_73))), (r0 7, .inl (cI, 70, .inl f_78)), (r0 8, .inl (cI, 70, .inl f_80))], [(pl0, .inr (5, [.int fc1, .ref (r1 0), .ref (r1 1), .ref (r1 2), .ref (r1 3), .int dc1, .ref (r1 4), .ref (r1 5), .ref (r1 6), .ref (r1 7), .ref (r1 8), .ref (r1 9)])), (r1 0, .inl (cJ, 6, .inr (.inl f_84))), (r1 1, .inl (cI, 6, .inl f_85)), (r1 2, .inl (cI, 6, .inl f_86)), (r1 3, .inl (cI, 6, .inl f_87)), (r1 4, .inl (cJ, 4, .inr (.inl f_90))), (r1 5, .inl (cI, 4, .inl rk1)), (r1 6, .inl (cJ, 40, .inr (.inl f_92))), (r1 7, .inl (cI, 40, .inl f_93)), (r1 8, .inl (cI, 40, .inl f_95)), (r1 9, .inl (cI, 40, .inl f_96))]] : List va_W) (([[(h0, .inr (2, [.ref pl0, .int fr_56, .int dr_59, .int rc_62, .ref (r0 0), .ref (r0 1), .int gn_68, .ref (r0 2), .ref (r0 3), .ref (r0 4), .ref (r0 5), .ref (r0 6), .long sc_74, .int jc_75, .ref (r0 7), .ref (r0 8)])), (r0 0, .inl (cI, 10, .inl f_65)), (r0 1, .inl (cI, 10, .inl f_67)), (r0 2, .inl (cI, 6, .inl f_69)), (r0 3, .inl (cJ, 6, .inr (.inl f_70))), (r0 4, .inl (cJ, 6, .inr (.inl f_71))), (r0 5, .inl (cJ, 6, .inr (.inl f_72))), (r0 6, .inl (cJ, 10, .inr (.inl f_73))), (r0 7, .inl (cI, 70, .inl f_78)), (r0 8, .inl (cI, 70, .inl f_80))]] : List va_W) ++ ([[(pl0, .inr (5, [.int fc1, .ref (r1 0), .ref (r1 1), .ref (r1 2), .ref (r1 3), .int dc1, .ref (r1 4), .ref (r1 5), .ref (r1 6), .ref (r1 7), .ref (r1 8), .ref (r1 9)])), (r1 0, .inl (cJ, 6, .inr (.inl f_84))), (r1 1, .inl (cI, 6, .inl f_85)), (r1 2, .inl (cI, 6, .inl f_86)), (r1 3, .inl (cI, 6, .inl f_87)), (r1 4, .inl (cJ, 4, .inr (.inl f_90))), (r1 5, .inl (cI, 4, .inl rk1)), (r1 6, .inl (cJ, 40, .inr (.inl f_92))), (r1 7, .inl (cI, 40, .inl f_93)), (r1 8, .inl (cI, 40, .inl f_95)), (r1 9, .inl (cI, 40, .inl f_96))]] : List va_W)) := pm_n 2 [0, 1] (by decide) rfl rfl
        have hPc := bk_P hpm hP
        have hDc := bk_D hpm hD
        have hFc := bk_F hpm hD hS hA
        refine va_calli (va_runV (As := [.int g_1]) (rest := [.int g_2]) ⟨hx, hb, hml, hown, hts⟩ (c_X3_isThere l dC dI ad tN fN cB cI cJ cZ h0 g_1 r0 pl0 _ ⟨fr_56, dr_59, rc_62, f_65, f_67, gn_68, f_69, f_70, f_71, f_72, f_73, sc_74, jc_75, f_78, f_80, rfl, by omega, by omega, by omega, by omega, by omega, by omega, hr_66, by omega, by omega, hr_79, hr_81⟩ H.size) (cwV 1 hts gX3_openFloors_X3_isThere rfl rfl rfl (by decide +kernel) ⟨(Nat.le_of_ble_eq_true rfl), (Nat.le_of_ble_eq_true rfl)⟩) ⟨fun a U g mk q => by obtain ⟨q0, q1, qP, qK, qD, qE⟩ := q; exact ⟨q0, q1, qP, va_K.moved (u := U) (U := U.calling g mk a) (Vm.Alike.refl U.vm) qK, qD, ey_blind qE⟩, va_recv hK hPc (ci := 2) (q0 := 0) rfl rfl, fun U hU hW => ⟨rfl, by rw [hU], by rw [hU]; exact hPc, va_K.moved hW.alike hK, hDc.weaken (fun _ _ _ _ => trivial), ey_call hE hS hFc hU hW⟩⟩ rfl rfl hl.1 rfl (lv_room (Nat.le_of_ble_eq_true rfl)) dX3_openFloors_15 ⟨(Nat.le_of_ble_eq_true rfl), (Nat.le_of_ble_eq_true rfl)⟩) hS (fun q _ h => hFc q h) hFc (fun r_239 u t H locs ht hvm hw hB hz1 hk1 hS => ?_)
        obtain ⟨hP1, hD1⟩ := hB
        rw [ht] at hP1
        obtain ⟨hP, hD⟩ := bk_join hpm hP hD hk1 hFc (Cs1 := [[(h0, .inr (2, [.ref pl0, .int fr_56, .int dr_59, .int rc_62, .ref (r0 0), .ref (r0 1), .int gn_68, .ref (r0 2), .ref (r0 3), .ref (r0 4), .ref (r0 5), .ref (r0 6), .long sc_74, .int jc_75, .ref (r0 7), .ref (r0 8)])), (r0 0, .inl (cI, 10, .inl f_65)), (r0 1, .inl (cI, 10, .inl f_67)), (r0 2, .inl (cI, 6, .inl f_69)), (r0 3, .inl (cJ, 6, .inr (.inl f_70))), (r0 4, .inl (cJ, 6, .inr (.inl f_71))), (r0 5, .inl (cJ, 6, .inr (.inl f_72))), (r0 6, .inl (cJ, 10, .inr (.inl f_73))), (r0 7, .inl (cI, 70, .inl f_78)), (r0 8, .inl (cI, 70, .inl f_80))]]) hP1 hD1
        have hpm2 : List.Perm (([[(h0, .inr (2, [.ref pl0, .int fr_56, .int dr_59, .int rc_62, .ref (r0 0), .ref (r0 1), .int gn_68, .ref (r0 2), .ref (r0 3), .ref (r0 4), .ref (r0 5), .ref (r0 6), .long sc_74, .int jc_75, .ref (r0 7), .ref (r0 8)])), (r0 0, .inl (cI, 10, .inl f_65)), (r0 1, .inl (cI, 10, .inl f_67)), (r0 2, .inl (cI, 6, .inl f_69)), (r0 3, .inl (cJ, 6, .inr (.inl f_70))), (r0 4, .inl (cJ, 6, .inr (.inl f_71))), (r0 5, .inl (cJ, 6, .inr (.inl f_72))), (r0 6, .inl (cJ, 10, .inr (.inl f_73))), (r0 7, .inl (cI, 70, .inl f_78)), (r0 8, .inl (cI, 70, .inl f_80))]] : List va_W) ++ ([[(pl0, .inr (5, [.int fc1, .ref (r1 0), .ref (r1 1), .ref (r1 2), .ref (r1 3), .int dc1, .ref (r1 4), .ref (r1 5), .ref (r1 6), .ref (r1 7), .ref (r1 8), .ref (r1 9)])), (r1 0, .inl (cJ, 6, .inr (.inl f_84))), (r1 1, .inl (cI, 6, .inl f_85)), (r1 2, .inl (cI, 6, .inl f_86)), (r1 3, .inl (cI, 6, .inl f_87)), (r1 4, .inl (cJ, 4, .inr (.inl f_90))), (r1 5, .inl (cI, 4, .inl rk1)), (r1 6, .inl (cJ, 40, .inr (.inl f_92))), (r1 7, .inl (cI, 40, .inl f_93)), (r1 8, .inl (cI, 40, .inl f_95)), (r1 9, .inl (cI, 40, .inl f_96))]] : List va_W)) ([[(h0, .inr (2, [.ref pl0, .int fr_56, .int dr_59, .int rc_62, .ref (r0 0), .ref (r0 1), .int gn_68, .ref (r0 2), .ref (r0 3), .ref (r0 4), .ref (r0 5), .ref (r0 6), .long sc_74, .int jc_75, .ref (r0 7), .ref (r0 8)])), (r0 0, .inl (cI, 10, .inl f_65)), (r0 1, .inl (cI, 10, .inl f_67)), (r0 2, .inl (cI, 6, .inl f_69)), (r0 3, .inl (cJ, 6, .inr (.inl f_70))), (r0 4, .inl (cJ, 6, .inr (.inl f_71))), (r0 5, .inl (cJ, 6, .inr (.inl f_72))), (r0 6, .inl (cJ, 10, .inr (.inl f_73))), (r0 7, .inl (cI, 70, .inl f_78)), (r0 8, .inl (cI, 70, .inl f_80))], [(pl0, .inr (5, [.int fc1, .ref (r1 0), .ref (r1 1), .ref (r1 2), .ref (r1 3), .int dc1, .ref (r1 4), .ref (r1 5), .ref (r1 6), .ref (r1 7), .ref (r1 8), .ref (r1 9)])), (r1 0, .inl (cJ, 6, .inr (.inl f_84))), (r1 1, .inl (cI, 6, .inl f_85)), (r1 2, .inl (cI, 6, .inl f_86)), (r1 3, .inl (cI, 6, .inl f_87)), (r1 4, .inl (cJ, 4, .inr (.inl f_90))), (r1 5, .inl (cI, 4, .inl rk1)), (r1 6, .inl (cJ, 40, .inr (.inl f_92))), (r1 7, .inl (cI, 40, .inl f_93)), (r1 8, .inl (cI, 40, .inl f_95)), (r1 9, .inl (cI, 40, .inl f_96))]] : List va_W) := pm_n 2 [0, 1] (by decide) rfl rfl
        have hP := bk_reP hpm2 hP
        have hD := bk_reD hpm2 hD
        have hP : va_P (dC, dI) vwCl (List.flatten [[(h0, .inr (2, [.ref pl0, .int fr_56, .int dr_59, .int rc_62, .ref (r0 0), .ref (r0 1), .int gn_68, .ref (r0 2), .ref (r0 3), .ref (r0 4), .ref (r0 5), .ref (r0 6), .long sc_74, .int jc_75, .ref (r0 7), .ref (r0 8)])), (r0 0, .inl (cI, 10, .inl f_65)), (r0 1, .inl (cI, 10, .inl f_67)), (r0 2, .inl (cI, 6, .inl f_69)), (r0 3, .inl (cJ, 6, .inr (.inl f_70))), (r0 4, .inl (cJ, 6, .inr (.inl f_71))), (r0 5, .inl (cJ, 6, .inr (.inl f_72))), (r0 6, .inl (cJ, 10, .inr (.inl f_73))), (r0 7, .inl (cI, 70, .inl f_78)), (r0 8, .inl (cI, 70, .inl f_80))], [(pl0, .inr (5, [.int fc1, .ref (r1 0), .ref (r1 1), .ref (r1 2), .ref (r1 3), .int dc1, .ref (r1 4), .ref (r1 5), .ref (r1 6), .ref (r1 7), .ref (r1 8), .ref (r1 9)])), (r1 0, .inl (cJ, 6, .inr (.inl f_84))), (r1 1, .inl (cI, 6, .inl f_85)), (r1 2, .inl (cI, 6, .inl f_86)), (r1 3, .inl (cI, 6, .inl f_87)), (r1 4, .inl (cJ, 4, .inr (.inl f_90))), (r1 5, .inl (cI, 4, .inl rk1)), (r1 6, .inl (cJ, 40, .inr (.inl f_92))), (r1 7, .inl (cI, 40, .inl f_93)), (r1 8, .inl (cI, 40, .inl f_95)), (r1 9, .inl (cI, 40, .inl f_96))]]) H := hP
        have hD : va_D A (List.flatten [[(h0, .inr (2, [.ref pl0, .int fr_56, .int dr_59, .int rc_62, .ref (r0 0), .ref (r0 1), .int gn_68, .ref (r0 2), .ref (r0 3), .ref (r0 4), .ref (r0 5), .ref (r0 6), .long sc_74, .int jc_75, .ref (r0 7), .ref (r0 8)])), (r0 0, .inl (cI, 10, .inl f_65)), (r0 1, .inl (cI, 10, .inl f_67)), (r0 2, .inl (cI, 6, .inl f_69)), (r0 3, .inl (cJ, 6, .inr (.inl f_70))), (r0 4, .inl (cJ, 6, .inr (.inl f_71))), (r0 5, .inl (cJ, 6, .inr (.inl f_72))), (r0 6, .inl (cJ, 10, .inr (.inl f_73))), (r0 7, .inl (cI, 70, .inl f_78)), (r0 8, .inl (cI, 70, .inl f_80))], [(pl0, .inr (5, [.int fc1, .ref (r1 0), .ref (r1 1), .ref (r1 2), .ref (r1 3), .int dc1, .ref (r1 4), .ref (r1 5), .ref (r1 6), .ref (r1 7), .ref (r1 8), .ref (r1 9)])), (r1 0, .inl (cJ, 6, .inr (.inl f_84))), (r1 1, .inl (cI, 6, .inl f_85)), (r1 2, .inl (cI, 6, .inl f_86)), (r1 3, .inl (cI, 6, .inl f_87)), (r1 4, .inl (cJ, 4, .inr (.inl f_90))), (r1 5, .inl (cI, 4, .inl rk1)), (r1 6, .inl (cJ, 40, .inr (.inl f_92))), (r1 7, .inl (cI, 40, .inl f_93)), (r1 8, .inl (cI, 40, .inl f_95)), (r1 9, .inl (cI, 40, .inl f_96))]]) := hD
        obtain ⟨hlr_239, hhr_239⟩ := hw
        refine lv_if_eq (tgt := 30) hx hb dX3_openFloors_18 (by decide) (fun c_240 => ?_) (fun c_240 => ?_)
        · have c_240 : r_239.toInt = 0 := f_eq rfl tI_0 c_240
          refine lv_iconst (v := 0) hx hb dX3_openFloors_30 (by decide) ?_
          refine lv_ior hx hb dX3_openFloors_31 ?_
          refine lv_topi (fun z_241 ez_241 => ?_)
          refine lv_istore_n (lv' := [(1, .int z_241), (2, .int g_1), (0, .ref h0)]) hx hb dX3_openFloors_32 rfl hl (by decide) rfl (fun ls hl => ?_)
          obtain ⟨z_242, ez_242⟩ : ∃ y : Int32, y = g_1 + 1 := ⟨_, rfl⟩
          have hz_242 : z_242.toInt = g_1.toInt + 1 := by rw [ez_242]; exact t_add rfl tI_1 (by omega) (by omega)
          refine lv_iinc (v := z_242) (lv' := [(2, .int z_242), (1, .int z_241), (0, .ref h0)]) hx hb dX3_openFloors_33 hl (k := 1) rfl (by rw [ez_242]; rfl) (by decide) rfl (fun ls hl => ?_)
          refine lv_goto (tgt := 4) hx hb dX3_openFloors_36 (by decide) ?_
          exact ih_233 z_242 z_241 (by omega) (by omega) (by omega) (by omega) _ _ hP hD hS ls (lv_sub hl [0, 1, 2] rfl)
        · have c_240 : ¬ r_239.toInt = 0 := f_ne rfl tI_0 c_240
          refine lv_aload_n hx hb dX3_openFloors_21 rfl (lv_at hl 2 rfl) ?_
          refine va_get (D := (dC, dI)) (ci := 2) (v := .ref (r0 1)) (C := RX3) (T := TX3) (N := 16) hx hb hts iw_X3_openFloors_X3 hown hK hP 0 rfl rfl 5 (by decide) (hts (.fieldLink RX3 32 "HungFloors$Frame" "holds" "[I") (by decide +kernel)) (fun _ h9 => h9) rfl dX3_openFloors_22 ?_
          refine lv_iload_n hx hb dX3_openFloors_25 rfl (lv_at hl 0 rfl) ?_
          refine va_iald hx hb hK hP 2 1 rfl rfl (v_in rfl (by omega) (by omega)) dX3_openFloors_26 ?_
          refine lv_topi (fun z_243 ez_243 => ?_)
          refine lv_goto (tgt := 31) hx hb dX3_openFloors_27 (by decide) ?_
          refine lv_ior hx hb dX3_openFloors_31 ?_
          refine lv_topi (fun z_244 ez_244 => ?_)
          refine lv_istore_n (lv' := [(1, .int z_244), (2, .int g_1), (0, .ref h0)]) hx hb dX3_openFloors_32 rfl hl (by decide) rfl (fun ls hl => ?_)
          obtain ⟨z_245, ez_245⟩ : ∃ y : Int32, y = g_1 + 1 := ⟨_, rfl⟩
          have hz_245 : z_245.toInt = g_1.toInt + 1 := by rw [ez_245]; exact t_add rfl tI_1 (by omega) (by omega)
          refine lv_iinc (v := z_245) (lv' := [(2, .int z_245), (1, .int z_244), (0, .ref h0)]) hx hb dX3_openFloors_33 hl (k := 1) rfl (by rw [ez_245]; rfl) (by decide) rfl (fun ls hl => ?_)
          refine lv_goto (tgt := 4) hx hb dX3_openFloors_36 (by decide) ?_
          exact ih_233 z_245 z_244 (by omega) (by omega) (by omega) (by omega) _ _ hP hD hS ls (lv_sub hl [0, 1, 2] rfl)
  exact lp_232 _ 0 0 (by have := tI_0; omega) (by have := tI_0; omega) (by have := tI_0; omega) (Nat.lt_succ_self _) _ _ hP hD hS ls (lv_sub hl [0, 1, 2] rfl)
theorem iw_X3_doubleFloors_X3 : ∀ w ∈ wsX30, w ∈ wsX3_doubleFloors := fun _ h => List.mem_cons_of_mem _ (List.mem_append_left _ (List.mem_append_right _ h))
set_option maxHeartbeats 4000000 in
set_option maxRecDepth 100000 in
theorem c_X3_doubleFloors (l : Launch) (dC : Nat → ClassId) (dI : Nat → Nat → Nat) (ad : Nat → Nat) (tN : Nat) (fN : Nat → Int64) (cB cI cJ cZ : ClassId) (h0 : Nat) (r0 : Nat → Nat) (pl0 : Nat) (w0 : va_W) (r1 : Nat → Nat) (fc1 : Int32) (dc1 : Int32) (rk1 : Nat → Int32) (w1 : va_W) (o0 : ok_frame ad cB cI cJ cZ h0 r0 pl0 w0) (o1 : ok_plan ad cB cI cJ cZ pl0 r1 fc1 dc1 rk1 w1) (sz : Nat) : Met l yX3_doubleFloors wsX3_doubleFloors ({ frames := 2, cells := 0, slots := 0, locals := 43 } : Room) (va_Pc [.ref h0] (fun U => U.heap.size = sz ∧ va_P (dC, dI) vwCl (List.flatten [w0, w1]) U.heap ∧ va_K (dC, dI) vwCl [(cB, .byte), (cI, .int), (cJ, .long), (cZ, .boolean)] U ∧ va_D (fun _ => True) (List.flatten [w0, w1]) ∧ ex_Y ad tN fN (va_A (List.flatten [w0, w1]) sz) U)) (va_Qi (fun (r : Int32) (_ : Unit) => True) (fun (_ : Unit) (t : State) => va_P (dC, dI) vwCl (List.flatten [w0, w1]) t.heap ∧ va_D (va_A (List.flatten [w0, w1]) sz) (List.flatten [w0, w1])) (va_A (List.flatten [w0, w1]) sz)) 0 0 (va_A (List.flatten [w0, w1]) sz) := by
  refine Met.ofW (cc := cX3_doubleFloors) (maxL := 3) (ret := (some .int)) (by decide) rfl ?_
  intro p e s m args below meth c s₁ B hml hv
  obtain ⟨rfl, hsz, hP, hK, hD0, hE⟩ := hv
  have hx := B.exec
  have hb := B.bytes
  have hr := B.returns
  have hts := atoms_spec (ws := wsX3_doubleFloors) B.pre
  have hown : s.vm.findClass RX3 = some m.cls := findClass_of_methodNamed B.named
  have hlocks := B.notSynchronized
  subst hsz
  have hD := hD0.self (sz := s.heap.size)
  generalize hAe : va_A (List.flatten [w0, w1]) s.heap.size = A at hD hE ⊢
  have hA : ∀ q : Nat, s.heap.size ≤ q → A q := fun q h => by rw [← hAe]; exact Or.inr h
  have hS : va_S A s.heap s.heap [] := va_S.rf
  have hl := lv_entry ([.ref h0]) (n := 3) (Nat.le_of_ble_eq_true rfl)
  rw [lg_entry_eq]
  generalize (lg_sl ([.ref h0]) ++ List.replicate (3 - (lg_sl ([.ref h0])).length) Slot.unset).toArray = ls at hl ⊢
  have hl : lv_has ls 3 [(0, .ref h0)] := hl
  clear hAe
  refine W_name (fun Q0 hQ0 => ?_)
  refine lv_iconst (v := 0) hx hb dX3_doubleFloors_0 (by decide) ?_
  refine lv_istore_n (lv' := [(1, .int 0), (0, .ref h0)]) hx hb dX3_doubleFloors_1 rfl hl (by decide) rfl (fun ls hl => ?_)
  refine lv_iconst (v := 0) hx hb dX3_doubleFloors_2 (by decide) ?_
  refine lv_istore_n (lv' := [(2, .int 0), (1, .int 0), (0, .ref h0)]) hx hb dX3_doubleFloors_3 rfl hl (by decide) rfl (fun ls hl => ?_)
  obtain ⟨fr_41, dr_44, rc_47, f_50, f_52, gn_53, f_54, f_55, f_56, f_57, f_58, sc_59, jc_60, f_63, f_65, rfl, hl_42, hh_43, hl_45, hh_46, hl_48, hh_49, hr_51, hl_61, hh_62, hr_64, hr_66⟩ := o0
  have lp_202 : ∀ (n : Nat) (g_1 : Int32) (g_2 : Int32), 0 ≤ g_1.toInt → g_1.toInt ≤ 10 → g_1.toInt - rc_47.toInt ≤ 0 → (10 - g_1.toInt).toNat < n → ∀ (H : Heap) (locs : List Loc), va_P (dC, dI) vwCl (List.flatten [[(h0, .inr (2, [.ref pl0, .int fr_41, .int dr_44, .int rc_47, .ref (r0 0), .ref (r0 1), .int gn_53, .ref (r0 2), .ref (r0 3), .ref (r0 4), .ref (r0 5), .ref (r0 6), .long sc_59, .int jc_60, .ref (r0 7), .ref (r0 8)])), (r0 0, .inl (cI, 10, .inl f_50)), (r0 1, .inl (cI, 10, .inl f_52)), (r0 2, .inl (cI, 6, .inl f_54)), (r0 3, .inl (cJ, 6, .inr (.inl f_55))), (r0 4, .inl (cJ, 6, .inr (.inl f_56))), (r0 5, .inl (cJ, 6, .inr (.inl f_57))), (r0 6, .inl (cJ, 10, .inr (.inl f_58))), (r0 7, .inl (cI, 70, .inl f_63)), (r0 8, .inl (cI, 70, .inl f_65))], w1]) H → va_D A (List.flatten [[(h0, .inr (2, [.ref pl0, .int fr_41, .int dr_44, .int rc_47, .ref (r0 0), .ref (r0 1), .int gn_53, .ref (r0 2), .ref (r0 3), .ref (r0 4), .ref (r0 5), .ref (r0 6), .long sc_59, .int jc_60, .ref (r0 7), .ref (r0 8)])), (r0 0, .inl (cI, 10, .inl f_50)), (r0 1, .inl (cI, 10, .inl f_52)), (r0 2, .inl (cI, 6, .inl f_54)), (r0 3, .inl (cJ, 6, .inr (.inl f_55))), (r0 4, .inl (cJ, 6, .inr (.inl f_56))), (r0 5, .inl (cJ, 6, .inr (.inl f_57))), (r0 6, .inl (cJ, 10, .inr (.inl f_58))), (r0 7, .inl (cI, 70, .inl f_63)), (r0 8, .inl (cI, 70, .inl f_65))], w1]) → va_S A s.heap H locs → ∀ (ls : Array Slot), lv_has ls 3 [(2, .int g_1), (1, .int g_2), (0, .ref h0)] → W p l e (headSpec wsX3_doubleFloors ({ frames := 2, cells := 0, slots := 0, locals := 43 } : Room)).room s m ([.ref h0] : List Value).toArray below meth c H locs 0 0 Q0 (F0 m 4 ls []) := by
    intro n
    induction n with
    | zero => intro g_1 g_2 iv_199 iv_200 iv_201 hm; exact absurd hm (Nat.not_lt_zero _)
    | succ n ih_203 =>
      intro g_1 g_2 iv_199 iv_200 iv_201 hm H locs hP hD hS ls hl
      refine lv_iload_n hx hb dX3_doubleFloors_4 rfl (lv_at hl 0 rfl) ?_
      refine lv_aload_n hx hb dX3_doubleFloors_5 rfl (lv_at hl 2 rfl) ?_
      refine va_get (D := (dC, dI)) (ci := 2) (v := .int rc_47) (C := RX3) (T := TX3) (N := 16) hx hb hts iw_X3_doubleFloors_X3 hown hK hP 0 rfl rfl 3 (by decide) (hts (.fieldLink RX3 25 "HungFloors$Frame" "rodCount" "I") (by decide +kernel)) (fun _ h9 => h9) rfl dX3_doubleFloors_6 ?_
      refine lv_icmp_ge (tgt := 42) hx hb dX3_doubleFloors_9 (by decide) (fun c_204 => ?_) (fun c_204 => ?_)
      · have c_204 : rc_47.toInt ≤ g_1.toInt := f_le rfl rfl c_204
        refine lv_iload_n hx hb dX3_doubleFloors_42 rfl (lv_at hl 1 rfl) ?_
        refine lv_aload_n hx hb dX3_doubleFloors_43 rfl (lv_at hl 2 rfl) ?_
        have hpm : List.Perm ([[(h0, .inr (2, [.ref pl0, .int fr_41, .int dr_44, .int rc_47, .ref (r0 0), .ref (r0 1), .int gn_53, .ref (r0 2), .ref (r0 3), .ref (r0 4), .ref (r0 5), .ref (r0 6), .long sc_59, .int jc_60, .ref (r0 7), .ref (r0 8)])), (r0 0, .inl (cI, 10, .inl f_50)), (r0 1, .inl (cI, 10, .inl f_52)), (r0 2, .inl (cI, 6, .inl f_54)), (r0 3, .inl (cJ, 6, .inr (.inl f_55))), (r0 4, .inl (cJ, 6, .inr (.inl f_56))), (r0 5, .inl (cJ, 6, .inr (.inl f_57))), (r0 6, .inl (cJ, 10, .inr (.inl f_58))), (r0 7, .inl (cI, 70, .inl f_63)), (r0 8, .inl (cI, 70, .inl f_65))], w1] : List va_W) (([[(h0, .inr (2, [.ref pl0, .int fr_41, .int dr_44, .int rc_47, .ref (r0 0), .ref (r0 1), .int gn_53, .ref (r0 2), .ref (r0 3), .ref (r0 4), .ref (r0 5), .ref (r0 6), .long sc_59, .int jc_60, .ref (r0 7), .ref (r0 8)])), (r0 0, .inl (cI, 10, .inl f_50)), (r0 1, .inl (cI, 10, .inl f_52)), (r0 2, .inl (cI, 6, .inl f_54)), (r0 3, .inl (cJ, 6, .inr (.inl f_55))), (r0 4, .inl (cJ, 6, .inr (.inl f_56))), (r0 5, .inl (cJ, 6, .inr (.inl f_57))), (r0 6, .inl (cJ, 10, .inr (.inl f_58))), (r0 7, .inl (cI, 70, .inl f_63)), (r0 8, .inl (cI, 70, .inl f_65))], w1] : List va_W) ++ ([] : List va_W)) := pm_n 2 [0, 1] (by decide) rfl rfl
        have hPc := bk_P hpm hP
        have hDc := bk_D hpm hD
        have hFc := bk_F hpm hD hS hA
        refine va_calli (va_runV (As := []) (rest := [.int g_2]) ⟨hx, hb, hml, hown, hts⟩ (c_X3_openFloors l dC dI ad tN fN cB cI cJ cZ h0 r0 pl0 _ r1 fc1 dc1 rk1 _ ⟨fr_41, dr_44, rc_47, f_50, f_52, gn_53, f_54, f_55, f_56, f_57, f_58, sc_59, jc_60, f_63, f_65, rfl, by omega, by omega, by omega, by omega, by omega, by omega, hr_51, by omega, by omega, hr_64, hr_66⟩ o1 H.size) (cwV 0 hts gX3_doubleFloors_X3_openFloors rfl rfl rfl (by decide +kernel) ⟨(Nat.le_of_ble_eq_true rfl), (Nat.le_of_ble_eq_true rfl)⟩) ⟨fun a U g mk q => by obtain ⟨q0, q1, qP, qK, qD, qE⟩ := q; exact ⟨q0, q1, qP, va_K.moved (u := U) (U := U.calling g mk a) (Vm.Alike.refl U.vm) qK, qD, ey_blind qE⟩, va_recv hK hPc (ci := 2) (q0 := 0) rfl rfl, fun U hU hW => ⟨rfl, by rw [hU], by rw [hU]; exact hPc, va_K.moved hW.alike hK, hDc.weaken (fun _ _ _ _ => trivial), ey_call hE hS hFc hU hW⟩⟩ rfl rfl hl.1 rfl (lv_room (Nat.le_of_ble_eq_true rfl)) dX3_doubleFloors_44 ⟨(Nat.le_of_ble_eq_true rfl), (Nat.le_of_ble_eq_true rfl)⟩) hS (fun q _ h => hFc q h) hFc (fun r_205 u t H locs ht hvm hw hB hz1 hk1 hS => ?_)
        obtain ⟨hP1, hD1⟩ := hB
        rw [ht] at hP1
        obtain ⟨hP, hD⟩ := bk_join hpm hP hD hk1 hFc (Cs1 := [[(h0, .inr (2, [.ref pl0, .int fr_41, .int dr_44, .int rc_47, .ref (r0 0), .ref (r0 1), .int gn_53, .ref (r0 2), .ref (r0 3), .ref (r0 4), .ref (r0 5), .ref (r0 6), .long sc_59, .int jc_60, .ref (r0 7), .ref (r0 8)])), (r0 0, .inl (cI, 10, .inl f_50)), (r0 1, .inl (cI, 10, .inl f_52)), (r0 2, .inl (cI, 6, .inl f_54)), (r0 3, .inl (cJ, 6, .inr (.inl f_55))), (r0 4, .inl (cJ, 6, .inr (.inl f_56))), (r0 5, .inl (cJ, 6, .inr (.inl f_57))), (r0 6, .inl (cJ, 10, .inr (.inl f_58))), (r0 7, .inl (cI, 70, .inl f_63)), (r0 8, .inl (cI, 70, .inl f_65))], w1]) hP1 hD1
        have hpm2 : List.Perm (([[(h0, .inr (2, [.ref pl0, .int fr_41, .int dr_44, .int rc_47, .ref (r0 0), .ref (r0 1), .int gn_53, .ref (r0 2), .ref (r0 3), .ref (r0 4), .ref (r0 5), .ref (r0 6), .long sc_59, .int jc_60, .ref (r0 7), .ref (r0 8)])), (r0 0, .inl (cI, 10, .inl f_50)), (r0 1, .inl (cI, 10, .inl f_52)), (r0 2, .inl (cI, 6, .inl f_54)), (r0 3, .inl (cJ, 6, .inr (.inl f_55))), (r0 4, .inl (cJ, 6, .inr (.inl f_56))), (r0 5, .inl (cJ, 6, .inr (.inl f_57))), (r0 6, .inl (cJ, 10, .inr (.inl f_58))), (r0 7, .inl (cI, 70, .inl f_63)), (r0 8, .inl (cI, 70, .inl f_65))], w1] : List va_W) ++ ([] : List va_W)) ([[(h0, .inr (2, [.ref pl0, .int fr_41, .int dr_44, .int rc_47, .ref (r0 0), .ref (r0 1), .int gn_53, .ref (r0 2), .ref (r0 3), .ref (r0 4), .ref (r0 5), .ref (r0 6), .long sc_59, .int jc_60, .ref (r0 7), .ref (r0 8)])), (r0 0, .inl (cI, 10, .inl f_50)), (r0 1, .inl (cI, 10, .inl f_52)), (r0 2, .inl (cI, 6, .inl f_54)), (r0 3, .inl (cJ, 6, .inr (.inl f_55))), (r0 4, .inl (cJ, 6, .inr (.inl f_56))), (r0 5, .inl (cJ, 6, .inr (.inl f_57))), (r0 6, .inl (cJ, 10, .inr (.inl f_58))), (r0 7, .inl (cI, 70, .inl f_63)), (r0 8, .inl (cI, 70, .inl f_65))], w1] : List va_W) := pm_n 2 [0, 1] (by decide) rfl rfl
        have hP := bk_reP hpm2 hP
        have hD := bk_reD hpm2 hD
        have hP : va_P (dC, dI) vwCl (List.flatten [[(h0, .inr (2, [.ref pl0, .int fr_41, .int dr_44, .int rc_47, .ref (r0 0), .ref (r0 1), .int gn_53, .ref (r0 2), .ref (r0 3), .ref (r0 4), .ref (r0 5), .ref (r0 6), .long sc_59, .int jc_60, .ref (r0 7), .ref (r0 8)])), (r0 0, .inl (cI, 10, .inl f_50)), (r0 1, .inl (cI, 10, .inl f_52)), (r0 2, .inl (cI, 6, .inl f_54)), (r0 3, .inl (cJ, 6, .inr (.inl f_55))), (r0 4, .inl (cJ, 6, .inr (.inl f_56))), (r0 5, .inl (cJ, 6, .inr (.inl f_57))), (r0 6, .inl (cJ, 10, .inr (.inl f_58))), (r0 7, .inl (cI, 70, .inl f_63)), (r0 8, .inl (cI, 70, .inl f_65))], w1]) H := hP
        have hD : va_D A (List.flatten [[(h0, .inr (2, [.ref pl0, .int fr_41, .int dr_44, .int rc_47, .ref (r0 0), .ref (r0 1), .int gn_53, .ref (r0 2), .ref (r0 3), .ref (r0 4), .ref (r0 5), .ref (r0 6), .long sc_59, .int jc_60, .ref (r0 7), .ref (r0 8)])), (r0 0, .inl (cI, 10, .inl f_50)), (r0 1, .inl (cI, 10, .inl f_52)), (r0 2, .inl (cI, 6, .inl f_54)), (r0 3, .inl (cJ, 6, .inr (.inl f_55))), (r0 4, .inl (cJ, 6, .inr (.inl f_56))), (r0 5, .inl (cJ, 6, .inr (.inl f_57))), (r0 6, .inl (cJ, 10, .inr (.inl f_58))), (r0 7, .inl (cI, 70, .inl f_63)), (r0 8, .inl (cI, 70, .inl f_65))], w1]) := hD
        refine lv_iconst (v := (-1)) hx hb dX3_doubleFloors_47 (by decide) ?_
        refine lv_ixor hx hb dX3_doubleFloors_48 ?_
        refine lv_topi (fun z_206 ez_206 => ?_)
        refine lv_iand hx hb dX3_doubleFloors_49 ?_
        refine lv_topi (fun z_207 ez_207 => ?_)
        rw [hQ0]
        exact W.iret (v := z_207) hx hb hr (fun t ht hW => ⟨⟨z_207, (), rfl, trivial, ⟨by rw [ht]; exact hP, hD⟩⟩, hS.F ht⟩) hS.2.2 dX3_doubleFloors_50
      · have c_204 : g_1.toInt < rc_47.toInt := f_nle rfl rfl c_204
        refine lv_iload_n hx hb dX3_doubleFloors_12 rfl (lv_at hl 1 rfl) ?_
        refine lv_aload_n hx hb dX3_doubleFloors_13 rfl (lv_at hl 2 rfl) ?_
        refine va_get (D := (dC, dI)) (ci := 2) (v := .ref (r0 0)) (C := RX3) (T := TX3) (N := 16) hx hb hts iw_X3_doubleFloors_X3 hown hK hP 0 rfl rfl 4 (by decide) (hts (.fieldLink RX3 28 "HungFloors$Frame" "from" "[I") (by decide +kernel)) (fun _ h9 => h9) rfl dX3_doubleFloors_14 ?_
        refine lv_iload_n hx hb dX3_doubleFloors_17 rfl (lv_at hl 0 rfl) ?_
        refine va_iald hx hb hK hP 1 1 rfl rfl (v_in rfl (by omega) (by omega)) dX3_doubleFloors_18 ?_
        refine lv_topi (fun z_208 ez_208 => ?_)
        have gz_208 := rg_at hr_51 ez_208
        have g1z_208 := gz_208.1
        have g2z_208 := gz_208.2
        refine lv_if_ge (tgt := 26) hx hb dX3_doubleFloors_19 (by decide) (fun c_209 => ?_) (fun c_209 => ?_)
        · have c_209 : 0 ≤ z_208.toInt := f_le tI_0 rfl c_209
          refine lv_iconst (v := 1) hx hb dX3_doubleFloors_26 (by decide) ?_
          refine lv_aload_n hx hb dX3_doubleFloors_27 rfl (lv_at hl 2 rfl) ?_
          refine va_get (D := (dC, dI)) (ci := 2) (v := .ref (r0 0)) (C := RX3) (T := TX3) (N := 16) hx hb hts iw_X3_doubleFloors_X3 hown hK hP 0 rfl rfl 4 (by decide) (hts (.fieldLink RX3 28 "HungFloors$Frame" "from" "[I") (by decide +kernel)) (fun _ h9 => h9) rfl dX3_doubleFloors_28 ?_
          refine lv_iload_n hx hb dX3_doubleFloors_31 rfl (lv_at hl 0 rfl) ?_
          refine va_iald hx hb hK hP 1 1 rfl rfl (v_in rfl (by omega) (by omega)) dX3_doubleFloors_32 ?_
          refine lv_topi (fun z_210 ez_210 => ?_)
          have gz_210 := rg_at hr_51 ez_210
          have g1z_210 := gz_210.1
          have g2z_210 := gz_210.2
          have qz_210 : z_210.toInt = z_208.toInt := by rw [ez_210, ez_208]
          refine lv_ishl hx hb dX3_doubleFloors_33 ?_
          refine lv_topi (fun z_211 ez_211 => ?_)
          have hz_211 := t_shl1 (by omega) (by omega) ez_211
          have h1z_211 := hz_211.1
          have h2z_211 := hz_211.2
          refine lv_ior hx hb dX3_doubleFloors_34 ?_
          refine lv_topi (fun z_212 ez_212 => ?_)
          refine lv_istore_n (lv' := [(1, .int z_212), (2, .int g_1), (0, .ref h0)]) hx hb dX3_doubleFloors_35 rfl hl (by decide) rfl (fun ls hl => ?_)
          obtain ⟨z_213, ez_213⟩ : ∃ y : Int32, y = g_1 + 1 := ⟨_, rfl⟩
          have hz_213 : z_213.toInt = g_1.toInt + 1 := by rw [ez_213]; exact t_add rfl tI_1 (by omega) (by omega)
          refine lv_iinc (v := z_213) (lv' := [(2, .int z_213), (1, .int z_212), (0, .ref h0)]) hx hb dX3_doubleFloors_36 hl (k := 1) rfl (by rw [ez_213]; rfl) (by decide) rfl (fun ls hl => ?_)
          refine lv_goto (tgt := 4) hx hb dX3_doubleFloors_39 (by decide) ?_
          exact ih_203 z_213 z_212 (by omega) (by omega) (by omega) (by omega) _ _ hP hD hS ls (lv_sub hl [0, 1, 2] rfl)
        · have c_209 : z_208.toInt < 0 := f_nle tI_0 rfl c_209
          refine lv_iconst (v := 0) hx hb dX3_doubleFloors_22 (by decide) ?_
          refine lv_goto (tgt := 34) hx hb dX3_doubleFloors_23 (by decide) ?_
          refine lv_ior hx hb dX3_doubleFloors_34 ?_
          refine lv_topi (fun z_214 ez_214 => ?_)
          refine lv_istore_n (lv' := [(1, .int z_214), (2, .int g_1), (0, .ref h0)]) hx hb dX3_doubleFloors_35 rfl hl (by decide) rfl (fun ls hl => ?_)
          obtain ⟨z_215, ez_215⟩ : ∃ y : Int32, y = g_1 + 1 := ⟨_, rfl⟩
          have hz_215 : z_215.toInt = g_1.toInt + 1 := by rw [ez_215]; exact t_add rfl tI_1 (by omega) (by omega)
          refine lv_iinc (v := z_215) (lv' := [(2, .int z_215), (1, .int z_214), (0, .ref h0)]) hx hb dX3_doubleFloors_36 hl (k := 1) rfl (by rw [ez_215]; rfl) (by decide) rfl (fun ls hl => ?_)
          refine lv_goto (tgt := 4) hx hb dX3_doubleFloors_39 (by decide) ?_
          exact ih_203 z_215 z_214 (by omega) (by omega) (by omega) (by omega) _ _ hP hD hS ls (lv_sub hl [0, 1, 2] rfl)
  exact lp_202 _ 0 0 (by have := tI_0; omega) (by have := tI_0; omega) (by have := tI_0; omega) (Nat.lt_succ_self _) _ _ hP hD hS ls (lv_sub hl [0, 1, 2] rfl)
theorem iw_X3_hangFromRoof_X3 : ∀ w ∈ wsX30, w ∈ wsX3_hangFromRoof := fun _ h => List.mem_cons_of_mem _ (List.mem_append_left _ (List.mem_append_right _ h))
theorem iw_X3_hangFromRoof_X7 : ∀ w ∈ wsX70, w ∈ wsX3_hangFromRoof := fun _ h => List.mem_cons_of_mem _ (List.mem_append_right _ h)
set_option maxHeartbeats 4000000 in
set_option maxRecDepth 100000 in
theorem c_X3_hangFromRoof (l : Launch) (dC : Nat → ClassId) (dI : Nat → Nat → Nat) (ad : Nat → Nat) (tN : Nat) (fN : Nat → Int64) (cB cI cJ cZ : ClassId) (h0 : Nat) (p1 : Int32) (r0 : Nat → Nat) (pl0 : Nat) (w0 : va_W) (r1 : Nat → Nat) (fc1 : Int32) (dc1 : Int32) (rk1 : Nat → Int32) (w1 : va_W) (o0 : ok_frame ad cB cI cJ cZ h0 r0 pl0 w0) (o1 : ok_plan ad cB cI cJ cZ pl0 r1 fc1 dc1 rk1 w1) (sz : Nat) : Met l yX3_hangFromRoof wsX3_hangFromRoof ({ frames := 0, cells := 0, slots := 0, locals := 0 } : Room) (va_Pc [.ref h0, .int p1] (fun U => U.heap.size = sz ∧ va_P (dC, dI) vwCl (List.flatten [w0, w1]) U.heap ∧ va_K (dC, dI) vwCl [(cB, .byte), (cI, .int), (cJ, .long), (cZ, .boolean)] U ∧ va_D (fun _ => True) (List.flatten [w0, w1]) ∧ ex_Y ad tN fN (va_A (List.flatten [w0, w1]) sz) U)) (va_Qv (fun _ : Unit => True) (fun (_ : Unit) (t : State) => ∃ (w09 : va_W), ok_frame ad cB cI cJ cZ h0 r0 pl0 w09 ∧ va_P (dC, dI) vwCl (List.flatten [w09, w1]) t.heap ∧ va_D (va_A (List.flatten [w0, w1]) sz) (List.flatten [w09, w1])) (va_A (List.flatten [w0, w1]) sz)) 0 0 (va_A (List.flatten [w0, w1]) sz) := by
  refine Met.ofW (cc := cX3_hangFromRoof) (maxL := 3) (ret := none) (by decide) rfl ?_
  intro p e s m args below meth c s₁ B hml hv
  obtain ⟨rfl, hsz, hP, hK, hD0, hE⟩ := hv
  have hx := B.exec
  have hb := B.bytes
  have hr := B.returns
  have hts := atoms_spec (ws := wsX3_hangFromRoof) B.pre
  have hown : s.vm.findClass RX3 = some m.cls := findClass_of_methodNamed B.named
  have hlocks := B.notSynchronized
  subst hsz
  have hD := hD0.self (sz := s.heap.size)
  generalize hAe : va_A (List.flatten [w0, w1]) s.heap.size = A at hD hE ⊢
  have hA : ∀ q : Nat, s.heap.size ≤ q → A q := fun q h => by rw [← hAe]; exact Or.inr h
  have hS : va_S A s.heap s.heap [] := va_S.rf
  have hl := lv_entry ([.ref h0, .int p1]) (n := 3) (Nat.le_of_ble_eq_true rfl)
  rw [lg_entry_eq]
  generalize (lg_sl ([.ref h0, .int p1]) ++ List.replicate (3 - (lg_sl ([.ref h0, .int p1])).length) Slot.unset).toArray = ls at hl ⊢
  have hl : lv_has ls 3 [(0, .ref h0), (1, .int p1)] := hl
  clear hAe
  refine W_name (fun Q0 hQ0 => ?_)
  refine lv_iconst (v := 0) hx hb dX3_hangFromRoof_0 (by decide) ?_
  refine lv_istore_n (lv' := [(2, .int 0), (0, .ref h0), (1, .int p1)]) hx hb dX3_hangFromRoof_1 rfl hl (by decide) rfl (fun ls hl => ?_)
  obtain ⟨fr_55, dr_58, rc_61, f_64, f_66, gn_67, f_68, f_69, f_70, f_71, f_72, sc_73, jc_74, f_77, f_79, rfl, hl_56, hh_57, hl_59, hh_60, hl_62, hh_63, hr_65, hl_75, hh_76, hr_78, hr_80⟩ := o0
  obtain ⟨f_83, f_84, f_85, f_86, f_89, f_91, f_92, f_94, f_95, rfl, hl_81, hh_82, hl_87, hh_88, hr_90, hr_93⟩ := o1
  have lp_244 : ∀ (n : Nat) (g_1 : Int32) (gf_108 : Nat → Int32), rg (-1) 5 gf_108 → 0 ≤ g_1.toInt → g_1.toInt ≤ 10 → g_1.toInt - rc_61.toInt ≤ 0 → (10 - g_1.toInt).toNat < n → ∀ (H : Heap) (locs : List Loc), va_P (dC, dI) vwCl (List.flatten [[(h0, .inr (2, [.ref pl0, .int fr_55, .int dr_58, .int rc_61, .ref (r0 0), .ref (r0 1), .int gn_67, .ref (r0 2), .ref (r0 3), .ref (r0 4), .ref (r0 5), .ref (r0 6), .long sc_73, .int jc_74, .ref (r0 7), .ref (r0 8)])), (r0 0, .inl (cI, 10, .inl gf_108)), (r0 1, .inl (cI, 10, .inl f_66)), (r0 2, .inl (cI, 6, .inl f_68)), (r0 3, .inl (cJ, 6, .inr (.inl f_69))), (r0 4, .inl (cJ, 6, .inr (.inl f_70))), (r0 5, .inl (cJ, 6, .inr (.inl f_71))), (r0 6, .inl (cJ, 10, .inr (.inl f_72))), (r0 7, .inl (cI, 70, .inl f_77)), (r0 8, .inl (cI, 70, .inl f_79))], [(pl0, .inr (5, [.int fc1, .ref (r1 0), .ref (r1 1), .ref (r1 2), .ref (r1 3), .int dc1, .ref (r1 4), .ref (r1 5), .ref (r1 6), .ref (r1 7), .ref (r1 8), .ref (r1 9)])), (r1 0, .inl (cJ, 6, .inr (.inl f_83))), (r1 1, .inl (cI, 6, .inl f_84)), (r1 2, .inl (cI, 6, .inl f_85)), (r1 3, .inl (cI, 6, .inl f_86)), (r1 4, .inl (cJ, 4, .inr (.inl f_89))), (r1 5, .inl (cI, 4, .inl rk1)), (r1 6, .inl (cJ, 40, .inr (.inl f_91))), (r1 7, .inl (cI, 40, .inl f_92)), (r1 8, .inl (cI, 40, .inl f_94)), (r1 9, .inl (cI, 40, .inl f_95))]]) H → va_D A (List.flatten [[(h0, .inr (2, [.ref pl0, .int fr_55, .int dr_58, .int rc_61, .ref (r0 0), .ref (r0 1), .int gn_67, .ref (r0 2), .ref (r0 3), .ref (r0 4), .ref (r0 5), .ref (r0 6), .long sc_73, .int jc_74, .ref (r0 7), .ref (r0 8)])), (r0 0, .inl (cI, 10, .inl gf_108)), (r0 1, .inl (cI, 10, .inl f_66)), (r0 2, .inl (cI, 6, .inl f_68)), (r0 3, .inl (cJ, 6, .inr (.inl f_69))), (r0 4, .inl (cJ, 6, .inr (.inl f_70))), (r0 5, .inl (cJ, 6, .inr (.inl f_71))), (r0 6, .inl (cJ, 10, .inr (.inl f_72))), (r0 7, .inl (cI, 70, .inl f_77)), (r0 8, .inl (cI, 70, .inl f_79))], [(pl0, .inr (5, [.int fc1, .ref (r1 0), .ref (r1 1), .ref (r1 2), .ref (r1 3), .int dc1, .ref (r1 4), .ref (r1 5), .ref (r1 6), .ref (r1 7), .ref (r1 8), .ref (r1 9)])), (r1 0, .inl (cJ, 6, .inr (.inl f_83))), (r1 1, .inl (cI, 6, .inl f_84)), (r1 2, .inl (cI, 6, .inl f_85)), (r1 3, .inl (cI, 6, .inl f_86)), (r1 4, .inl (cJ, 4, .inr (.inl f_89))), (r1 5, .inl (cI, 4, .inl rk1)), (r1 6, .inl (cJ, 40, .inr (.inl f_91))), (r1 7, .inl (cI, 40, .inl f_92)), (r1 8, .inl (cI, 40, .inl f_94)), (r1 9, .inl (cI, 40, .inl f_95))]]) → va_S A s.heap H locs → ∀ (ls : Array Slot), lv_has ls 3 [(2, .int g_1), (0, .ref h0), (1, .int p1)] → W p l e (headSpec wsX3_hangFromRoof ({ frames := 0, cells := 0, slots := 0, locals := 0 } : Room)).room s m ([.ref h0, .int p1] : List Value).toArray below meth c H locs 0 0 Q0 (F0 m 2 ls []) := by
    intro n
    induction n with
    | zero => intro g_1 gf_108 hrgf_108 iv_241 iv_242 iv_243 hm; exact absurd hm (Nat.not_lt_zero _)
    | succ n ih_245 =>
      intro g_1 gf_108 hrgf_108 iv_241 iv_242 iv_243 hm H locs hP hD hS ls hl
      refine lv_iload_n hx hb dX3_hangFromRoof_2 rfl (lv_at hl 0 rfl) ?_
      refine lv_aload_n hx hb dX3_hangFromRoof_3 rfl (lv_at hl 1 rfl) ?_
      refine va_get (D := (dC, dI)) (ci := 2) (v := .int rc_61) (C := RX3) (T := TX3) (N := 16) hx hb hts iw_X3_hangFromRoof_X3 hown hK hP 0 rfl rfl 3 (by decide) (hts (.fieldLink RX3 25 "HungFloors$Frame" "rodCount" "I") (by decide +kernel)) (fun _ h9 => h9) rfl dX3_hangFromRoof_4 ?_
      refine lv_icmp_ge (tgt := 48) hx hb dX3_hangFromRoof_7 (by decide) (fun c_246 => ?_) (fun c_246 => ?_)
      · have c_246 : rc_61.toInt ≤ g_1.toInt := f_le rfl rfl c_246
        rw [hQ0]
        exact W.vret hx hb hr (fun t ht hW => ⟨⟨(), rfl, trivial, ⟨_, ⟨fr_55, dr_58, rc_61, gf_108, f_66, gn_67, f_68, f_69, f_70, f_71, f_72, sc_73, jc_74, f_77, f_79, rfl, by omega, by omega, by omega, by omega, by omega, by omega, hrgf_108, by omega, by omega, hr_78, hr_80⟩, by rw [ht]; exact hP, hD⟩⟩, hS.F ht⟩) hS.2.2 dX3_hangFromRoof_48
      · have c_246 : g_1.toInt < rc_61.toInt := f_nle rfl rfl c_246
        refine lv_aload_n hx hb dX3_hangFromRoof_10 rfl (lv_at hl 1 rfl) ?_
        refine va_get (D := (dC, dI)) (ci := 2) (v := .ref (r0 0)) (C := RX3) (T := TX3) (N := 16) hx hb hts iw_X3_hangFromRoof_X3 hown hK hP 0 rfl rfl 4 (by decide) (hts (.fieldLink RX3 28 "HungFloors$Frame" "from" "[I") (by decide +kernel)) (fun _ h9 => h9) rfl dX3_hangFromRoof_11 ?_
        refine lv_iload_n hx hb dX3_hangFromRoof_14 rfl (lv_at hl 0 rfl) ?_
        refine lv_iload_n hx hb dX3_hangFromRoof_15 rfl (lv_at hl 2 rfl) ?_
        refine lv_iload_n hx hb dX3_hangFromRoof_16 rfl (lv_at hl 0 rfl) ?_
        refine lv_ishr hx hb dX3_hangFromRoof_17 ?_
        refine lv_topi (fun z_247 ez_247 => ?_)
        refine lv_iconst (v := 1) hx hb dX3_hangFromRoof_18 (by decide) ?_
        refine lv_iand hx hb dX3_hangFromRoof_19 ?_
        refine lv_topi (fun z_248 ez_248 => ?_)
        refine lv_if_eq (tgt := 27) hx hb dX3_hangFromRoof_20 (by decide) (fun c_249 => ?_) (fun c_249 => ?_)
        · have c_249 : z_248.toInt = 0 := f_eq rfl tI_0 c_249
          refine lv_aload_n hx hb dX3_hangFromRoof_27 rfl (lv_at hl 1 rfl) ?_
          refine va_get (D := (dC, dI)) (ci := 2) (v := .ref pl0) (C := RX3) (T := TX3) (N := 16) hx hb hts iw_X3_hangFromRoof_X3 hown hK hP 0 rfl rfl 0 (by decide) (hts (.fieldLink RX3 12 "HungFloors$Frame" "plan" "LHungFloors$Plan;") (by decide +kernel)) (fun _ h9 => h9) rfl dX3_hangFromRoof_28 ?_
          refine va_get (D := (dC, dI)) (ci := 5) (v := .ref (r1 7)) (C := RX7) (T := TX7) (N := 12) hx hb hts iw_X3_hangFromRoof_X7 hown hK hP 10 rfl rfl 9 (by decide) (hts (.fieldLink RX3 69 "HungFloors$Plan" "rodFrom" "[I") (by decide +kernel)) (fun _ h9 => h9) rfl dX3_hangFromRoof_31 ?_
          refine lv_aload_n hx hb dX3_hangFromRoof_34 rfl (lv_at hl 1 rfl) ?_
          refine va_get (D := (dC, dI)) (ci := 2) (v := .int fr_55) (C := RX3) (T := TX3) (N := 16) hx hb hts iw_X3_hangFromRoof_X3 hown hK hP 0 rfl rfl 1 (by decide) (hts (.fieldLink RX3 18 "HungFloors$Frame" "firstRod" "I") (by decide +kernel)) (fun _ h9 => h9) rfl dX3_hangFromRoof_35 ?_
          refine lv_iload_n hx hb dX3_hangFromRoof_38 rfl (lv_at hl 0 rfl) ?_
          refine lv_iadd hx hb dX3_hangFromRoof_39 ?_
          refine lv_topi (fun z_250 ez_250 => ?_)
          have hz_250 : z_250.toInt = fr_55.toInt + g_1.toInt := by rw [ez_250]; exact t_add rfl rfl (by omega) (by omega)
          refine va_iald hx hb hK hP 18 1 rfl rfl (v_in rfl (by omega) (by omega)) dX3_hangFromRoof_40 ?_
          refine lv_topi (fun z_251 ez_251 => ?_)
          have gz_251 := rg_at hr_93 ez_251
          have g1z_251 := gz_251.1
          have g2z_251 := gz_251.2
          refine va_iast hx hb hK hP hD hS 1 1 rfl rfl (v_in rfl (by omega) (by omega)) dX3_hangFromRoof_41 (fun H locs hP hD hS => ?_)
          obtain ⟨f_252, hr_253, hP, hD⟩ : ∃ f_252 : Nat → Int32, rg (-1) 5 f_252 ∧ va_P (dC, dI) vwCl (List.flatten [[(h0, .inr (2, [.ref pl0, .int fr_55, .int dr_58, .int rc_61, .ref (r0 0), .ref (r0 1), .int gn_67, .ref (r0 2), .ref (r0 3), .ref (r0 4), .ref (r0 5), .ref (r0 6), .long sc_73, .int jc_74, .ref (r0 7), .ref (r0 8)])), (r0 0, .inl (cI, 10, .inl f_252)), (r0 1, .inl (cI, 10, .inl f_66)), (r0 2, .inl (cI, 6, .inl f_68)), (r0 3, .inl (cJ, 6, .inr (.inl f_69))), (r0 4, .inl (cJ, 6, .inr (.inl f_70))), (r0 5, .inl (cJ, 6, .inr (.inl f_71))), (r0 6, .inl (cJ, 10, .inr (.inl f_72))), (r0 7, .inl (cI, 70, .inl f_77)), (r0 8, .inl (cI, 70, .inl f_79))], [(pl0, .inr (5, [.int fc1, .ref (r1 0), .ref (r1 1), .ref (r1 2), .ref (r1 3), .int dc1, .ref (r1 4), .ref (r1 5), .ref (r1 6), .ref (r1 7), .ref (r1 8), .ref (r1 9)])), (r1 0, .inl (cJ, 6, .inr (.inl f_83))), (r1 1, .inl (cI, 6, .inl f_84)), (r1 2, .inl (cI, 6, .inl f_85)), (r1 3, .inl (cI, 6, .inl f_86)), (r1 4, .inl (cJ, 4, .inr (.inl f_89))), (r1 5, .inl (cI, 4, .inl rk1)), (r1 6, .inl (cJ, 40, .inr (.inl f_91))), (r1 7, .inl (cI, 40, .inl f_92)), (r1 8, .inl (cI, 40, .inl f_94)), (r1 9, .inl (cI, 40, .inl f_95))]]) H ∧ va_D A (List.flatten [[(h0, .inr (2, [.ref pl0, .int fr_55, .int dr_58, .int rc_61, .ref (r0 0), .ref (r0 1), .int gn_67, .ref (r0 2), .ref (r0 3), .ref (r0 4), .ref (r0 5), .ref (r0 6), .long sc_73, .int jc_74, .ref (r0 7), .ref (r0 8)])), (r0 0, .inl (cI, 10, .inl f_252)), (r0 1, .inl (cI, 10, .inl f_66)), (r0 2, .inl (cI, 6, .inl f_68)), (r0 3, .inl (cJ, 6, .inr (.inl f_69))), (r0 4, .inl (cJ, 6, .inr (.inl f_70))), (r0 5, .inl (cJ, 6, .inr (.inl f_71))), (r0 6, .inl (cJ, 10, .inr (.inl f_72))), (r0 7, .inl (cI, 70, .inl f_77)), (r0 8, .inl (cI, 70, .inl f_79))], [(pl0, .inr (5, [.int fc1, .ref (r1 0), .ref (r1 1), .ref (r1 2), .ref (r1 3), .int dc1, .ref (r1 4), .ref (r1 5), .ref (r1 6), .ref (r1 7), .ref (r1 8), .ref (r1 9)])), (r1 0, .inl (cJ, 6, .inr (.inl f_83))), (r1 1, .inl (cI, 6, .inl f_84)), (r1 2, .inl (cI, 6, .inl f_85)), (r1 3, .inl (cI, 6, .inl f_86)), (r1 4, .inl (cJ, 4, .inr (.inl f_89))), (r1 5, .inl (cI, 4, .inl rk1)), (r1 6, .inl (cJ, 40, .inr (.inl f_91))), (r1 7, .inl (cI, 40, .inl f_92)), (r1 8, .inl (cI, 40, .inl f_94)), (r1 9, .inl (cI, 40, .inl f_95))]]) := ⟨_, rg_upd hrgf_108 (by omega) (by omega), hP, hD⟩
          obtain ⟨z_254, ez_254⟩ : ∃ y : Int32, y = g_1 + 1 := ⟨_, rfl⟩
          have hz_254 : z_254.toInt = g_1.toInt + 1 := by rw [ez_254]; exact t_add rfl tI_1 (by omega) (by omega)
          refine lv_iinc (v := z_254) (lv' := [(2, .int z_254), (0, .ref h0), (1, .int p1)]) hx hb dX3_hangFromRoof_42 hl (k := 0) rfl (by rw [ez_254]; rfl) (by decide) rfl (fun ls hl => ?_)
          refine lv_goto (tgt := 2) hx hb dX3_hangFromRoof_45 (by decide) ?_
          exact ih_245 z_254 f_252 hr_253 (by omega) (by omega) (by omega) (by omega) _ _ hP hD hS ls (lv_sub hl [0, 1, 2] rfl)
        · have c_249 : ¬ z_248.toInt = 0 := f_ne rfl tI_0 c_249
          refine lv_iconst (v := (-1)) hx hb dX3_hangFromRoof_23 (by decide) ?_
          refine lv_goto (tgt := 41) hx hb dX3_hangFromRoof_24 (by decide) ?_
          refine va_iast hx hb hK hP hD hS 1 1 rfl rfl (v_in rfl (by omega) (by omega)) dX3_hangFromRoof_41 (fun H locs hP hD hS => ?_)
          obtain ⟨f_255, hr_256, hP, hD⟩ : ∃ f_255 : Nat → Int32, rg (-1) 5 f_255 ∧ va_P (dC, dI) vwCl (List.flatten [[(h0, .inr (2, [.ref pl0, .int fr_55, .int dr_58, .int rc_61, .ref (r0 0), .ref (r0 1), .int gn_67, .ref (r0 2), .ref (r0 3), .ref (r0 4), .ref (r0 5), .ref (r0 6), .long sc_73, .int jc_74, .ref (r0 7), .ref (r0 8)])), (r0 0, .inl (cI, 10, .inl f_255)), (r0 1, .inl (cI, 10, .inl f_66)), (r0 2, .inl (cI, 6, .inl f_68)), (r0 3, .inl (cJ, 6, .inr (.inl f_69))), (r0 4, .inl (cJ, 6, .inr (.inl f_70))), (r0 5, .inl (cJ, 6, .inr (.inl f_71))), (r0 6, .inl (cJ, 10, .inr (.inl f_72))), (r0 7, .inl (cI, 70, .inl f_77)), (r0 8, .inl (cI, 70, .inl f_79))], [(pl0, .inr (5, [.int fc1, .ref (r1 0), .ref (r1 1), .ref (r1 2), .ref (r1 3), .int dc1, .ref (r1 4), .ref (r1 5), .ref (r1 6), .ref (r1 7), .ref (r1 8), .ref (r1 9)])), (r1 0, .inl (cJ, 6, .inr (.inl f_83))), (r1 1, .inl (cI, 6, .inl f_84)), (r1 2, .inl (cI, 6, .inl f_85)), (r1 3, .inl (cI, 6, .inl f_86)), (r1 4, .inl (cJ, 4, .inr (.inl f_89))), (r1 5, .inl (cI, 4, .inl rk1)), (r1 6, .inl (cJ, 40, .inr (.inl f_91))), (r1 7, .inl (cI, 40, .inl f_92)), (r1 8, .inl (cI, 40, .inl f_94)), (r1 9, .inl (cI, 40, .inl f_95))]]) H ∧ va_D A (List.flatten [[(h0, .inr (2, [.ref pl0, .int fr_55, .int dr_58, .int rc_61, .ref (r0 0), .ref (r0 1), .int gn_67, .ref (r0 2), .ref (r0 3), .ref (r0 4), .ref (r0 5), .ref (r0 6), .long sc_73, .int jc_74, .ref (r0 7), .ref (r0 8)])), (r0 0, .inl (cI, 10, .inl f_255)), (r0 1, .inl (cI, 10, .inl f_66)), (r0 2, .inl (cI, 6, .inl f_68)), (r0 3, .inl (cJ, 6, .inr (.inl f_69))), (r0 4, .inl (cJ, 6, .inr (.inl f_70))), (r0 5, .inl (cJ, 6, .inr (.inl f_71))), (r0 6, .inl (cJ, 10, .inr (.inl f_72))), (r0 7, .inl (cI, 70, .inl f_77)), (r0 8, .inl (cI, 70, .inl f_79))], [(pl0, .inr (5, [.int fc1, .ref (r1 0), .ref (r1 1), .ref (r1 2), .ref (r1 3), .int dc1, .ref (r1 4), .ref (r1 5), .ref (r1 6), .ref (r1 7), .ref (r1 8), .ref (r1 9)])), (r1 0, .inl (cJ, 6, .inr (.inl f_83))), (r1 1, .inl (cI, 6, .inl f_84)), (r1 2, .inl (cI, 6, .inl f_85)), (r1 3, .inl (cI, 6, .inl f_86)), (r1 4, .inl (cJ, 4, .inr (.inl f_89))), (r1 5, .inl (cI, 4, .inl rk1)), (r1 6, .inl (cJ, 40, .inr (.inl f_91))), (r1 7, .inl (cI, 40, .inl f_92)), (r1 8, .inl (cI, 40, .inl f_94)), (r1 9, .inl (cI, 40, .inl f_95))]]) := ⟨_, rg_upd hrgf_108 (by decide) (by decide), hP, hD⟩
          obtain ⟨z_257, ez_257⟩ : ∃ y : Int32, y = g_1 + 1 := ⟨_, rfl⟩
          have hz_257 : z_257.toInt = g_1.toInt + 1 := by rw [ez_257]; exact t_add rfl tI_1 (by omega) (by omega)
          refine lv_iinc (v := z_257) (lv' := [(2, .int z_257), (0, .ref h0), (1, .int p1)]) hx hb dX3_hangFromRoof_42 hl (k := 0) rfl (by rw [ez_257]; rfl) (by decide) rfl (fun ls hl => ?_)
          refine lv_goto (tgt := 2) hx hb dX3_hangFromRoof_45 (by decide) ?_
          exact ih_245 z_257 f_255 hr_256 (by omega) (by omega) (by omega) (by omega) _ _ hP hD hS ls (lv_sub hl [0, 1, 2] rfl)
  exact lp_244 _ 0 f_64 hr_65 (by have := tI_0; omega) (by have := tI_0; omega) (by have := tI_0; omega) (Nat.lt_succ_self _) _ _ hP hD hS ls (lv_sub hl [0, 1, 2] rfl)
