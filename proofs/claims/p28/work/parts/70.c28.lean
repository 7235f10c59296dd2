set_option maxHeartbeats 4000000 in
set_option maxRecDepth 100000 in
theorem c_X0_badWays_nv4 (l : Launch) (dC : Nat → ClassId) (dI : Nat → Nat → Nat) (ad : Nat → Nat) (tN : Nat) (fN : Nat → Int64) (cB cI cJ cZ cQ : ClassId) (h0 : Nat) (p1 : Int32) (p2 : Int32) (r0 : Nat → Nat) (st0 : Nat) (w0 : va_W) (f1 : Nat → Int32) (o0 : ok_crowd ad cB cI cJ cZ cQ h0 r0 st0 w0) (sz : Nat) (up21 : 0 ≤ p2.toInt) (up22 : p2.toInt ≤ 10) (up11 : 4 ≤ p1.toInt) (up12 : p1.toInt ≤ 4) : Met l yX0_badWays wsX0_badWays ({ frames := 3, cells := 0, slots := 0, locals := 80 } : Room) (va_Pc [.ref h0, .int p1, .int p2] (fun U => U.heap.size = sz ∧ va_P (dC, dI) vwCl (List.flatten [w0, [(st0, .inl (cI, 6, .inl f1))]]) U.heap ∧ va_K (dC, dI) vwCl [(cB, .byte), (cI, .int), (cJ, .long), (cZ, .boolean), (cQ, .array .long)] U ∧ va_D (fun _ => True) (List.flatten [w0, [(st0, .inl (cI, 6, .inl f1))]]) ∧ ex_Y ad tN fN (va_A (List.flatten [w0, [(st0, .inl (cI, 6, .inl f1))]]) sz) U)) (va_Ql (fun (r : Int64) (_ : Unit) => True) (fun (_ : Unit) (t : State) => ∃ (w09 : va_W), ok_crowd ad cB cI cJ cZ cQ h0 r0 st0 w09 ∧ va_P (dC, dI) vwCl (List.flatten [w09, [(st0, .inl (cI, 6, .inl f1))]]) t.heap ∧ va_D (va_A (List.flatten [w0, [(st0, .inl (cI, 6, .inl f1))]]) sz) (List.flatten [w09, [(st0, .inl (cI, 6, .inl f1))]])) (va_A (List.flatten [w0, [(st0, .inl (cI, 6, .inl f1))]]) sz)) 0 0 (va_A (List.flatten [w0, [(st0, .inl (cI, 6, .inl f1))]]) sz) := by
  refine Met.ofW (cc := cX0_badWays) (maxL := 9) (ret := (some .long)) (by decide) rfl ?_
  intro p e s m args below meth c s₁ B hml hv
  obtain ⟨rfl, hsz, hP, hK, hD0, hE⟩ := hv
  have hx := B.exec
  have hb := B.bytes
  have hr := B.returns
  have hts := atoms_spec (ws := wsX0_badWays) B.pre
  have hown : s.vm.findClass RX0 = some m.cls := findClass_of_methodNamed B.named
  have hlocks := B.notSynchronized
  subst hsz
  have hD := hD0.self (sz := s.heap.size)
  generalize hAe : va_A (List.flatten [w0, [(st0, .inl (cI, 6, .inl f1))]]) s.heap.size = A at hD hE ⊢
  have hA : ∀ q : Nat, s.heap.size ≤ q → A q := fun q h => by rw [← hAe]; exact Or.inr h
  have hS : va_S A s.heap s.heap [] := va_S.rf
  have hl := lv_entry ([.ref h0, .int p1, .int p2]) (n := 9) (Nat.le_of_ble_eq_true rfl)
  rw [lg_entry_eq]
  generalize (lg_sl ([.ref h0, .int p1, .int p2]) ++ List.replicate (9 - (lg_sl ([.ref h0, .int p1, .int p2])).length) Slot.unset).toArray = ls at hl ⊢
  have hl : lv_has ls 9 [(0, .ref h0), (1, .int p1), (2, .int p2)] := hl
  clear hAe
  refine W_name (fun Q0 hQ0 => ?_)
  refine lv_aload_n hx hb dX0_badWays_0 rfl (lv_at hl 0 rfl) ?_
  refine lv_iload_n hx hb dX0_badWays_1 rfl (lv_at hl 1 rfl) ?_
  obtain ⟨f_1, f_2, f_3, f_4, f_5, f_6, f_7, f_8, f_9, f_10, f_11, f_12, f_13, f_14, ck_15, fn_18, f_21, bd_22, al_23, rfl, hl_16, hh_17, hl_19, hh_20⟩ := o0
  have hpm : List.Perm ([[(h0, .inr (0, [.ref (r0 0), .ref (r0 8), .ref (r0 15), .int ck_15, .ref st0, .int fn_18, .ref (r0 16), .long bd_22, .long al_23])), (r0 0, .inl (cQ, 7, .inr (.inr (.inr (.inr (fun j => some (r0 (j + 1)))))))), (r0 1, .inl (cJ, 16, .inr (.inl f_1))), (r0 2, .inl (cJ, 16, .inr (.inl f_2))), (r0 3, .inl (cJ, 16, .inr (.inl f_3))), (r0 4, .inl (cJ, 16, .inr (.inl f_4))), (r0 5, .inl (cJ, 16, .inr (.inl f_5))), (r0 6, .inl (cJ, 16, .inr (.inl f_6))), (r0 7, .inl (cJ, 16, .inr (.inl f_7))), (r0 8, .inl (cQ, 6, .inr (.inr (.inr (.inr (fun j => some (r0 (j + 9)))))))), (r0 9, .inl (cJ, 16, .inr (.inl f_8))), (r0 10, .inl (cJ, 16, .inr (.inl f_9))), (r0 11, .inl (cJ, 16, .inr (.inl f_10))), (r0 12, .inl (cJ, 16, .inr (.inl f_11))), (r0 13, .inl (cJ, 16, .inr (.inl f_12))), (r0 14, .inl (cJ, 16, .inr (.inl f_13))), (r0 15, .inl (cJ, 16, .inr (.inl f_14))), (r0 16, .inl (cI, 7, .inl f_21))], [(st0, .inl (cI, 6, .inl f1))]] : List va_W) (([[(h0, .inr (0, [.ref (r0 0), .ref (r0 8), .ref (r0 15), .int ck_15, .ref st0, .int fn_18, .ref (r0 16), .long bd_22, .long al_23])), (r0 0, .inl (cQ, 7, .inr (.inr (.inr (.inr (fun j => some (r0 (j + 1)))))))), (r0 1, .inl (cJ, 16, .inr (.inl f_1))), (r0 2, .inl (cJ, 16, .inr (.inl f_2))), (r0 3, .inl (cJ, 16, .inr (.inl f_3))), (r0 4, .inl (cJ, 16, .inr (.inl f_4))), (r0 5, .inl (cJ, 16, .inr (.inl f_5))), (r0 6, .inl (cJ, 16, .inr (.inl f_6))), (r0 7, .inl (cJ, 16, .inr (.inl f_7))), (r0 8, .inl (cQ, 6, .inr (.inr (.inr (.inr (fun j => some (r0 (j + 9)))))))), (r0 9, .inl (cJ, 16, .inr (.inl f_8))), (r0 10, .inl (cJ, 16, .inr (.inl f_9))), (r0 11, .inl (cJ, 16, .inr (.inl f_10))), (r0 12, .inl (cJ, 16, .inr (.inl f_11))), (r0 13, .inl (cJ, 16, .inr (.inl f_12))), (r0 14, .inl (cJ, 16, .inr (.inl f_13))), (r0 15, .inl (cJ, 16, .inr (.inl f_14))), (r0 16, .inl (cI, 7, .inl f_21))]] : List va_W) ++ ([[(st0, .inl (cI, 6, .inl f1))]] : List va_W)) := pm_n 2 [0, 1] (by decide) rfl rfl
  have hPc := bk_P hpm hP
  have hDc := bk_D hpm hD
  have hFc := bk_F hpm hD hS hA
  refine va_calli (va_runV (As := [.int p1]) (rest := []) ⟨hx, hb, hml, hown, hts⟩ (c_X0_isBadAt l dC dI ad tN fN cB cI cJ cZ cQ h0 p1 r0 st0 _ ⟨f_1, f_2, f_3, f_4, f_5, f_6, f_7, f_8, f_9, f_10, f_11, f_12, f_13, f_14, ck_15, fn_18, f_21, bd_22, al_23, rfl, by omega, by omega, by omega, by omega⟩ s.heap.size (by omega) (by omega)) (cwV 1 hts gX0_badWays_X0_isBadAt rfl rfl rfl (by decide +kernel) ⟨(Nat.le_of_ble_eq_true rfl), (Nat.le_of_ble_eq_true rfl)⟩) ⟨fun a U g mk q => by obtain ⟨q0, q1, qP, qK, qD, qE⟩ := q; exact ⟨q0, q1, qP, va_K.moved (u := U) (U := U.calling g mk a) (Vm.Alike.refl U.vm) qK, qD, ey_blind qE⟩, va_recv hK hPc (ci := 0) (q0 := 0) rfl rfl, fun U hU hW => ⟨rfl, by rw [hU], by rw [hU]; exact hPc, va_K.moved hW.alike hK, hDc.weaken (fun _ _ _ _ => trivial), ey_call hE hS hFc hU hW⟩⟩ rfl rfl hl.1 rfl (lv_room (Nat.le_of_ble_eq_true rfl)) dX0_badWays_2 ⟨(Nat.le_of_ble_eq_true rfl), (Nat.le_of_ble_eq_true rfl)⟩) hS (fun q _ h => hFc q h) hFc (fun r_24 u t H locs ht hvm hw hB hz1 hk1 hS => ?_)
  obtain ⟨hP1, hD1⟩ := hB
  rw [ht] at hP1
  obtain ⟨hP, hD⟩ := bk_join hpm hP hD hk1 hFc (Cs1 := [[(h0, .inr (0, [.ref (r0 0), .ref (r0 8), .ref (r0 15), .int ck_15, .ref st0, .int fn_18, .ref (r0 16), .long bd_22, .long al_23])), (r0 0, .inl (cQ, 7, .inr (.inr (.inr (.inr (fun j => some (r0 (j + 1)))))))), (r0 1, .inl (cJ, 16, .inr (.inl f_1))), (r0 2, .inl (cJ, 16, .inr (.inl f_2))), (r0 3, .inl (cJ, 16, .inr (.inl f_3))), (r0 4, .inl (cJ, 16, .inr (.inl f_4))), (r0 5, .inl (cJ, 16, .inr (.inl f_5))), (r0 6, .inl (cJ, 16, .inr (.inl f_6))), (r0 7, .inl (cJ, 16, .inr (.inl f_7))), (r0 8, .inl (cQ, 6, .inr (.inr (.inr (.inr (fun j => some (r0 (j + 9)))))))), (r0 9, .inl (cJ, 16, .inr (.inl f_8))), (r0 10, .inl (cJ, 16, .inr (.inl f_9))), (r0 11, .inl (cJ, 16, .inr (.inl f_10))), (r0 12, .inl (cJ, 16, .inr (.inl f_11))), (r0 13, .inl (cJ, 16, .inr (.inl f_12))), (r0 14, .inl (cJ, 16, .inr (.inl f_13))), (r0 15, .inl (cJ, 16, .inr (.inl f_14))), (r0 16, .inl (cI, 7, .inl f_21))]]) hP1 hD1
  have hpm2 : List.Perm (([[(h0, .inr (0, [.ref (r0 0), .ref (r0 8), .ref (r0 15), .int ck_15, .ref st0, .int fn_18, .ref (r0 16), .long bd_22, .long al_23])), (r0 0, .inl (cQ, 7, .inr (.inr (.inr (.inr (fun j => some (r0 (j + 1)))))))), (r0 1, .inl (cJ, 16, .inr (.inl f_1))), (r0 2, .inl (cJ, 16, .inr (.inl f_2))), (r0 3, .inl (cJ, 16, .inr (.inl f_3))), (r0 4, .inl (cJ, 16, .inr (.inl f_4))), (r0 5, .inl (cJ, 16, .inr (.inl f_5))), (r0 6, .inl (cJ, 16, .inr (.inl f_6))), (r0 7, .inl (cJ, 16, .inr (.inl f_7))), (r0 8, .inl (cQ, 6, .inr (.inr (.inr (.inr (fun j => some (r0 (j + 9)))))))), (r0 9, .inl (cJ, 16, .inr (.inl f_8))), (r0 10, .inl (cJ, 16, .inr (.inl f_9))), (r0 11, .inl (cJ, 16, .inr (.inl f_10))), (r0 12, .inl (cJ, 16, .inr (.inl f_11))), (r0 13, .inl (cJ, 16, .inr (.inl f_12))), (r0 14, .inl (cJ, 16, .inr (.inl f_13))), (r0 15, .inl (cJ, 16, .inr (.inl f_14))), (r0 16, .inl (cI, 7, .inl f_21))]] : List va_W) ++ ([[(st0, .inl (cI, 6, .inl f1))]] : List va_W)) ([[(h0, .inr (0, [.ref (r0 0), .ref (r0 8), .ref (r0 15), .int ck_15, .ref st0, .int fn_18, .ref (r0 16), .long bd_22, .long al_23])), (r0 0, .inl (cQ, 7, .inr (.inr (.inr (.inr (fun j => some (r0 (j + 1)))))))), (r0 1, .inl (cJ, 16, .inr (.inl f_1))), (r0 2, .inl (cJ, 16, .inr (.inl f_2))), (r0 3, .inl (cJ, 16, .inr (.inl f_3))), (r0 4, .inl (cJ, 16, .inr (.inl f_4))), (r0 5, .inl (cJ, 16, .inr (.inl f_5))), (r0 6, .inl (cJ, 16, .inr (.inl f_6))), (r0 7, .inl (cJ, 16, .inr (.inl f_7))), (r0 8, .inl (cQ, 6, .inr (.inr (.inr (.inr (fun j => some (r0 (j + 9)))))))), (r0 9, .inl (cJ, 16, .inr (.inl f_8))), (r0 10, .inl (cJ, 16, .inr (.inl f_9))), (r0 11, .inl (cJ, 16, .inr (.inl f_10))), (r0 12, .inl (cJ, 16, .inr (.inl f_11))), (r0 13, .inl (cJ, 16, .inr (.inl f_12))), (r0 14, .inl (cJ, 16, .inr (.inl f_13))), (r0 15, .inl (cJ, 16, .inr (.inl f_14))), (r0 16, .inl (cI, 7, .inl f_21))], [(st0, .inl (cI, 6, .inl f1))]] : List va_W) := pm_n 2 [0, 1] (by decide) rfl rfl
  have hP := bk_reP hpm2 hP
  have hD := bk_reD hpm2 hD
  have hP : va_P (dC, dI) vwCl (List.flatten [[(h0, .inr (0, [.ref (r0 0), .ref (r0 8), .ref (r0 15), .int ck_15, .ref st0, .int fn_18, .ref (r0 16), .long bd_22, .long al_23])), (r0 0, .inl (cQ, 7, .inr (.inr (.inr (.inr (fun j => some (r0 (j + 1)))))))), (r0 1, .inl (cJ, 16, .inr (.inl f_1))), (r0 2, .inl (cJ, 16, .inr (.inl f_2))), (r0 3, .inl (cJ, 16, .inr (.inl f_3))), (r0 4, .inl (cJ, 16, .inr (.inl f_4))), (r0 5, .inl (cJ, 16, .inr (.inl f_5))), (r0 6, .inl (cJ, 16, .inr (.inl f_6))), (r0 7, .inl (cJ, 16, .inr (.inl f_7))), (r0 8, .inl (cQ, 6, .inr (.inr (.inr (.inr (fun j => some (r0 (j + 9)))))))), (r0 9, .inl (cJ, 16, .inr (.inl f_8))), (r0 10, .inl (cJ, 16, .inr (.inl f_9))), (r0 11, .inl (cJ, 16, .inr (.inl f_10))), (r0 12, .inl (cJ, 16, .inr (.inl f_11))), (r0 13, .inl (cJ, 16, .inr (.inl f_12))), (r0 14, .inl (cJ, 16, .inr (.inl f_13))), (r0 15, .inl (cJ, 16, .inr (.inl f_14))), (r0 16, .inl (cI, 7, .inl f_21))], [(st0, .inl (cI, 6, .inl f1))]]) H := hP
  have hD : va_D A (List.flatten [[(h0, .inr (0, [.ref (r0 0), .ref (r0 8), .ref (r0 15), .int ck_15, .ref st0, .int fn_18, .ref (r0 16), .long bd_22, .long al_23])), (r0 0, .inl (cQ, 7, .inr (.inr (.inr (.inr (fun j => some (r0 (j + 1)))))))), (r0 1, .inl (cJ, 16, .inr (.inl f_1))), (r0 2, .inl (cJ, 16, .inr (.inl f_2))), (r0 3, .inl (cJ, 16, .inr (.inl f_3))), (r0 4, .inl (cJ, 16, .inr (.inl f_4))), (r0 5, .inl (cJ, 16, .inr (.inl f_5))), (r0 6, .inl (cJ, 16, .inr (.inl f_6))), (r0 7, .inl (cJ, 16, .inr (.inl f_7))), (r0 8, .inl (cQ, 6, .inr (.inr (.inr (.inr (fun j => some (r0 (j + 9)))))))), (r0 9, .inl (cJ, 16, .inr (.inl f_8))), (r0 10, .inl (cJ, 16, .inr (.inl f_9))), (r0 11, .inl (cJ, 16, .inr (.inl f_10))), (r0 12, .inl (cJ, 16, .inr (.inl f_11))), (r0 13, .inl (cJ, 16, .inr (.inl f_12))), (r0 14, .inl (cJ, 16, .inr (.inl f_13))), (r0 15, .inl (cJ, 16, .inr (.inl f_14))), (r0 16, .inl (cI, 7, .inl f_21))], [(st0, .inl (cI, 6, .inl f1))]]) := hD
  obtain ⟨hlr_24, hhr_24⟩ := hw
  refine lv_if_eq (tgt := 19) hx hb dX0_badWays_5 (by decide) (fun c_25 => ?_) (fun c_25 => ?_)
  · have c_25 : r_24.toInt = 0 := f_eq rfl tI_0 c_25
    refine lv_iload_n hx hb dX0_badWays_19 rfl (lv_at hl 1 rfl) ?_
    refine lv_aload_n hx hb dX0_badWays_20 rfl (lv_at hl 0 rfl) ?_
    refine va_get (D := (dC, dI)) (ci := 0) (v := .int fn_18) (C := RX0) (T := TX0) (N := 9) hx hb hts iw_X0_badWays_X0 hown hK hP 0 rfl rfl 5 (by decide) (hts (.fieldLink RX0 31 "HungFloors$Crowd" "floorCount" "I") (by decide +kernel)) (fun _ h9 => h9) rfl dX0_badWays_21 ?_
    refine lv_icmp_ge (tgt := 43) hx hb dX0_badWays_24 (by decide) (fun c_26 => ?_) (fun c_26 => ?_)
    · have c_26 : fn_18.toInt ≤ p1.toInt := f_le rfl rfl c_26
      refine lv_lconst (v := 0) hx hb dX0_badWays_43 (by decide) ?_
      rw [hQ0]
      exact W.lret (v := 0) hx hb hr (fun t ht hW => ⟨⟨0, (), rfl, trivial, ⟨_, ⟨f_1, f_2, f_3, f_4, f_5, f_6, f_7, f_8, f_9, f_10, f_11, f_12, f_13, f_14, ck_15, fn_18, f_21, bd_22, al_23, rfl, by omega, by omega, by omega, by omega⟩, by rw [ht]; exact hP, hD⟩⟩, hS.F ht⟩) hS.2.2 dX0_badWays_44
    · have c_26 : p1.toInt < fn_18.toInt := f_nle rfl rfl c_26
      refine lv_aload_n hx hb dX0_badWays_27 rfl (lv_at hl 0 rfl) ?_
      refine va_get (D := (dC, dI)) (ci := 0) (v := .ref (r0 16)) (C := RX0) (T := TX0) (N := 9) hx hb hts iw_X0_badWays_X0 hown hK hP 0 rfl rfl 6 (by decide) (hts (.fieldLink RX0 34 "HungFloors$Crowd" "standsFrom" "[I") (by decide +kernel)) (fun _ h9 => h9) rfl dX0_badWays_28 ?_
      refine lv_iload_n hx hb dX0_badWays_31 rfl (lv_at hl 1 rfl) ?_
      refine va_iald hx hb hK hP 17 1 rfl rfl (v_in rfl (by omega) (by omega)) dX0_badWays_32 ?_
      refine lv_topi (fun z_27 ez_27 => ?_)
      refine lv_if_eq (tgt := 43) hx hb dX0_badWays_33 (by decide) (fun c_28 => ?_) (fun c_28 => ?_)
      · have c_28 : z_27.toInt = 0 := f_eq rfl tI_0 c_28
        refine lv_lconst (v := 0) hx hb dX0_badWays_43 (by decide) ?_
        rw [hQ0]
        exact W.lret (v := 0) hx hb hr (fun t ht hW => ⟨⟨0, (), rfl, trivial, ⟨_, ⟨f_1, f_2, f_3, f_4, f_5, f_6, f_7, f_8, f_9, f_10, f_11, f_12, f_13, f_14, ck_15, fn_18, f_21, bd_22, al_23, rfl, by omega, by omega, by omega, by omega⟩, by rw [ht]; exact hP, hD⟩⟩, hS.F ht⟩) hS.2.2 dX0_badWays_44
      · have c_28 : ¬ z_27.toInt = 0 := f_ne rfl tI_0 c_28
        refine lv_aload_n hx hb dX0_badWays_36 rfl (lv_at hl 0 rfl) ?_
        refine va_get (D := (dC, dI)) (ci := 0) (v := .int ck_15) (C := RX0) (T := TX0) (N := 9) hx hb hts iw_X0_badWays_X0 hown hK hP 0 rfl rfl 3 (by decide) (hts (.fieldLink RX0 23 "HungFloors$Crowd" "checks" "I") (by decide +kernel)) (fun _ h9 => h9) rfl dX0_badWays_37 ?_
        refine lv_if_ne (tgt := 45) hx hb dX0_badWays_40 (by decide) (fun c_29 => ?_) (fun c_29 => ?_)
        · have c_29 : ¬ ck_15.toInt = 0 := f_ne rfl tI_0 c_29
          refine lv_lconst (v := 0) hx hb dX0_badWays_45 (by decide) ?_
          refine lv_lstore_n (lv' := [(3, .long 0), (0, .ref h0), (1, .int p1), (2, .int p2)]) hx hb dX0_badWays_46 rfl hl (by decide) rfl (fun ls hl => ?_)
          refine lv_lconst (v := 1) hx hb dX0_badWays_47 (by decide) ?_
          refine lv_lstore (lv' := [(5, .long 1), (3, .long 0), (0, .ref h0), (1, .int p1), (2, .int p2)]) hx hb dX0_badWays_48 hl (by decide) rfl (fun ls hl => ?_)
          refine lv_aload_n hx hb dX0_badWays_50 rfl (lv_at hl 2 rfl) ?_
          refine va_get (D := (dC, dI)) (ci := 0) (v := .ref (r0 16)) (C := RX0) (T := TX0) (N := 9) hx hb hts iw_X0_badWays_X0 hown hK hP 0 rfl rfl 6 (by decide) (hts (.fieldLink RX0 34 "HungFloors$Crowd" "standsFrom" "[I") (by decide +kernel)) (fun _ h9 => h9) rfl dX0_badWays_51 ?_
          refine lv_iload_n hx hb dX0_badWays_54 rfl (lv_at hl 3 rfl) ?_
          refine lv_iconst (v := 1) hx hb dX0_badWays_55 (by decide) ?_
          refine lv_iadd hx hb dX0_badWays_56 ?_
          refine lv_topi (fun z_30 ez_30 => ?_)
          have hz_30 : z_30.toInt = p1.toInt + 1 := by rw [ez_30]; exact t_add rfl tI_1 (by omega) (by omega)
          have fz_30 : z_30 = (p1 + 1) := by rw [ez_30]
          refine va_iald hx hb hK hP 17 1 rfl rfl (v_in rfl (by omega) (by omega)) dX0_badWays_57 ?_
          refine lv_topi (fun z_31 ez_31 => ?_)
          refine lv_if_ne (tgt := 65) hx hb dX0_badWays_58 (by decide) (fun c_32 => ?_) (fun c_32 => ?_)
          · have c_32 : ¬ z_31.toInt = 0 := f_ne rfl tI_0 c_32
            refine lv_iconst (v := 0) hx hb dX0_badWays_65 (by decide) ?_
            refine lv_istore (lv' := [(7, .int 0), (5, .long 1), (3, .long 0), (0, .ref h0), (1, .int p1), (2, .int p2)]) hx hb dX0_badWays_66 hl (by decide) rfl (fun ls hl => ?_)
            refine lv_iconst (v := 0) hx hb dX0_badWays_68 (by decide) ?_
            refine lv_istore (lv' := [(8, .int 0), (7, .int 0), (5, .long 1), (3, .long 0), (0, .ref h0), (1, .int p1), (2, .int p2)]) hx hb dX0_badWays_69 hl (by decide) rfl (fun ls hl => ?_)
            have lp_2386 : ∀ (n : Nat) (g_33 : Int32) (g_34 : Int64) (g_35 : Int64) (gw_174 : va_W), ok_crowd ad cB cI cJ cZ cQ h0 r0 st0 gw_174 → 0 ≤ g_33.toInt → g_33.toInt ≤ 11 → g_33.toInt - p2.toInt ≤ 1 → (11 - g_33.toInt).toNat < n → ∀ (H : Heap) (locs : List Loc), va_P (dC, dI) vwCl (List.flatten [gw_174, [(st0, .inl (cI, 6, .inl f1))]]) H → va_D A (List.flatten [gw_174, [(st0, .inl (cI, 6, .inl f1))]]) → va_S A s.heap H locs → ∀ (ls : Array Slot), lv_has ls 9 [(8, .int g_33), (7, .int 0), (5, .long g_34), (3, .long g_35), (0, .ref h0), (1, .int p1), (2, .int p2)] → W p l e (headSpec wsX0_badWays ({ frames := 3, cells := 0, slots := 0, locals := 80 } : Room)).room s m ([.ref h0, .int p1, .int p2] : List Value).toArray below meth c H locs 0 0 Q0 (F0 m 71 ls []) := by
              intro n
              induction n with
              | zero => intro g_33 g_34 g_35 gw_174 okgw_174 iv_2383 iv_2384 iv_2385 hm; exact absurd hm (Nat.not_lt_zero _)
              | succ n ih_2387 =>
                intro g_33 g_34 g_35 gw_174 okgw_174 iv_2383 iv_2384 iv_2385 hm H locs hP hD hS ls hl
                refine lv_iload hx hb dX0_badWays_71 (lv_at hl 0 rfl) ?_
                refine lv_iload_n hx hb dX0_badWays_73 rfl (lv_at hl 6 rfl) ?_
                refine lv_icmp_gt (tgt := 149) hx hb dX0_badWays_74 (by decide) (fun c_2388 => ?_) (fun c_2388 => ?_)
                · have c_2388 : p2.toInt < g_33.toInt := f_lt rfl rfl c_2388
                  refine lv_lload_n hx hb dX0_badWays_149 rfl (lv_at hl 3 rfl) ?_
                  rw [hQ0]
                  exact W.lret (v := g_35) hx hb hr (fun t ht hW => ⟨⟨g_35, (), rfl, trivial, ⟨_, okgw_174, by rw [ht]; exact hP, hD⟩⟩, hS.F ht⟩) hS.2.2 dX0_badWays_150
                · have c_2388 : g_33.toInt ≤ p2.toInt := f_nlt rfl rfl c_2388
                  refine lv_lload hx hb dX0_badWays_77 (lv_at hl 2 rfl) ?_
                  refine lv_lconst (v := 0) hx hb dX0_badWays_79 (by decide) ?_
                  refine W.lcmp hx hb dX0_badWays_80 ?_
                  refine lv_topi (fun z_2389 ez_2389 => ?_)
                  refine lv_if_le (tgt := 149) hx hb dX0_badWays_81 (by decide) (fun c_2390 => ?_) (fun c_2390 => ?_)
                  · have c_2390 : z_2389.toInt ≤ 0 := f_le rfl tI_0 c_2390
                    refine lv_lload_n hx hb dX0_badWays_149 rfl (lv_at hl 3 rfl) ?_
                    rw [hQ0]
                    exact W.lret (v := g_35) hx hb hr (fun t ht hW => ⟨⟨g_35, (), rfl, trivial, ⟨_, okgw_174, by rw [ht]; exact hP, hD⟩⟩, hS.F ht⟩) hS.2.2 dX0_badWays_150
                  · have n_2391 : ¬ g_34 = 0 := lc_nle ez_2389 c_2390
                    have c_2390 : 0 < z_2389.toInt := f_nle rfl tI_0 c_2390
                    refine lv_iload hx hb dX0_badWays_84 (lv_at hl 0 rfl) ?_
                    refine lv_iload_n hx hb dX0_badWays_86 rfl (lv_at hl 6 rfl) ?_
                    refine lv_icmp_eq (tgt := 95) hx hb dX0_badWays_87 (by decide) (fun c_2392 => ?_) (fun c_2392 => ?_)
                    · have c_2392 : g_33.toInt = p2.toInt := f_eq rfl rfl c_2392
                      refine lv_aload_n hx hb dX0_badWays_95 rfl (lv_at hl 4 rfl) ?_
                      refine lv_iload_n hx hb dX0_badWays_96 rfl (lv_at hl 5 rfl) ?_
                      refine lv_iload hx hb dX0_badWays_97 (lv_at hl 0 rfl) ?_
                      obtain ⟨f_2393, f_2394, f_2395, f_2396, f_2397, f_2398, f_2399, f_2400, f_2401, f_2402, f_2403, f_2404, f_2405, f_2406, ck_2407, fn_2410, f_2413, bd_2414, al_2415, rfl, hl_2408, hh_2409, hl_2411, hh_2412⟩ := okgw_174
                      have hpm : List.Perm ([[(h0, .inr (0, [.ref (r0 0), .ref (r0 8), .ref (r0 15), .int ck_2407, .ref st0, .int fn_2410, .ref (r0 16), .long bd_2414, .long al_2415])), (r0 0, .inl (cQ, 7, .inr (.inr (.inr (.inr (fun j => some (r0 (j + 1)))))))), (r0 1, .inl (cJ, 16, .inr (.inl f_2393))), (r0 2, .inl (cJ, 16, .inr (.inl f_2394))), (r0 3, .inl (cJ, 16, .inr (.inl f_2395))), (r0 4, .inl (cJ, 16, .inr (.inl f_2396))), (r0 5, .inl (cJ, 16, .inr (.inl f_2397))), (r0 6, .inl (cJ, 16, .inr (.inl f_2398))), (r0 7, .inl (cJ, 16, .inr (.inl f_2399))), (r0 8, .inl (cQ, 6, .inr (.inr (.inr (.inr (fun j => some (r0 (j + 9)))))))), (r0 9, .inl (cJ, 16, .inr (.inl f_2400))), (r0 10, .inl (cJ, 16, .inr (.inl f_2401))), (r0 11, .inl (cJ, 16, .inr (.inl f_2402))), (r0 12, .inl (cJ, 16, .inr (.inl f_2403))), (r0 13, .inl (cJ, 16, .inr (.inl f_2404))), (r0 14, .inl (cJ, 16, .inr (.inl f_2405))), (r0 15, .inl (cJ, 16, .inr (.inl f_2406))), (r0 16, .inl (cI, 7, .inl f_2413))], [(st0, .inl (cI, 6, .inl f1))]] : List va_W) (([[(h0, .inr (0, [.ref (r0 0), .ref (r0 8), .ref (r0 15), .int ck_2407, .ref st0, .int fn_2410, .ref (r0 16), .long bd_2414, .long al_2415])), (r0 0, .inl (cQ, 7, .inr (.inr (.inr (.inr (fun j => some (r0 (j + 1)))))))), (r0 1, .inl (cJ, 16, .inr (.inl f_2393))), (r0 2, .inl (cJ, 16, .inr (.inl f_2394))), (r0 3, .inl (cJ, 16, .inr (.inl f_2395))), (r0 4, .inl (cJ, 16, .inr (.inl f_2396))), (r0 5, .inl (cJ, 16, .inr (.inl f_2397))), (r0 6, .inl (cJ, 16, .inr (.inl f_2398))), (r0 7, .inl (cJ, 16, .inr (.inl f_2399))), (r0 8, .inl (cQ, 6, .inr (.inr (.inr (.inr (fun j => some (r0 (j + 9)))))))), (r0 9, .inl (cJ, 16, .inr (.inl f_2400))), (r0 10, .inl (cJ, 16, .inr (.inl f_2401))), (r0 11, .inl (cJ, 16, .inr (.inl f_2402))), (r0 12, .inl (cJ, 16, .inr (.inl f_2403))), (r0 13, .inl (cJ, 16, .inr (.inl f_2404))), (r0 14, .inl (cJ, 16, .inr (.inl f_2405))), (r0 15, .inl (cJ, 16, .inr (.inl f_2406))), (r0 16, .inl (cI, 7, .inl f_2413))]] : List va_W) ++ ([[(st0, .inl (cI, 6, .inl f1))]] : List va_W)) := pm_n 2 [0, 1] (by decide) rfl rfl
                      have hPc := bk_P hpm hP
                      have hDc := bk_D hpm hD
                      have hFc := bk_F hpm hD hS hA
                      refine va_callv (va_runV (As := [.int p1, .int g_33]) (rest := []) ⟨hx, hb, hml, hown, hts⟩ (c_X0_standHere l dC dI ad tN fN cB cI cJ cZ cQ h0 p1 g_33 r0 st0 _ ⟨f_2393, f_2394, f_2395, f_2396, f_2397, f_2398, f_2399, f_2400, f_2401, f_2402, f_2403, f_2404, f_2405, f_2406, ck_2407, fn_2410, f_2413, bd_2414, al_2415, rfl, by omega, by omega, by omega, by omega⟩ H.size (by omega) (by omega)) (cwV 2 hts gX0_badWays_X0_standHere rfl rfl rfl (by decide +kernel) ⟨(Nat.le_of_ble_eq_true rfl), (Nat.le_of_ble_eq_true rfl)⟩) ⟨fun a U g mk q => by obtain ⟨q0, q1, qP, qK, qD, qE⟩ := q; exact ⟨q0, q1, qP, va_K.moved (u := U) (U := U.calling g mk a) (Vm.Alike.refl U.vm) qK, qD, ey_blind qE⟩, va_recv hK hPc (ci := 0) (q0 := 0) rfl rfl, fun U hU hW => ⟨rfl, by rw [hU], by rw [hU]; exact hPc, va_K.moved hW.alike hK, hDc.weaken (fun _ _ _ _ => trivial), ey_call hE hS hFc hU hW⟩⟩ rfl rfl hl.1 rfl (lv_room (Nat.le_of_ble_eq_true rfl)) dX0_badWays_99 ⟨(Nat.le_of_ble_eq_true rfl), (Nat.le_of_ble_eq_true rfl)⟩) hS (fun q _ h => hFc q h) hFc (fun u t H locs ht hvm hw hB hz1 hk1 hS => ?_)
                      obtain ⟨w_2417, o_2418, hP1, hD1⟩ := hB
                      rw [ht] at hP1
                      obtain ⟨hP, hD⟩ := bk_join hpm hP hD hk1 hFc (Cs1 := [w_2417]) hP1 hD1
                      have hpm2 : List.Perm (([w_2417] : List va_W) ++ ([[(st0, .inl (cI, 6, .inl f1))]] : List va_W)) ([w_2417, [(st0, .inl (cI, 6, .inl f1))]] : List va_W) := pm_n 2 [0, 1] (by decide) rfl rfl
                      have hP := bk_reP hpm2 hP
                      have hD := bk_reD hpm2 hD
                      have hP : va_P (dC, dI) vwCl (List.flatten [w_2417, [(st0, .inl (cI, 6, .inl f1))]]) H := hP
                      have hD : va_D A (List.flatten [w_2417, [(st0, .inl (cI, 6, .inl f1))]]) := hD
                      refine lv_lload_n hx hb dX0_badWays_102 rfl (lv_at hl 3 rfl) ?_
                      refine lv_lload hx hb dX0_badWays_103 (lv_at hl 2 rfl) ?_
                      refine lv_aload_n hx hb dX0_badWays_105 rfl (lv_at hl 4 rfl) ?_
                      refine lv_iload_n hx hb dX0_badWays_106 rfl (lv_at hl 5 rfl) ?_
                      refine lv_iconst (v := 1) hx hb dX0_badWays_107 (by decide) ?_
                      refine lv_iadd hx hb dX0_badWays_108 ?_
                      refine lv_topi (fun z_2419 ez_2419 => ?_)
                      have hz_2419 : z_2419.toInt = p1.toInt + 1 := by rw [ez_2419]; exact t_add rfl tI_1 (by omega) (by omega)
                      have fz_2419 : z_2419 = (p1 + 1) := by rw [ez_2419]
                      refine lv_iload_n hx hb dX0_badWays_109 rfl (lv_at hl 6 rfl) ?_
                      refine lv_iload hx hb dX0_badWays_110 (lv_at hl 0 rfl) ?_
                      refine lv_isub hx hb dX0_badWays_112 ?_
                      refine lv_topi (fun z_2420 ez_2420 => ?_)
                      have hz_2420 : z_2420.toInt = p2.toInt - g_33.toInt := by rw [ez_2420]; exact t_sub rfl rfl (by omega) (by omega)
                      obtain ⟨f_2421, f_2422, f_2423, f_2424, f_2425, f_2426, f_2427, f_2428, f_2429, f_2430, f_2431, f_2432, f_2433, f_2434, ck_2435, fn_2438, f_2441, bd_2442, al_2443, rfl, hl_2436, hh_2437, hl_2439, hh_2440⟩ := o_2418
                      have hpm : List.Perm ([[(h0, .inr (0, [.ref (r0 0), .ref (r0 8), .ref (r0 15), .int ck_2435, .ref st0, .int fn_2438, .ref (r0 16), .long bd_2442, .long al_2443])), (r0 0, .inl (cQ, 7, .inr (.inr (.inr (.inr (fun j => some (r0 (j + 1)))))))), (r0 1, .inl (cJ, 16, .inr (.inl f_2421))), (r0 2, .inl (cJ, 16, .inr (.inl f_2422))), (r0 3, .inl (cJ, 16, .inr (.inl f_2423))), (r0 4, .inl (cJ, 16, .inr (.inl f_2424))), (r0 5, .inl (cJ, 16, .inr (.inl f_2425))), (r0 6, .inl (cJ, 16, .inr (.inl f_2426))), (r0 7, .inl (cJ, 16, .inr (.inl f_2427))), (r0 8, .inl (cQ, 6, .inr (.inr (.inr (.inr (fun j => some (r0 (j + 9)))))))), (r0 9, .inl (cJ, 16, .inr (.inl f_2428))), (r0 10, .inl (cJ, 16, .inr (.inl f_2429))), (r0 11, .inl (cJ, 16, .inr (.inl f_2430))), (r0 12, .inl (cJ, 16, .inr (.inl f_2431))), (r0 13, .inl (cJ, 16, .inr (.inl f_2432))), (r0 14, .inl (cJ, 16, .inr (.inl f_2433))), (r0 15, .inl (cJ, 16, .inr (.inl f_2434))), (r0 16, .inl (cI, 7, .inl f_2441))], [(st0, .inl (cI, 6, .inl f1))]] : List va_W) (([[(h0, .inr (0, [.ref (r0 0), .ref (r0 8), .ref (r0 15), .int ck_2435, .ref st0, .int fn_2438, .ref (r0 16), .long bd_2442, .long al_2443])), (r0 0, .inl (cQ, 7, .inr (.inr (.inr (.inr (fun j => some (r0 (j + 1)))))))), (r0 1, .inl (cJ, 16, .inr (.inl f_2421))), (r0 2, .inl (cJ, 16, .inr (.inl f_2422))), (r0 3, .inl (cJ, 16, .inr (.inl f_2423))), (r0 4, .inl (cJ, 16, .inr (.inl f_2424))), (r0 5, .inl (cJ, 16, .inr (.inl f_2425))), (r0 6, .inl (cJ, 16, .inr (.inl f_2426))), (r0 7, .inl (cJ, 16, .inr (.inl f_2427))), (r0 8, .inl (cQ, 6, .inr (.inr (.inr (.inr (fun j => some (r0 (j + 9)))))))), (r0 9, .inl (cJ, 16, .inr (.inl f_2428))), (r0 10, .inl (cJ, 16, .inr (.inl f_2429))), (r0 11, .inl (cJ, 16, .inr (.inl f_2430))), (r0 12, .inl (cJ, 16, .inr (.inl f_2431))), (r0 13, .inl (cJ, 16, .inr (.inl f_2432))), (r0 14, .inl (cJ, 16, .inr (.inl f_2433))), (r0 15, .inl (cJ, 16, .inr (.inl f_2434))), (r0 16, .inl (cI, 7, .inl f_2441))], [(st0, .inl (cI, 6, .inl f1))]] : List va_W) ++ ([] : List va_W)) := pm_n 2 [0, 1] (by decide) rfl rfl
                      have hPc := bk_P hpm hP
                      have hDc := bk_D hpm hD
                      have hFc := bk_F hpm hD hS hA
                      refine va_calll (va_runV (As := [.int z_2419, .int z_2420]) (rest := [.long g_34, .long g_35]) ⟨hx, hb, hml, hown, hts⟩ (c_X0_badWays_nv5 l dC dI ad tN fN cB cI cJ cZ cQ h0 z_2419 z_2420 r0 st0 _ _ ⟨f_2421, f_2422, f_2423, f_2424, f_2425, f_2426, f_2427, f_2428, f_2429, f_2430, f_2431, f_2432, f_2433, f_2434, ck_2435, fn_2438, f_2441, bd_2442, al_2443, rfl, by omega, by omega, by omega, by omega⟩ H.size (by omega) (by omega) (by omega) (by omega)) (cwV 2 hts gX0_badWays_X0_badWays rfl rfl rfl (by decide +kernel) ⟨(Nat.le_of_ble_eq_true rfl), (Nat.le_of_ble_eq_true rfl)⟩) ⟨fun a U g mk q => by obtain ⟨q0, q1, qP, qK, qD, qE⟩ := q; exact ⟨q0, q1, qP, va_K.moved (u := U) (U := U.calling g mk a) (Vm.Alike.refl U.vm) qK, qD, ey_blind qE⟩, va_recv hK hPc (ci := 0) (q0 := 0) rfl rfl, fun U hU hW => ⟨rfl, by rw [hU], by rw [hU]; exact hPc, va_K.moved hW.alike hK, hDc.weaken (fun _ _ _ _ => trivial), ey_call hE hS hFc hU hW⟩⟩ rfl rfl hl.1 rfl (lv_room (Nat.le_of_ble_eq_true rfl)) dX0_badWays_113 ⟨(Nat.le_of_ble_eq_true rfl), (Nat.le_of_ble_eq_true rfl)⟩) hS (fun q _ h => hFc q h) hFc (fun r_2444 u t H locs ht hvm hw hB hz1 hk1 hS => ?_)
                      obtain ⟨w_2445, o_2446, hP1, hD1⟩ := hB
                      rw [ht] at hP1
                      obtain ⟨hP, hD⟩ := bk_join hpm hP hD hk1 hFc (Cs1 := [w_2445, [(st0, .inl (cI, 6, .inl f1))]]) hP1 hD1
                      have hpm2 : List.Perm (([w_2445, [(st0, .inl (cI, 6, .inl f1))]] : List va_W) ++ ([] : List va_W)) ([w_2445, [(st0, .inl (cI, 6, .inl f1))]] : List va_W) := pm_n 2 [0, 1] (by decide) rfl rfl
                      have hP := bk_reP hpm2 hP
                      have hD := bk_reD hpm2 hD
                      have hP : va_P (dC, dI) vwCl (List.flatten [w_2445, [(st0, .inl (cI, 6, .inl f1))]]) H := hP
                      have hD : va_D A (List.flatten [w_2445, [(st0, .inl (cI, 6, .inl f1))]]) := hD
                      refine lv_lmul hx hb dX0_badWays_116 ?_
                      refine lv_topl (fun z_2447 ez_2447 => ?_)
                      refine lv_ladd hx hb dX0_badWays_117 ?_
                      refine lv_topl (fun z_2448 ez_2448 => ?_)
                      refine lv_lstore_n (lv' := [(3, .long z_2448), (8, .int g_33), (7, .int 0), (5, .long g_34), (0, .ref h0), (1, .int p1), (2, .int p2)]) hx hb dX0_badWays_118 rfl hl (by decide) rfl (fun ls hl => ?_)
                      refine lv_lload hx hb dX0_badWays_119 (lv_at hl 3 rfl) ?_
                      refine lv_iload_n hx hb dX0_badWays_121 rfl (lv_at hl 6 rfl) ?_
                      refine lv_iload hx hb dX0_badWays_122 (lv_at hl 1 rfl) ?_
                      refine lv_isub hx hb dX0_badWays_124 ?_
                      refine lv_topi (fun z_2449 ez_2449 => ?_)
                      have hz_2449 : z_2449.toInt = p2.toInt - g_33.toInt := by rw [ez_2449]; exact t_sub rfl rfl (by omega) (by omega)
                      obtain ⟨z_2450, ez_2450⟩ : ∃ y : Int64, (z_2449 : Int32).toInt64 = y := ⟨_, rfl⟩
                      refine lv_i2l (v := z_2450) hx hb dX0_badWays_125 ez_2450 ?_
                      refine lv_lmul hx hb dX0_badWays_126 ?_
                      refine lv_topl (fun z_2451 ez_2451 => ?_)
                      refine lv_iload hx hb dX0_badWays_127 (lv_at hl 1 rfl) ?_
                      refine lv_iconst (v := 1) hx hb dX0_badWays_129 (by decide) ?_
                      refine lv_iadd hx hb dX0_badWays_130 ?_
                      refine lv_topi (fun z_2452 ez_2452 => ?_)
                      have hz_2452 : z_2452.toInt = g_33.toInt + 1 := by rw [ez_2452]; exact t_add rfl tI_1 (by omega) (by omega)
                      obtain ⟨z_2453, ez_2453⟩ : ∃ y : Int64, (z_2452 : Int32).toInt64 = y := ⟨_, rfl⟩
                      refine lv_i2l (v := z_2453) hx hb dX0_badWays_131 ez_2453 ?_
                      have nz_2453 : ¬ z_2453 = 0 := i2l_ne ez_2453 (by omega)
                      refine lv_ldiv hx hb dX0_badWays_132 nz_2453 ?_
                      refine lv_topl (fun z_2454 ez_2454 => ?_)
                      refine lv_aload_n hx hb dX0_badWays_133 rfl (lv_at hl 4 rfl) ?_
                      obtain ⟨f_2455, f_2456, f_2457, f_2458, f_2459, f_2460, f_2461, f_2462, f_2463, f_2464, f_2465, f_2466, f_2467, f_2468, ck_2469, fn_2472, f_2475, bd_2476, al_2477, rfl, hl_2470, hh_2471, hl_2473, hh_2474⟩ := o_2446
                      refine va_get (D := (dC, dI)) (ci := 0) (v := .ref st0) (C := RX0) (T := TX0) (N := 9) hx hb hts iw_X0_badWays_X0 hown hK hP 0 rfl rfl 4 (by decide) (hts (.fieldLink RX0 27 "HungFloors$Crowd" "stands" "[I") (by decide +kernel)) (fun _ h9 => h9) rfl dX0_badWays_134 ?_
                      refine lv_iload_n hx hb dX0_badWays_137 rfl (lv_at hl 5 rfl) ?_
                      refine va_iald hx hb hK hP 18 1 rfl rfl (v_in rfl (by omega) (by omega)) dX0_badWays_138 ?_
                      refine lv_topi (fun z_2478 ez_2478 => ?_)
                      obtain ⟨z_2479, ez_2479⟩ : ∃ y : Int64, (z_2478 : Int32).toInt64 = y := ⟨_, rfl⟩
                      refine lv_i2l (v := z_2479) hx hb dX0_badWays_139 ez_2479 ?_
                      refine lv_lmul hx hb dX0_badWays_140 ?_
                      refine lv_topl (fun z_2480 ez_2480 => ?_)
                      refine lv_lstore (lv' := [(5, .long z_2480), (3, .long z_2448), (8, .int g_33), (7, .int 0), (0, .ref h0), (1, .int p1), (2, .int p2)]) hx hb dX0_badWays_141 hl (by decide) rfl (fun ls hl => ?_)
                      obtain ⟨z_2481, ez_2481⟩ : ∃ y : Int32, y = g_33 + 1 := ⟨_, rfl⟩
                      have hz_2481 : z_2481.toInt = g_33.toInt + 1 := by rw [ez_2481]; exact t_add rfl tI_1 (by omega) (by omega)
                      refine lv_iinc (v := z_2481) (lv' := [(8, .int z_2481), (5, .long z_2480), (3, .long z_2448), (7, .int 0), (0, .ref h0), (1, .int p1), (2, .int p2)]) hx hb dX0_badWays_143 hl (k := 2) rfl (by rw [ez_2481]; rfl) (by decide) rfl (fun ls hl => ?_)
                      refine lv_goto (tgt := 71) hx hb dX0_badWays_146 (by decide) ?_
                      exact ih_2387 z_2481 z_2480 z_2448 _ ⟨f_2455, f_2456, f_2457, f_2458, f_2459, f_2460, f_2461, f_2462, f_2463, f_2464, f_2465, f_2466, f_2467, f_2468, ck_2469, fn_2472, f_2475, bd_2476, al_2477, rfl, by omega, by omega, by omega, by omega⟩ (by omega) (by omega) (by omega) (by omega) _ _ hP hD hS ls (lv_sub hl [0, 3, 1, 2, 4, 5, 6] rfl)
                    · have c_2392 : ¬ g_33.toInt = p2.toInt := f_ne rfl rfl c_2392
                      refine lv_iload hx hb dX0_badWays_90 (lv_at hl 1 rfl) ?_
                      refine lv_if_ne (tgt := 119) hx hb dX0_badWays_92 (by decide) (fun c_2482 => absurd c_2482 (by decide)) (fun c_2482 => ?_)
                      refine lv_aload_n hx hb dX0_badWays_95 rfl (lv_at hl 4 rfl) ?_
                      refine lv_iload_n hx hb dX0_badWays_96 rfl (lv_at hl 5 rfl) ?_
                      refine lv_iload hx hb dX0_badWays_97 (lv_at hl 0 rfl) ?_
                      obtain ⟨f_2483, f_2484, f_2485, f_2486, f_2487, f_2488, f_2489, f_2490, f_2491, f_2492, f_2493, f_2494, f_2495, f_2496, ck_2497, fn_2500, f_2503, bd_2504, al_2505, rfl, hl_2498, hh_2499, hl_2501, hh_2502⟩ := okgw_174
                      have hpm : List.Perm ([[(h0, .inr (0, [.ref (r0 0), .ref (r0 8), .ref (r0 15), .int ck_2497, .ref st0, .int fn_2500, .ref (r0 16), .long bd_2504, .long al_2505])), (r0 0, .inl (cQ, 7, .inr (.inr (.inr (.inr (fun j => some (r0 (j + 1)))))))), (r0 1, .inl (cJ, 16, .inr (.inl f_2483))), (r0 2, .inl (cJ, 16, .inr (.inl f_2484))), (r0 3, .inl (cJ, 16, .inr (.inl f_2485))), (r0 4, .inl (cJ, 16, .inr (.inl f_2486))), (r0 5, .inl (cJ, 16, .inr (.inl f_2487))), (r0 6, .inl (cJ, 16, .inr (.inl f_2488))), (r0 7, .inl (cJ, 16, .inr (.inl f_2489))), (r0 8, .inl (cQ, 6, .inr (.inr (.inr (.inr (fun j => some (r0 (j + 9)))))))), (r0 9, .inl (cJ, 16, .inr (.inl f_2490))), (r0 10, .inl (cJ, 16, .inr (.inl f_2491))), (r0 11, .inl (cJ, 16, .inr (.inl f_2492))), (r0 12, .inl (cJ, 16, .inr (.inl f_2493))), (r0 13, .inl (cJ, 16, .inr (.inl f_2494))), (r0 14, .inl (cJ, 16, .inr (.inl f_2495))), (r0 15, .inl (cJ, 16, .inr (.inl f_2496))), (r0 16, .inl (cI, 7, .inl f_2503))], [(st0, .inl (cI, 6, .inl f1))]] : List va_W) (([[(h0, .inr (0, [.ref (r0 0), .ref (r0 8), .ref (r0 15), .int ck_2497, .ref st0, .int fn_2500, .ref (r0 16), .long bd_2504, .long al_2505])), (r0 0, .inl (cQ, 7, .inr (.inr (.inr (.inr (fun j => some (r0 (j + 1)))))))), (r0 1, .inl (cJ, 16, .inr (.inl f_2483))), (r0 2, .inl (cJ, 16, .inr (.inl f_2484))), (r0 3, .inl (cJ, 16, .inr (.inl f_2485))), (r0 4, .inl (cJ, 16, .inr (.inl f_2486))), (r0 5, .inl (cJ, 16, .inr (.inl f_2487))), (r0 6, .inl (cJ, 16, .inr (.inl f_2488))), (r0 7, .inl (cJ, 16, .inr (.inl f_2489))), (r0 8, .inl (cQ, 6, .inr (.inr (.inr (.inr (fun j => some (r0 (j + 9)))))))), (r0 9, .inl (cJ, 16, .inr (.inl f_2490))), (r0 10, .inl (cJ, 16, .inr (.inl f_2491))), (r0 11, .inl (cJ, 16, .inr (.inl f_2492))), (r0 12, .inl (cJ, 16, .inr (.inl f_2493))), (r0 13, .inl (cJ, 16, .inr (.inl f_2494))), (r0 14, .inl (cJ, 16, .inr (.inl f_2495))), (r0 15, .inl (cJ, 16, .inr (.inl f_2496))), (r0 16, .inl (cI, 7, .inl f_2503))]] : List va_W) ++ ([[(st0, .inl (cI, 6, .inl f1))]] : List va_W)) := pm_n 2 [0, 1] (by decide) rfl rfl
                      have hPc := bk_P hpm hP
                      have hDc := bk_D hpm hD
                      have hFc := bk_F hpm hD hS hA
                      refine va_callv (va_runV (As := [.int p1, .int g_33]) (rest := []) ⟨hx, hb, hml, hown, hts⟩ (c_X0_standHere l dC dI ad tN fN cB cI cJ cZ cQ h0 p1 g_33 r0 st0 _ ⟨f_2483, f_2484, f_2485, f_2486, f_2487, f_2488, f_2489, f_2490, f_2491, f_2492, f_2493, f_2494, f_2495, f_2496, ck_2497, fn_2500, f_2503, bd_2504, al_2505, rfl, by omega, by omega, by omega, by omega⟩ H.size (by omega) (by omega)) (cwV 2 hts gX0_badWays_X0_standHere rfl rfl rfl (by decide +kernel) ⟨(Nat.le_of_ble_eq_true rfl), (Nat.le_of_ble_eq_true rfl)⟩) ⟨fun a U g mk q => by obtain ⟨q0, q1, qP, qK, qD, qE⟩ := q; exact ⟨q0, q1, qP, va_K.moved (u := U) (U := U.calling g mk a) (Vm.Alike.refl U.vm) qK, qD, ey_blind qE⟩, va_recv hK hPc (ci := 0) (q0 := 0) rfl rfl, fun U hU hW => ⟨rfl, by rw [hU], by rw [hU]; exact hPc, va_K.moved hW.alike hK, hDc.weaken (fun _ _ _ _ => trivial), ey_call hE hS hFc hU hW⟩⟩ rfl rfl hl.1 rfl (lv_room (Nat.le_of_ble_eq_true rfl)) dX0_badWays_99 ⟨(Nat.le_of_ble_eq_true rfl), (Nat.le_of_ble_eq_true rfl)⟩) hS (fun q _ h => hFc q h) hFc (fun u t H locs ht hvm hw hB hz1 hk1 hS => ?_)
                      obtain ⟨w_2507, o_2508, hP1, hD1⟩ := hB
                      rw [ht] at hP1
                      obtain ⟨hP, hD⟩ := bk_join hpm hP hD hk1 hFc (Cs1 := [w_2507]) hP1 hD1
                      have hpm2 : List.Perm (([w_2507] : List va_W) ++ ([[(st0, .inl (cI, 6, .inl f1))]] : List va_W)) ([w_2507, [(st0, .inl (cI, 6, .inl f1))]] : List va_W) := pm_n 2 [0, 1] (by decide) rfl rfl
                      have hP := bk_reP hpm2 hP
                      have hD := bk_reD hpm2 hD
                      have hP : va_P (dC, dI) vwCl (List.flatten [w_2507, [(st0, .inl (cI, 6, .inl f1))]]) H := hP
                      have hD : va_D A (List.flatten [w_2507, [(st0, .inl (cI, 6, .inl f1))]]) := hD
                      refine lv_lload_n hx hb dX0_badWays_102 rfl (lv_at hl 3 rfl) ?_
                      refine lv_lload hx hb dX0_badWays_103 (lv_at hl 2 rfl) ?_
                      refine lv_aload_n hx hb dX0_badWays_105 rfl (lv_at hl 4 rfl) ?_
                      refine lv_iload_n hx hb dX0_badWays_106 rfl (lv_at hl 5 rfl) ?_
                      refine lv_iconst (v := 1) hx hb dX0_badWays_107 (by decide) ?_
                      refine lv_iadd hx hb dX0_badWays_108 ?_
                      refine lv_topi (fun z_2509 ez_2509 => ?_)
                      have hz_2509 : z_2509.toInt = p1.toInt + 1 := by rw [ez_2509]; exact t_add rfl tI_1 (by omega) (by omega)
                      have fz_2509 : z_2509 = (p1 + 1) := by rw [ez_2509]
                      refine lv_iload_n hx hb dX0_badWays_109 rfl (lv_at hl 6 rfl) ?_
                      refine lv_iload hx hb dX0_badWays_110 (lv_at hl 0 rfl) ?_
                      refine lv_isub hx hb dX0_badWays_112 ?_
                      refine lv_topi (fun z_2510 ez_2510 => ?_)
                      have hz_2510 : z_2510.toInt = p2.toInt - g_33.toInt := by rw [ez_2510]; exact t_sub rfl rfl (by omega) (by omega)
                      obtain ⟨f_2511, f_2512, f_2513, f_2514, f_2515, f_2516, f_2517, f_2518, f_2519, f_2520, f_2521, f_2522, f_2523, f_2524, ck_2525, fn_2528, f_2531, bd_2532, al_2533, rfl, hl_2526, hh_2527, hl_2529, hh_2530⟩ := o_2508
                      have hpm : List.Perm ([[(h0, .inr (0, [.ref (r0 0), .ref (r0 8), .ref (r0 15), .int ck_2525, .ref st0, .int fn_2528, .ref (r0 16), .long bd_2532, .long al_2533])), (r0 0, .inl (cQ, 7, .inr (.inr (.inr (.inr (fun j => some (r0 (j + 1)))))))), (r0 1, .inl (cJ, 16, .inr (.inl f_2511))), (r0 2, .inl (cJ, 16, .inr (.inl f_2512))), (r0 3, .inl (cJ, 16, .inr (.inl f_2513))), (r0 4, .inl (cJ, 16, .inr (.inl f_2514))), (r0 5, .inl (cJ, 16, .inr (.inl f_2515))), (r0 6, .inl (cJ, 16, .inr (.inl f_2516))), (r0 7, .inl (cJ, 16, .inr (.inl f_2517))), (r0 8, .inl (cQ, 6, .inr (.inr (.inr (.inr (fun j => some (r0 (j + 9)))))))), (r0 9, .inl (cJ, 16, .inr (.inl f_2518))), (r0 10, .inl (cJ, 16, .inr (.inl f_2519))), (r0 11, .inl (cJ, 16, .inr (.inl f_2520))), (r0 12, .inl (cJ, 16, .inr (.inl f_2521))), (r0 13, .inl (cJ, 16, .inr (.inl f_2522))), (r0 14, .inl (cJ, 16, .inr (.inl f_2523))), (r0 15, .inl (cJ, 16, .inr (.inl f_2524))), (r0 16, .inl (cI, 7, .inl f_2531))], [(st0, .inl (cI, 6, .inl f1))]] : List va_W) (([[(h0, .inr (0, [.ref (r0 0), .ref (r0 8), .ref (r0 15), .int ck_2525, .ref st0, .int fn_2528, .ref (r0 16), .long bd_2532, .long al_2533])), (r0 0, .inl (cQ, 7, .inr (.inr (.inr (.inr (fun j => some (r0 (j + 1)))))))), (r0 1, .inl (cJ, 16, .inr (.inl f_2511))), (r0 2, .inl (cJ, 16, .inr (.inl f_2512))), (r0 3, .inl (cJ, 16, .inr (.inl f_2513))), (r0 4, .inl (cJ, 16, .inr (.inl f_2514))), (r0 5, .inl (cJ, 16, .inr (.inl f_2515))), (r0 6, .inl (cJ, 16, .inr (.inl f_2516))), (r0 7, .inl (cJ, 16, .inr (.inl f_2517))), (r0 8, .inl (cQ, 6, .inr (.inr (.inr (.inr (fun j => some (r0 (j + 9)))))))), (r0 9, .inl (cJ, 16, .inr (.inl f_2518))), (r0 10, .inl (cJ, 16, .inr (.inl f_2519))), (r0 11, .inl (cJ, 16, .inr (.inl f_2520))), (r0 12, .inl (cJ, 16, .inr (.inl f_2521))), (r0 13, .inl (cJ, 16, .inr (.inl f_2522))), (r0 14, .inl (cJ, 16, .inr (.inl f_2523))), (r0 15, .inl (cJ, 16, .inr (.inl f_2524))), (r0 16, .inl (cI, 7, .inl f_2531))], [(st0, .inl (cI, 6, .inl f1))]] : List va_W) ++ ([] : List va_W)) := pm_n 2 [0, 1] (by decide) rfl rfl
                      have hPc := bk_P hpm hP
                      have hDc := bk_D hpm hD
                      have hFc := bk_F hpm hD hS hA
                      refine va_calll (va_runV (As := [.int z_2509, .int z_2510]) (rest := [.long g_34, .long g_35]) ⟨hx, hb, hml, hown, hts⟩ (c_X0_badWays_nv5 l dC dI ad tN fN cB cI cJ cZ cQ h0 z_2509 z_2510 r0 st0 _ _ ⟨f_2511, f_2512, f_2513, f_2514, f_2515, f_2516, f_2517, f_2518, f_2519, f_2520, f_2521, f_2522, f_2523, f_2524, ck_2525, fn_2528, f_2531, bd_2532, al_2533, rfl, by omega, by omega, by omega, by omega⟩ H.size (by omega) (by omega) (by omega) (by omega)) (cwV 2 hts gX0_badWays_X0_badWays rfl rfl rfl (by decide +kernel) ⟨(Nat.le_of_ble_eq_true rfl), (Nat.le_of_ble_eq_true rfl)⟩) ⟨fun a U g mk q => by obtain ⟨q0, q1, qP, qK, qD, qE⟩ := q; exact ⟨q0, q1, qP, va_K.moved (u := U) (U := U.calling g mk a) (Vm.Alike.refl U.vm) qK, qD, ey_blind qE⟩, va_recv hK hPc (ci := 0) (q0 := 0) rfl rfl, fun U hU hW => ⟨rfl, by rw [hU], by rw [hU]; exact hPc, va_K.moved hW.alike hK, hDc.weaken (fun _ _ _ _ => trivial), ey_call hE hS hFc hU hW⟩⟩ rfl rfl hl.1 rfl (lv_room (Nat.le_of_ble_eq_true rfl)) dX0_badWays_113 ⟨(Nat.le_of_ble_eq_true rfl), (Nat.le_of_ble_eq_true rfl)⟩) hS (fun q _ h => hFc q h) hFc (fun r_2534 u t H locs ht hvm hw hB hz1 hk1 hS => ?_)
                      obtain ⟨w_2535, o_2536, hP1, hD1⟩ := hB
                      rw [ht] at hP1
                      obtain ⟨hP, hD⟩ := bk_join hpm hP hD hk1 hFc (Cs1 := [w_2535, [(st0, .inl (cI, 6, .inl f1))]]) hP1 hD1
                      have hpm2 : List.Perm (([w_2535, [(st0, .inl (cI, 6, .inl f1))]] : List va_W) ++ ([] : List va_W)) ([w_2535, [(st0, .inl (cI, 6, .inl f1))]] : List va_W) := pm_n 2 [0, 1] (by decide) rfl rfl
                      have hP := bk_reP hpm2 hP
                      have hD := bk_reD hpm2 hD
                      have hP : va_P (dC, dI) vwCl (List.flatten [w_2535, [(st0, .inl (cI, 6, .inl f1))]]) H := hP
                      have hD : va_D A (List.flatten [w_2535, [(st0, .inl (cI, 6, .inl f1))]]) := hD
                      refine lv_lmul hx hb dX0_badWays_116 ?_
                      refine lv_topl (fun z_2537 ez_2537 => ?_)
                      refine lv_ladd hx hb dX0_badWays_117 ?_
                      refine lv_topl (fun z_2538 ez_2538 => ?_)
                      refine lv_lstore_n (lv' := [(3, .long z_2538), (8, .int g_33), (7, .int 0), (5, .long g_34), (0, .ref h0), (1, .int p1), (2, .int p2)]) hx hb dX0_badWays_118 rfl hl (by decide) rfl (fun ls hl => ?_)
                      refine lv_lload hx hb dX0_badWays_119 (lv_at hl 3 rfl) ?_
                      refine lv_iload_n hx hb dX0_badWays_121 rfl (lv_at hl 6 rfl) ?_
                      refine lv_iload hx hb dX0_badWays_122 (lv_at hl 1 rfl) ?_
                      refine lv_isub hx hb dX0_badWays_124 ?_
                      refine lv_topi (fun z_2539 ez_2539 => ?_)
                      have hz_2539 : z_2539.toInt = p2.toInt - g_33.toInt := by rw [ez_2539]; exact t_sub rfl rfl (by omega) (by omega)
                      obtain ⟨z_2540, ez_2540⟩ : ∃ y : Int64, (z_2539 : Int32).toInt64 = y := ⟨_, rfl⟩
                      refine lv_i2l (v := z_2540) hx hb dX0_badWays_125 ez_2540 ?_
                      have nz_2540 : ¬ z_2540 = 0 := i2l_ne ez_2540 (by omega)
                      refine lv_lmul hx hb dX0_badWays_126 ?_
                      refine lv_topl (fun z_2541 ez_2541 => ?_)
                      refine lv_iload hx hb dX0_badWays_127 (lv_at hl 1 rfl) ?_
                      refine lv_iconst (v := 1) hx hb dX0_badWays_129 (by decide) ?_
                      refine lv_iadd hx hb dX0_badWays_130 ?_
                      refine lv_topi (fun z_2542 ez_2542 => ?_)
                      have hz_2542 : z_2542.toInt = g_33.toInt + 1 := by rw [ez_2542]; exact t_add rfl tI_1 (by omega) (by omega)
                      obtain ⟨z_2543, ez_2543⟩ : ∃ y : Int64, (z_2542 : Int32).toInt64 = y := ⟨_, rfl⟩
                      refine lv_i2l (v := z_2543) hx hb dX0_badWays_131 ez_2543 ?_
                      have nz_2543 : ¬ z_2543 = 0 := i2l_ne ez_2543 (by omega)
                      refine lv_ldiv hx hb dX0_badWays_132 nz_2543 ?_
                      refine lv_topl (fun z_2544 ez_2544 => ?_)
                      refine lv_aload_n hx hb dX0_badWays_133 rfl (lv_at hl 4 rfl) ?_
                      obtain ⟨f_2545, f_2546, f_2547, f_2548, f_2549, f_2550, f_2551, f_2552, f_2553, f_2554, f_2555, f_2556, f_2557, f_2558, ck_2559, fn_2562, f_2565, bd_2566, al_2567, rfl, hl_2560, hh_2561, hl_2563, hh_2564⟩ := o_2536
                      refine va_get (D := (dC, dI)) (ci := 0) (v := .ref st0) (C := RX0) (T := TX0) (N := 9) hx hb hts iw_X0_badWays_X0 hown hK hP 0 rfl rfl 4 (by decide) (hts (.fieldLink RX0 27 "HungFloors$Crowd" "stands" "[I") (by decide +kernel)) (fun _ h9 => h9) rfl dX0_badWays_134 ?_
                      refine lv_iload_n hx hb dX0_badWays_137 rfl (lv_at hl 5 rfl) ?_
                      refine va_iald hx hb hK hP 18 1 rfl rfl (v_in rfl (by omega) (by omega)) dX0_badWays_138 ?_
                      refine lv_topi (fun z_2568 ez_2568 => ?_)
                      obtain ⟨z_2569, ez_2569⟩ : ∃ y : Int64, (z_2568 : Int32).toInt64 = y := ⟨_, rfl⟩
                      refine lv_i2l (v := z_2569) hx hb dX0_badWays_139 ez_2569 ?_
                      refine lv_lmul hx hb dX0_badWays_140 ?_
                      refine lv_topl (fun z_2570 ez_2570 => ?_)
                      refine lv_lstore (lv' := [(5, .long z_2570), (3, .long z_2538), (8, .int g_33), (7, .int 0), (0, .ref h0), (1, .int p1), (2, .int p2)]) hx hb dX0_badWays_141 hl (by decide) rfl (fun ls hl => ?_)
                      obtain ⟨z_2571, ez_2571⟩ : ∃ y : Int32, y = g_33 + 1 := ⟨_, rfl⟩
                      have hz_2571 : z_2571.toInt = g_33.toInt + 1 := by rw [ez_2571]; exact t_add rfl tI_1 (by omega) (by omega)
                      refine lv_iinc (v := z_2571) (lv' := [(8, .int z_2571), (5, .long z_2570), (3, .long z_2538), (7, .int 0), (0, .ref h0), (1, .int p1), (2, .int p2)]) hx hb dX0_badWays_143 hl (k := 2) rfl (by rw [ez_2571]; rfl) (by decide) rfl (fun ls hl => ?_)
                      refine lv_goto (tgt := 71) hx hb dX0_badWays_146 (by decide) ?_
                      exact ih_2387 z_2571 z_2570 z_2538 _ ⟨f_2545, f_2546, f_2547, f_2548, f_2549, f_2550, f_2551, f_2552, f_2553, f_2554, f_2555, f_2556, f_2557, f_2558, ck_2559, fn_2562, f_2565, bd_2566, al_2567, rfl, by omega, by omega, by omega, by omega⟩ (by omega) (by omega) (by omega) (by omega) _ _ hP hD hS ls (lv_sub hl [0, 3, 1, 2, 4, 5, 6] rfl)
            exact lp_2386 _ 0 1 0 _ ⟨f_1, f_2, f_3, f_4, f_5, f_6, f_7, f_8, f_9, f_10, f_11, f_12, f_13, f_14, ck_15, fn_18, f_21, bd_22, al_23, rfl, by omega, by omega, by omega, by omega⟩ (by have := tI_0; omega) (by have := tI_0; omega) (by have := tI_0; omega) (Nat.lt_succ_self _) _ _ hP hD hS ls (lv_sub hl [0, 1, 2, 3, 4, 5, 6] rfl)
          · have c_32 : z_31.toInt = 0 := f_eq rfl tI_0 c_32
            refine lv_iconst (v := 1) hx hb dX0_badWays_61 (by decide) ?_
            refine lv_goto (tgt := 66) hx hb dX0_badWays_62 (by decide) ?_
            refine lv_istore (lv' := [(7, .int 1), (5, .long 1), (3, .long 0), (0, .ref h0), (1, .int p1), (2, .int p2)]) hx hb dX0_badWays_66 hl (by decide) rfl (fun ls hl => ?_)
            refine lv_iconst (v := 0) hx hb dX0_badWays_68 (by decide) ?_
            refine lv_istore (lv' := [(8, .int 0), (7, .int 1), (5, .long 1), (3, .long 0), (0, .ref h0), (1, .int p1), (2, .int p2)]) hx hb dX0_badWays_69 hl (by decide) rfl (fun ls hl => ?_)
            have lp_4197 : ∀ (n : Nat) (g_2572 : Int32) (g_2573 : Int64) (g_2574 : Int64) (gw_2657 : va_W), ok_crowd ad cB cI cJ cZ cQ h0 r0 st0 gw_2657 → 0 ≤ g_2572.toInt → g_2572.toInt ≤ 11 → g_2572.toInt - p2.toInt ≤ 1 → (11 - g_2572.toInt).toNat < n → ∀ (H : Heap) (locs : List Loc), va_P (dC, dI) vwCl (List.flatten [gw_2657, [(st0, .inl (cI, 6, .inl f1))]]) H → va_D A (List.flatten [gw_2657, [(st0, .inl (cI, 6, .inl f1))]]) → va_S A s.heap H locs → ∀ (ls : Array Slot), lv_has ls 9 [(8, .int g_2572), (7, .int 1), (5, .long g_2573), (3, .long g_2574), (0, .ref h0), (1, .int p1), (2, .int p2)] → W p l e (headSpec wsX0_badWays ({ frames := 3, cells := 0, slots := 0, locals := 80 } : Room)).room s m ([.ref h0, .int p1, .int p2] : List Value).toArray below meth c H locs 0 0 Q0 (F0 m 71 ls []) := by
              intro n
              induction n with
              | zero => intro g_2572 g_2573 g_2574 gw_2657 okgw_2657 iv_4194 iv_4195 iv_4196 hm; exact absurd hm (Nat.not_lt_zero _)
              | succ n ih_4198 =>
                intro g_2572 g_2573 g_2574 gw_2657 okgw_2657 iv_4194 iv_4195 iv_4196 hm H locs hP hD hS ls hl
                refine lv_iload hx hb dX0_badWays_71 (lv_at hl 0 rfl) ?_
                refine lv_iload_n hx hb dX0_badWays_73 rfl (lv_at hl 6 rfl) ?_
                refine lv_icmp_gt (tgt := 149) hx hb dX0_badWays_74 (by decide) (fun c_4199 => ?_) (fun c_4199 => ?_)
                · have c_4199 : p2.toInt < g_2572.toInt := f_lt rfl rfl c_4199
                  refine lv_lload_n hx hb dX0_badWays_149 rfl (lv_at hl 3 rfl) ?_
                  rw [hQ0]
                  exact W.lret (v := g_2574) hx hb hr (fun t ht hW => ⟨⟨g_2574, (), rfl, trivial, ⟨_, okgw_2657, by rw [ht]; exact hP, hD⟩⟩, hS.F ht⟩) hS.2.2 dX0_badWays_150
                · have c_4199 : g_2572.toInt ≤ p2.toInt := f_nlt rfl rfl c_4199
                  refine lv_lload hx hb dX0_badWays_77 (lv_at hl 2 rfl) ?_
                  refine lv_lconst (v := 0) hx hb dX0_badWays_79 (by decide) ?_
                  refine W.lcmp hx hb dX0_badWays_80 ?_
                  refine lv_topi (fun z_4200 ez_4200 => ?_)
                  refine lv_if_le (tgt := 149) hx hb dX0_badWays_81 (by decide) (fun c_4201 => ?_) (fun c_4201 => ?_)
                  · have c_4201 : z_4200.toInt ≤ 0 := f_le rfl tI_0 c_4201
                    refine lv_lload_n hx hb dX0_badWays_149 rfl (lv_at hl 3 rfl) ?_
                    rw [hQ0]
                    exact W.lret (v := g_2574) hx hb hr (fun t ht hW => ⟨⟨g_2574, (), rfl, trivial, ⟨_, okgw_2657, by rw [ht]; exact hP, hD⟩⟩, hS.F ht⟩) hS.2.2 dX0_badWays_150
                  · have n_4202 : ¬ g_2573 = 0 := lc_nle ez_4200 c_4201
                    have c_4201 : 0 < z_4200.toInt := f_nle rfl tI_0 c_4201
                    refine lv_iload hx hb dX0_badWays_84 (lv_at hl 0 rfl) ?_
                    refine lv_iload_n hx hb dX0_badWays_86 rfl (lv_at hl 6 rfl) ?_
                    refine lv_icmp_eq (tgt := 95) hx hb dX0_badWays_87 (by decide) (fun c_4203 => ?_) (fun c_4203 => ?_)
                    · have c_4203 : g_2572.toInt = p2.toInt := f_eq rfl rfl c_4203
                      refine lv_aload_n hx hb dX0_badWays_95 rfl (lv_at hl 4 rfl) ?_
                      refine lv_iload_n hx hb dX0_badWays_96 rfl (lv_at hl 5 rfl) ?_
                      refine lv_iload hx hb dX0_badWays_97 (lv_at hl 0 rfl) ?_
                      obtain ⟨f_4204, f_4205, f_4206, f_4207, f_4208, f_4209, f_4210, f_4211, f_4212, f_4213, f_4214, f_4215, f_4216, f_4217, ck_4218, fn_4221, f_4224, bd_4225, al_4226, rfl, hl_4219, hh_4220, hl_4222, hh_4223⟩ := okgw_2657
                      have hpm : List.Perm ([[(h0, .inr (0, [.ref (r0 0), .ref (r0 8), .ref (r0 15), .int ck_4218, .ref st0, .int fn_4221, .ref (r0 16), .long bd_4225, .long al_4226])), (r0 0, .inl (cQ, 7, .inr (.inr (.inr (.inr (fun j => some (r0 (j + 1)))))))), (r0 1, .inl (cJ, 16, .inr (.inl f_4204))), (r0 2, .inl (cJ, 16, .inr (.inl f_4205))), (r0 3, .inl (cJ, 16, .inr (.inl f_4206))), (r0 4, .inl (cJ, 16, .inr (.inl f_4207))), (r0 5, .inl (cJ, 16, .inr (.inl f_4208))), (r0 6, .inl (cJ, 16, .inr (.inl f_4209))), (r0 7, .inl (cJ, 16, .inr (.inl f_4210))), (r0 8, .inl (cQ, 6, .inr (.inr (.inr (.inr (fun j => some (r0 (j + 9)))))))), (r0 9, .inl (cJ, 16, .inr (.inl f_4211))), (r0 10, .inl (cJ, 16, .inr (.inl f_4212))), (r0 11, .inl (cJ, 16, .inr (.inl f_4213))), (r0 12, .inl (cJ, 16, .inr (.inl f_4214))), (r0 13, .inl (cJ, 16, .inr (.inl f_4215))), (r0 14, .inl (cJ, 16, .inr (.inl f_4216))), (r0 15, .inl (cJ, 16, .inr (.inl f_4217))), (r0 16, .inl (cI, 7, .inl f_4224))], [(st0, .inl (cI, 6, .inl f1))]] : List va_W) (([[(h0, .inr (0, [.ref (r0 0), .ref (r0 8), .ref (r0 15), .int ck_4218, .ref st0, .int fn_4221, .ref (r0 16), .long bd_4225, .long al_4226])), (r0 0, .inl (cQ, 7, .inr (.inr (.inr (.inr (fun j => some (r0 (j + 1)))))))), (r0 1, .inl (cJ, 16, .inr (.inl f_4204))), (r0 2, .inl (cJ, 16, .inr (.inl f_4205))), (r0 3, .inl (cJ, 16, .inr (.inl f_4206))), (r0 4, .inl (cJ, 16, .inr (.inl f_4207))), (r0 5, .inl (cJ, 16, .inr (.inl f_4208))), (r0 6, .inl (cJ, 16, .inr (.inl f_4209))), (r0 7, .inl (cJ, 16, .inr (.inl f_4210))), (r0 8, .inl (cQ, 6, .inr (.inr (.inr (.inr (fun j => some (r0 (j + 9)))))))), (r0 9, .inl (cJ, 16, .inr (.inl f_4211))), (r0 10, .inl (cJ, 16, .inr (.inl f_4212))), (r0 11, .inl (cJ, 16, .inr (.inl f_4213))), (r0 12, .inl (cJ, 16, .inr (.inl f_4214))), (r0 13, .inl (cJ, 16, .inr (.inl f_4215))), (r0 14, .inl (cJ, 16, .inr (.inl f_4216))), (r0 15, .inl (cJ, 16, .inr (.inl f_4217))), (r0 16, .inl (cI, 7, .inl f_4224))]] : List va_W) ++ ([[(st0, .inl (cI, 6, .inl f1))]] : List va_W)) := pm_n 2 [0, 1] (by decide) rfl rfl
                      have hPc := bk_P hpm hP
                      have hDc := bk_D hpm hD
                      have hFc := bk_F hpm hD hS hA
                      refine va_callv (va_runV (As := [.int p1, .int g_2572]) (rest := []) ⟨hx, hb, hml, hown, hts⟩ (c_X0_standHere l dC dI ad tN fN cB cI cJ cZ cQ h0 p1 g_2572 r0 st0 _ ⟨f_4204, f_4205, f_4206, f_4207, f_4208, f_4209, f_4210, f_4211, f_4212, f_4213, f_4214, f_4215, f_4216, f_4217, ck_4218, fn_4221, f_4224, bd_4225, al_4226, rfl, by omega, by omega, by omega, by omega⟩ H.size (by omega) (by omega)) (cwV 2 hts gX0_badWays_X0_standHere rfl rfl rfl (by decide +kernel) ⟨(Nat.le_of_ble_eq_true rfl), (Nat.le_of_ble_eq_true rfl)⟩) ⟨fun a U g mk q => by obtain ⟨q0, q1, qP, qK, qD, qE⟩ := q; exact ⟨q0, q1, qP, va_K.moved (u := U) (U := U.calling g mk a) (Vm.Alike.refl U.vm) qK, qD, ey_blind qE⟩, va_recv hK hPc (ci := 0) (q0 := 0) rfl rfl, fun U hU hW => ⟨rfl, by rw [hU], by rw [hU]; exact hPc, va_K.moved hW.alike hK, hDc.weaken (fun _ _ _ _ => trivial), ey_call hE hS hFc hU hW⟩⟩ rfl rfl hl.1 rfl (lv_room (Nat.le_of_ble_eq_true rfl)) dX0_badWays_99 ⟨(Nat.le_of_ble_eq_true rfl), (Nat.le_of_ble_eq_true rfl)⟩) hS (fun q _ h => hFc q h) hFc (fun u t H locs ht hvm hw hB hz1 hk1 hS => ?_)
                      obtain ⟨w_4228, o_4229, hP1, hD1⟩ := hB
                      rw [ht] at hP1
                      obtain ⟨hP, hD⟩ := bk_join hpm hP hD hk1 hFc (Cs1 := [w_4228]) hP1 hD1
                      have hpm2 : List.Perm (([w_4228] : List va_W) ++ ([[(st0, .inl (cI, 6, .inl f1))]] : List va_W)) ([w_4228, [(st0, .inl (cI, 6, .inl f1))]] : List va_W) := pm_n 2 [0, 1] (by decide) rfl rfl
                      have hP := bk_reP hpm2 hP
                      have hD := bk_reD hpm2 hD
                      have hP : va_P (dC, dI) vwCl (List.flatten [w_4228, [(st0, .inl (cI, 6, .inl f1))]]) H := hP
                      have hD : va_D A (List.flatten [w_4228, [(st0, .inl (cI, 6, .inl f1))]]) := hD
                      refine lv_lload_n hx hb dX0_badWays_102 rfl (lv_at hl 3 rfl) ?_
                      refine lv_lload hx hb dX0_badWays_103 (lv_at hl 2 rfl) ?_
                      refine lv_aload_n hx hb dX0_badWays_105 rfl (lv_at hl 4 rfl) ?_
                      refine lv_iload_n hx hb dX0_badWays_106 rfl (lv_at hl 5 rfl) ?_
                      refine lv_iconst (v := 1) hx hb dX0_badWays_107 (by decide) ?_
                      refine lv_iadd hx hb dX0_badWays_108 ?_
                      refine lv_topi (fun z_4230 ez_4230 => ?_)
                      have hz_4230 : z_4230.toInt = p1.toInt + 1 := by rw [ez_4230]; exact t_add rfl tI_1 (by omega) (by omega)
                      have fz_4230 : z_4230 = (p1 + 1) := by rw [ez_4230]
                      refine lv_iload_n hx hb dX0_badWays_109 rfl (lv_at hl 6 rfl) ?_
                      refine lv_iload hx hb dX0_badWays_110 (lv_at hl 0 rfl) ?_
                      refine lv_isub hx hb dX0_badWays_112 ?_
                      refine lv_topi (fun z_4231 ez_4231 => ?_)
                      have hz_4231 : z_4231.toInt = p2.toInt - g_2572.toInt := by rw [ez_4231]; exact t_sub rfl rfl (by omega) (by omega)
                      obtain ⟨f_4232, f_4233, f_4234, f_4235, f_4236, f_4237, f_4238, f_4239, f_4240, f_4241, f_4242, f_4243, f_4244, f_4245, ck_4246, fn_4249, f_4252, bd_4253, al_4254, rfl, hl_4247, hh_4248, hl_4250, hh_4251⟩ := o_4229
                      have hpm : List.Perm ([[(h0, .inr (0, [.ref (r0 0), .ref (r0 8), .ref (r0 15), .int ck_4246, .ref st0, .int fn_4249, .ref (r0 16), .long bd_4253, .long al_4254])), (r0 0, .inl (cQ, 7, .inr (.inr (.inr (.inr (fun j => some (r0 (j + 1)))))))), (r0 1, .inl (cJ, 16, .inr (.inl f_4232))), (r0 2, .inl (cJ, 16, .inr (.inl f_4233))), (r0 3, .inl (cJ, 16, .inr (.inl f_4234))), (r0 4, .inl (cJ, 16, .inr (.inl f_4235))), (r0 5, .inl (cJ, 16, .inr (.inl f_4236))), (r0 6, .inl (cJ, 16, .inr (.inl f_4237))), (r0 7, .inl (cJ, 16, .inr (.inl f_4238))), (r0 8, .inl (cQ, 6, .inr (.inr (.inr (.inr (fun j => some (r0 (j + 9)))))))), (r0 9, .inl (cJ, 16, .inr (.inl f_4239))), (r0 10, .inl (cJ, 16, .inr (.inl f_4240))), (r0 11, .inl (cJ, 16, .inr (.inl f_4241))), (r0 12, .inl (cJ, 16, .inr (.inl f_4242))), (r0 13, .inl (cJ, 16, .inr (.inl f_4243))), (r0 14, .inl (cJ, 16, .inr (.inl f_4244))), (r0 15, .inl (cJ, 16, .inr (.inl f_4245))), (r0 16, .inl (cI, 7, .inl f_4252))], [(st0, .inl (cI, 6, .inl f1))]] : List va_W) (([[(h0, .inr (0, [.ref (r0 0), .ref (r0 8), .ref (r0 15), .int ck_4246, .ref st0, .int fn_4249, .ref (r0 16), .long bd_4253, .long al_4254])), (r0 0, .inl (cQ, 7, .inr (.inr (.inr (.inr (fun j => some (r0 (j + 1)))))))), (r0 1, .inl (cJ, 16, .inr (.inl f_4232))), (r0 2, .inl (cJ, 16, .inr (.inl f_4233))), (r0 3, .inl (cJ, 16, .inr (.inl f_4234))), (r0 4, .inl (cJ, 16, .inr (.inl f_4235))), (r0 5, .inl (cJ, 16, .inr (.inl f_4236))), (r0 6, .inl (cJ, 16, .inr (.inl f_4237))), (r0 7, .inl (cJ, 16, .inr (.inl f_4238))), (r0 8, .inl (cQ, 6, .inr (.inr (.inr (.inr (fun j => some (r0 (j + 9)))))))), (r0 9, .inl (cJ, 16, .inr (.inl f_4239))), (r0 10, .inl (cJ, 16, .inr (.inl f_4240))), (r0 11, .inl (cJ, 16, .inr (.inl f_4241))), (r0 12, .inl (cJ, 16, .inr (.inl f_4242))), (r0 13, .inl (cJ, 16, .inr (.inl f_4243))), (r0 14, .inl (cJ, 16, .inr (.inl f_4244))), (r0 15, .inl (cJ, 16, .inr (.inl f_4245))), (r0 16, .inl (cI, 7, .inl f_4252))], [(st0, .inl (cI, 6, .inl f1))]] : List va_W) ++ ([] : List va_W)) := pm_n 2 [0, 1] (by decide) rfl rfl
                      have hPc := bk_P hpm hP
                      have hDc := bk_D hpm hD
                      have hFc := bk_F hpm hD hS hA
                      refine va_calll (va_runV (As := [.int z_4230, .int z_4231]) (rest := [.long g_2573, .long g_2574]) ⟨hx, hb, hml, hown, hts⟩ (c_X0_badWays_nv5 l dC dI ad tN fN cB cI cJ cZ cQ h0 z_4230 z_4231 r0 st0 _ _ ⟨f_4232, f_4233, f_4234, f_4235, f_4236, f_4237, f_4238, f_4239, f_4240, f_4241, f_4242, f_4243, f_4244, f_4245, ck_4246, fn_4249, f_4252, bd_4253, al_4254, rfl, by omega, by omega, by omega, by omega⟩ H.size (by omega) (by omega) (by omega) (by omega)) (cwV 2 hts gX0_badWays_X0_badWays rfl rfl rfl (by decide +kernel) ⟨(Nat.le_of_ble_eq_true rfl), (Nat.le_of_ble_eq_true rfl)⟩) ⟨fun a U g mk q => by obtain ⟨q0, q1, qP, qK, qD, qE⟩ := q; exact ⟨q0, q1, qP, va_K.moved (u := U) (U := U.calling g mk a) (Vm.Alike.refl U.vm) qK, qD, ey_blind qE⟩, va_recv hK hPc (ci := 0) (q0 := 0) rfl rfl, fun U hU hW => ⟨rfl, by rw [hU], by rw [hU]; exact hPc, va_K.moved hW.alike hK, hDc.weaken (fun _ _ _ _ => trivial), ey_call hE hS hFc hU hW⟩⟩ rfl rfl hl.1 rfl (lv_room (Nat.le_of_ble_eq_true rfl)) dX0_badWays_113 ⟨(Nat.le_of_ble_eq_true rfl), (Nat.le_of_ble_eq_true rfl)⟩) hS (fun q _ h => hFc q h) hFc (fun r_4255 u t H locs ht hvm hw hB hz1 hk1 hS => ?_)
                      obtain ⟨w_4256, o_4257, hP1, hD1⟩ := hB
                      rw [ht] at hP1
                      obtain ⟨hP, hD⟩ := bk_join hpm hP hD hk1 hFc (Cs1 := [w_4256, [(st0, .inl (cI, 6, .inl f1))]]) hP1 hD1
                      have hpm2 : List.Perm (([w_4256, [(st0, .inl (cI, 6, .inl f1))]] : List va_W) ++ ([] : List va_W)) ([w_4256, [(st0, .inl (cI, 6, .inl f1))]] : List va_W) := pm_n 2 [0, 1] (by decide) rfl rfl
                      have hP := bk_reP hpm2 hP
                      have hD := bk_reD hpm2 hD
                      have hP : va_P (dC, dI) vwCl (List.flatten [w_4256, [(st0, .inl (cI, 6, .inl f1))]]) H := hP
                      have hD : va_D A (List.flatten [w_4256, [(st0, .inl (cI, 6, .inl f1))]]) := hD
                      refine lv_lmul hx hb dX0_badWays_116 ?_
                      refine lv_topl (fun z_4258 ez_4258 => ?_)
                      refine lv_ladd hx hb dX0_badWays_117 ?_
                      refine lv_topl (fun z_4259 ez_4259 => ?_)
                      refine lv_lstore_n (lv' := [(3, .long z_4259), (8, .int g_2572), (7, .int 1), (5, .long g_2573), (0, .ref h0), (1, .int p1), (2, .int p2)]) hx hb dX0_badWays_118 rfl hl (by decide) rfl (fun ls hl => ?_)
                      refine lv_lload hx hb dX0_badWays_119 (lv_at hl 3 rfl) ?_
                      refine lv_iload_n hx hb dX0_badWays_121 rfl (lv_at hl 6 rfl) ?_
                      refine lv_iload hx hb dX0_badWays_122 (lv_at hl 1 rfl) ?_
                      refine lv_isub hx hb dX0_badWays_124 ?_
                      refine lv_topi (fun z_4260 ez_4260 => ?_)
                      have hz_4260 : z_4260.toInt = p2.toInt - g_2572.toInt := by rw [ez_4260]; exact t_sub rfl rfl (by omega) (by omega)
                      obtain ⟨z_4261, ez_4261⟩ : ∃ y : Int64, (z_4260 : Int32).toInt64 = y := ⟨_, rfl⟩
                      refine lv_i2l (v := z_4261) hx hb dX0_badWays_125 ez_4261 ?_
                      refine lv_lmul hx hb dX0_badWays_126 ?_
                      refine lv_topl (fun z_4262 ez_4262 => ?_)
                      refine lv_iload hx hb dX0_badWays_127 (lv_at hl 1 rfl) ?_
                      refine lv_iconst (v := 1) hx hb dX0_badWays_129 (by decide) ?_
                      refine lv_iadd hx hb dX0_badWays_130 ?_
                      refine lv_topi (fun z_4263 ez_4263 => ?_)
                      have hz_4263 : z_4263.toInt = g_2572.toInt + 1 := by rw [ez_4263]; exact t_add rfl tI_1 (by omega) (by omega)
                      obtain ⟨z_4264, ez_4264⟩ : ∃ y : Int64, (z_4263 : Int32).toInt64 = y := ⟨_, rfl⟩
                      refine lv_i2l (v := z_4264) hx hb dX0_badWays_131 ez_4264 ?_
                      have nz_4264 : ¬ z_4264 = 0 := i2l_ne ez_4264 (by omega)
                      refine lv_ldiv hx hb dX0_badWays_132 nz_4264 ?_
                      refine lv_topl (fun z_4265 ez_4265 => ?_)
                      refine lv_aload_n hx hb dX0_badWays_133 rfl (lv_at hl 4 rfl) ?_
                      obtain ⟨f_4266, f_4267, f_4268, f_4269, f_4270, f_4271, f_4272, f_4273, f_4274, f_4275, f_4276, f_4277, f_4278, f_4279, ck_4280, fn_4283, f_4286, bd_4287, al_4288, rfl, hl_4281, hh_4282, hl_4284, hh_4285⟩ := o_4257
                      refine va_get (D := (dC, dI)) (ci := 0) (v := .ref st0) (C := RX0) (T := TX0) (N := 9) hx hb hts iw_X0_badWays_X0 hown hK hP 0 rfl rfl 4 (by decide) (hts (.fieldLink RX0 27 "HungFloors$Crowd" "stands" "[I") (by decide +kernel)) (fun _ h9 => h9) rfl dX0_badWays_134 ?_
                      refine lv_iload_n hx hb dX0_badWays_137 rfl (lv_at hl 5 rfl) ?_
                      refine va_iald hx hb hK hP 18 1 rfl rfl (v_in rfl (by omega) (by omega)) dX0_badWays_138 ?_
                      refine lv_topi (fun z_4289 ez_4289 => ?_)
                      obtain ⟨z_4290, ez_4290⟩ : ∃ y : Int64, (z_4289 : Int32).toInt64 = y := ⟨_, rfl⟩
                      refine lv_i2l (v := z_4290) hx hb dX0_badWays_139 ez_4290 ?_
                      refine lv_lmul hx hb dX0_badWays_140 ?_
                      refine lv_topl (fun z_4291 ez_4291 => ?_)
                      refine lv_lstore (lv' := [(5, .long z_4291), (3, .long z_4259), (8, .int g_2572), (7, .int 1), (0, .ref h0), (1, .int p1), (2, .int p2)]) hx hb dX0_badWays_141 hl (by decide) rfl (fun ls hl => ?_)
                      obtain ⟨z_4292, ez_4292⟩ : ∃ y : Int32, y = g_2572 + 1 := ⟨_, rfl⟩
                      have hz_4292 : z_4292.toInt = g_2572.toInt + 1 := by rw [ez_4292]; exact t_add rfl tI_1 (by omega) (by omega)
                      refine lv_iinc (v := z_4292) (lv' := [(8, .int z_4292), (5, .long z_4291), (3, .long z_4259), (7, .int 1), (0, .ref h0), (1, .int p1), (2, .int p2)]) hx hb dX0_badWays_143 hl (k := 2) rfl (by rw [ez_4292]; rfl) (by decide) rfl (fun ls hl => ?_)
                      refine lv_goto (tgt := 71) hx hb dX0_badWays_146 (by decide) ?_
                      exact ih_4198 z_4292 z_4291 z_4259 _ ⟨f_4266, f_4267, f_4268, f_4269, f_4270, f_4271, f_4272, f_4273, f_4274, f_4275, f_4276, f_4277, f_4278, f_4279, ck_4280, fn_4283, f_4286, bd_4287, al_4288, rfl, by omega, by omega, by omega, by omega⟩ (by omega) (by omega) (by omega) (by omega) _ _ hP hD hS ls (lv_sub hl [0, 3, 1, 2, 4, 5, 6] rfl)
                    · have c_4203 : ¬ g_2572.toInt = p2.toInt := f_ne rfl rfl c_4203
                      refine lv_iload hx hb dX0_badWays_90 (lv_at hl 1 rfl) ?_
                      refine lv_if_ne (tgt := 119) hx hb dX0_badWays_92 (by decide) (fun c_4293 => ?_) (fun c_4293 => absurd c_4293 (by decide))
                      refine lv_lload hx hb dX0_badWays_119 (lv_at hl 2 rfl) ?_
                      refine lv_iload_n hx hb dX0_badWays_121 rfl (lv_at hl 6 rfl) ?_
                      refine lv_iload hx hb dX0_badWays_122 (lv_at hl 0 rfl) ?_
                      refine lv_isub hx hb dX0_badWays_124 ?_
                      refine lv_topi (fun z_4294 ez_4294 => ?_)
                      have hz_4294 : z_4294.toInt = p2.toInt - g_2572.toInt := by rw [ez_4294]; exact t_sub rfl rfl (by omega) (by omega)
                      obtain ⟨z_4295, ez_4295⟩ : ∃ y : Int64, (z_4294 : Int32).toInt64 = y := ⟨_, rfl⟩
                      refine lv_i2l (v := z_4295) hx hb dX0_badWays_125 ez_4295 ?_
                      have nz_4295 : ¬ z_4295 = 0 := i2l_ne ez_4295 (by omega)
                      refine lv_lmul hx hb dX0_badWays_126 ?_
                      refine lv_topl (fun z_4296 ez_4296 => ?_)
                      refine lv_iload hx hb dX0_badWays_127 (lv_at hl 0 rfl) ?_
                      refine lv_iconst (v := 1) hx hb dX0_badWays_129 (by decide) ?_
                      refine lv_iadd hx hb dX0_badWays_130 ?_
                      refine lv_topi (fun z_4297 ez_4297 => ?_)
                      have hz_4297 : z_4297.toInt = g_2572.toInt + 1 := by rw [ez_4297]; exact t_add rfl tI_1 (by omega) (by omega)
                      obtain ⟨z_4298, ez_4298⟩ : ∃ y : Int64, (z_4297 : Int32).toInt64 = y := ⟨_, rfl⟩
                      refine lv_i2l (v := z_4298) hx hb dX0_badWays_131 ez_4298 ?_
                      have nz_4298 : ¬ z_4298 = 0 := i2l_ne ez_4298 (by omega)
                      refine lv_ldiv hx hb dX0_badWays_132 nz_4298 ?_
                      refine lv_topl (fun z_4299 ez_4299 => ?_)
                      refine lv_aload_n hx hb dX0_badWays_133 rfl (lv_at hl 4 rfl) ?_
                      obtain ⟨f_4300, f_4301, f_4302, f_4303, f_4304, f_4305, f_4306, f_4307, f_4308, f_4309, f_4310, f_4311, f_4312, f_4313, ck_4314, fn_4317, f_4320, bd_4321, al_4322, rfl, hl_4315, hh_4316, hl_4318, hh_4319⟩ := okgw_2657
                      refine va_get (D := (dC, dI)) (ci := 0) (v := .ref st0) (C := RX0) (T := TX0) (N := 9) hx hb hts iw_X0_badWays_X0 hown hK hP 0 rfl rfl 4 (by decide) (hts (.fieldLink RX0 27 "HungFloors$Crowd" "stands" "[I") (by decide +kernel)) (fun _ h9 => h9) rfl dX0_badWays_134 ?_
                      refine lv_iload_n hx hb dX0_badWays_137 rfl (lv_at hl 5 rfl) ?_
                      refine va_iald hx hb hK hP 18 1 rfl rfl (v_in rfl (by omega) (by omega)) dX0_badWays_138 ?_
                      refine lv_topi (fun z_4323 ez_4323 => ?_)
                      obtain ⟨z_4324, ez_4324⟩ : ∃ y : Int64, (z_4323 : Int32).toInt64 = y := ⟨_, rfl⟩
                      refine lv_i2l (v := z_4324) hx hb dX0_badWays_139 ez_4324 ?_
                      refine lv_lmul hx hb dX0_badWays_140 ?_
                      refine lv_topl (fun z_4325 ez_4325 => ?_)
                      refine lv_lstore (lv' := [(5, .long z_4325), (8, .int g_2572), (7, .int 1), (3, .long g_2574), (0, .ref h0), (1, .int p1), (2, .int p2)]) hx hb dX0_badWays_141 hl (by decide) rfl (fun ls hl => ?_)
                      obtain ⟨z_4326, ez_4326⟩ : ∃ y : Int32, y = g_2572 + 1 := ⟨_, rfl⟩
                      have hz_4326 : z_4326.toInt = g_2572.toInt + 1 := by rw [ez_4326]; exact t_add rfl tI_1 (by omega) (by omega)
                      refine lv_iinc (v := z_4326) (lv' := [(8, .int z_4326), (5, .long z_4325), (7, .int 1), (3, .long g_2574), (0, .ref h0), (1, .int p1), (2, .int p2)]) hx hb dX0_badWays_143 hl (k := 1) rfl (by rw [ez_4326]; rfl) (by decide) rfl (fun ls hl => ?_)
                      refine lv_goto (tgt := 71) hx hb dX0_badWays_146 (by decide) ?_
                      exact ih_4198 z_4326 z_4325 g_2574 _ ⟨f_4300, f_4301, f_4302, f_4303, f_4304, f_4305, f_4306, f_4307, f_4308, f_4309, f_4310, f_4311, f_4312, f_4313, ck_4314, fn_4317, f_4320, bd_4321, al_4322, rfl, by omega, by omega, by omega, by omega⟩ (by omega) (by omega) (by omega) (by omega) _ _ hP hD hS ls (lv_sub hl [0, 2, 1, 3, 4, 5, 6] rfl)
            exact lp_4197 _ 0 1 0 _ ⟨f_1, f_2, f_3, f_4, f_5, f_6, f_7, f_8, f_9, f_10, f_11, f_12, f_13, f_14, ck_15, fn_18, f_21, bd_22, al_23, rfl, by omega, by omega, by omega, by omega⟩ (by have := tI_0; omega) (by have := tI_0; omega) (by have := tI_0; omega) (Nat.lt_succ_self _) _ _ hP hD hS ls (lv_sub hl [0, 1, 2, 3, 4, 5, 6] rfl)
        · have c_29 : ck_15.toInt = 0 := f_eq rfl tI_0 c_29
          refine lv_lconst (v := 0) hx hb dX0_badWays_43 (by decide) ?_
          rw [hQ0]
          exact W.lret (v := 0) hx hb hr (fun t ht hW => ⟨⟨0, (), rfl, trivial, ⟨_, ⟨f_1, f_2, f_3, f_4, f_5, f_6, f_7, f_8, f_9, f_10, f_11, f_12, f_13, f_14, ck_15, fn_18, f_21, bd_22, al_23, rfl, by omega, by omega, by omega, by omega⟩, by rw [ht]; exact hP, hD⟩⟩, hS.F ht⟩) hS.2.2 dX0_badWays_44
  · have c_25 : ¬ r_24.toInt = 0 := f_ne rfl tI_0 c_25
    refine lv_aload_n hx hb dX0_badWays_8 rfl (lv_at hl 0 rfl) ?_
    refine va_get (D := (dC, dI)) (ci := 0) (v := .ref (r0 16)) (C := RX0) (T := TX0) (N := 9) hx hb hts iw_X0_badWays_X0 hown hK hP 0 rfl rfl 6 (by decide) (hts (.fieldLink RX0 34 "HungFloors$Crowd" "standsFrom" "[I") (by decide +kernel)) (fun _ h9 => h9) rfl dX0_badWays_9 ?_
    refine lv_iload_n hx hb dX0_badWays_12 rfl (lv_at hl 1 rfl) ?_
    refine va_iald hx hb hK hP 17 1 rfl rfl (v_in rfl (by omega) (by omega)) dX0_badWays_13 ?_
    refine lv_topi (fun z_4327 ez_4327 => ?_)
    refine lv_iload_n hx hb dX0_badWays_14 rfl (lv_at hl 2 rfl) ?_
    have hpm : List.Perm ([[(h0, .inr (0, [.ref (r0 0), .ref (r0 8), .ref (r0 15), .int ck_15, .ref st0, .int fn_18, .ref (r0 16), .long bd_22, .long al_23])), (r0 0, .inl (cQ, 7, .inr (.inr (.inr (.inr (fun j => some (r0 (j + 1)))))))), (r0 1, .inl (cJ, 16, .inr (.inl f_1))), (r0 2, .inl (cJ, 16, .inr (.inl f_2))), (r0 3, .inl (cJ, 16, .inr (.inl f_3))), (r0 4, .inl (cJ, 16, .inr (.inl f_4))), (r0 5, .inl (cJ, 16, .inr (.inl f_5))), (r0 6, .inl (cJ, 16, .inr (.inl f_6))), (r0 7, .inl (cJ, 16, .inr (.inl f_7))), (r0 8, .inl (cQ, 6, .inr (.inr (.inr (.inr (fun j => some (r0 (j + 9)))))))), (r0 9, .inl (cJ, 16, .inr (.inl f_8))), (r0 10, .inl (cJ, 16, .inr (.inl f_9))), (r0 11, .inl (cJ, 16, .inr (.inl f_10))), (r0 12, .inl (cJ, 16, .inr (.inl f_11))), (r0 13, .inl (cJ, 16, .inr (.inl f_12))), (r0 14, .inl (cJ, 16, .inr (.inl f_13))), (r0 15, .inl (cJ, 16, .inr (.inl f_14))), (r0 16, .inl (cI, 7, .inl f_21))], [(st0, .inl (cI, 6, .inl f1))]] : List va_W) (([] : List va_W) ++ ([[(h0, .inr (0, [.ref (r0 0), .ref (r0 8), .ref (r0 15), .int ck_15, .ref st0, .int fn_18, .ref (r0 16), .long bd_22, .long al_23])), (r0 0, .inl (cQ, 7, .inr (.inr (.inr (.inr (fun j => some (r0 (j + 1)))))))), (r0 1, .inl (cJ, 16, .inr (.inl f_1))), (r0 2, .inl (cJ, 16, .inr (.inl f_2))), (r0 3, .inl (cJ, 16, .inr (.inl f_3))), (r0 4, .inl (cJ, 16, .inr (.inl f_4))), (r0 5, .inl (cJ, 16, .inr (.inl f_5))), (r0 6, .inl (cJ, 16, .inr (.inl f_6))), (r0 7, .inl (cJ, 16, .inr (.inl f_7))), (r0 8, .inl (cQ, 6, .inr (.inr (.inr (.inr (fun j => some (r0 (j + 9)))))))), (r0 9, .inl (cJ, 16, .inr (.inl f_8))), (r0 10, .inl (cJ, 16, .inr (.inl f_9))), (r0 11, .inl (cJ, 16, .inr (.inl f_10))), (r0 12, .inl (cJ, 16, .inr (.inl f_11))), (r0 13, .inl (cJ, 16, .inr (.inl f_12))), (r0 14, .inl (cJ, 16, .inr (.inl f_13))), (r0 15, .inl (cJ, 16, .inr (.inl f_14))), (r0 16, .inl (cI, 7, .inl f_21))], [(st0, .inl (cI, 6, .inl f1))]] : List va_W)) := pm_n 2 [0, 1] (by decide) rfl rfl
    have hPc := bk_P hpm hP
    have hDc := bk_D hpm hD
    have hFc := bk_F hpm hD hS hA
    refine va_calll (va_runS (As := [.int z_4327, .int p2]) (rest := []) ⟨hx, hb, hml, hown, hts⟩ (c_X0_power l dC dI ad tN fN cB cI cJ cZ cQ z_4327 p2 H.size (by omega) (by omega)) (va_cwS 2 hts gX0_badWays_X0_power rfl rfl rfl (by decide +kernel) ⟨(Nat.le_of_ble_eq_true rfl), (Nat.le_of_ble_eq_true rfl)⟩) ⟨fun a U g mk q => by obtain ⟨q0, q1, qP, qK, qD, qE⟩ := q; exact ⟨q0, q1, qP, va_K.moved (u := U) (U := U.calling g mk a) (Vm.Alike.refl U.vm) qK, qD, ey_blind qE⟩, fun U hU hW => ⟨rfl, by rw [hU], by rw [hU]; exact hPc, va_K.moved hW.alike hK, hDc.weaken (fun _ _ _ _ => trivial), ey_call hE hS hFc hU hW⟩⟩ rfl rfl hl.1 rfl (lv_room (Nat.le_of_ble_eq_true rfl)) dX0_badWays_15 ⟨(Nat.le_of_ble_eq_true rfl), (Nat.le_of_ble_eq_true rfl)⟩) hS (fun q _ h => hFc q h) hFc (fun r_4328 u t H locs ht hvm hw hB hz1 hk1 hS => ?_)
    obtain ⟨hP1, hD1⟩ := hB
    rw [ht] at hP1
    obtain ⟨hP, hD⟩ := bk_join hpm hP hD hk1 hFc (Cs1 := []) hP1 hD1
    have hpm2 : List.Perm (([] : List va_W) ++ ([[(h0, .inr (0, [.ref (r0 0), .ref (r0 8), .ref (r0 15), .int ck_15, .ref st0, .int fn_18, .ref (r0 16), .long bd_22, .long al_23])), (r0 0, .inl (cQ, 7, .inr (.inr (.inr (.inr (fun j => some (r0 (j + 1)))))))), (r0 1, .inl (cJ, 16, .inr (.inl f_1))), (r0 2, .inl (cJ, 16, .inr (.inl f_2))), (r0 3, .inl (cJ, 16, .inr (.inl f_3))), (r0 4, .inl (cJ, 16, .inr (.inl f_4))), (r0 5, .inl (cJ, 16, .inr (.inl f_5))), (r0 6, .inl (cJ, 16, .inr (.inl f_6))), (r0 7, .inl (cJ, 16, .inr (.inl f_7))), (r0 8, .inl (cQ, 6, .inr (.inr (.inr (.inr (fun j => some (r0 (j + 9)))))))), (r0 9, .inl (cJ, 16, .inr (.inl f_8))), (r0 10, .inl (cJ, 16, .inr (.inl f_9))), (r0 11, .inl (cJ, 16, .inr (.inl f_10))), (r0 12, .inl (cJ, 16, .inr (.inl f_11))), (r0 13, .inl (cJ, 16, .inr (.inl f_12))), (r0 14, .inl (cJ, 16, .inr (.inl f_13))), (r0 15, .inl (cJ, 16, .inr (.inl f_14))), (r0 16, .inl (cI, 7, .inl f_21))], [(st0, .inl (cI, 6, .inl f1))]] : List va_W)) ([[(h0, .inr (0, [.ref (r0 0), .ref (r0 8), .ref (r0 15), .int ck_15, .ref st0, .int fn_18, .ref (r0 16), .long bd_22, .long al_23])), (r0 0, .inl (cQ, 7, .inr (.inr (.inr (.inr (fun j => some (r0 (j + 1)))))))), (r0 1, .inl (cJ, 16, .inr (.inl f_1))), (r0 2, .inl (cJ, 16, .inr (.inl f_2))), (r0 3, .inl (cJ, 16, .inr (.inl f_3))), (r0 4, .inl (cJ, 16, .inr (.inl f_4))), (r0 5, .inl (cJ, 16, .inr (.inl f_5))), (r0 6, .inl (cJ, 16, .inr (.inl f_6))), (r0 7, .inl (cJ, 16, .inr (.inl f_7))), (r0 8, .inl (cQ, 6, .inr (.inr (.inr (.inr (fun j => some (r0 (j + 9)))))))), (r0 9, .inl (cJ, 16, .inr (.inl f_8))), (r0 10, .inl (cJ, 16, .inr (.inl f_9))), (r0 11, .inl (cJ, 16, .inr (.inl f_10))), (r0 12, .inl (cJ, 16, .inr (.inl f_11))), (r0 13, .inl (cJ, 16, .inr (.inl f_12))), (r0 14, .inl (cJ, 16, .inr (.inl f_13))), (r0 15, .inl (cJ, 16, .inr (.inl f_14))), (r0 16, .inl (cI, 7, .inl f_21))], [(st0, .inl (cI, 6, .inl f1))]] : List va_W) := pm_n 2 [0, 1] (by decide) rfl rfl
    have hP := bk_reP hpm2 hP
    have hD := bk_reD hpm2 hD
    have hP : va_P (dC, dI) vwCl (List.flatten [[(h0, .inr (0, [.ref (r0 0), .ref (r0 8), .ref (r0 15), .int ck_15, .ref st0, .int fn_18, .ref (r0 16), .long bd_22, .long al_23])), (r0 0, .inl (cQ, 7, .inr (.inr (.inr (.inr (fun j => some (r0 (j + 1)))))))), (r0 1, .inl (cJ, 16, .inr (.inl f_1))), (r0 2, .inl (cJ, 16, .inr (.inl f_2))), (r0 3, .inl (cJ, 16, .inr (.inl f_3))), (r0 4, .inl (cJ, 16, .inr (.inl f_4))), (r0 5, .inl (cJ, 16, .inr (.inl f_5))), (r0 6, .inl (cJ, 16, .inr (.inl f_6))), (r0 7, .inl (cJ, 16, .inr (.inl f_7))), (r0 8, .inl (cQ, 6, .inr (.inr (.inr (.inr (fun j => some (r0 (j + 9)))))))), (r0 9, .inl (cJ, 16, .inr (.inl f_8))), (r0 10, .inl (cJ, 16, .inr (.inl f_9))), (r0 11, .inl (cJ, 16, .inr (.inl f_10))), (r0 12, .inl (cJ, 16, .inr (.inl f_11))), (r0 13, .inl (cJ, 16, .inr (.inl f_12))), (r0 14, .inl (cJ, 16, .inr (.inl f_13))), (r0 15, .inl (cJ, 16, .inr (.inl f_14))), (r0 16, .inl (cI, 7, .inl f_21))], [(st0, .inl (cI, 6, .inl f1))]]) H := hP
    have hD : va_D A (List.flatten [[(h0, .inr (0, [.ref (r0 0), .ref (r0 8), .ref (r0 15), .int ck_15, .ref st0, .int fn_18, .ref (r0 16), .long bd_22, .long al_23])), (r0 0, .inl (cQ, 7, .inr (.inr (.inr (.inr (fun j => some (r0 (j + 1)))))))), (r0 1, .inl (cJ, 16, .inr (.inl f_1))), (r0 2, .inl (cJ, 16, .inr (.inl f_2))), (r0 3, .inl (cJ, 16, .inr (.inl f_3))), (r0 4, .inl (cJ, 16, .inr (.inl f_4))), (r0 5, .inl (cJ, 16, .inr (.inl f_5))), (r0 6, .inl (cJ, 16, .inr (.inl f_6))), (r0 7, .inl (cJ, 16, .inr (.inl f_7))), (r0 8, .inl (cQ, 6, .inr (.inr (.inr (.inr (fun j => some (r0 (j + 9)))))))), (r0 9, .inl (cJ, 16, .inr (.inl f_8))), (r0 10, .inl (cJ, 16, .inr (.inl f_9))), (r0 11, .inl (cJ, 16, .inr (.inl f_10))), (r0 12, .inl (cJ, 16, .inr (.inl f_11))), (r0 13, .inl (cJ, 16, .inr (.inl f_12))), (r0 14, .inl (cJ, 16, .inr (.inl f_13))), (r0 15, .inl (cJ, 16, .inr (.inl f_14))), (r0 16, .inl (cI, 7, .inl f_21))], [(st0, .inl (cI, 6, .inl f1))]]) := hD
    rw [hQ0]
    exact W.lret (v := r_4328) hx hb hr (fun t ht hW => ⟨⟨r_4328, (), rfl, trivial, ⟨_, ⟨f_1, f_2, f_3, f_4, f_5, f_6, f_7, f_8, f_9, f_10, f_11, f_12, f_13, f_14, ck_15, fn_18, f_21, bd_22, al_23, rfl, by omega, by omega, by omega, by omega⟩, by rw [ht]; exact hP, hD⟩⟩, hS.F ht⟩) hS.2.2 dX0_badWays_18
