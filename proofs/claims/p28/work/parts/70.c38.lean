theorem iw_X10_most_X10 : ∀ w ∈ wsX100, w ∈ wsX10_most := fun _ h => List.mem_cons_of_mem _ (List.mem_append_left _ (List.mem_append_left _ (List.mem_append_right _ h)))
set_option maxHeartbeats 4000000 in
set_option maxRecDepth 100000 in
theorem c_X10_most (l : Launch) (dC : Nat → ClassId) (dI : Nat → Nat → Nat) (ad : Nat → Nat) (tN : Nat) (fN : Nat → Int64) (cB cI cJ cZ cQ : ClassId) (h0 : Nat) (p1 : Int32) (p2 : Int32) (r0 : Nat → Nat) (pl0 : Nat) (sp0 : Nat) (rd0 : Nat) (fi0 : Nat) (se0 : Nat) (fa0 : Nat) (cr0 : Nat) (ra0 : Nat) (pa0 : Nat) (nw0 : Int32) (w0 : va_W) (r1 : Nat → Nat) (fc1 : Int32) (dc1 : Int32) (rk1 : Nat → Int32) (w1 : va_W) (r2 : Nat → Nat) (pl2 : Nat) (w2 : va_W) (o0 : ok_main ad cB cI cJ cZ h0 r0 pl0 sp0 rd0 fi0 se0 fa0 cr0 ra0 pa0 nw0 w0) (o1 : ok_plan ad cB cI cJ cZ pl0 r1 fc1 dc1 rk1 w1) (o2 : ok_frame ad cB cI cJ cZ fi0 r2 pl2 w2) (sz : Nat) : Met l yX10_most wsX10_most ({ frames := 5, cells := 0, slots := 0, locals := 109 } : Room) (va_Pc [.ref h0, .int p1, .int p2] (fun U => U.heap.size = sz ∧ va_P (dC, dI) vwCl (List.flatten [w0, w1, w2]) U.heap ∧ va_K (dC, dI) vwCl [(cB, .byte), (cI, .int), (cJ, .long), (cZ, .boolean), (cQ, .array .long)] U ∧ va_D (fun _ => True) (List.flatten [w0, w1, w2]) ∧ ex_Y ad tN fN (va_A (List.flatten [w0, w1, w2]) sz) U)) (va_Qi (fun (r : Int32) (_ : Unit) => -1 ≤ r.toInt ∧ r.toInt ≤ 999) (fun (_ : Unit) (t : State) => ∃ (pl29 : Nat) (w29 : va_W), ((pl29 = pl2) ∨ (pl29 = pl0)) ∧ ok_frame ad cB cI cJ cZ fi0 r2 pl29 w29 ∧ va_P (dC, dI) vwCl (List.flatten [w0, w1, w29]) t.heap ∧ va_D (va_A (List.flatten [w0, w1, w2]) sz) (List.flatten [w0, w1, w29])) (va_A (List.flatten [w0, w1, w2]) sz)) 0 0 (va_A (List.flatten [w0, w1, w2]) sz) := by
  refine Met.ofW (cc := cX10_most) (maxL := 7) (ret := (some .int)) (by decide) rfl ?_
  intro p e s m args below meth c s₁ B hml hv
  obtain ⟨rfl, hsz, hP, hK, hD0, hE⟩ := hv
  have hx := B.exec
  have hb := B.bytes
  have hr := B.returns
  have hts := atoms_spec (ws := wsX10_most) B.pre
  have hown : s.vm.findClass RX10 = some m.cls := findClass_of_methodNamed B.named
  have hlocks := B.notSynchronized
  subst hsz
  have hD := hD0.self (sz := s.heap.size)
  generalize hAe : va_A (List.flatten [w0, w1, w2]) s.heap.size = A at hD hE ⊢
  have hA : ∀ q : Nat, s.heap.size ≤ q → A q := fun q h => by rw [← hAe]; exact Or.inr h
  have hS : va_S A s.heap s.heap [] := va_S.rf
  have hl := lv_entry ([.ref h0, .int p1, .int p2]) (n := 7) (Nat.le_of_ble_eq_true rfl)
  rw [lg_entry_eq]
  generalize (lg_sl ([.ref h0, .int p1, .int p2]) ++ List.replicate (7 - (lg_sl ([.ref h0, .int p1, .int p2])).length) Slot.unset).toArray = ls at hl ⊢
  have hl : lv_has ls 7 [(0, .ref h0), (1, .int p1), (2, .int p2)] := hl
  clear hAe
  refine W_name (fun Q0 hQ0 => ?_)
  obtain ⟨hx_1, hx_2⟩ := okx_main o0
  obtain ⟨hx_3, hx_4, hx_5, hx_6⟩ := okx_plan o1
  refine lv_aload_n hx hb dX10_most_0 rfl (lv_at hl 0 rfl) ?_
  refine lv_iload_n hx hb dX10_most_1 rfl (lv_at hl 1 rfl) ?_
  obtain ⟨f_7, tp_8, f_11, mv_12, rfl, hl_9, hh_10, hl_13, hh_14⟩ := o0
  have hpm : List.Perm ([[(h0, .inr (8, [.ref (r0 0), .int tp_8, .ref pl0, .ref sp0, .ref rd0, .ref (r0 1), .int mv_12, .ref fi0, .ref se0, .ref fa0, .ref cr0, .ref ra0, .ref pa0, .int nw0])), (r0 0, .inl (cB, 1600, .inl f_7)), (r0 1, .inl (cI, 6, .inl f_11))], w1, w2] : List va_W) (([[(h0, .inr (8, [.ref (r0 0), .int tp_8, .ref pl0, .ref sp0, .ref rd0, .ref (r0 1), .int mv_12, .ref fi0, .ref se0, .ref fa0, .ref cr0, .ref ra0, .ref pa0, .int nw0])), (r0 0, .inl (cB, 1600, .inl f_7)), (r0 1, .inl (cI, 6, .inl f_11))], w1] : List va_W) ++ ([w2] : List va_W)) := pm_n 3 [0, 1, 2] (by decide) rfl rfl
  have hPc := bk_P hpm hP
  have hDc := bk_D hpm hD
  have hFc := bk_F hpm hD hS hA
  refine va_calli (va_runV (As := [.int p1]) (rest := []) ⟨hx, hb, hml, hown, hts⟩ (c_X10_isDrawing l dC dI ad tN fN cB cI cJ cZ cQ h0 p1 r0 pl0 sp0 rd0 fi0 se0 fa0 cr0 ra0 pa0 nw0 _ r1 fc1 dc1 rk1 _ ⟨f_7, tp_8, f_11, mv_12, rfl, by omega, by omega, by omega, by omega⟩ o1 s.heap.size) (cwV 1 hts gX10_most_X10_isDrawing rfl rfl rfl (by decide +kernel) ⟨(Nat.le_of_ble_eq_true rfl), (Nat.le_of_ble_eq_true rfl)⟩) ⟨fun a U g mk q => by obtain ⟨q0, q1, qP, qK, qD, qE⟩ := q; exact ⟨q0, q1, qP, va_K.moved (u := U) (U := U.calling g mk a) (Vm.Alike.refl U.vm) qK, qD, ey_blind qE⟩, va_recv hK hPc (ci := 8) (q0 := 0) rfl rfl, fun U hU hW => ⟨rfl, by rw [hU], by rw [hU]; exact hPc, va_K.moved hW.alike hK, hDc.weaken (fun _ _ _ _ => trivial), ey_call hE hS hFc hU hW⟩⟩ rfl rfl hl.1 rfl (lv_room (Nat.le_of_ble_eq_true rfl)) dX10_most_2 ⟨(Nat.le_of_ble_eq_true rfl), (Nat.le_of_ble_eq_true rfl)⟩) hS (fun q _ h => hFc q h) hFc (fun r_15 u t H locs ht hvm hw hB hz1 hk1 hS => ?_)
  obtain ⟨hP1, hD1⟩ := hB
  rw [ht] at hP1
  obtain ⟨hP, hD⟩ := bk_join hpm hP hD hk1 hFc (Cs1 := [[(h0, .inr (8, [.ref (r0 0), .int tp_8, .ref pl0, .ref sp0, .ref rd0, .ref (r0 1), .int mv_12, .ref fi0, .ref se0, .ref fa0, .ref cr0, .ref ra0, .ref pa0, .int nw0])), (r0 0, .inl (cB, 1600, .inl f_7)), (r0 1, .inl (cI, 6, .inl f_11))], w1]) hP1 hD1
  have hpm2 : List.Perm (([[(h0, .inr (8, [.ref (r0 0), .int tp_8, .ref pl0, .ref sp0, .ref rd0, .ref (r0 1), .int mv_12, .ref fi0, .ref se0, .ref fa0, .ref cr0, .ref ra0, .ref pa0, .int nw0])), (r0 0, .inl (cB, 1600, .inl f_7)), (r0 1, .inl (cI, 6, .inl f_11))], w1] : List va_W) ++ ([w2] : List va_W)) ([[(h0, .inr (8, [.ref (r0 0), .int tp_8, .ref pl0, .ref sp0, .ref rd0, .ref (r0 1), .int mv_12, .ref fi0, .ref se0, .ref fa0, .ref cr0, .ref ra0, .ref pa0, .int nw0])), (r0 0, .inl (cB, 1600, .inl f_7)), (r0 1, .inl (cI, 6, .inl f_11))], w1, w2] : List va_W) := pm_n 3 [0, 1, 2] (by decide) rfl rfl
  have hP := bk_reP hpm2 hP
  have hD := bk_reD hpm2 hD
  have hP : va_P (dC, dI) vwCl (List.flatten [[(h0, .inr (8, [.ref (r0 0), .int tp_8, .ref pl0, .ref sp0, .ref rd0, .ref (r0 1), .int mv_12, .ref fi0, .ref se0, .ref fa0, .ref cr0, .ref ra0, .ref pa0, .int nw0])), (r0 0, .inl (cB, 1600, .inl f_7)), (r0 1, .inl (cI, 6, .inl f_11))], w1, w2]) H := hP
  have hD : va_D A (List.flatten [[(h0, .inr (8, [.ref (r0 0), .int tp_8, .ref pl0, .ref sp0, .ref rd0, .ref (r0 1), .int mv_12, .ref fi0, .ref se0, .ref fa0, .ref cr0, .ref ra0, .ref pa0, .int nw0])), (r0 0, .inl (cB, 1600, .inl f_7)), (r0 1, .inl (cI, 6, .inl f_11))], w1, w2]) := hD
  rcases hw with ⟨rfl, c_16, c_17⟩ | ⟨rfl, c_18, c_19, c_20⟩ | ⟨rfl, c_21, c_22, c_23, c_24⟩
  · refine lv_if_eq (tgt := 16) hx hb dX10_most_5 (by decide) (fun c_25 => ?_) (fun c_25 => absurd c_25 (by decide))
    refine lv_iconst (v := (-1)) hx hb dX10_most_16 (by decide) ?_
    rw [hQ0]
    exact W.iret (v := (-1)) hx hb hr (fun t ht hW => ⟨⟨(-1), (), rfl, ⟨by decide, by decide⟩, ⟨pl2, _, Or.inl rfl, o2, by rw [ht]; exact hP, hD⟩⟩, hS.F ht⟩) hS.2.2 dX10_most_17
  · refine lv_if_eq (tgt := 16) hx hb dX10_most_5 (by decide) (fun c_26 => ?_) (fun c_26 => absurd c_26 (by decide))
    refine lv_iconst (v := (-1)) hx hb dX10_most_16 (by decide) ?_
    rw [hQ0]
    exact W.iret (v := (-1)) hx hb hr (fun t ht hW => ⟨⟨(-1), (), rfl, ⟨by decide, by decide⟩, ⟨pl2, _, Or.inl rfl, o2, by rw [ht]; exact hP, hD⟩⟩, hS.F ht⟩) hS.2.2 dX10_most_17
  · refine lv_if_eq (tgt := 16) hx hb dX10_most_5 (by decide) (fun c_27 => absurd c_27 (by decide)) (fun c_27 => ?_)
    refine lv_aload_n hx hb dX10_most_8 rfl (lv_at hl 0 rfl) ?_
    refine lv_iload_n hx hb dX10_most_9 rfl (lv_at hl 2 rfl) ?_
    have hpm : List.Perm ([[(h0, .inr (8, [.ref (r0 0), .int tp_8, .ref pl0, .ref sp0, .ref rd0, .ref (r0 1), .int mv_12, .ref fi0, .ref se0, .ref fa0, .ref cr0, .ref ra0, .ref pa0, .int nw0])), (r0 0, .inl (cB, 1600, .inl f_7)), (r0 1, .inl (cI, 6, .inl f_11))], w1, w2] : List va_W) (([[(h0, .inr (8, [.ref (r0 0), .int tp_8, .ref pl0, .ref sp0, .ref rd0, .ref (r0 1), .int mv_12, .ref fi0, .ref se0, .ref fa0, .ref cr0, .ref ra0, .ref pa0, .int nw0])), (r0 0, .inl (cB, 1600, .inl f_7)), (r0 1, .inl (cI, 6, .inl f_11))], w1] : List va_W) ++ ([w2] : List va_W)) := pm_n 3 [0, 1, 2] (by decide) rfl rfl
    have hPc := bk_P hpm hP
    have hDc := bk_D hpm hD
    have hFc := bk_F hpm hD hS hA
    refine va_calli (va_runV (As := [.int p2]) (rest := []) ⟨hx, hb, hml, hown, hts⟩ (c_X10_isFloor l dC dI ad tN fN cB cI cJ cZ cQ h0 p2 r0 pl0 sp0 rd0 fi0 se0 fa0 cr0 ra0 pa0 nw0 _ r1 fc1 dc1 rk1 _ ⟨f_7, tp_8, f_11, mv_12, rfl, by omega, by omega, by omega, by omega⟩ o1 H.size) (cwV 1 hts gX10_most_X10_isFloor rfl rfl rfl (by decide +kernel) ⟨(Nat.le_of_ble_eq_true rfl), (Nat.le_of_ble_eq_true rfl)⟩) ⟨fun a U g mk q => by obtain ⟨q0, q1, qP, qK, qD, qE⟩ := q; exact ⟨q0, q1, qP, va_K.moved (u := U) (U := U.calling g mk a) (Vm.Alike.refl U.vm) qK, qD, ey_blind qE⟩, va_recv hK hPc (ci := 8) (q0 := 0) rfl rfl, fun U hU hW => ⟨rfl, by rw [hU], by rw [hU]; exact hPc, va_K.moved hW.alike hK, hDc.weaken (fun _ _ _ _ => trivial), ey_call hE hS hFc hU hW⟩⟩ rfl rfl hl.1 rfl (lv_room (Nat.le_of_ble_eq_true rfl)) dX10_most_10 ⟨(Nat.le_of_ble_eq_true rfl), (Nat.le_of_ble_eq_true rfl)⟩) hS (fun q _ h => hFc q h) hFc (fun r_28 u t H locs ht hvm hw hB hz1 hk1 hS => ?_)
    obtain ⟨hP1, hD1⟩ := hB
    rw [ht] at hP1
    obtain ⟨hP, hD⟩ := bk_join hpm hP hD hk1 hFc (Cs1 := [[(h0, .inr (8, [.ref (r0 0), .int tp_8, .ref pl0, .ref sp0, .ref rd0, .ref (r0 1), .int mv_12, .ref fi0, .ref se0, .ref fa0, .ref cr0, .ref ra0, .ref pa0, .int nw0])), (r0 0, .inl (cB, 1600, .inl f_7)), (r0 1, .inl (cI, 6, .inl f_11))], w1]) hP1 hD1
    have hpm2 : List.Perm (([[(h0, .inr (8, [.ref (r0 0), .int tp_8, .ref pl0, .ref sp0, .ref rd0, .ref (r0 1), .int mv_12, .ref fi0, .ref se0, .ref fa0, .ref cr0, .ref ra0, .ref pa0, .int nw0])), (r0 0, .inl (cB, 1600, .inl f_7)), (r0 1, .inl (cI, 6, .inl f_11))], w1] : List va_W) ++ ([w2] : List va_W)) ([[(h0, .inr (8, [.ref (r0 0), .int tp_8, .ref pl0, .ref sp0, .ref rd0, .ref (r0 1), .int mv_12, .ref fi0, .ref se0, .ref fa0, .ref cr0, .ref ra0, .ref pa0, .int nw0])), (r0 0, .inl (cB, 1600, .inl f_7)), (r0 1, .inl (cI, 6, .inl f_11))], w1, w2] : List va_W) := pm_n 3 [0, 1, 2] (by decide) rfl rfl
    have hP := bk_reP hpm2 hP
    have hD := bk_reD hpm2 hD
    have hP : va_P (dC, dI) vwCl (List.flatten [[(h0, .inr (8, [.ref (r0 0), .int tp_8, .ref pl0, .ref sp0, .ref rd0, .ref (r0 1), .int mv_12, .ref fi0, .ref se0, .ref fa0, .ref cr0, .ref ra0, .ref pa0, .int nw0])), (r0 0, .inl (cB, 1600, .inl f_7)), (r0 1, .inl (cI, 6, .inl f_11))], w1, w2]) H := hP
    have hD : va_D A (List.flatten [[(h0, .inr (8, [.ref (r0 0), .int tp_8, .ref pl0, .ref sp0, .ref rd0, .ref (r0 1), .int mv_12, .ref fi0, .ref se0, .ref fa0, .ref cr0, .ref ra0, .ref pa0, .int nw0])), (r0 0, .inl (cB, 1600, .inl f_7)), (r0 1, .inl (cI, 6, .inl f_11))], w1, w2]) := hD
    rcases hw with ⟨rfl, c_29, c_30⟩ | ⟨rfl, c_31, c_32, c_33⟩ | ⟨rfl, c_34, c_35, c_36, c_37⟩
    · refine lv_if_ne (tgt := 18) hx hb dX10_most_13 (by decide) (fun c_38 => absurd c_38 (by decide)) (fun c_38 => ?_)
      refine lv_iconst (v := (-1)) hx hb dX10_most_16 (by decide) ?_
      rw [hQ0]
      exact W.iret (v := (-1)) hx hb hr (fun t ht hW => ⟨⟨(-1), (), rfl, ⟨by decide, by decide⟩, ⟨pl2, _, Or.inl rfl, o2, by rw [ht]; exact hP, hD⟩⟩, hS.F ht⟩) hS.2.2 dX10_most_17
    · refine lv_if_ne (tgt := 18) hx hb dX10_most_13 (by decide) (fun c_39 => absurd c_39 (by decide)) (fun c_39 => ?_)
      refine lv_iconst (v := (-1)) hx hb dX10_most_16 (by decide) ?_
      rw [hQ0]
      exact W.iret (v := (-1)) hx hb hr (fun t ht hW => ⟨⟨(-1), (), rfl, ⟨by decide, by decide⟩, ⟨pl2, _, Or.inl rfl, o2, by rw [ht]; exact hP, hD⟩⟩, hS.F ht⟩) hS.2.2 dX10_most_17
    · refine lv_if_ne (tgt := 18) hx hb dX10_most_13 (by decide) (fun c_40 => ?_) (fun c_40 => absurd c_40 (by decide))
      refine lv_aload_n hx hb dX10_most_18 rfl (lv_at hl 0 rfl) ?_
      refine lv_aload_n hx hb dX10_most_19 rfl (lv_at hl 0 rfl) ?_
      refine va_get (D := (dC, dI)) (ci := 8) (v := .ref fi0) (C := RX10) (T := TX10) (N := 14) hx hb hts iw_X10_most_X10 hown hK hP 0 rfl rfl 7 (by decide) (hts (.fieldLink RX10 44 "HungFloors" "first" "LHungFloors$Frame;") (by decide +kernel)) (fun _ h9 => h9) rfl dX10_most_20 ?_
      refine lv_iload_n hx hb dX10_most_23 rfl (lv_at hl 1 rfl) ?_
      have hpm : List.Perm ([[(h0, .inr (8, [.ref (r0 0), .int tp_8, .ref pl0, .ref sp0, .ref rd0, .ref (r0 1), .int mv_12, .ref fi0, .ref se0, .ref fa0, .ref cr0, .ref ra0, .ref pa0, .int nw0])), (r0 0, .inl (cB, 1600, .inl f_7)), (r0 1, .inl (cI, 6, .inl f_11))], w1, w2] : List va_W) (([[(h0, .inr (8, [.ref (r0 0), .int tp_8, .ref pl0, .ref sp0, .ref rd0, .ref (r0 1), .int mv_12, .ref fi0, .ref se0, .ref fa0, .ref cr0, .ref ra0, .ref pa0, .int nw0])), (r0 0, .inl (cB, 1600, .inl f_7)), (r0 1, .inl (cI, 6, .inl f_11))], w1, w2] : List va_W) ++ ([] : List va_W)) := pm_n 3 [0, 1, 2] (by decide) rfl rfl
      have hPc := bk_P hpm hP
      have hDc := bk_D hpm hD
      have hFc := bk_F hpm hD hS hA
      refine va_callr (va_runV (As := [.ref fi0, .int p1]) (rest := []) ⟨hx, hb, hml, hown, hts⟩ (c_X10_reckoned l dC dI ad tN fN cB cI cJ cZ cQ h0 fi0 p1 r0 pl0 sp0 rd0 fi0 se0 fa0 cr0 ra0 pa0 nw0 _ r1 fc1 dc1 rk1 _ r2 pl2 _ ⟨f_7, tp_8, f_11, mv_12, rfl, by omega, by omega, by omega, by omega⟩ o1 o2 H.size (by omega) (by omega)) (cwV 2 hts gX10_most_X10_reckoned rfl rfl rfl (by decide +kernel) ⟨(Nat.le_of_ble_eq_true rfl), (Nat.le_of_ble_eq_true rfl)⟩) ⟨fun a U g mk q => by obtain ⟨q0, q1, qP, qK, qD, qE⟩ := q; exact ⟨q0, q1, qP, va_K.moved (u := U) (U := U.calling g mk a) (Vm.Alike.refl U.vm) qK, qD, ey_blind qE⟩, va_recv hK hPc (ci := 8) (q0 := 0) rfl rfl, fun U hU hW => ⟨rfl, by rw [hU], by rw [hU]; exact hPc, va_K.moved hW.alike hK, hDc.weaken (fun _ _ _ _ => trivial), ey_call hE hS hFc hU hW⟩⟩ rfl rfl hl.1 rfl (lv_room (Nat.le_of_ble_eq_true rfl)) dX10_most_24 ⟨(Nat.le_of_ble_eq_true rfl), (Nat.le_of_ble_eq_true rfl)⟩) hS (fun q _ h => hFc q h) hFc (fun u r_41 t H locs ht hvm hw hB hz1 hk1 hS => ?_)
      obtain ⟨hra, w_42, o_43, hP1, hD1⟩ := hB
      have hra := hra.symm
      subst hra
      rw [ht] at hP1
      obtain ⟨hP, hD⟩ := bk_join hpm hP hD hk1 hFc (Cs1 := [[(h0, .inr (8, [.ref (r0 0), .int tp_8, .ref pl0, .ref sp0, .ref rd0, .ref (r0 1), .int mv_12, .ref fi0, .ref se0, .ref fa0, .ref cr0, .ref ra0, .ref pa0, .int nw0])), (r0 0, .inl (cB, 1600, .inl f_7)), (r0 1, .inl (cI, 6, .inl f_11))], w1, w_42]) hP1 hD1
      have hpm2 : List.Perm (([[(h0, .inr (8, [.ref (r0 0), .int tp_8, .ref pl0, .ref sp0, .ref rd0, .ref (r0 1), .int mv_12, .ref fi0, .ref se0, .ref fa0, .ref cr0, .ref ra0, .ref pa0, .int nw0])), (r0 0, .inl (cB, 1600, .inl f_7)), (r0 1, .inl (cI, 6, .inl f_11))], w1, w_42] : List va_W) ++ ([] : List va_W)) ([[(h0, .inr (8, [.ref (r0 0), .int tp_8, .ref pl0, .ref sp0, .ref rd0, .ref (r0 1), .int mv_12, .ref fi0, .ref se0, .ref fa0, .ref cr0, .ref ra0, .ref pa0, .int nw0])), (r0 0, .inl (cB, 1600, .inl f_7)), (r0 1, .inl (cI, 6, .inl f_11))], w1, w_42] : List va_W) := pm_n 3 [0, 1, 2] (by decide) rfl rfl
      have hP := bk_reP hpm2 hP
      have hD := bk_reD hpm2 hD
      have hP : va_P (dC, dI) vwCl (List.flatten [[(h0, .inr (8, [.ref (r0 0), .int tp_8, .ref pl0, .ref sp0, .ref rd0, .ref (r0 1), .int mv_12, .ref fi0, .ref se0, .ref fa0, .ref cr0, .ref ra0, .ref pa0, .int nw0])), (r0 0, .inl (cB, 1600, .inl f_7)), (r0 1, .inl (cI, 6, .inl f_11))], w1, w_42]) H := hP
      have hD : va_D A (List.flatten [[(h0, .inr (8, [.ref (r0 0), .int tp_8, .ref pl0, .ref sp0, .ref rd0, .ref (r0 1), .int mv_12, .ref fi0, .ref se0, .ref fa0, .ref cr0, .ref ra0, .ref pa0, .int nw0])), (r0 0, .inl (cB, 1600, .inl f_7)), (r0 1, .inl (cI, 6, .inl f_11))], w1, w_42]) := hD
      refine lv_astore_n (lv' := [(3, .ref fi0), (0, .ref h0), (1, .int p1), (2, .int p2)]) hx hb dX10_most_27 rfl hl (by decide) rfl (fun ls hl => ?_)
      refine lv_aload_n hx hb dX10_most_28 rfl (lv_at hl 0 rfl) ?_
      refine lv_iload_n hx hb dX10_most_29 rfl (lv_at hl 3 rfl) ?_
      refine lv_iconst (v := 0) hx hb dX10_most_30 (by decide) ?_
      refine lv_aload_n hx hb dX10_most_31 rfl (lv_at hl 1 rfl) ?_
      refine va_get (D := (dC, dI)) (ci := 8) (v := .int mv_12) (C := RX10) (T := TX10) (N := 14) hx hb hts iw_X10_most_X10 hown hK hP 0 rfl rfl 6 (by decide) (hts (.fieldLink RX10 38 "HungFloors" "moving" "I") (by decide +kernel)) (fun _ h9 => h9) rfl dX10_most_32 ?_
      obtain ⟨fr_44, dr_47, rc_50, f_53, f_55, gn_56, f_57, f_58, f_59, f_60, f_61, sc_62, jc_63, f_66, f_68, rfl, hl_45, hh_46, hl_48, hh_49, hl_51, hh_52, hr_54, hl_64, hh_65, hr_67, hr_69⟩ := o_43
      have hpm : List.Perm ([[(h0, .inr (8, [.ref (r0 0), .int tp_8, .ref pl0, .ref sp0, .ref rd0, .ref (r0 1), .int mv_12, .ref fi0, .ref se0, .ref fa0, .ref cr0, .ref ra0, .ref pa0, .int nw0])), (r0 0, .inl (cB, 1600, .inl f_7)), (r0 1, .inl (cI, 6, .inl f_11))], w1, [(fi0, .inr (2, [.ref pl0, .int fr_44, .int dr_47, .int rc_50, .ref (r2 0), .ref (r2 1), .int gn_56, .ref (r2 2), .ref (r2 3), .ref (r2 4), .ref (r2 5), .ref (r2 6), .long sc_62, .int jc_63, .ref (r2 7), .ref (r2 8)])), (r2 0, .inl (cI, 10, .inl f_53)), (r2 1, .inl (cI, 10, .inl f_55)), (r2 2, .inl (cI, 6, .inl f_57)), (r2 3, .inl (cJ, 6, .inr (.inl f_58))), (r2 4, .inl (cJ, 6, .inr (.inl f_59))), (r2 5, .inl (cJ, 6, .inr (.inl f_60))), (r2 6, .inl (cJ, 10, .inr (.inl f_61))), (r2 7, .inl (cI, 70, .inl f_66)), (r2 8, .inl (cI, 70, .inl f_68))]] : List va_W) (([[(fi0, .inr (2, [.ref pl0, .int fr_44, .int dr_47, .int rc_50, .ref (r2 0), .ref (r2 1), .int gn_56, .ref (r2 2), .ref (r2 3), .ref (r2 4), .ref (r2 5), .ref (r2 6), .long sc_62, .int jc_63, .ref (r2 7), .ref (r2 8)])), (r2 0, .inl (cI, 10, .inl f_53)), (r2 1, .inl (cI, 10, .inl f_55)), (r2 2, .inl (cI, 6, .inl f_57)), (r2 3, .inl (cJ, 6, .inr (.inl f_58))), (r2 4, .inl (cJ, 6, .inr (.inl f_59))), (r2 5, .inl (cJ, 6, .inr (.inl f_60))), (r2 6, .inl (cJ, 10, .inr (.inl f_61))), (r2 7, .inl (cI, 70, .inl f_66)), (r2 8, .inl (cI, 70, .inl f_68))], w1] : List va_W) ++ ([[(h0, .inr (8, [.ref (r0 0), .int tp_8, .ref pl0, .ref sp0, .ref rd0, .ref (r0 1), .int mv_12, .ref fi0, .ref se0, .ref fa0, .ref cr0, .ref ra0, .ref pa0, .int nw0])), (r0 0, .inl (cB, 1600, .inl f_7)), (r0 1, .inl (cI, 6, .inl f_11))]] : List va_W)) := pm_n 3 [2, 1, 0] (by decide) rfl rfl
      have hPc := bk_P hpm hP
      have hDc := bk_D hpm hD
      have hFc := bk_F hpm hD hS hA
      refine va_calli (va_runV (As := [.int p2, .int 0, .int mv_12]) (rest := []) ⟨hx, hb, hml, hown, hts⟩ (c_X3_isBeyondWith l dC dI ad tN fN cB cI cJ cZ fi0 p2 0 mv_12 r2 pl0 _ r1 fc1 dc1 rk1 _ ⟨fr_44, dr_47, rc_50, f_53, f_55, gn_56, f_57, f_58, f_59, f_60, f_61, sc_62, jc_63, f_66, f_68, rfl, by omega, by omega, by omega, by omega, by omega, by omega, hr_54, by omega, by omega, hr_67, hr_69⟩ o1 H.size (by omega) (by omega)) (cwV 3 hts gX10_most_X3_isBeyondWith rfl rfl rfl (by decide +kernel) ⟨(Nat.le_of_ble_eq_true rfl), (Nat.le_of_ble_eq_true rfl)⟩) ⟨fun a U g mk q => by obtain ⟨q0, q1, qP, qK, qD, qE⟩ := q; exact ⟨q0, q1, qP, va_K.moved (u := U) (U := U.calling g mk a) (Vm.Alike.refl U.vm) qK, qD, ey_blind qE⟩, va_recv hK hPc (ci := 2) (q0 := 0) rfl rfl, fun U hU hW => ⟨rfl, by rw [hU], by rw [hU]; exact hPc, va_K.moved hW.alike (va_K.sub hK [0, 1, 2, 3] rfl), hDc.weaken (fun _ _ _ _ => trivial), ey_call hE hS hFc hU hW⟩⟩ rfl rfl hl.1 rfl (lv_room (Nat.le_of_ble_eq_true rfl)) dX10_most_35 ⟨(Nat.le_of_ble_eq_true rfl), (Nat.le_of_ble_eq_true rfl)⟩) hS (fun q _ h => hFc q h) hFc (fun r_70 u t H locs ht hvm hw hB hz1 hk1 hS => ?_)
      obtain ⟨w_71, o_72, hP1, hD1⟩ := hB
      rw [ht] at hP1
      obtain ⟨hP, hD⟩ := bk_join hpm hP hD hk1 hFc (Cs1 := [w_71, w1]) hP1 hD1
      have hpm2 : List.Perm (([w_71, w1] : List va_W) ++ ([[(h0, .inr (8, [.ref (r0 0), .int tp_8, .ref pl0, .ref sp0, .ref rd0, .ref (r0 1), .int mv_12, .ref fi0, .ref se0, .ref fa0, .ref cr0, .ref ra0, .ref pa0, .int nw0])), (r0 0, .inl (cB, 1600, .inl f_7)), (r0 1, .inl (cI, 6, .inl f_11))]] : List va_W)) ([[(h0, .inr (8, [.ref (r0 0), .int tp_8, .ref pl0, .ref sp0, .ref rd0, .ref (r0 1), .int mv_12, .ref fi0, .ref se0, .ref fa0, .ref cr0, .ref ra0, .ref pa0, .int nw0])), (r0 0, .inl (cB, 1600, .inl f_7)), (r0 1, .inl (cI, 6, .inl f_11))], w1, w_71] : List va_W) := pm_n 3 [2, 1, 0] (by decide) rfl rfl
      have hP := bk_reP hpm2 hP
      have hD := bk_reD hpm2 hD
      have hP : va_P (dC, dI) vwCl (List.flatten [[(h0, .inr (8, [.ref (r0 0), .int tp_8, .ref pl0, .ref sp0, .ref rd0, .ref (r0 1), .int mv_12, .ref fi0, .ref se0, .ref fa0, .ref cr0, .ref ra0, .ref pa0, .int nw0])), (r0 0, .inl (cB, 1600, .inl f_7)), (r0 1, .inl (cI, 6, .inl f_11))], w1, w_71]) H := hP
      have hD : va_D A (List.flatten [[(h0, .inr (8, [.ref (r0 0), .int tp_8, .ref pl0, .ref sp0, .ref rd0, .ref (r0 1), .int mv_12, .ref fi0, .ref se0, .ref fa0, .ref cr0, .ref ra0, .ref pa0, .int nw0])), (r0 0, .inl (cB, 1600, .inl f_7)), (r0 1, .inl (cI, 6, .inl f_11))], w1, w_71]) := hD
      obtain ⟨hlr_70, hhr_70⟩ := hw
      refine lv_if_eq (tgt := 43) hx hb dX10_most_38 (by decide) (fun c_73 => ?_) (fun c_73 => ?_)
      · have c_73 : r_70.toInt = 0 := f_eq rfl tI_0 c_73
        refine lv_iconst (v := 0) hx hb dX10_most_43 (by decide) ?_
        refine lv_istore (lv' := [(4, .int 0), (3, .ref fi0), (0, .ref h0), (1, .int p1), (2, .int p2)]) hx hb dX10_most_44 hl (by decide) rfl (fun ls hl => ?_)
        refine lv_sipush (v := 512) hx hb dX10_most_46 (by decide) ?_
        refine lv_istore (lv' := [(5, .int 512), (4, .int 0), (3, .ref fi0), (0, .ref h0), (1, .int p1), (2, .int p2)]) hx hb dX10_most_49 hl (by decide) rfl (fun ls hl => ?_)
        obtain ⟨fr_111, dr_114, rc_117, f_120, f_122, gn_123, f_124, f_125, f_126, f_127, f_128, sc_129, jc_130, f_133, f_135, rfl, hl_112, hh_113, hl_115, hh_116, hl_118, hh_119, hr_121, hl_131, hh_132, hr_134, hr_136⟩ := o_72
        have lp_258 : ∀ (n : Nat) (g_74 : Int32) (g_75 : Int32) (gw_146 : va_W), ok_frame ad cB cI cJ cZ fi0 r2 pl0 gw_146 → 0 ≤ g_74.toInt → g_74.toInt ≤ 512 → 0 ≤ g_75.toInt → g_75.toInt ≤ 999 → (g_74.toInt - (0)).toNat < n → ∀ (H : Heap) (locs : List Loc), va_P (dC, dI) vwCl (List.flatten [[(h0, .inr (8, [.ref (r0 0), .int tp_8, .ref pl0, .ref sp0, .ref rd0, .ref (r0 1), .int mv_12, .ref fi0, .ref se0, .ref fa0, .ref cr0, .ref ra0, .ref pa0, .int nw0])), (r0 0, .inl (cB, 1600, .inl f_7)), (r0 1, .inl (cI, 6, .inl f_11))], w1, gw_146]) H → va_D A (List.flatten [[(h0, .inr (8, [.ref (r0 0), .int tp_8, .ref pl0, .ref sp0, .ref rd0, .ref (r0 1), .int mv_12, .ref fi0, .ref se0, .ref fa0, .ref cr0, .ref ra0, .ref pa0, .int nw0])), (r0 0, .inl (cB, 1600, .inl f_7)), (r0 1, .inl (cI, 6, .inl f_11))], w1, gw_146]) → va_S A s.heap H locs → ∀ (ls : Array Slot), lv_has ls 7 [(5, .int g_74), (4, .int g_75), (3, .ref fi0), (0, .ref h0), (1, .int p1), (2, .int p2)] → W p l e (headSpec wsX10_most ({ frames := 5, cells := 0, slots := 0, locals := 109 } : Room)).room s m ([.ref h0, .int p1, .int p2] : List Value).toArray below meth c H locs 0 0 Q0 (F0 m 51 ls []) := by
          intro n
          induction n with
          | zero => intro g_74 g_75 gw_146 okgw_146 iv_254 iv_255 iv_256 iv_257 hm; exact absurd hm (Nat.not_lt_zero _)
          | succ n ih_259 =>
            intro g_74 g_75 gw_146 okgw_146 iv_254 iv_255 iv_256 iv_257 hm H locs hP hD hS ls hl
            refine lv_iload hx hb dX10_most_51 (lv_at hl 0 rfl) ?_
            refine lv_if_le (tgt := 98) hx hb dX10_most_53 (by decide) (fun c_260 => ?_) (fun c_260 => ?_)
            · have c_260 : g_74.toInt ≤ 0 := f_le rfl tI_0 c_260
              refine lv_iload hx hb dX10_most_98 (lv_at hl 1 rfl) ?_
              rw [hQ0]
              exact W.iret (v := g_75) hx hb hr (fun t ht hW => ⟨⟨g_75, (), rfl, ⟨by omega, by omega⟩, ⟨pl0, _, Or.inr (rfl), okgw_146, by rw [ht]; exact hP, hD⟩⟩, hS.F ht⟩) hS.2.2 dX10_most_100
            · have c_260 : 0 < g_74.toInt := f_nle rfl tI_0 c_260
              refine lv_iload hx hb dX10_most_56 (lv_at hl 1 rfl) ?_
              refine lv_iload hx hb dX10_most_58 (lv_at hl 0 rfl) ?_
              refine lv_iadd hx hb dX10_most_60 ?_
              refine lv_topi (fun z_261 ez_261 => ?_)
              have hz_261 : z_261.toInt = g_75.toInt + g_74.toInt := by rw [ez_261]; exact t_add rfl rfl (by omega) (by omega)
              refine lv_istore (lv' := [(6, .int z_261), (5, .int g_74), (4, .int g_75), (3, .ref fi0), (0, .ref h0), (1, .int p1), (2, .int p2)]) hx hb dX10_most_61 hl (by decide) rfl (fun ls hl => ?_)
              refine lv_iload hx hb dX10_most_63 (lv_at hl 0 rfl) ?_
              refine lv_sipush (v := 999) hx hb dX10_most_65 (by decide) ?_
              refine lv_icmp_gt (tgt := 89) hx hb dX10_most_68 (by decide) (fun c_262 => ?_) (fun c_262 => ?_)
              · have c_262 : 999 < z_261.toInt := f_lt tI_999 rfl c_262
                refine lv_iload hx hb dX10_most_89 (lv_at hl 1 rfl) ?_
                refine lv_iconst (v := 1) hx hb dX10_most_91 (by decide) ?_
                refine lv_ishr hx hb dX10_most_92 ?_
                refine lv_topi (fun z_263 ez_263 => ?_)
                have hz_263 := t_shr1 (by omega) (by omega) ez_263
                have h1z_263 := hz_263.1
                have h2z_263 := hz_263.2
                refine lv_istore (lv' := [(5, .int z_263), (6, .int z_261), (4, .int g_75), (3, .ref fi0), (0, .ref h0), (1, .int p1), (2, .int p2)]) hx hb dX10_most_93 hl (by decide) rfl (fun ls hl => ?_)
                refine lv_goto (tgt := 51) hx hb dX10_most_95 (by decide) ?_
                exact ih_259 z_263 g_75 _ okgw_146 (by omega) (by omega) (by omega) (by omega) (by omega) _ _ hP hD hS ls (lv_sub hl [0, 2, 3, 4, 5, 6] rfl)
              · have c_262 : z_261.toInt ≤ 999 := f_nlt tI_999 rfl c_262
                refine lv_aload_n hx hb dX10_most_71 rfl (lv_at hl 3 rfl) ?_
                refine lv_iload_n hx hb dX10_most_72 rfl (lv_at hl 6 rfl) ?_
                refine lv_iload hx hb dX10_most_73 (lv_at hl 0 rfl) ?_
                refine lv_aload_n hx hb dX10_most_75 rfl (lv_at hl 4 rfl) ?_
                refine va_get (D := (dC, dI)) (ci := 8) (v := .int mv_12) (C := RX10) (T := TX10) (N := 14) hx hb hts iw_X10_most_X10 hown hK hP 0 rfl rfl 6 (by decide) (hts (.fieldLink RX10 38 "HungFloors" "moving" "I") (by decide +kernel)) (fun _ h9 => h9) rfl dX10_most_76 ?_
                obtain ⟨fr_264, dr_267, rc_270, f_273, f_275, gn_276, f_277, f_278, f_279, f_280, f_281, sc_282, jc_283, f_286, f_288, rfl, hl_265, hh_266, hl_268, hh_269, hl_271, hh_272, hr_274, hl_284, hh_285, hr_287, hr_289⟩ := okgw_146
                have hpm : List.Perm ([[(h0, .inr (8, [.ref (r0 0), .int tp_8, .ref pl0, .ref sp0, .ref rd0, .ref (r0 1), .int mv_12, .ref fi0, .ref se0, .ref fa0, .ref cr0, .ref ra0, .ref pa0, .int nw0])), (r0 0, .inl (cB, 1600, .inl f_7)), (r0 1, .inl (cI, 6, .inl f_11))], w1, [(fi0, .inr (2, [.ref pl0, .int fr_264, .int dr_267, .int rc_270, .ref (r2 0), .ref (r2 1), .int gn_276, .ref (r2 2), .ref (r2 3), .ref (r2 4), .ref (r2 5), .ref (r2 6), .long sc_282, .int jc_283, .ref (r2 7), .ref (r2 8)])), (r2 0, .inl (cI, 10, .inl f_273)), (r2 1, .inl (cI, 10, .inl f_275)), (r2 2, .inl (cI, 6, .inl f_277)), (r2 3, .inl (cJ, 6, .inr (.inl f_278))), (r2 4, .inl (cJ, 6, .inr (.inl f_279))), (r2 5, .inl (cJ, 6, .inr (.inl f_280))), (r2 6, .inl (cJ, 10, .inr (.inl f_281))), (r2 7, .inl (cI, 70, .inl f_286)), (r2 8, .inl (cI, 70, .inl f_288))]] : List va_W) (([[(fi0, .inr (2, [.ref pl0, .int fr_264, .int dr_267, .int rc_270, .ref (r2 0), .ref (r2 1), .int gn_276, .ref (r2 2), .ref (r2 3), .ref (r2 4), .ref (r2 5), .ref (r2 6), .long sc_282, .int jc_283, .ref (r2 7), .ref (r2 8)])), (r2 0, .inl (cI, 10, .inl f_273)), (r2 1, .inl (cI, 10, .inl f_275)), (r2 2, .inl (cI, 6, .inl f_277)), (r2 3, .inl (cJ, 6, .inr (.inl f_278))), (r2 4, .inl (cJ, 6, .inr (.inl f_279))), (r2 5, .inl (cJ, 6, .inr (.inl f_280))), (r2 6, .inl (cJ, 10, .inr (.inl f_281))), (r2 7, .inl (cI, 70, .inl f_286)), (r2 8, .inl (cI, 70, .inl f_288))], w1] : List va_W) ++ ([[(h0, .inr (8, [.ref (r0 0), .int tp_8, .ref pl0, .ref sp0, .ref rd0, .ref (r0 1), .int mv_12, .ref fi0, .ref se0, .ref fa0, .ref cr0, .ref ra0, .ref pa0, .int nw0])), (r0 0, .inl (cB, 1600, .inl f_7)), (r0 1, .inl (cI, 6, .inl f_11))]] : List va_W)) := pm_n 3 [2, 1, 0] (by decide) rfl rfl
                have hPc := bk_P hpm hP
                have hDc := bk_D hpm hD
                have hFc := bk_F hpm hD hS hA
                refine va_calli (va_runV (As := [.int p2, .int z_261, .int mv_12]) (rest := []) ⟨hx, hb, hml, hown, hts⟩ (c_X3_isBeyondWith l dC dI ad tN fN cB cI cJ cZ fi0 p2 z_261 mv_12 r2 pl0 _ r1 fc1 dc1 rk1 _ ⟨fr_264, dr_267, rc_270, f_273, f_275, gn_276, f_277, f_278, f_279, f_280, f_281, sc_282, jc_283, f_286, f_288, rfl, by omega, by omega, by omega, by omega, by omega, by omega, hr_274, by omega, by omega, hr_287, hr_289⟩ o1 H.size (by omega) (by omega)) (cwV 3 hts gX10_most_X3_isBeyondWith rfl rfl rfl (by decide +kernel) ⟨(Nat.le_of_ble_eq_true rfl), (Nat.le_of_ble_eq_true rfl)⟩) ⟨fun a U g mk q => by obtain ⟨q0, q1, qP, qK, qD, qE⟩ := q; exact ⟨q0, q1, qP, va_K.moved (u := U) (U := U.calling g mk a) (Vm.Alike.refl U.vm) qK, qD, ey_blind qE⟩, va_recv hK hPc (ci := 2) (q0 := 0) rfl rfl, fun U hU hW => ⟨rfl, by rw [hU], by rw [hU]; exact hPc, va_K.moved hW.alike (va_K.sub hK [0, 1, 2, 3] rfl), hDc.weaken (fun _ _ _ _ => trivial), ey_call hE hS hFc hU hW⟩⟩ rfl rfl hl.1 rfl (lv_room (Nat.le_of_ble_eq_true rfl)) dX10_most_79 ⟨(Nat.le_of_ble_eq_true rfl), (Nat.le_of_ble_eq_true rfl)⟩) hS (fun q _ h => hFc q h) hFc (fun r_290 u t H locs ht hvm hw hB hz1 hk1 hS => ?_)
                obtain ⟨w_291, o_292, hP1, hD1⟩ := hB
                rw [ht] at hP1
                obtain ⟨hP, hD⟩ := bk_join hpm hP hD hk1 hFc (Cs1 := [w_291, w1]) hP1 hD1
                have hpm2 : List.Perm (([w_291, w1] : List va_W) ++ ([[(h0, .inr (8, [.ref (r0 0), .int tp_8, .ref pl0, .ref sp0, .ref rd0, .ref (r0 1), .int mv_12, .ref fi0, .ref se0, .ref fa0, .ref cr0, .ref ra0, .ref pa0, .int nw0])), (r0 0, .inl (cB, 1600, .inl f_7)), (r0 1, .inl (cI, 6, .inl f_11))]] : List va_W)) ([[(h0, .inr (8, [.ref (r0 0), .int tp_8, .ref pl0, .ref sp0, .ref rd0, .ref (r0 1), .int mv_12, .ref fi0, .ref se0, .ref fa0, .ref cr0, .ref ra0, .ref pa0, .int nw0])), (r0 0, .inl (cB, 1600, .inl f_7)), (r0 1, .inl (cI, 6, .inl f_11))], w1, w_291] : List va_W) := pm_n 3 [2, 1, 0] (by decide) rfl rfl
                have hP := bk_reP hpm2 hP
                have hD := bk_reD hpm2 hD
                have hP : va_P (dC, dI) vwCl (List.flatten [[(h0, .inr (8, [.ref (r0 0), .int tp_8, .ref pl0, .ref sp0, .ref rd0, .ref (r0 1), .int mv_12, .ref fi0, .ref se0, .ref fa0, .ref cr0, .ref ra0, .ref pa0, .int nw0])), (r0 0, .inl (cB, 1600, .inl f_7)), (r0 1, .inl (cI, 6, .inl f_11))], w1, w_291]) H := hP
                have hD : va_D A (List.flatten [[(h0, .inr (8, [.ref (r0 0), .int tp_8, .ref pl0, .ref sp0, .ref rd0, .ref (r0 1), .int mv_12, .ref fi0, .ref se0, .ref fa0, .ref cr0, .ref ra0, .ref pa0, .int nw0])), (r0 0, .inl (cB, 1600, .inl f_7)), (r0 1, .inl (cI, 6, .inl f_11))], w1, w_291]) := hD
                obtain ⟨hlr_290, hhr_290⟩ := hw
                refine lv_if_ne (tgt := 89) hx hb dX10_most_82 (by decide) (fun c_293 => ?_) (fun c_293 => ?_)
                · have c_293 : ¬ r_290.toInt = 0 := f_ne rfl tI_0 c_293
                  refine lv_iload hx hb dX10_most_89 (lv_at hl 1 rfl) ?_
                  refine lv_iconst (v := 1) hx hb dX10_most_91 (by decide) ?_
                  refine lv_ishr hx hb dX10_most_92 ?_
                  refine lv_topi (fun z_294 ez_294 => ?_)
                  have hz_294 := t_shr1 (by omega) (by omega) ez_294
                  have h1z_294 := hz_294.1
                  have h2z_294 := hz_294.2
                  refine lv_istore (lv' := [(5, .int z_294), (6, .int z_261), (4, .int g_75), (3, .ref fi0), (0, .ref h0), (1, .int p1), (2, .int p2)]) hx hb dX10_most_93 hl (by decide) rfl (fun ls hl => ?_)
                  refine lv_goto (tgt := 51) hx hb dX10_most_95 (by decide) ?_
                  exact ih_259 z_294 g_75 _ o_292 (by omega) (by omega) (by omega) (by omega) (by omega) _ _ hP hD hS ls (lv_sub hl [0, 2, 3, 4, 5, 6] rfl)
                · have c_293 : r_290.toInt = 0 := f_eq rfl tI_0 c_293
                  refine lv_iload hx hb dX10_most_85 (lv_at hl 0 rfl) ?_
                  refine lv_istore (lv' := [(4, .int z_261), (6, .int z_261), (5, .int g_74), (3, .ref fi0), (0, .ref h0), (1, .int p1), (2, .int p2)]) hx hb dX10_most_87 hl (by decide) rfl (fun ls hl => ?_)
                  refine lv_iload hx hb dX10_most_89 (lv_at hl 2 rfl) ?_
                  refine lv_iconst (v := 1) hx hb dX10_most_91 (by decide) ?_
                  refine lv_ishr hx hb dX10_most_92 ?_
                  refine lv_topi (fun z_295 ez_295 => ?_)
                  have hz_295 := t_shr1 (by omega) (by omega) ez_295
                  have h1z_295 := hz_295.1
                  have h2z_295 := hz_295.2
                  refine lv_istore (lv' := [(5, .int z_295), (4, .int z_261), (6, .int z_261), (3, .ref fi0), (0, .ref h0), (1, .int p1), (2, .int p2)]) hx hb dX10_most_93 hl (by decide) rfl (fun ls hl => ?_)
                  refine lv_goto (tgt := 51) hx hb dX10_most_95 (by decide) ?_
                  exact ih_259 z_295 z_261 _ o_292 (by omega) (by omega) (by omega) (by omega) (by omega) _ _ hP hD hS ls (lv_sub hl [0, 1, 3, 4, 5, 6] rfl)
        exact lp_258 _ 512 0 _ ⟨fr_111, dr_114, rc_117, f_120, f_122, gn_123, f_124, f_125, f_126, f_127, f_128, sc_129, jc_130, f_133, f_135, rfl, by omega, by omega, by omega, by omega, by omega, by omega, hr_121, by omega, by omega, hr_134, hr_136⟩ (by have := tI_0; have := tI_512; omega) (by have := tI_0; have := tI_512; omega) (by have := tI_0; have := tI_512; omega) (by have := tI_0; have := tI_512; omega) (Nat.lt_succ_self _) _ _ hP hD hS ls (lv_sub hl [0, 1, 2, 3, 4, 5] rfl)
      · have c_73 : ¬ r_70.toInt = 0 := f_ne rfl tI_0 c_73
        refine lv_iconst (v := (-1)) hx hb dX10_most_41 (by decide) ?_
        rw [hQ0]
        exact W.iret (v := (-1)) hx hb hr (fun t ht hW => ⟨⟨(-1), (), rfl, ⟨by decide, by decide⟩, ⟨pl0, _, Or.inr (rfl), o_72, by rw [ht]; exact hP, hD⟩⟩, hS.F ht⟩) hS.2.2 dX10_most_42
theorem iw_X10_leastRule_X10 : ∀ w ∈ wsX100, w ∈ wsX10_leastRule := fun _ h => List.mem_cons_of_mem _ (List.mem_append_left _ (List.mem_append_left _ (List.mem_append_right _ h)))
theorem iw_X10_leastRule_X7 : ∀ w ∈ wsX70, w ∈ wsX10_leastRule := fun _ h => List.mem_cons_of_mem _ (List.mem_append_left _ (List.mem_append_right _ h))
set_option maxHeartbeats 4000000 in
set_option maxRecDepth 100000 in
theorem c_X10_leastRule (l : Launch) (dC : Nat → ClassId) (dI : Nat → Nat → Nat) (ad : Nat → Nat) (tN : Nat) (fN : Nat → Int64) (cB cI cJ cZ cQ : ClassId) (h0 : Nat) (r0 : Nat → Nat) (pl0 : Nat) (sp0 : Nat) (rd0 : Nat) (fi0 : Nat) (se0 : Nat) (fa0 : Nat) (cr0 : Nat) (ra0 : Nat) (pa0 : Nat) (nw0 : Int32) (w0 : va_W) (r1 : Nat → Nat) (fc1 : Int32) (dc1 : Int32) (rk1 : Nat → Int32) (w1 : va_W) (r2 : Nat → Nat) (pl2 : Nat) (w2 : va_W) (o0 : ok_main ad cB cI cJ cZ h0 r0 pl0 sp0 rd0 fi0 se0 fa0 cr0 ra0 pa0 nw0 w0) (o1 : ok_plan ad cB cI cJ cZ pl0 r1 fc1 dc1 rk1 w1) (o2 : ok_frame ad cB cI cJ cZ fi0 r2 pl2 w2) (sz : Nat) : Met l yX10_leastRule wsX10_leastRule ({ frames := 5, cells := 0, slots := 0, locals := 109 } : Room) (va_Pc [.ref h0] (fun U => U.heap.size = sz ∧ va_P (dC, dI) vwCl (List.flatten [w0, w1, w2]) U.heap ∧ va_K (dC, dI) vwCl [(cB, .byte), (cI, .int), (cJ, .long), (cZ, .boolean), (cQ, .array .long)] U ∧ va_D (fun _ => True) (List.flatten [w0, w1, w2]) ∧ ex_Y ad tN fN (va_A (List.flatten [w0, w1, w2]) sz) U)) (va_Qi (fun (r : Int32) (_ : Unit) => 0 ≤ r.toInt ∧ r.toInt ≤ 99) (fun (_ : Unit) (t : State) => ∃ (pl29 : Nat) (w29 : va_W), ok_frame ad cB cI cJ cZ fi0 r2 pl29 w29 ∧ va_P (dC, dI) vwCl (List.flatten [w0, w1, w29]) t.heap ∧ va_D (va_A (List.flatten [w0, w1, w2]) sz) (List.flatten [w0, w1, w29])) (va_A (List.flatten [w0, w1, w2]) sz)) 0 0 (va_A (List.flatten [w0, w1, w2]) sz) := by
  refine Met.ofW (cc := cX10_leastRule) (maxL := 3) (ret := (some .int)) (by decide) rfl ?_
  intro p e s m args below meth c s₁ B hml hv
  obtain ⟨rfl, hsz, hP, hK, hD0, hE⟩ := hv
  have hx := B.exec
  have hb := B.bytes
  have hr := B.returns
  have hts := atoms_spec (ws := wsX10_leastRule) B.pre
  have hown : s.vm.findClass RX10 = some m.cls := findClass_of_methodNamed B.named
  have hlocks := B.notSynchronized
  subst hsz
  have hD := hD0.self (sz := s.heap.size)
  generalize hAe : va_A (List.flatten [w0, w1, w2]) s.heap.size = A at hD hE ⊢
  have hA : ∀ q : Nat, s.heap.size ≤ q → A q := fun q h => by rw [← hAe]; exact Or.inr h
  have hS : va_S A s.heap s.heap [] := va_S.rf
  have hl := lv_entry ([.ref h0]) (n := 3) (Nat.le_of_ble_eq_true rfl)
  rw [lg_entry_eq]
  generalize (lg_sl ([.ref h0]) ++ List.replicate (3 - (lg_sl ([.ref h0])).length) Slot.unset).toArray = ls at hl ⊢
  have hl : lv_has ls 3 [(0, .ref h0)] := hl
  clear hAe
  refine W_name (fun Q0 hQ0 => ?_)
  obtain ⟨hx_1, hx_2⟩ := okx_main o0
  obtain ⟨hx_3, hx_4, hx_5, hx_6⟩ := okx_plan o1
  refine lv_iconst (v := 0) hx hb dX10_leastRule_0 (by decide) ?_
  refine lv_istore_n (lv' := [(1, .int 0), (0, .ref h0)]) hx hb dX10_leastRule_1 rfl hl (by decide) rfl (fun ls hl => ?_)
  refine lv_iconst (v := 0) hx hb dX10_leastRule_2 (by decide) ?_
  refine lv_istore_n (lv' := [(2, .int 0), (1, .int 0), (0, .ref h0)]) hx hb dX10_leastRule_3 rfl hl (by decide) rfl (fun ls hl => ?_)
  obtain ⟨f_66, tp_67, f_70, mv_71, rfl, hl_68, hh_69, hl_72, hh_73⟩ := o0
  obtain ⟨f_76, f_77, f_78, f_79, f_82, f_84, f_85, f_87, f_89, rfl, hl_74, hh_75, hl_80, hh_81, hr_83, hr_86, hr_88⟩ := o1
  obtain ⟨fr_90, dr_93, rc_96, f_99, f_101, gn_102, f_103, f_104, f_105, f_106, f_107, sc_108, jc_109, f_112, f_114, rfl, hl_91, hh_92, hl_94, hh_95, hl_97, hh_98, hr_100, hl_110, hh_111, hr_113, hr_115⟩ := o2
  have lp_321 : ∀ (n : Nat) (gr_149 : Nat) (g_7 : Int32) (g_8 : Int32) (gw_150 : va_W), ok_frame ad cB cI cJ cZ fi0 r2 gr_149 gw_150 → 0 ≤ g_7.toInt → g_7.toInt ≤ 4 → 0 ≤ g_8.toInt → g_8.toInt ≤ 99 → g_7.toInt - dc1.toInt ≤ 0 → (4 - g_7.toInt).toNat < n → ∀ (H : Heap) (locs : List Loc), va_P (dC, dI) vwCl (List.flatten [[(h0, .inr (8, [.ref (r0 0), .int tp_67, .ref pl0, .ref sp0, .ref rd0, .ref (r0 1), .int mv_71, .ref fi0, .ref se0, .ref fa0, .ref cr0, .ref ra0, .ref pa0, .int nw0])), (r0 0, .inl (cB, 1600, .inl f_66)), (r0 1, .inl (cI, 6, .inl f_70))], [(pl0, .inr (5, [.int fc1, .ref (r1 0), .ref (r1 1), .ref (r1 2), .ref (r1 3), .int dc1, .ref (r1 4), .ref (r1 5), .ref (r1 6), .ref (r1 7), .ref (r1 8), .ref (r1 9)])), (r1 0, .inl (cJ, 6, .inr (.inl f_76))), (r1 1, .inl (cI, 6, .inl f_77)), (r1 2, .inl (cI, 6, .inl f_78)), (r1 3, .inl (cI, 6, .inl f_79)), (r1 4, .inl (cJ, 4, .inr (.inl f_82))), (r1 5, .inl (cI, 4, .inl rk1)), (r1 6, .inl (cJ, 40, .inr (.inl f_84))), (r1 7, .inl (cI, 40, .inl f_85)), (r1 8, .inl (cI, 40, .inl f_87)), (r1 9, .inl (cI, 40, .inl f_89))], gw_150]) H → va_D A (List.flatten [[(h0, .inr (8, [.ref (r0 0), .int tp_67, .ref pl0, .ref sp0, .ref rd0, .ref (r0 1), .int mv_71, .ref fi0, .ref se0, .ref fa0, .ref cr0, .ref ra0, .ref pa0, .int nw0])), (r0 0, .inl (cB, 1600, .inl f_66)), (r0 1, .inl (cI, 6, .inl f_70))], [(pl0, .inr (5, [.int fc1, .ref (r1 0), .ref (r1 1), .ref (r1 2), .ref (r1 3), .int dc1, .ref (r1 4), .ref (r1 5), .ref (r1 6), .ref (r1 7), .ref (r1 8), .ref (r1 9)])), (r1 0, .inl (cJ, 6, .inr (.inl f_76))), (r1 1, .inl (cI, 6, .inl f_77)), (r1 2, .inl (cI, 6, .inl f_78)), (r1 3, .inl (cI, 6, .inl f_79)), (r1 4, .inl (cJ, 4, .inr (.inl f_82))), (r1 5, .inl (cI, 4, .inl rk1)), (r1 6, .inl (cJ, 40, .inr (.inl f_84))), (r1 7, .inl (cI, 40, .inl f_85)), (r1 8, .inl (cI, 40, .inl f_87)), (r1 9, .inl (cI, 40, .inl f_89))], gw_150]) → va_S A s.heap H locs → ∀ (ls : Array Slot), lv_has ls 3 [(2, .int g_7), (1, .int g_8), (0, .ref h0)] → W p l e (headSpec wsX10_leastRule ({ frames := 5, cells := 0, slots := 0, locals := 109 } : Room)).room s m ([.ref h0] : List Value).toArray below meth c H locs 0 0 Q0 (F0 m 4 ls []) := by
    intro n
    induction n with
    | zero => intro gr_149 g_7 g_8 gw_150 okgw_150 iv_316 iv_317 iv_318 iv_319 iv_320 hm; exact absurd hm (Nat.not_lt_zero _)
    | succ n ih_322 =>
      intro gr_149 g_7 g_8 gw_150 okgw_150 iv_316 iv_317 iv_318 iv_319 iv_320 hm H locs hP hD hS ls hl
      refine lv_iload_n hx hb dX10_leastRule_4 rfl (lv_at hl 0 rfl) ?_
      refine lv_aload_n hx hb dX10_leastRule_5 rfl (lv_at hl 2 rfl) ?_
      refine va_get (D := (dC, dI)) (ci := 8) (v := .ref pl0) (C := RX10) (T := TX10) (N := 14) hx hb hts iw_X10_leastRule_X10 hown hK hP 0 rfl rfl 2 (by decide) (hts (.fieldLink RX10 20 "HungFloors" "plan" "LHungFloors$Plan;") (by decide +kernel)) (fun _ h9 => h9) rfl dX10_leastRule_6 ?_
      refine va_get (D := (dC, dI)) (ci := 5) (v := .int dc1) (C := RX7) (T := TX7) (N := 12) hx hb hts iw_X10_leastRule_X7 hown hK hP 3 rfl rfl 5 (by decide) (hts (.fieldLink RX10 93 "HungFloors$Plan" "drawingCount" "I") (by decide +kernel)) (fun _ h9 => h9) rfl dX10_leastRule_9 ?_
      refine lv_icmp_ge (tgt := 38) hx hb dX10_leastRule_12 (by decide) (fun c_323 => ?_) (fun c_323 => ?_)
      · have c_323 : dc1.toInt ≤ g_7.toInt := f_le rfl rfl c_323
        refine lv_iload_n hx hb dX10_leastRule_38 rfl (lv_at hl 1 rfl) ?_
        rw [hQ0]
        exact W.iret (v := g_8) hx hb hr (fun t ht hW => ⟨⟨g_8, (), rfl, ⟨by omega, by omega⟩, ⟨gr_149, _, okgw_150, by rw [ht]; exact hP, hD⟩⟩, hS.F ht⟩) hS.2.2 dX10_leastRule_39
      · have c_323 : g_7.toInt < dc1.toInt := f_nle rfl rfl c_323
        refine lv_iload_n hx hb dX10_leastRule_15 rfl (lv_at hl 1 rfl) ?_
        refine lv_aload_n hx hb dX10_leastRule_16 rfl (lv_at hl 2 rfl) ?_
        refine lv_aload_n hx hb dX10_leastRule_17 rfl (lv_at hl 2 rfl) ?_
        refine va_get (D := (dC, dI)) (ci := 8) (v := .ref fi0) (C := RX10) (T := TX10) (N := 14) hx hb hts iw_X10_leastRule_X10 hown hK hP 0 rfl rfl 7 (by decide) (hts (.fieldLink RX10 44 "HungFloors" "first" "LHungFloors$Frame;") (by decide +kernel)) (fun _ h9 => h9) rfl dX10_leastRule_18 ?_
        refine lv_iload_n hx hb dX10_leastRule_21 rfl (lv_at hl 0 rfl) ?_
        have hpm : List.Perm ([[(h0, .inr (8, [.ref (r0 0), .int tp_67, .ref pl0, .ref sp0, .ref rd0, .ref (r0 1), .int mv_71, .ref fi0, .ref se0, .ref fa0, .ref cr0, .ref ra0, .ref pa0, .int nw0])), (r0 0, .inl (cB, 1600, .inl f_66)), (r0 1, .inl (cI, 6, .inl f_70))], [(pl0, .inr (5, [.int fc1, .ref (r1 0), .ref (r1 1), .ref (r1 2), .ref (r1 3), .int dc1, .ref (r1 4), .ref (r1 5), .ref (r1 6), .ref (r1 7), .ref (r1 8), .ref (r1 9)])), (r1 0, .inl (cJ, 6, .inr (.inl f_76))), (r1 1, .inl (cI, 6, .inl f_77)), (r1 2, .inl (cI, 6, .inl f_78)), (r1 3, .inl (cI, 6, .inl f_79)), (r1 4, .inl (cJ, 4, .inr (.inl f_82))), (r1 5, .inl (cI, 4, .inl rk1)), (r1 6, .inl (cJ, 40, .inr (.inl f_84))), (r1 7, .inl (cI, 40, .inl f_85)), (r1 8, .inl (cI, 40, .inl f_87)), (r1 9, .inl (cI, 40, .inl f_89))], gw_150] : List va_W) (([[(h0, .inr (8, [.ref (r0 0), .int tp_67, .ref pl0, .ref sp0, .ref rd0, .ref (r0 1), .int mv_71, .ref fi0, .ref se0, .ref fa0, .ref cr0, .ref ra0, .ref pa0, .int nw0])), (r0 0, .inl (cB, 1600, .inl f_66)), (r0 1, .inl (cI, 6, .inl f_70))], [(pl0, .inr (5, [.int fc1, .ref (r1 0), .ref (r1 1), .ref (r1 2), .ref (r1 3), .int dc1, .ref (r1 4), .ref (r1 5), .ref (r1 6), .ref (r1 7), .ref (r1 8), .ref (r1 9)])), (r1 0, .inl (cJ, 6, .inr (.inl f_76))), (r1 1, .inl (cI, 6, .inl f_77)), (r1 2, .inl (cI, 6, .inl f_78)), (r1 3, .inl (cI, 6, .inl f_79)), (r1 4, .inl (cJ, 4, .inr (.inl f_82))), (r1 5, .inl (cI, 4, .inl rk1)), (r1 6, .inl (cJ, 40, .inr (.inl f_84))), (r1 7, .inl (cI, 40, .inl f_85)), (r1 8, .inl (cI, 40, .inl f_87)), (r1 9, .inl (cI, 40, .inl f_89))], gw_150] : List va_W) ++ ([] : List va_W)) := pm_n 3 [0, 1, 2] (by decide) rfl rfl
        have hPc := bk_P hpm hP
        have hDc := bk_D hpm hD
        have hFc := bk_F hpm hD hS hA
        refine va_callr (va_runV (As := [.ref fi0, .int g_7]) (rest := [.int g_8]) ⟨hx, hb, hml, hown, hts⟩ (c_X10_reckoned l dC dI ad tN fN cB cI cJ cZ cQ h0 fi0 g_7 r0 pl0 sp0 rd0 fi0 se0 fa0 cr0 ra0 pa0 nw0 _ r1 fc1 dc1 rk1 _ r2 gr_149 _ ⟨f_66, tp_67, f_70, mv_71, rfl, by omega, by omega, by omega, by omega⟩ ⟨f_76, f_77, f_78, f_79, f_82, f_84, f_85, f_87, f_89, rfl, by omega, by omega, by omega, by omega, hr_83, hr_86, hr_88⟩ okgw_150 H.size (by omega) (by omega)) (cwV 2 hts gX10_leastRule_X10_reckoned rfl rfl rfl (by decide +kernel) ⟨(Nat.le_of_ble_eq_true rfl), (Nat.le_of_ble_eq_true rfl)⟩) ⟨fun a U g mk q => by obtain ⟨q0, q1, qP, qK, qD, qE⟩ := q; exact ⟨q0, q1, qP, va_K.moved (u := U) (U := U.calling g mk a) (Vm.Alike.refl U.vm) qK, qD, ey_blind qE⟩, va_recv hK hPc (ci := 8) (q0 := 0) rfl rfl, fun U hU hW => ⟨rfl, by rw [hU], by rw [hU]; exact hPc, va_K.moved hW.alike hK, hDc.weaken (fun _ _ _ _ => trivial), ey_call hE hS hFc hU hW⟩⟩ rfl rfl hl.1 rfl (lv_room (Nat.le_of_ble_eq_true rfl)) dX10_leastRule_22 ⟨(Nat.le_of_ble_eq_true rfl), (Nat.le_of_ble_eq_true rfl)⟩) hS (fun q _ h => hFc q h) hFc (fun u r_324 t H locs ht hvm hw hB hz1 hk1 hS => ?_)
        obtain ⟨hra, w_325, o_326, hP1, hD1⟩ := hB
        have hra := hra.symm
        subst hra
        rw [ht] at hP1
        obtain ⟨hP, hD⟩ := bk_join hpm hP hD hk1 hFc (Cs1 := [[(h0, .inr (8, [.ref (r0 0), .int tp_67, .ref pl0, .ref sp0, .ref rd0, .ref (r0 1), .int mv_71, .ref fi0, .ref se0, .ref fa0, .ref cr0, .ref ra0, .ref pa0, .int nw0])), (r0 0, .inl (cB, 1600, .inl f_66)), (r0 1, .inl (cI, 6, .inl f_70))], [(pl0, .inr (5, [.int fc1, .ref (r1 0), .ref (r1 1), .ref (r1 2), .ref (r1 3), .int dc1, .ref (r1 4), .ref (r1 5), .ref (r1 6), .ref (r1 7), .ref (r1 8), .ref (r1 9)])), (r1 0, .inl (cJ, 6, .inr (.inl f_76))), (r1 1, .inl (cI, 6, .inl f_77)), (r1 2, .inl (cI, 6, .inl f_78)), (r1 3, .inl (cI, 6, .inl f_79)), (r1 4, .inl (cJ, 4, .inr (.inl f_82))), (r1 5, .inl (cI, 4, .inl rk1)), (r1 6, .inl (cJ, 40, .inr (.inl f_84))), (r1 7, .inl (cI, 40, .inl f_85)), (r1 8, .inl (cI, 40, .inl f_87)), (r1 9, .inl (cI, 40, .inl f_89))], w_325]) hP1 hD1
        have hpm2 : List.Perm (([[(h0, .inr (8, [.ref (r0 0), .int tp_67, .ref pl0, .ref sp0, .ref rd0, .ref (r0 1), .int mv_71, .ref fi0, .ref se0, .ref fa0, .ref cr0, .ref ra0, .ref pa0, .int nw0])), (r0 0, .inl (cB, 1600, .inl f_66)), (r0 1, .inl (cI, 6, .inl f_70))], [(pl0, .inr (5, [.int fc1, .ref (r1 0), .ref (r1 1), .ref (r1 2), .ref (r1 3), .int dc1, .ref (r1 4), .ref (r1 5), .ref (r1 6), .ref (r1 7), .ref (r1 8), .ref (r1 9)])), (r1 0, .inl (cJ, 6, .inr (.inl f_76))), (r1 1, .inl (cI, 6, .inl f_77)), (r1 2, .inl (cI, 6, .inl f_78)), (r1 3, .inl (cI, 6, .inl f_79)), (r1 4, .inl (cJ, 4, .inr (.inl f_82))), (r1 5, .inl (cI, 4, .inl rk1)), (r1 6, .inl (cJ, 40, .inr (.inl f_84))), (r1 7, .inl (cI, 40, .inl f_85)), (r1 8, .inl (cI, 40, .inl f_87)), (r1 9, .inl (cI, 40, .inl f_89))], w_325] : List va_W) ++ ([] : List va_W)) ([[(h0, .inr (8, [.ref (r0 0), .int tp_67, .ref pl0, .ref sp0, .ref rd0, .ref (r0 1), .int mv_71, .ref fi0, .ref se0, .ref fa0, .ref cr0, .ref ra0, .ref pa0, .int nw0])), (r0 0, .inl (cB, 1600, .inl f_66)), (r0 1, .inl (cI, 6, .inl f_70))], [(pl0, .inr (5, [.int fc1, .ref (r1 0), .ref (r1 1), .ref (r1 2), .ref (r1 3), .int dc1, .ref (r1 4), .ref (r1 5), .ref (r1 6), .ref (r1 7), .ref (r1 8), .ref (r1 9)])), (r1 0, .inl (cJ, 6, .inr (.inl f_76))), (r1 1, .inl (cI, 6, .inl f_77)), (r1 2, .inl (cI, 6, .inl f_78)), (r1 3, .inl (cI, 6, .inl f_79)), (r1 4, .inl (cJ, 4, .inr (.inl f_82))), (r1 5, .inl (cI, 4, .inl rk1)), (r1 6, .inl (cJ, 40, .inr (.inl f_84))), (r1 7, .inl (cI, 40, .inl f_85)), (r1 8, .inl (cI, 40, .inl f_87)), (r1 9, .inl (cI, 40, .inl f_89))], w_325] : List va_W) := pm_n 3 [0, 1, 2] (by decide) rfl rfl
        have hP := bk_reP hpm2 hP
        have hD := bk_reD hpm2 hD
        have hP : va_P (dC, dI) vwCl (List.flatten [[(h0, .inr (8, [.ref (r0 0), .int tp_67, .ref pl0, .ref sp0, .ref rd0, .ref (r0 1), .int mv_71, .ref fi0, .ref se0, .ref fa0, .ref cr0, .ref ra0, .ref pa0, .int nw0])), (r0 0, .inl (cB, 1600, .inl f_66)), (r0 1, .inl (cI, 6, .inl f_70))], [(pl0, .inr (5, [.int fc1, .ref (r1 0), .ref (r1 1), .ref (r1 2), .ref (r1 3), .int dc1, .ref (r1 4), .ref (r1 5), .ref (r1 6), .ref (r1 7), .ref (r1 8), .ref (r1 9)])), (r1 0, .inl (cJ, 6, .inr (.inl f_76))), (r1 1, .inl (cI, 6, .inl f_77)), (r1 2, .inl (cI, 6, .inl f_78)), (r1 3, .inl (cI, 6, .inl f_79)), (r1 4, .inl (cJ, 4, .inr (.inl f_82))), (r1 5, .inl (cI, 4, .inl rk1)), (r1 6, .inl (cJ, 40, .inr (.inl f_84))), (r1 7, .inl (cI, 40, .inl f_85)), (r1 8, .inl (cI, 40, .inl f_87)), (r1 9, .inl (cI, 40, .inl f_89))], w_325]) H := hP
        have hD : va_D A (List.flatten [[(h0, .inr (8, [.ref (r0 0), .int tp_67, .ref pl0, .ref sp0, .ref rd0, .ref (r0 1), .int mv_71, .ref fi0, .ref se0, .ref fa0, .ref cr0, .ref ra0, .ref pa0, .int nw0])), (r0 0, .inl (cB, 1600, .inl f_66)), (r0 1, .inl (cI, 6, .inl f_70))], [(pl0, .inr (5, [.int fc1, .ref (r1 0), .ref (r1 1), .ref (r1 2), .ref (r1 3), .int dc1, .ref (r1 4), .ref (r1 5), .ref (r1 6), .ref (r1 7), .ref (r1 8), .ref (r1 9)])), (r1 0, .inl (cJ, 6, .inr (.inl f_76))), (r1 1, .inl (cI, 6, .inl f_77)), (r1 2, .inl (cI, 6, .inl f_78)), (r1 3, .inl (cI, 6, .inl f_79)), (r1 4, .inl (cJ, 4, .inr (.inl f_82))), (r1 5, .inl (cI, 4, .inl rk1)), (r1 6, .inl (cJ, 40, .inr (.inl f_84))), (r1 7, .inl (cI, 40, .inl f_85)), (r1 8, .inl (cI, 40, .inl f_87)), (r1 9, .inl (cI, 40, .inl f_89))], w_325]) := hD
        obtain ⟨fr_327, dr_330, rc_333, f_336, f_338, gn_339, f_340, f_341, f_342, f_343, f_344, sc_345, jc_346, f_349, f_351, rfl, hl_328, hh_329, hl_331, hh_332, hl_334, hh_335, hr_337, hl_347, hh_348, hr_350, hr_352⟩ := o_326
        have hpm : List.Perm ([[(h0, .inr (8, [.ref (r0 0), .int tp_67, .ref pl0, .ref sp0, .ref rd0, .ref (r0 1), .int mv_71, .ref fi0, .ref se0, .ref fa0, .ref cr0, .ref ra0, .ref pa0, .int nw0])), (r0 0, .inl (cB, 1600, .inl f_66)), (r0 1, .inl (cI, 6, .inl f_70))], [(pl0, .inr (5, [.int fc1, .ref (r1 0), .ref (r1 1), .ref (r1 2), .ref (r1 3), .int dc1, .ref (r1 4), .ref (r1 5), .ref (r1 6), .ref (r1 7), .ref (r1 8), .ref (r1 9)])), (r1 0, .inl (cJ, 6, .inr (.inl f_76))), (r1 1, .inl (cI, 6, .inl f_77)), (r1 2, .inl (cI, 6, .inl f_78)), (r1 3, .inl (cI, 6, .inl f_79)), (r1 4, .inl (cJ, 4, .inr (.inl f_82))), (r1 5, .inl (cI, 4, .inl rk1)), (r1 6, .inl (cJ, 40, .inr (.inl f_84))), (r1 7, .inl (cI, 40, .inl f_85)), (r1 8, .inl (cI, 40, .inl f_87)), (r1 9, .inl (cI, 40, .inl f_89))], [(fi0, .inr (2, [.ref pl0, .int fr_327, .int dr_330, .int rc_333, .ref (r2 0), .ref (r2 1), .int gn_339, .ref (r2 2), .ref (r2 3), .ref (r2 4), .ref (r2 5), .ref (r2 6), .long sc_345, .int jc_346, .ref (r2 7), .ref (r2 8)])), (r2 0, .inl (cI, 10, .inl f_336)), (r2 1, .inl (cI, 10, .inl f_338)), (r2 2, .inl (cI, 6, .inl f_340)), (r2 3, .inl (cJ, 6, .inr (.inl f_341))), (r2 4, .inl (cJ, 6, .inr (.inl f_342))), (r2 5, .inl (cJ, 6, .inr (.inl f_343))), (r2 6, .inl (cJ, 10, .inr (.inl f_344))), (r2 7, .inl (cI, 70, .inl f_349)), (r2 8, .inl (cI, 70, .inl f_351))]] : List va_W) (([[(fi0, .inr (2, [.ref pl0, .int fr_327, .int dr_330, .int rc_333, .ref (r2 0), .ref (r2 1), .int gn_339, .ref (r2 2), .ref (r2 3), .ref (r2 4), .ref (r2 5), .ref (r2 6), .long sc_345, .int jc_346, .ref (r2 7), .ref (r2 8)])), (r2 0, .inl (cI, 10, .inl f_336)), (r2 1, .inl (cI, 10, .inl f_338)), (r2 2, .inl (cI, 6, .inl f_340)), (r2 3, .inl (cJ, 6, .inr (.inl f_341))), (r2 4, .inl (cJ, 6, .inr (.inl f_342))), (r2 5, .inl (cJ, 6, .inr (.inl f_343))), (r2 6, .inl (cJ, 10, .inr (.inl f_344))), (r2 7, .inl (cI, 70, .inl f_349)), (r2 8, .inl (cI, 70, .inl f_351))], [(pl0, .inr (5, [.int fc1, .ref (r1 0), .ref (r1 1), .ref (r1 2), .ref (r1 3), .int dc1, .ref (r1 4), .ref (r1 5), .ref (r1 6), .ref (r1 7), .ref (r1 8), .ref (r1 9)])), (r1 0, .inl (cJ, 6, .inr (.inl f_76))), (r1 1, .inl (cI, 6, .inl f_77)), (r1 2, .inl (cI, 6, .inl f_78)), (r1 3, .inl (cI, 6, .inl f_79)), (r1 4, .inl (cJ, 4, .inr (.inl f_82))), (r1 5, .inl (cI, 4, .inl rk1)), (r1 6, .inl (cJ, 40, .inr (.inl f_84))), (r1 7, .inl (cI, 40, .inl f_85)), (r1 8, .inl (cI, 40, .inl f_87)), (r1 9, .inl (cI, 40, .inl f_89))]] : List va_W) ++ ([[(h0, .inr (8, [.ref (r0 0), .int tp_67, .ref pl0, .ref sp0, .ref rd0, .ref (r0 1), .int mv_71, .ref fi0, .ref se0, .ref fa0, .ref cr0, .ref ra0, .ref pa0, .int nw0])), (r0 0, .inl (cB, 1600, .inl f_66)), (r0 1, .inl (cI, 6, .inl f_70))]] : List va_W)) := pm_n 3 [2, 1, 0] (by decide) rfl rfl
        have hPc := bk_P hpm hP
        have hDc := bk_D hpm hD
        have hFc := bk_F hpm hD hS hA
        refine va_calli (va_runV (As := []) (rest := [.int g_8]) ⟨hx, hb, hml, hown, hts⟩ (c_X3_looksNeeded l dC dI ad tN fN cB cI cJ cZ fi0 r2 pl0 _ r1 fc1 dc1 rk1 _ ⟨fr_327, dr_330, rc_333, f_336, f_338, gn_339, f_340, f_341, f_342, f_343, f_344, sc_345, jc_346, f_349, f_351, rfl, by omega, by omega, by omega, by omega, by omega, by omega, hr_337, by omega, by omega, hr_350, hr_352⟩ ⟨f_76, f_77, f_78, f_79, f_82, f_84, f_85, f_87, f_89, rfl, by omega, by omega, by omega, by omega, hr_83, hr_86, hr_88⟩ H.size) (cwV 0 hts gX10_leastRule_X3_looksNeeded rfl rfl rfl (by decide +kernel) ⟨(Nat.le_of_ble_eq_true rfl), (Nat.le_of_ble_eq_true rfl)⟩) ⟨fun a U g mk q => by obtain ⟨q0, q1, qP, qK, qD, qE⟩ := q; exact ⟨q0, q1, qP, va_K.moved (u := U) (U := U.calling g mk a) (Vm.Alike.refl U.vm) qK, qD, ey_blind qE⟩, va_recv hK hPc (ci := 2) (q0 := 0) rfl rfl, fun U hU hW => ⟨rfl, by rw [hU], by rw [hU]; exact hPc, va_K.moved hW.alike (va_K.sub hK [0, 1, 2, 3] rfl), hDc.weaken (fun _ _ _ _ => trivial), ey_call hE hS hFc hU hW⟩⟩ rfl rfl hl.1 rfl (lv_room (Nat.le_of_ble_eq_true rfl)) dX10_leastRule_25 ⟨(Nat.le_of_ble_eq_true rfl), (Nat.le_of_ble_eq_true rfl)⟩) hS (fun q _ h => hFc q h) hFc (fun r_353 u t H locs ht hvm hw hB hz1 hk1 hS => ?_)
        obtain ⟨hP1, hD1⟩ := hB
        rw [ht] at hP1
        obtain ⟨hP, hD⟩ := bk_join hpm hP hD hk1 hFc (Cs1 := [[(fi0, .inr (2, [.ref pl0, .int fr_327, .int dr_330, .int rc_333, .ref (r2 0), .ref (r2 1), .int gn_339, .ref (r2 2), .ref (r2 3), .ref (r2 4), .ref (r2 5), .ref (r2 6), .long sc_345, .int jc_346, .ref (r2 7), .ref (r2 8)])), (r2 0, .inl (cI, 10, .inl f_336)), (r2 1, .inl (cI, 10, .inl f_338)), (r2 2, .inl (cI, 6, .inl f_340)), (r2 3, .inl (cJ, 6, .inr (.inl f_341))), (r2 4, .inl (cJ, 6, .inr (.inl f_342))), (r2 5, .inl (cJ, 6, .inr (.inl f_343))), (r2 6, .inl (cJ, 10, .inr (.inl f_344))), (r2 7, .inl (cI, 70, .inl f_349)), (r2 8, .inl (cI, 70, .inl f_351))], [(pl0, .inr (5, [.int fc1, .ref (r1 0), .ref (r1 1), .ref (r1 2), .ref (r1 3), .int dc1, .ref (r1 4), .ref (r1 5), .ref (r1 6), .ref (r1 7), .ref (r1 8), .ref (r1 9)])), (r1 0, .inl (cJ, 6, .inr (.inl f_76))), (r1 1, .inl (cI, 6, .inl f_77)), (r1 2, .inl (cI, 6, .inl f_78)), (r1 3, .inl (cI, 6, .inl f_79)), (r1 4, .inl (cJ, 4, .inr (.inl f_82))), (r1 5, .inl (cI, 4, .inl rk1)), (r1 6, .inl (cJ, 40, .inr (.inl f_84))), (r1 7, .inl (cI, 40, .inl f_85)), (r1 8, .inl (cI, 40, .inl f_87)), (r1 9, .inl (cI, 40, .inl f_89))]]) hP1 hD1
        have hpm2 : List.Perm (([[(fi0, .inr (2, [.ref pl0, .int fr_327, .int dr_330, .int rc_333, .ref (r2 0), .ref (r2 1), .int gn_339, .ref (r2 2), .ref (r2 3), .ref (r2 4), .ref (r2 5), .ref (r2 6), .long sc_345, .int jc_346, .ref (r2 7), .ref (r2 8)])), (r2 0, .inl (cI, 10, .inl f_336)), (r2 1, .inl (cI, 10, .inl f_338)), (r2 2, .inl (cI, 6, .inl f_340)), (r2 3, .inl (cJ, 6, .inr (.inl f_341))), (r2 4, .inl (cJ, 6, .inr (.inl f_342))), (r2 5, .inl (cJ, 6, .inr (.inl f_343))), (r2 6, .inl (cJ, 10, .inr (.inl f_344))), (r2 7, .inl (cI, 70, .inl f_349)), (r2 8, .inl (cI, 70, .inl f_351))], [(pl0, .inr (5, [.int fc1, .ref (r1 0), .ref (r1 1), .ref (r1 2), .ref (r1 3), .int dc1, .ref (r1 4), .ref (r1 5), .ref (r1 6), .ref (r1 7), .ref (r1 8), .ref (r1 9)])), (r1 0, .inl (cJ, 6, .inr (.inl f_76))), (r1 1, .inl (cI, 6, .inl f_77)), (r1 2, .inl (cI, 6, .inl f_78)), (r1 3, .inl (cI, 6, .inl f_79)), (r1 4, .inl (cJ, 4, .inr (.inl f_82))), (r1 5, .inl (cI, 4, .inl rk1)), (r1 6, .inl (cJ, 40, .inr (.inl f_84))), (r1 7, .inl (cI, 40, .inl f_85)), (r1 8, .inl (cI, 40, .inl f_87)), (r1 9, .inl (cI, 40, .inl f_89))]] : List va_W) ++ ([[(h0, .inr (8, [.ref (r0 0), .int tp_67, .ref pl0, .ref sp0, .ref rd0, .ref (r0 1), .int mv_71, .ref fi0, .ref se0, .ref fa0, .ref cr0, .ref ra0, .ref pa0, .int nw0])), (r0 0, .inl (cB, 1600, .inl f_66)), (r0 1, .inl (cI, 6, .inl f_70))]] : List va_W)) ([[(h0, .inr (8, [.ref (r0 0), .int tp_67, .ref pl0, .ref sp0, .ref rd0, .ref (r0 1), .int mv_71, .ref fi0, .ref se0, .ref fa0, .ref cr0, .ref ra0, .ref pa0, .int nw0])), (r0 0, .inl (cB, 1600, .inl f_66)), (r0 1, .inl (cI, 6, .inl f_70))], [(pl0, .inr (5, [.int fc1, .ref (r1 0), .ref (r1 1), .ref (r1 2), .ref (r1 3), .int dc1, .ref (r1 4), .ref (r1 5), .ref (r1 6), .ref (r1 7), .ref (r1 8), .ref (r1 9)])), (r1 0, .inl (cJ, 6, .inr (.inl f_76))), (r1 1, .inl (cI, 6, .inl f_77)), (r1 2, .inl (cI, 6, .inl f_78)), (r1 3, .inl (cI, 6, .inl f_79)), (r1 4, .inl (cJ, 4, .inr (.inl f_82))), (r1 5, .inl (cI, 4, .inl rk1)), (r1 6, .inl (cJ, 40, .inr (.inl f_84))), (r1 7, .inl (cI, 40, .inl f_85)), (r1 8, .inl (cI, 40, .inl f_87)), (r1 9, .inl (cI, 40, .inl f_89))], [(fi0, .inr (2, [.ref pl0, .int fr_327, .int dr_330, .int rc_333, .ref (r2 0), .ref (r2 1), .int gn_339, .ref (r2 2), .ref (r2 3), .ref (r2 4), .ref (r2 5), .ref (r2 6), .long sc_345, .int jc_346, .ref (r2 7), .ref (r2 8)])), (r2 0, .inl (cI, 10, .inl f_336)), (r2 1, .inl (cI, 10, .inl f_338)), (r2 2, .inl (cI, 6, .inl f_340)), (r2 3, .inl (cJ, 6, .inr (.inl f_341))), (r2 4, .inl (cJ, 6, .inr (.inl f_342))), (r2 5, .inl (cJ, 6, .inr (.inl f_343))), (r2 6, .inl (cJ, 10, .inr (.inl f_344))), (r2 7, .inl (cI, 70, .inl f_349)), (r2 8, .inl (cI, 70, .inl f_351))]] : List va_W) := pm_n 3 [2, 1, 0] (by decide) rfl rfl
        have hP := bk_reP hpm2 hP
        have hD := bk_reD hpm2 hD
        have hP : va_P (dC, dI) vwCl (List.flatten [[(h0, .inr (8, [.ref (r0 0), .int tp_67, .ref pl0, .ref sp0, .ref rd0, .ref (r0 1), .int mv_71, .ref fi0, .ref se0, .ref fa0, .ref cr0, .ref ra0, .ref pa0, .int nw0])), (r0 0, .inl (cB, 1600, .inl f_66)), (r0 1, .inl (cI, 6, .inl f_70))], [(pl0, .inr (5, [.int fc1, .ref (r1 0), .ref (r1 1), .ref (r1 2), .ref (r1 3), .int dc1, .ref (r1 4), .ref (r1 5), .ref (r1 6), .ref (r1 7), .ref (r1 8), .ref (r1 9)])), (r1 0, .inl (cJ, 6, .inr (.inl f_76))), (r1 1, .inl (cI, 6, .inl f_77)), (r1 2, .inl (cI, 6, .inl f_78)), (r1 3, .inl (cI, 6, .inl f_79)), (r1 4, .inl (cJ, 4, .inr (.inl f_82))), (r1 5, .inl (cI, 4, .inl rk1)), (r1 6, .inl (cJ, 40, .inr (.inl f_84))), (r1 7, .inl (cI, 40, .inl f_85)), (r1 8, .inl (cI, 40, .inl f_87)), (r1 9, .inl (cI, 40, .inl f_89))], [(fi0, .inr (2, [.ref pl0, .int fr_327, .int dr_330, .int rc_333, .ref (r2 0), .ref (r2 1), .int gn_339, .ref (r2 2), .ref (r2 3), .ref (r2 4), .ref (r2 5), .ref (r2 6), .long sc_345, .int jc_346, .ref (r2 7), .ref (r2 8)])), (r2 0, .inl (cI, 10, .inl f_336)), (r2 1, .inl (cI, 10, .inl f_338)), (r2 2, .inl (cI, 6, .inl f_340)), (r2 3, .inl (cJ, 6, .inr (.inl f_341))), (r2 4, .inl (cJ, 6, .inr (.inl f_342))), (r2 5, .inl (cJ, 6, .inr (.inl f_343))), (r2 6, .inl (cJ, 10, .inr (.inl f_344))), (r2 7, .inl (cI, 70, .inl f_349)), (r2 8, .inl (cI, 70, .inl f_351))]]) H := hP
        have hD : va_D A (List.flatten [[(h0, .inr (8, [.ref (r0 0), .int tp_67, .ref pl0, .ref sp0, .ref rd0, .ref (r0 1), .int mv_71, .ref fi0, .ref se0, .ref fa0, .ref cr0, .ref ra0, .ref pa0, .int nw0])), (r0 0, .inl (cB, 1600, .inl f_66)), (r0 1, .inl (cI, 6, .inl f_70))], [(pl0, .inr (5, [.int fc1, .ref (r1 0), .ref (r1 1), .ref (r1 2), .ref (r1 3), .int dc1, .ref (r1 4), .ref (r1 5), .ref (r1 6), .ref (r1 7), .ref (r1 8), .ref (r1 9)])), (r1 0, .inl (cJ, 6, .inr (.inl f_76))), (r1 1, .inl (cI, 6, .inl f_77)), (r1 2, .inl (cI, 6, .inl f_78)), (r1 3, .inl (cI, 6, .inl f_79)), (r1 4, .inl (cJ, 4, .inr (.inl f_82))), (r1 5, .inl (cI, 4, .inl rk1)), (r1 6, .inl (cJ, 40, .inr (.inl f_84))), (r1 7, .inl (cI, 40, .inl f_85)), (r1 8, .inl (cI, 40, .inl f_87)), (r1 9, .inl (cI, 40, .inl f_89))], [(fi0, .inr (2, [.ref pl0, .int fr_327, .int dr_330, .int rc_333, .ref (r2 0), .ref (r2 1), .int gn_339, .ref (r2 2), .ref (r2 3), .ref (r2 4), .ref (r2 5), .ref (r2 6), .long sc_345, .int jc_346, .ref (r2 7), .ref (r2 8)])), (r2 0, .inl (cI, 10, .inl f_336)), (r2 1, .inl (cI, 10, .inl f_338)), (r2 2, .inl (cI, 6, .inl f_340)), (r2 3, .inl (cJ, 6, .inr (.inl f_341))), (r2 4, .inl (cJ, 6, .inr (.inl f_342))), (r2 5, .inl (cJ, 6, .inr (.inl f_343))), (r2 6, .inl (cJ, 10, .inr (.inl f_344))), (r2 7, .inl (cI, 70, .inl f_349)), (r2 8, .inl (cI, 70, .inl f_351))]]) := hD
        obtain ⟨hlr_353, hhr_353⟩ := hw
        refine va_mmax hx hb (by rw [hml]; exact hl.1.symm) hown (hts (.methodLink RX10 243 Lib.Math.max.name) (by decide +kernel)) (hts (.static Lib.Math.max.name) (by decide +kernel)) (hts (.initialized "java/lang/Math") (by decide +kernel)) (hts (.code Lib.Math.max.name Lib.Math.max.code 2 (some .int)) (List.mem_of_getElem? (i := 7) rfl)) (Nat.le_of_ble_eq_true rfl) (Nat.le_of_ble_eq_true rfl) (Nat.le_of_ble_eq_true rfl) (Nat.le_of_ble_eq_true rfl) dX10_leastRule_28 ?_
        refine lv_topi (fun z_354 ez_354 => ?_)
        have hz_354 := m_max rfl rfl ez_354
        refine lv_istore_n (lv' := [(1, .int z_354), (2, .int g_7), (0, .ref h0)]) hx hb dX10_leastRule_31 rfl hl (by decide) rfl (fun ls hl => ?_)
        obtain ⟨z_355, ez_355⟩ : ∃ y : Int32, y = g_7 + 1 := ⟨_, rfl⟩
        have hz_355 : z_355.toInt = g_7.toInt + 1 := by rw [ez_355]; exact t_add rfl tI_1 (by omega) (by omega)
        refine lv_iinc (v := z_355) (lv' := [(2, .int z_355), (1, .int z_354), (0, .ref h0)]) hx hb dX10_leastRule_32 hl (k := 1) rfl (by rw [ez_355]; rfl) (by decide) rfl (fun ls hl => ?_)
        refine lv_goto (tgt := 4) hx hb dX10_leastRule_35 (by decide) ?_
        exact ih_322 pl0 z_355 z_354 _ ⟨fr_327, dr_330, rc_333, f_336, f_338, gn_339, f_340, f_341, f_342, f_343, f_344, sc_345, jc_346, f_349, f_351, rfl, by omega, by omega, by omega, by omega, by omega, by omega, hr_337, by omega, by omega, hr_350, hr_352⟩ (by omega) (by omega) (by omega) (by omega) (by omega) (by omega) _ _ hP hD hS ls (lv_sub hl [0, 1, 2] rfl)
  exact lp_321 _ pl2 0 0 _ ⟨fr_90, dr_93, rc_96, f_99, f_101, gn_102, f_103, f_104, f_105, f_106, f_107, sc_108, jc_109, f_112, f_114, rfl, by omega, by omega, by omega, by omega, by omega, by omega, hr_100, by omega, by omega, hr_113, hr_115⟩ (by have := tI_0; omega) (by have := tI_0; omega) (by have := tI_0; omega) (by have := tI_0; omega) (by have := tI_0; omega) (Nat.lt_succ_self _) _ _ hP hD hS ls (lv_sub hl [0, 1, 2] rfl)
theorem iw_X10_rule_X10 : ∀ w ∈ wsX100, w ∈ wsX10_rule := fun _ h => List.mem_cons_of_mem _ (List.mem_append_left _ (List.mem_append_left _ (List.mem_append_right _ h)))
theorem iw_X10_rule_X7 : ∀ w ∈ wsX70, w ∈ wsX10_rule := fun _ h => List.mem_cons_of_mem _ (List.mem_append_left _ (List.mem_append_right _ h))
set_option maxHeartbeats 4000000 in
set_option maxRecDepth 100000 in
theorem c_X10_rule (l : Launch) (dC : Nat → ClassId) (dI : Nat → Nat → Nat) (ad : Nat → Nat) (tN : Nat) (fN : Nat → Int64) (cB cI cJ cZ cQ : ClassId) (h0 : Nat) (p1 : Int32) (r0 : Nat → Nat) (pl0 : Nat) (sp0 : Nat) (rd0 : Nat) (fi0 : Nat) (se0 : Nat) (fa0 : Nat) (cr0 : Nat) (ra0 : Nat) (pa0 : Nat) (nw0 : Int32) (w0 : va_W) (r1 : Nat → Nat) (fc1 : Int32) (dc1 : Int32) (rk1 : Nat → Int32) (w1 : va_W) (r2 : Nat → Nat) (pl2 : Nat) (w2 : va_W) (o0 : ok_main ad cB cI cJ cZ h0 r0 pl0 sp0 rd0 fi0 se0 fa0 cr0 ra0 pa0 nw0 w0) (o1 : ok_plan ad cB cI cJ cZ pl0 r1 fc1 dc1 rk1 w1) (o2 : ok_frame ad cB cI cJ cZ fi0 r2 pl2 w2) (sz : Nat) : Met l yX10_rule wsX10_rule ({ frames := 6, cells := 0, slots := 0, locals := 131 } : Room) (va_Pc [.ref h0, .int p1] (fun U => U.heap.size = sz ∧ va_P (dC, dI) vwCl (List.flatten [w0, w1, w2]) U.heap ∧ va_K (dC, dI) vwCl [(cB, .byte), (cI, .int), (cJ, .long), (cZ, .boolean), (cQ, .array .long)] U ∧ va_D (fun _ => True) (List.flatten [w0, w1, w2]) ∧ ex_Y ad tN fN (va_A (List.flatten [w0, w1, w2]) sz) U)) (va_Qi (fun (r : Int32) (_ : Unit) => True) (fun (_ : Unit) (t : State) => ∃ (pl29 : Nat) (w29 : va_W), ok_frame ad cB cI cJ cZ fi0 r2 pl29 w29 ∧ va_P (dC, dI) vwCl (List.flatten [w0, w1, w29]) t.heap ∧ va_D (va_A (List.flatten [w0, w1, w2]) sz) (List.flatten [w0, w1, w29])) (va_A (List.flatten [w0, w1, w2]) sz)) 0 0 (va_A (List.flatten [w0, w1, w2]) sz) := by
  refine Met.ofW (cc := cX10_rule) (maxL := 5) (ret := (some .int)) (by decide) rfl ?_
  intro p e s m args below meth c s₁ B hml hv
  obtain ⟨rfl, hsz, hP, hK, hD0, hE⟩ := hv
  have hx := B.exec
  have hb := B.bytes
  have hr := B.returns
  have hts := atoms_spec (ws := wsX10_rule) B.pre
  have hown : s.vm.findClass RX10 = some m.cls := findClass_of_methodNamed B.named
  have hlocks := B.notSynchronized
  subst hsz
  have hD := hD0.self (sz := s.heap.size)
  generalize hAe : va_A (List.flatten [w0, w1, w2]) s.heap.size = A at hD hE ⊢
  have hA : ∀ q : Nat, s.heap.size ≤ q → A q := fun q h => by rw [← hAe]; exact Or.inr h
  have hS : va_S A s.heap s.heap [] := va_S.rf
  have hl := lv_entry ([.ref h0, .int p1]) (n := 5) (Nat.le_of_ble_eq_true rfl)
  rw [lg_entry_eq]
  generalize (lg_sl ([.ref h0, .int p1]) ++ List.replicate (5 - (lg_sl ([.ref h0, .int p1])).length) Slot.unset).toArray = ls at hl ⊢
  have hl : lv_has ls 5 [(0, .ref h0), (1, .int p1)] := hl
  clear hAe
  refine W_name (fun Q0 hQ0 => ?_)
  obtain ⟨hx_1, hx_2⟩ := okx_main o0
  obtain ⟨hx_3, hx_4, hx_5, hx_6⟩ := okx_plan o1
  refine lv_iload_n hx hb dX10_rule_0 rfl (lv_at hl 1 rfl) ?_
  have hpm : List.Perm ([w0, w1, w2] : List va_W) (([] : List va_W) ++ ([w0, w1, w2] : List va_W)) := pm_n 3 [0, 1, 2] (by decide) rfl rfl
  have hPc := bk_P hpm hP
  have hDc := bk_D hpm hD
  have hFc := bk_F hpm hD hS hA
  refine va_calli (va_runS (As := [.int p1]) (rest := []) ⟨hx, hb, hml, hown, hts⟩ (c_X10_isPart l dC dI ad tN fN cB cI cJ cZ p1 s.heap.size) (va_cwS 1 hts gX10_rule_X10_isPart rfl rfl rfl (by decide +kernel) ⟨(Nat.le_of_ble_eq_true rfl), (Nat.le_of_ble_eq_true rfl)⟩) ⟨fun a U g mk q => by obtain ⟨q0, q1, qP, qK, qD, qE⟩ := q; exact ⟨q0, q1, qP, va_K.moved (u := U) (U := U.calling g mk a) (Vm.Alike.refl U.vm) qK, qD, ey_blind qE⟩, fun U hU hW => ⟨rfl, by rw [hU], by rw [hU]; exact hPc, va_K.moved hW.alike (va_K.sub hK [0, 1, 2, 3] rfl), hDc.weaken (fun _ _ _ _ => trivial), ey_call hE hS hFc hU hW⟩⟩ rfl rfl hl.1 rfl (lv_room (Nat.le_of_ble_eq_true rfl)) dX10_rule_1 ⟨(Nat.le_of_ble_eq_true rfl), (Nat.le_of_ble_eq_true rfl)⟩) hS (fun q _ h => hFc q h) hFc (fun r_7 u t H locs ht hvm hw hB hz1 hk1 hS => ?_)
  obtain ⟨hP1, hD1⟩ := hB
  rw [ht] at hP1
  obtain ⟨hP, hD⟩ := bk_join hpm hP hD hk1 hFc (Cs1 := []) hP1 hD1
  have hpm2 : List.Perm (([] : List va_W) ++ ([w0, w1, w2] : List va_W)) ([w0, w1, w2] : List va_W) := pm_n 3 [0, 1, 2] (by decide) rfl rfl
  have hP := bk_reP hpm2 hP
  have hD := bk_reD hpm2 hD
  have hP : va_P (dC, dI) vwCl (List.flatten [w0, w1, w2]) H := hP
  have hD : va_D A (List.flatten [w0, w1, w2]) := hD
  rcases hw with ⟨rfl, c_8⟩ | ⟨rfl, c_9, c_10⟩ | ⟨rfl, c_11, c_12⟩
  · refine lv_if_ne (tgt := 9) hx hb dX10_rule_4 (by decide) (fun c_13 => ?_) (fun c_13 => absurd c_13 (by decide))
    refine lv_aload_n hx hb dX10_rule_9 rfl (lv_at hl 0 rfl) ?_
    obtain ⟨f_14, tp_15, f_18, mv_19, rfl, hl_16, hh_17, hl_20, hh_21⟩ := o0
    have hpm : List.Perm ([[(h0, .inr (8, [.ref (r0 0), .int tp_15, .ref pl0, .ref sp0, .ref rd0, .ref (r0 1), .int mv_19, .ref fi0, .ref se0, .ref fa0, .ref cr0, .ref ra0, .ref pa0, .int nw0])), (r0 0, .inl (cB, 1600, .inl f_14)), (r0 1, .inl (cI, 6, .inl f_18))], w1, w2] : List va_W) (([[(h0, .inr (8, [.ref (r0 0), .int tp_15, .ref pl0, .ref sp0, .ref rd0, .ref (r0 1), .int mv_19, .ref fi0, .ref se0, .ref fa0, .ref cr0, .ref ra0, .ref pa0, .int nw0])), (r0 0, .inl (cB, 1600, .inl f_14)), (r0 1, .inl (cI, 6, .inl f_18))], w1, w2] : List va_W) ++ ([] : List va_W)) := pm_n 3 [0, 1, 2] (by decide) rfl rfl
    have hPc := bk_P hpm hP
    have hDc := bk_D hpm hD
    have hFc := bk_F hpm hD hS hA
    refine va_calli (va_runV (As := []) (rest := []) ⟨hx, hb, hml, hown, hts⟩ (c_X10_leastRule l dC dI ad tN fN cB cI cJ cZ cQ h0 r0 pl0 sp0 rd0 fi0 se0 fa0 cr0 ra0 pa0 nw0 _ r1 fc1 dc1 rk1 _ r2 pl2 _ ⟨f_14, tp_15, f_18, mv_19, rfl, by omega, by omega, by omega, by omega⟩ o1 o2 H.size) (cwV 0 hts gX10_rule_X10_leastRule rfl rfl rfl (by decide +kernel) ⟨(Nat.le_of_ble_eq_true rfl), (Nat.le_of_ble_eq_true rfl)⟩) ⟨fun a U g mk q => by obtain ⟨q0, q1, qP, qK, qD, qE⟩ := q; exact ⟨q0, q1, qP, va_K.moved (u := U) (U := U.calling g mk a) (Vm.Alike.refl U.vm) qK, qD, ey_blind qE⟩, va_recv hK hPc (ci := 8) (q0 := 0) rfl rfl, fun U hU hW => ⟨rfl, by rw [hU], by rw [hU]; exact hPc, va_K.moved hW.alike hK, hDc.weaken (fun _ _ _ _ => trivial), ey_call hE hS hFc hU hW⟩⟩ rfl rfl hl.1 rfl (lv_room (Nat.le_of_ble_eq_true rfl)) dX10_rule_10 ⟨(Nat.le_of_ble_eq_true rfl), (Nat.le_of_ble_eq_true rfl)⟩) hS (fun q _ h => hFc q h) hFc (fun r_22 u t H locs ht hvm hw hB hz1 hk1 hS => ?_)
    obtain ⟨xr_25, w_23, o_24, hP1, hD1⟩ := hB
    rw [ht] at hP1
    obtain ⟨hP, hD⟩ := bk_join hpm hP hD hk1 hFc (Cs1 := [[(h0, .inr (8, [.ref (r0 0), .int tp_15, .ref pl0, .ref sp0, .ref rd0, .ref (r0 1), .int mv_19, .ref fi0, .ref se0, .ref fa0, .ref cr0, .ref ra0, .ref pa0, .int nw0])), (r0 0, .inl (cB, 1600, .inl f_14)), (r0 1, .inl (cI, 6, .inl f_18))], w1, w_23]) hP1 hD1
    have hpm2 : List.Perm (([[(h0, .inr (8, [.ref (r0 0), .int tp_15, .ref pl0, .ref sp0, .ref rd0, .ref (r0 1), .int mv_19, .ref fi0, .ref se0, .ref fa0, .ref cr0, .ref ra0, .ref pa0, .int nw0])), (r0 0, .inl (cB, 1600, .inl f_14)), (r0 1, .inl (cI, 6, .inl f_18))], w1, w_23] : List va_W) ++ ([] : List va_W)) ([[(h0, .inr (8, [.ref (r0 0), .int tp_15, .ref pl0, .ref sp0, .ref rd0, .ref (r0 1), .int mv_19, .ref fi0, .ref se0, .ref fa0, .ref cr0, .ref ra0, .ref pa0, .int nw0])), (r0 0, .inl (cB, 1600, .inl f_14)), (r0 1, .inl (cI, 6, .inl f_18))], w1, w_23] : List va_W) := pm_n 3 [0, 1, 2] (by decide) rfl rfl
    have hP := bk_reP hpm2 hP
    have hD := bk_reD hpm2 hD
    have hP : va_P (dC, dI) vwCl (List.flatten [[(h0, .inr (8, [.ref (r0 0), .int tp_15, .ref pl0, .ref sp0, .ref rd0, .ref (r0 1), .int mv_19, .ref fi0, .ref se0, .ref fa0, .ref cr0, .ref ra0, .ref pa0, .int nw0])), (r0 0, .inl (cB, 1600, .inl f_14)), (r0 1, .inl (cI, 6, .inl f_18))], w1, w_23]) H := hP
    have hD : va_D A (List.flatten [[(h0, .inr (8, [.ref (r0 0), .int tp_15, .ref pl0, .ref sp0, .ref rd0, .ref (r0 1), .int mv_19, .ref fi0, .ref se0, .ref fa0, .ref cr0, .ref ra0, .ref pa0, .int nw0])), (r0 0, .inl (cB, 1600, .inl f_14)), (r0 1, .inl (cI, 6, .inl f_18))], w1, w_23]) := hD
    obtain ⟨hlr_22, hhr_22⟩ := hw
    refine lv_istore_n (lv' := [(2, .int r_22), (0, .ref h0), (1, .int p1)]) hx hb dX10_rule_13 rfl hl (by decide) rfl (fun ls hl => ?_)
    refine lv_iload_n hx hb dX10_rule_14 rfl (lv_at hl 2 rfl) ?_
    refine lv_if_ne (tgt := 20) hx hb dX10_rule_15 (by decide) (fun c_26 => False.elim (by have c_26 := f_ne rfl tI_0 c_26; omega)) (fun c_26 => ?_)
    have c_26 : p1.toInt = 0 := f_eq rfl tI_0 c_26
    refine lv_iload_n hx hb dX10_rule_18 rfl (lv_at hl 0 rfl) ?_
    rw [hQ0]
    exact W.iret (v := r_22) hx hb hr (fun t ht hW => ⟨⟨r_22, (), rfl, trivial, ⟨xr_25, _, o_24, by rw [ht]; exact hP, hD⟩⟩, hS.F ht⟩) hS.2.2 dX10_rule_19
  · refine lv_if_ne (tgt := 9) hx hb dX10_rule_4 (by decide) (fun c_27 => absurd c_27 (by decide)) (fun c_27 => ?_)
    refine lv_iconst (v := (-1)) hx hb dX10_rule_7 (by decide) ?_
    rw [hQ0]
    exact W.iret (v := (-1)) hx hb hr (fun t ht hW => ⟨⟨(-1), (), rfl, trivial, ⟨pl2, _, o2, by rw [ht]; exact hP, hD⟩⟩, hS.F ht⟩) hS.2.2 dX10_rule_8
  · refine lv_if_ne (tgt := 9) hx hb dX10_rule_4 (by decide) (fun c_28 => ?_) (fun c_28 => absurd c_28 (by decide))
    refine lv_aload_n hx hb dX10_rule_9 rfl (lv_at hl 0 rfl) ?_
    obtain ⟨f_29, tp_30, f_33, mv_34, rfl, hl_31, hh_32, hl_35, hh_36⟩ := o0
    have hpm : List.Perm ([[(h0, .inr (8, [.ref (r0 0), .int tp_30, .ref pl0, .ref sp0, .ref rd0, .ref (r0 1), .int mv_34, .ref fi0, .ref se0, .ref fa0, .ref cr0, .ref ra0, .ref pa0, .int nw0])), (r0 0, .inl (cB, 1600, .inl f_29)), (r0 1, .inl (cI, 6, .inl f_33))], w1, w2] : List va_W) (([[(h0, .inr (8, [.ref (r0 0), .int tp_30, .ref pl0, .ref sp0, .ref rd0, .ref (r0 1), .int mv_34, .ref fi0, .ref se0, .ref fa0, .ref cr0, .ref ra0, .ref pa0, .int nw0])), (r0 0, .inl (cB, 1600, .inl f_29)), (r0 1, .inl (cI, 6, .inl f_33))], w1, w2] : List va_W) ++ ([] : List va_W)) := pm_n 3 [0, 1, 2] (by decide) rfl rfl
    have hPc := bk_P hpm hP
    have hDc := bk_D hpm hD
    have hFc := bk_F hpm hD hS hA
    refine va_calli (va_runV (As := []) (rest := []) ⟨hx, hb, hml, hown, hts⟩ (c_X10_leastRule l dC dI ad tN fN cB cI cJ cZ cQ h0 r0 pl0 sp0 rd0 fi0 se0 fa0 cr0 ra0 pa0 nw0 _ r1 fc1 dc1 rk1 _ r2 pl2 _ ⟨f_29, tp_30, f_33, mv_34, rfl, by omega, by omega, by omega, by omega⟩ o1 o2 H.size) (cwV 0 hts gX10_rule_X10_leastRule rfl rfl rfl (by decide +kernel) ⟨(Nat.le_of_ble_eq_true rfl), (Nat.le_of_ble_eq_true rfl)⟩) ⟨fun a U g mk q => by obtain ⟨q0, q1, qP, qK, qD, qE⟩ := q; exact ⟨q0, q1, qP, va_K.moved (u := U) (U := U.calling g mk a) (Vm.Alike.refl U.vm) qK, qD, ey_blind qE⟩, va_recv hK hPc (ci := 8) (q0 := 0) rfl rfl, fun U hU hW => ⟨rfl, by rw [hU], by rw [hU]; exact hPc, va_K.moved hW.alike hK, hDc.weaken (fun _ _ _ _ => trivial), ey_call hE hS hFc hU hW⟩⟩ rfl rfl hl.1 rfl (lv_room (Nat.le_of_ble_eq_true rfl)) dX10_rule_10 ⟨(Nat.le_of_ble_eq_true rfl), (Nat.le_of_ble_eq_true rfl)⟩) hS (fun q _ h => hFc q h) hFc (fun r_37 u t H locs ht hvm hw hB hz1 hk1 hS => ?_)
    obtain ⟨xr_40, w_38, o_39, hP1, hD1⟩ := hB
    rw [ht] at hP1
    obtain ⟨hP, hD⟩ := bk_join hpm hP hD hk1 hFc (Cs1 := [[(h0, .inr (8, [.ref (r0 0), .int tp_30, .ref pl0, .ref sp0, .ref rd0, .ref (r0 1), .int mv_34, .ref fi0, .ref se0, .ref fa0, .ref cr0, .ref ra0, .ref pa0, .int nw0])), (r0 0, .inl (cB, 1600, .inl f_29)), (r0 1, .inl (cI, 6, .inl f_33))], w1, w_38]) hP1 hD1
    have hpm2 : List.Perm (([[(h0, .inr (8, [.ref (r0 0), .int tp_30, .ref pl0, .ref sp0, .ref rd0, .ref (r0 1), .int mv_34, .ref fi0, .ref se0, .ref fa0, .ref cr0, .ref ra0, .ref pa0, .int nw0])), (r0 0, .inl (cB, 1600, .inl f_29)), (r0 1, .inl (cI, 6, .inl f_33))], w1, w_38] : List va_W) ++ ([] : List va_W)) ([[(h0, .inr (8, [.ref (r0 0), .int tp_30, .ref pl0, .ref sp0, .ref rd0, .ref (r0 1), .int mv_34, .ref fi0, .ref se0, .ref fa0, .ref cr0, .ref ra0, .ref pa0, .int nw0])), (r0 0, .inl (cB, 1600, .inl f_29)), (r0 1, .inl (cI, 6, .inl f_33))], w1, w_38] : List va_W) := pm_n 3 [0, 1, 2] (by decide) rfl rfl
    have hP := bk_reP hpm2 hP
    have hD := bk_reD hpm2 hD
    have hP : va_P (dC, dI) vwCl (List.flatten [[(h0, .inr (8, [.ref (r0 0), .int tp_30, .ref pl0, .ref sp0, .ref rd0, .ref (r0 1), .int mv_34, .ref fi0, .ref se0, .ref fa0, .ref cr0, .ref ra0, .ref pa0, .int nw0])), (r0 0, .inl (cB, 1600, .inl f_29)), (r0 1, .inl (cI, 6, .inl f_33))], w1, w_38]) H := hP
    have hD : va_D A (List.flatten [[(h0, .inr (8, [.ref (r0 0), .int tp_30, .ref pl0, .ref sp0, .ref rd0, .ref (r0 1), .int mv_34, .ref fi0, .ref se0, .ref fa0, .ref cr0, .ref ra0, .ref pa0, .int nw0])), (r0 0, .inl (cB, 1600, .inl f_29)), (r0 1, .inl (cI, 6, .inl f_33))], w1, w_38]) := hD
    obtain ⟨hlr_37, hhr_37⟩ := hw
    refine lv_istore_n (lv' := [(2, .int r_37), (0, .ref h0), (1, .int p1)]) hx hb dX10_rule_13 rfl hl (by decide) rfl (fun ls hl => ?_)
    refine lv_iload_n hx hb dX10_rule_14 rfl (lv_at hl 2 rfl) ?_
    refine lv_if_ne (tgt := 20) hx hb dX10_rule_15 (by decide) (fun c_41 => ?_) (fun c_41 => False.elim (by have c_41 := f_eq rfl tI_0 c_41; omega))
    have c_41 : ¬ p1.toInt = 0 := f_ne rfl tI_0 c_41
    refine lv_iconst (v := 0) hx hb dX10_rule_20 (by decide) ?_
    refine lv_istore_n (lv' := [(3, .int 0), (2, .int r_37), (0, .ref h0), (1, .int p1)]) hx hb dX10_rule_21 rfl hl (by decide) rfl (fun ls hl => ?_)
    refine lv_iconst (v := 0) hx hb dX10_rule_22 (by decide) ?_
    refine lv_istore (lv' := [(4, .int 0), (3, .int 0), (2, .int r_37), (0, .ref h0), (1, .int p1)]) hx hb dX10_rule_23 hl (by decide) rfl (fun ls hl => ?_)
    obtain ⟨f_67, f_68, f_69, f_70, f_73, f_75, f_76, f_78, f_80, rfl, hl_65, hh_66, hl_71, hh_72, hr_74, hr_77, hr_79⟩ := o1
    have lp_139 : ∀ (n : Nat) (g_42 : Int32) (g_43 : Int32), 0 ≤ g_42.toInt → g_42.toInt ≤ 4 → g_42.toInt - dc1.toInt ≤ 0 → (4 - g_42.toInt).toNat < n → ∀ (H : Heap) (locs : List Loc), va_P (dC, dI) vwCl (List.flatten [[(h0, .inr (8, [.ref (r0 0), .int tp_30, .ref pl0, .ref sp0, .ref rd0, .ref (r0 1), .int mv_34, .ref fi0, .ref se0, .ref fa0, .ref cr0, .ref ra0, .ref pa0, .int nw0])), (r0 0, .inl (cB, 1600, .inl f_29)), (r0 1, .inl (cI, 6, .inl f_33))], [(pl0, .inr (5, [.int fc1, .ref (r1 0), .ref (r1 1), .ref (r1 2), .ref (r1 3), .int dc1, .ref (r1 4), .ref (r1 5), .ref (r1 6), .ref (r1 7), .ref (r1 8), .ref (r1 9)])), (r1 0, .inl (cJ, 6, .inr (.inl f_67))), (r1 1, .inl (cI, 6, .inl f_68)), (r1 2, .inl (cI, 6, .inl f_69)), (r1 3, .inl (cI, 6, .inl f_70)), (r1 4, .inl (cJ, 4, .inr (.inl f_73))), (r1 5, .inl (cI, 4, .inl rk1)), (r1 6, .inl (cJ, 40, .inr (.inl f_75))), (r1 7, .inl (cI, 40, .inl f_76)), (r1 8, .inl (cI, 40, .inl f_78)), (r1 9, .inl (cI, 40, .inl f_80))], w_38]) H → va_D A (List.flatten [[(h0, .inr (8, [.ref (r0 0), .int tp_30, .ref pl0, .ref sp0, .ref rd0, .ref (r0 1), .int mv_34, .ref fi0, .ref se0, .ref fa0, .ref cr0, .ref ra0, .ref pa0, .int nw0])), (r0 0, .inl (cB, 1600, .inl f_29)), (r0 1, .inl (cI, 6, .inl f_33))], [(pl0, .inr (5, [.int fc1, .ref (r1 0), .ref (r1 1), .ref (r1 2), .ref (r1 3), .int dc1, .ref (r1 4), .ref (r1 5), .ref (r1 6), .ref (r1 7), .ref (r1 8), .ref (r1 9)])), (r1 0, .inl (cJ, 6, .inr (.inl f_67))), (r1 1, .inl (cI, 6, .inl f_68)), (r1 2, .inl (cI, 6, .inl f_69)), (r1 3, .inl (cI, 6, .inl f_70)), (r1 4, .inl (cJ, 4, .inr (.inl f_73))), (r1 5, .inl (cI, 4, .inl rk1)), (r1 6, .inl (cJ, 40, .inr (.inl f_75))), (r1 7, .inl (cI, 40, .inl f_76)), (r1 8, .inl (cI, 40, .inl f_78)), (r1 9, .inl (cI, 40, .inl f_80))], w_38]) → va_S A s.heap H locs → ∀ (ls : Array Slot), lv_has ls 5 [(4, .int g_42), (3, .int g_43), (2, .int r_37), (0, .ref h0), (1, .int p1)] → W p l e (headSpec wsX10_rule ({ frames := 6, cells := 0, slots := 0, locals := 131 } : Room)).room s m ([.ref h0, .int p1] : List Value).toArray below meth c H locs 0 0 Q0 (F0 m 25 ls []) := by
      intro n
      induction n with
      | zero => intro g_42 g_43 iv_136 iv_137 iv_138 hm; exact absurd hm (Nat.not_lt_zero _)
      | succ n ih_140 =>
        intro g_42 g_43 iv_136 iv_137 iv_138 hm H locs hP hD hS ls hl
        refine lv_iload hx hb dX10_rule_25 (lv_at hl 0 rfl) ?_
        refine lv_aload_n hx hb dX10_rule_27 rfl (lv_at hl 3 rfl) ?_
        refine va_get (D := (dC, dI)) (ci := 8) (v := .ref pl0) (C := RX10) (T := TX10) (N := 14) hx hb hts iw_X10_rule_X10 hown hK hP 0 rfl rfl 2 (by decide) (hts (.fieldLink RX10 20 "HungFloors" "plan" "LHungFloors$Plan;") (by decide +kernel)) (fun _ h9 => h9) rfl dX10_rule_28 ?_
        refine va_get (D := (dC, dI)) (ci := 5) (v := .int dc1) (C := RX7) (T := TX7) (N := 12) hx hb hts iw_X10_rule_X7 hown hK hP 3 rfl rfl 5 (by decide) (hts (.fieldLink RX10 93 "HungFloors$Plan" "drawingCount" "I") (by decide +kernel)) (fun _ h9 => h9) rfl dX10_rule_31 ?_
        refine lv_icmp_ge (tgt := 59) hx hb dX10_rule_34 (by decide) (fun c_141 => ?_) (fun c_141 => ?_)
        · have c_141 : dc1.toInt ≤ g_42.toInt := f_le rfl rfl c_141
          refine lv_iload_n hx hb dX10_rule_59 rfl (lv_at hl 1 rfl) ?_
          rw [hQ0]
          exact W.iret (v := g_43) hx hb hr (fun t ht hW => ⟨⟨g_43, (), rfl, trivial, ⟨xr_40, _, o_39, by rw [ht]; exact hP, hD⟩⟩, hS.F ht⟩) hS.2.2 dX10_rule_60
        · have c_141 : g_42.toInt < dc1.toInt := f_nle rfl rfl c_141
          refine lv_iload_n hx hb dX10_rule_37 rfl (lv_at hl 1 rfl) ?_
          refine lv_iload_n hx hb dX10_rule_38 rfl (lv_at hl 2 rfl) ?_
          refine lv_aload_n hx hb dX10_rule_39 rfl (lv_at hl 3 rfl) ?_
          refine va_get (D := (dC, dI)) (ci := 8) (v := .ref pl0) (C := RX10) (T := TX10) (N := 14) hx hb hts iw_X10_rule_X10 hown hK hP 0 rfl rfl 2 (by decide) (hts (.fieldLink RX10 20 "HungFloors" "plan" "LHungFloors$Plan;") (by decide +kernel)) (fun _ h9 => h9) rfl dX10_rule_40 ?_
          refine lv_iload hx hb dX10_rule_43 (lv_at hl 0 rfl) ?_
          have hpm : List.Perm ([[(h0, .inr (8, [.ref (r0 0), .int tp_30, .ref pl0, .ref sp0, .ref rd0, .ref (r0 1), .int mv_34, .ref fi0, .ref se0, .ref fa0, .ref cr0, .ref ra0, .ref pa0, .int nw0])), (r0 0, .inl (cB, 1600, .inl f_29)), (r0 1, .inl (cI, 6, .inl f_33))], [(pl0, .inr (5, [.int fc1, .ref (r1 0), .ref (r1 1), .ref (r1 2), .ref (r1 3), .int dc1, .ref (r1 4), .ref (r1 5), .ref (r1 6), .ref (r1 7), .ref (r1 8), .ref (r1 9)])), (r1 0, .inl (cJ, 6, .inr (.inl f_67))), (r1 1, .inl (cI, 6, .inl f_68)), (r1 2, .inl (cI, 6, .inl f_69)), (r1 3, .inl (cI, 6, .inl f_70)), (r1 4, .inl (cJ, 4, .inr (.inl f_73))), (r1 5, .inl (cI, 4, .inl rk1)), (r1 6, .inl (cJ, 40, .inr (.inl f_75))), (r1 7, .inl (cI, 40, .inl f_76)), (r1 8, .inl (cI, 40, .inl f_78)), (r1 9, .inl (cI, 40, .inl f_80))], w_38] : List va_W) (([[(pl0, .inr (5, [.int fc1, .ref (r1 0), .ref (r1 1), .ref (r1 2), .ref (r1 3), .int dc1, .ref (r1 4), .ref (r1 5), .ref (r1 6), .ref (r1 7), .ref (r1 8), .ref (r1 9)])), (r1 0, .inl (cJ, 6, .inr (.inl f_67))), (r1 1, .inl (cI, 6, .inl f_68)), (r1 2, .inl (cI, 6, .inl f_69)), (r1 3, .inl (cI, 6, .inl f_70)), (r1 4, .inl (cJ, 4, .inr (.inl f_73))), (r1 5, .inl (cI, 4, .inl rk1)), (r1 6, .inl (cJ, 40, .inr (.inl f_75))), (r1 7, .inl (cI, 40, .inl f_76)), (r1 8, .inl (cI, 40, .inl f_78)), (r1 9, .inl (cI, 40, .inl f_80))]] : List va_W) ++ ([[(h0, .inr (8, [.ref (r0 0), .int tp_30, .ref pl0, .ref sp0, .ref rd0, .ref (r0 1), .int mv_34, .ref fi0, .ref se0, .ref fa0, .ref cr0, .ref ra0, .ref pa0, .int nw0])), (r0 0, .inl (cB, 1600, .inl f_29)), (r0 1, .inl (cI, 6, .inl f_33))], w_38] : List va_W)) := pm_n 3 [1, 0, 2] (by decide) rfl rfl
          have hPc := bk_P hpm hP
          have hDc := bk_D hpm hD
          have hFc := bk_F hpm hD hS hA
          refine va_calli (va_runV (As := [.int g_42]) (rest := [.int r_37, .int g_43]) ⟨hx, hb, hml, hown, hts⟩ (c_X7_jointsOf l dC dI ad tN fN cB cI cJ cZ pl0 g_42 r1 fc1 dc1 rk1 _ ⟨f_67, f_68, f_69, f_70, f_73, f_75, f_76, f_78, f_80, rfl, by omega, by omega, by omega, by omega, hr_74, hr_77, hr_79⟩ H.size) (cwV 1 hts gX10_rule_X7_jointsOf rfl rfl rfl (by decide +kernel) ⟨(Nat.le_of_ble_eq_true rfl), (Nat.le_of_ble_eq_true rfl)⟩) ⟨fun a U g mk q => by obtain ⟨q0, q1, qP, qK, qD, qE⟩ := q; exact ⟨q0, q1, qP, va_K.moved (u := U) (U := U.calling g mk a) (Vm.Alike.refl U.vm) qK, qD, ey_blind qE⟩, va_recv hK hPc (ci := 5) (q0 := 0) rfl rfl, fun U hU hW => ⟨rfl, by rw [hU], by rw [hU]; exact hPc, va_K.moved hW.alike (va_K.sub hK [0, 1, 2, 3] rfl), hDc.weaken (fun _ _ _ _ => trivial), ey_call hE hS hFc hU hW⟩⟩ rfl rfl hl.1 rfl (lv_room (Nat.le_of_ble_eq_true rfl)) dX10_rule_45 ⟨(Nat.le_of_ble_eq_true rfl), (Nat.le_of_ble_eq_true rfl)⟩) hS (fun q _ h => hFc q h) hFc (fun r_142 u t H locs ht hvm hw hB hz1 hk1 hS => ?_)
          obtain ⟨hP1, hD1⟩ := hB
          rw [ht] at hP1
          obtain ⟨hP, hD⟩ := bk_join hpm hP hD hk1 hFc (Cs1 := [[(pl0, .inr (5, [.int fc1, .ref (r1 0), .ref (r1 1), .ref (r1 2), .ref (r1 3), .int dc1, .ref (r1 4), .ref (r1 5), .ref (r1 6), .ref (r1 7), .ref (r1 8), .ref (r1 9)])), (r1 0, .inl (cJ, 6, .inr (.inl f_67))), (r1 1, .inl (cI, 6, .inl f_68)), (r1 2, .inl (cI, 6, .inl f_69)), (r1 3, .inl (cI, 6, .inl f_70)), (r1 4, .inl (cJ, 4, .inr (.inl f_73))), (r1 5, .inl (cI, 4, .inl rk1)), (r1 6, .inl (cJ, 40, .inr (.inl f_75))), (r1 7, .inl (cI, 40, .inl f_76)), (r1 8, .inl (cI, 40, .inl f_78)), (r1 9, .inl (cI, 40, .inl f_80))]]) hP1 hD1
          have hpm2 : List.Perm (([[(pl0, .inr (5, [.int fc1, .ref (r1 0), .ref (r1 1), .ref (r1 2), .ref (r1 3), .int dc1, .ref (r1 4), .ref (r1 5), .ref (r1 6), .ref (r1 7), .ref (r1 8), .ref (r1 9)])), (r1 0, .inl (cJ, 6, .inr (.inl f_67))), (r1 1, .inl (cI, 6, .inl f_68)), (r1 2, .inl (cI, 6, .inl f_69)), (r1 3, .inl (cI, 6, .inl f_70)), (r1 4, .inl (cJ, 4, .inr (.inl f_73))), (r1 5, .inl (cI, 4, .inl rk1)), (r1 6, .inl (cJ, 40, .inr (.inl f_75))), (r1 7, .inl (cI, 40, .inl f_76)), (r1 8, .inl (cI, 40, .inl f_78)), (r1 9, .inl (cI, 40, .inl f_80))]] : List va_W) ++ ([[(h0, .inr (8, [.ref (r0 0), .int tp_30, .ref pl0, .ref sp0, .ref rd0, .ref (r0 1), .int mv_34, .ref fi0, .ref se0, .ref fa0, .ref cr0, .ref ra0, .ref pa0, .int nw0])), (r0 0, .inl (cB, 1600, .inl f_29)), (r0 1, .inl (cI, 6, .inl f_33))], w_38] : List va_W)) ([[(h0, .inr (8, [.ref (r0 0), .int tp_30, .ref pl0, .ref sp0, .ref rd0, .ref (r0 1), .int mv_34, .ref fi0, .ref se0, .ref fa0, .ref cr0, .ref ra0, .ref pa0, .int nw0])), (r0 0, .inl (cB, 1600, .inl f_29)), (r0 1, .inl (cI, 6, .inl f_33))], [(pl0, .inr (5, [.int fc1, .ref (r1 0), .ref (r1 1), .ref (r1 2), .ref (r1 3), .int dc1, .ref (r1 4), .ref (r1 5), .ref (r1 6), .ref (r1 7), .ref (r1 8), .ref (r1 9)])), (r1 0, .inl (cJ, 6, .inr (.inl f_67))), (r1 1, .inl (cI, 6, .inl f_68)), (r1 2, .inl (cI, 6, .inl f_69)), (r1 3, .inl (cI, 6, .inl f_70)), (r1 4, .inl (cJ, 4, .inr (.inl f_73))), (r1 5, .inl (cI, 4, .inl rk1)), (r1 6, .inl (cJ, 40, .inr (.inl f_75))), (r1 7, .inl (cI, 40, .inl f_76)), (r1 8, .inl (cI, 40, .inl f_78)), (r1 9, .inl (cI, 40, .inl f_80))], w_38] : List va_W) := pm_n 3 [1, 0, 2] (by decide) rfl rfl
          have hP := bk_reP hpm2 hP
          have hD := bk_reD hpm2 hD
          have hP : va_P (dC, dI) vwCl (List.flatten [[(h0, .inr (8, [.ref (r0 0), .int tp_30, .ref pl0, .ref sp0, .ref rd0, .ref (r0 1), .int mv_34, .ref fi0, .ref se0, .ref fa0, .ref cr0, .ref ra0, .ref pa0, .int nw0])), (r0 0, .inl (cB, 1600, .inl f_29)), (r0 1, .inl (cI, 6, .inl f_33))], [(pl0, .inr (5, [.int fc1, .ref (r1 0), .ref (r1 1), .ref (r1 2), .ref (r1 3), .int dc1, .ref (r1 4), .ref (r1 5), .ref (r1 6), .ref (r1 7), .ref (r1 8), .ref (r1 9)])), (r1 0, .inl (cJ, 6, .inr (.inl f_67))), (r1 1, .inl (cI, 6, .inl f_68)), (r1 2, .inl (cI, 6, .inl f_69)), (r1 3, .inl (cI, 6, .inl f_70)), (r1 4, .inl (cJ, 4, .inr (.inl f_73))), (r1 5, .inl (cI, 4, .inl rk1)), (r1 6, .inl (cJ, 40, .inr (.inl f_75))), (r1 7, .inl (cI, 40, .inl f_76)), (r1 8, .inl (cI, 40, .inl f_78)), (r1 9, .inl (cI, 40, .inl f_80))], w_38]) H := hP
          have hD : va_D A (List.flatten [[(h0, .inr (8, [.ref (r0 0), .int tp_30, .ref pl0, .ref sp0, .ref rd0, .ref (r0 1), .int mv_34, .ref fi0, .ref se0, .ref fa0, .ref cr0, .ref ra0, .ref pa0, .int nw0])), (r0 0, .inl (cB, 1600, .inl f_29)), (r0 1, .inl (cI, 6, .inl f_33))], [(pl0, .inr (5, [.int fc1, .ref (r1 0), .ref (r1 1), .ref (r1 2), .ref (r1 3), .int dc1, .ref (r1 4), .ref (r1 5), .ref (r1 6), .ref (r1 7), .ref (r1 8), .ref (r1 9)])), (r1 0, .inl (cJ, 6, .inr (.inl f_67))), (r1 1, .inl (cI, 6, .inl f_68)), (r1 2, .inl (cI, 6, .inl f_69)), (r1 3, .inl (cI, 6, .inl f_70)), (r1 4, .inl (cJ, 4, .inr (.inl f_73))), (r1 5, .inl (cI, 4, .inl rk1)), (r1 6, .inl (cJ, 40, .inr (.inl f_75))), (r1 7, .inl (cI, 40, .inl f_76)), (r1 8, .inl (cI, 40, .inl f_78)), (r1 9, .inl (cI, 40, .inl f_80))], w_38]) := hD
          obtain ⟨hlr_142, hhr_142⟩ := hw
          refine va_mmin hx hb (by rw [hml]; exact hl.1.symm) hown (hts (.methodLink RX10 234 Lib.Math.min.name) (by decide +kernel)) (hts (.static Lib.Math.min.name) (by decide +kernel)) (hts (.initialized "java/lang/Math") (by decide +kernel)) (hts (.code Lib.Math.min.name Lib.Math.min.code 2 (some .int)) (List.mem_of_getElem? (i := 6) rfl)) (Nat.le_of_ble_eq_true rfl) (Nat.le_of_ble_eq_true rfl) (Nat.le_of_ble_eq_true rfl) (Nat.le_of_ble_eq_true rfl) dX10_rule_48 ?_
          refine lv_topi (fun z_143 ez_143 => ?_)
          have hz_143 := m_min rfl rfl ez_143
          refine lv_iadd hx hb dX10_rule_51 ?_
          refine lv_topi (fun z_144 ez_144 => ?_)
          refine lv_istore_n (lv' := [(3, .int z_144), (4, .int g_42), (2, .int r_37), (0, .ref h0), (1, .int p1)]) hx hb dX10_rule_52 rfl hl (by decide) rfl (fun ls hl => ?_)
          obtain ⟨z_145, ez_145⟩ : ∃ y : Int32, y = g_42 + 1 := ⟨_, rfl⟩
          have hz_145 : z_145.toInt = g_42.toInt + 1 := by rw [ez_145]; exact t_add rfl tI_1 (by omega) (by omega)
          refine lv_iinc (v := z_145) (lv' := [(4, .int z_145), (3, .int z_144), (2, .int r_37), (0, .ref h0), (1, .int p1)]) hx hb dX10_rule_53 hl (k := 1) rfl (by rw [ez_145]; rfl) (by decide) rfl (fun ls hl => ?_)
          refine lv_goto (tgt := 25) hx hb dX10_rule_56 (by decide) ?_
          exact ih_140 z_145 z_144 (by omega) (by omega) (by omega) (by omega) _ _ hP hD hS ls (lv_sub hl [0, 1, 2, 3, 4] rfl)
    exact lp_139 _ 0 0 (by have := tI_0; omega) (by have := tI_0; omega) (by have := tI_0; omega) (Nat.lt_succ_self _) _ _ hP hD hS ls (lv_sub hl [0, 1, 2, 3, 4] rfl)
theorem okx_fall {ad : Nat → Nat} {cB cI cJ cZ : ClassId} {a : Nat} {r : Nat → Nat} {wc : Int32} {w : va_W} (h : ok_fall ad cB cI cJ cZ a r wc w) : 0 ≤ wc.toInt ∧ wc.toInt ≤ 70 := by
  obtain ⟨_, _, _, h0, h1⟩ := h
  exact ⟨h0, h1⟩
theorem iw_X10_fall_X1 : ∀ w ∈ wsX10, w ∈ wsX10_fall := fun _ h => List.mem_cons_of_mem _ (List.mem_append_left _ (List.mem_append_left _ (List.mem_append_right _ h)))
theorem iw_X10_fall_X10 : ∀ w ∈ wsX100, w ∈ wsX10_fall := fun _ h => List.mem_cons_of_mem _ (List.mem_append_left _ (List.mem_append_left _ (List.mem_append_left _ (List.mem_append_right _ h))))
set_option maxHeartbeats 4000000 in
set_option maxRecDepth 100000 in
theorem c_X10_fall (l : Launch) (dC : Nat → ClassId) (dI : Nat → Nat → Nat) (ad : Nat → Nat) (tN : Nat) (fN : Nat → Int64) (cB cI cJ cZ cQ : ClassId) (h0 : Nat) (p1 : Int32) (p2 : Int32) (r0 : Nat → Nat) (pl0 : Nat) (sp0 : Nat) (rd0 : Nat) (fi0 : Nat) (se0 : Nat) (fa0 : Nat) (cr0 : Nat) (ra0 : Nat) (pa0 : Nat) (nw0 : Int32) (w0 : va_W) (r1 : Nat → Nat) (fc1 : Int32) (dc1 : Int32) (rk1 : Nat → Int32) (w1 : va_W) (r2 : Nat → Nat) (pl2 : Nat) (w2 : va_W) (r3 : Nat → Nat) (wc3 : Int32) (w3 : va_W) (o0 : ok_main ad cB cI cJ cZ h0 r0 pl0 sp0 rd0 fi0 se0 fa0 cr0 ra0 pa0 nw0 w0) (o1 : ok_plan ad cB cI cJ cZ pl0 r1 fc1 dc1 rk1 w1) (o2 : ok_frame ad cB cI cJ cZ fi0 r2 pl2 w2) (o3 : ok_fall ad cB cI cJ cZ fa0 r3 wc3 w3) (sz : Nat) : Met l yX10_fall wsX10_fall ({ frames := 5, cells := 0, slots := 0, locals := 111 } : Room) (va_Pc [.ref h0, .int p1, .int p2] (fun U => U.heap.size = sz ∧ va_P (dC, dI) vwCl (List.flatten [w0, w1, w2, w3]) U.heap ∧ va_K (dC, dI) vwCl [(cB, .byte), (cI, .int), (cJ, .long), (cZ, .boolean), (cQ, .array .long)] U ∧ va_D (fun _ => True) (List.flatten [w0, w1, w2, w3]) ∧ ex_Y ad tN fN (va_A (List.flatten [w0, w1, w2, w3]) sz) U)) (va_Qi (fun (r : Int32) (_ : Unit) => True) (fun (_ : Unit) (t : State) => ∃ (pl29 : Nat) (w29 : va_W) (wc39 : Int32) (w39 : va_W), ((pl29 = pl2) ∨ (pl29 = pl0)) ∧ ok_frame ad cB cI cJ cZ fi0 r2 pl29 w29 ∧ ok_fall ad cB cI cJ cZ fa0 r3 wc39 w39 ∧ va_P (dC, dI) vwCl (List.flatten [w0, w1, w29, w39]) t.heap ∧ va_D (va_A (List.flatten [w0, w1, w2, w3]) sz) (List.flatten [w0, w1, w29, w39])) (va_A (List.flatten [w0, w1, w2, w3]) sz)) 0 0 (va_A (List.flatten [w0, w1, w2, w3]) sz) := by
  refine Met.ofW (cc := cX10_fall) (maxL := 3) (ret := (some .int)) (by decide) rfl ?_
  intro p e s m args below meth c s₁ B hml hv
  obtain ⟨rfl, hsz, hP, hK, hD0, hE⟩ := hv
  have hx := B.exec
  have hb := B.bytes
  have hr := B.returns
  have hts := atoms_spec (ws := wsX10_fall) B.pre
  have hown : s.vm.findClass RX10 = some m.cls := findClass_of_methodNamed B.named
  have hlocks := B.notSynchronized
  subst hsz
  have hD := hD0.self (sz := s.heap.size)
  generalize hAe : va_A (List.flatten [w0, w1, w2, w3]) s.heap.size = A at hD hE ⊢
  have hA : ∀ q : Nat, s.heap.size ≤ q → A q := fun q h => by rw [← hAe]; exact Or.inr h
  have hS : va_S A s.heap s.heap [] := va_S.rf
  have hl := lv_entry ([.ref h0, .int p1, .int p2]) (n := 3) (Nat.le_of_ble_eq_true rfl)
  rw [lg_entry_eq]
  generalize (lg_sl ([.ref h0, .int p1, .int p2]) ++ List.replicate (3 - (lg_sl ([.ref h0, .int p1, .int p2])).length) Slot.unset).toArray = ls at hl ⊢
  have hl : lv_has ls 3 [(0, .ref h0), (1, .int p1), (2, .int p2)] := hl
  clear hAe
  refine W_name (fun Q0 hQ0 => ?_)
  obtain ⟨hx_1, hx_2⟩ := okx_main o0
  obtain ⟨hx_3, hx_4, hx_5, hx_6⟩ := okx_plan o1
  obtain ⟨hx_7, hx_8⟩ := okx_fall o3
  refine lv_aload_n hx hb dX10_fall_0 rfl (lv_at hl 0 rfl) ?_
  refine lv_iload_n hx hb dX10_fall_1 rfl (lv_at hl 1 rfl) ?_
  obtain ⟨f_9, tp_10, f_13, mv_14, rfl, hl_11, hh_12, hl_15, hh_16⟩ := o0
  have hpm : List.Perm ([[(h0, .inr (8, [.ref (r0 0), .int tp_10, .ref pl0, .ref sp0, .ref rd0, .ref (r0 1), .int mv_14, .ref fi0, .ref se0, .ref fa0, .ref cr0, .ref ra0, .ref pa0, .int nw0])), (r0 0, .inl (cB, 1600, .inl f_9)), (r0 1, .inl (cI, 6, .inl f_13))], w1, w2, w3] : List va_W) (([[(h0, .inr (8, [.ref (r0 0), .int tp_10, .ref pl0, .ref sp0, .ref rd0, .ref (r0 1), .int mv_14, .ref fi0, .ref se0, .ref fa0, .ref cr0, .ref ra0, .ref pa0, .int nw0])), (r0 0, .inl (cB, 1600, .inl f_9)), (r0 1, .inl (cI, 6, .inl f_13))], w1] : List va_W) ++ ([w2, w3] : List va_W)) := pm_n 4 [0, 1, 2, 3] (by decide) rfl rfl
  have hPc := bk_P hpm hP
  have hDc := bk_D hpm hD
  have hFc := bk_F hpm hD hS hA
  refine va_calli (va_runV (As := [.int p1]) (rest := []) ⟨hx, hb, hml, hown, hts⟩ (c_X10_isDrawing l dC dI ad tN fN cB cI cJ cZ cQ h0 p1 r0 pl0 sp0 rd0 fi0 se0 fa0 cr0 ra0 pa0 nw0 _ r1 fc1 dc1 rk1 _ ⟨f_9, tp_10, f_13, mv_14, rfl, by omega, by omega, by omega, by omega⟩ o1 s.heap.size) (cwV 1 hts gX10_fall_X10_isDrawing rfl rfl rfl (by decide +kernel) ⟨(Nat.le_of_ble_eq_true rfl), (Nat.le_of_ble_eq_true rfl)⟩) ⟨fun a U g mk q => by obtain ⟨q0, q1, qP, qK, qD, qE⟩ := q; exact ⟨q0, q1, qP, va_K.moved (u := U) (U := U.calling g mk a) (Vm.Alike.refl U.vm) qK, qD, ey_blind qE⟩, va_recv hK hPc (ci := 8) (q0 := 0) rfl rfl, fun U hU hW => ⟨rfl, by rw [hU], by rw [hU]; exact hPc, va_K.moved hW.alike hK, hDc.weaken (fun _ _ _ _ => trivial), ey_call hE hS hFc hU hW⟩⟩ rfl rfl hl.1 rfl (lv_room (Nat.le_of_ble_eq_true rfl)) dX10_fall_2 ⟨(Nat.le_of_ble_eq_true rfl), (Nat.le_of_ble_eq_true rfl)⟩) hS (fun q _ h => hFc q h) hFc (fun r_17 u t H locs ht hvm hw hB hz1 hk1 hS => ?_)
  obtain ⟨hP1, hD1⟩ := hB
  rw [ht] at hP1
  obtain ⟨hP, hD⟩ := bk_join hpm hP hD hk1 hFc (Cs1 := [[(h0, .inr (8, [.ref (r0 0), .int tp_10, .ref pl0, .ref sp0, .ref rd0, .ref (r0 1), .int mv_14, .ref fi0, .ref se0, .ref fa0, .ref cr0, .ref ra0, .ref pa0, .int nw0])), (r0 0, .inl (cB, 1600, .inl f_9)), (r0 1, .inl (cI, 6, .inl f_13))], w1]) hP1 hD1
  have hpm2 : List.Perm (([[(h0, .inr (8, [.ref (r0 0), .int tp_10, .ref pl0, .ref sp0, .ref rd0, .ref (r0 1), .int mv_14, .ref fi0, .ref se0, .ref fa0, .ref cr0, .ref ra0, .ref pa0, .int nw0])), (r0 0, .inl (cB, 1600, .inl f_9)), (r0 1, .inl (cI, 6, .inl f_13))], w1] : List va_W) ++ ([w2, w3] : List va_W)) ([[(h0, .inr (8, [.ref (r0 0), .int tp_10, .ref pl0, .ref sp0, .ref rd0, .ref (r0 1), .int mv_14, .ref fi0, .ref se0, .ref fa0, .ref cr0, .ref ra0, .ref pa0, .int nw0])), (r0 0, .inl (cB, 1600, .inl f_9)), (r0 1, .inl (cI, 6, .inl f_13))], w1, w2, w3] : List va_W) := pm_n 4 [0, 1, 2, 3] (by decide) rfl rfl
  have hP := bk_reP hpm2 hP
  have hD := bk_reD hpm2 hD
  have hP : va_P (dC, dI) vwCl (List.flatten [[(h0, .inr (8, [.ref (r0 0), .int tp_10, .ref pl0, .ref sp0, .ref rd0, .ref (r0 1), .int mv_14, .ref fi0, .ref se0, .ref fa0, .ref cr0, .ref ra0, .ref pa0, .int nw0])), (r0 0, .inl (cB, 1600, .inl f_9)), (r0 1, .inl (cI, 6, .inl f_13))], w1, w2, w3]) H := hP
  have hD : va_D A (List.flatten [[(h0, .inr (8, [.ref (r0 0), .int tp_10, .ref pl0, .ref sp0, .ref rd0, .ref (r0 1), .int mv_14, .ref fi0, .ref se0, .ref fa0, .ref cr0, .ref ra0, .ref pa0, .int nw0])), (r0 0, .inl (cB, 1600, .inl f_9)), (r0 1, .inl (cI, 6, .inl f_13))], w1, w2, w3]) := hD
  rcases hw with ⟨rfl, c_18, c_19⟩ | ⟨rfl, c_20, c_21, c_22⟩ | ⟨rfl, c_23, c_24, c_25, c_26⟩
  · refine lv_if_eq (tgt := 15) hx hb dX10_fall_5 (by decide) (fun c_27 => ?_) (fun c_27 => absurd c_27 (by decide))
    refine lv_iconst (v := (-1)) hx hb dX10_fall_15 (by decide) ?_
    rw [hQ0]
    exact W.iret (v := (-1)) hx hb hr (fun t ht hW => ⟨⟨(-1), (), rfl, trivial, ⟨pl2, _, wc3, _, Or.inl rfl, o2, o3, by rw [ht]; exact hP, hD⟩⟩, hS.F ht⟩) hS.2.2 dX10_fall_16
  · refine lv_if_eq (tgt := 15) hx hb dX10_fall_5 (by decide) (fun c_28 => ?_) (fun c_28 => absurd c_28 (by decide))
    refine lv_iconst (v := (-1)) hx hb dX10_fall_15 (by decide) ?_
    rw [hQ0]
    exact W.iret (v := (-1)) hx hb hr (fun t ht hW => ⟨⟨(-1), (), rfl, trivial, ⟨pl2, _, wc3, _, Or.inl rfl, o2, o3, by rw [ht]; exact hP, hD⟩⟩, hS.F ht⟩) hS.2.2 dX10_fall_16
  · refine lv_if_eq (tgt := 15) hx hb dX10_fall_5 (by decide) (fun c_29 => absurd c_29 (by decide)) (fun c_29 => ?_)
    refine lv_iload_n hx hb dX10_fall_8 rfl (lv_at hl 2 rfl) ?_
    have hpm : List.Perm ([[(h0, .inr (8, [.ref (r0 0), .int tp_10, .ref pl0, .ref sp0, .ref rd0, .ref (r0 1), .int mv_14, .ref fi0, .ref se0, .ref fa0, .ref cr0, .ref ra0, .ref pa0, .int nw0])), (r0 0, .inl (cB, 1600, .inl f_9)), (r0 1, .inl (cI, 6, .inl f_13))], w1, w2, w3] : List va_W) (([] : List va_W) ++ ([[(h0, .inr (8, [.ref (r0 0), .int tp_10, .ref pl0, .ref sp0, .ref rd0, .ref (r0 1), .int mv_14, .ref fi0, .ref se0, .ref fa0, .ref cr0, .ref ra0, .ref pa0, .int nw0])), (r0 0, .inl (cB, 1600, .inl f_9)), (r0 1, .inl (cI, 6, .inl f_13))], w1, w2, w3] : List va_W)) := pm_n 4 [0, 1, 2, 3] (by decide) rfl rfl
    have hPc := bk_P hpm hP
    have hDc := bk_D hpm hD
    have hFc := bk_F hpm hD hS hA
    refine va_calli (va_runS (As := [.int p2]) (rest := []) ⟨hx, hb, hml, hown, hts⟩ (c_X10_isPart l dC dI ad tN fN cB cI cJ cZ p2 H.size) (va_cwS 1 hts gX10_fall_X10_isPart rfl rfl rfl (by decide +kernel) ⟨(Nat.le_of_ble_eq_true rfl), (Nat.le_of_ble_eq_true rfl)⟩) ⟨fun a U g mk q => by obtain ⟨q0, q1, qP, qK, qD, qE⟩ := q; exact ⟨q0, q1, qP, va_K.moved (u := U) (U := U.calling g mk a) (Vm.Alike.refl U.vm) qK, qD, ey_blind qE⟩, fun U hU hW => ⟨rfl, by rw [hU], by rw [hU]; exact hPc, va_K.moved hW.alike (va_K.sub hK [0, 1, 2, 3] rfl), hDc.weaken (fun _ _ _ _ => trivial), ey_call hE hS hFc hU hW⟩⟩ rfl rfl hl.1 rfl (lv_room (Nat.le_of_ble_eq_true rfl)) dX10_fall_9 ⟨(Nat.le_of_ble_eq_true rfl), (Nat.le_of_ble_eq_true rfl)⟩) hS (fun q _ h => hFc q h) hFc (fun r_30 u t H locs ht hvm hw hB hz1 hk1 hS => ?_)
    obtain ⟨hP1, hD1⟩ := hB
    rw [ht] at hP1
    obtain ⟨hP, hD⟩ := bk_join hpm hP hD hk1 hFc (Cs1 := []) hP1 hD1
    have hpm2 : List.Perm (([] : List va_W) ++ ([[(h0, .inr (8, [.ref (r0 0), .int tp_10, .ref pl0, .ref sp0, .ref rd0, .ref (r0 1), .int mv_14, .ref fi0, .ref se0, .ref fa0, .ref cr0, .ref ra0, .ref pa0, .int nw0])), (r0 0, .inl (cB, 1600, .inl f_9)), (r0 1, .inl (cI, 6, .inl f_13))], w1, w2, w3] : List va_W)) ([[(h0, .inr (8, [.ref (r0 0), .int tp_10, .ref pl0, .ref sp0, .ref rd0, .ref (r0 1), .int mv_14, .ref fi0, .ref se0, .ref fa0, .ref cr0, .ref ra0, .ref pa0, .int nw0])), (r0 0, .inl (cB, 1600, .inl f_9)), (r0 1, .inl (cI, 6, .inl f_13))], w1, w2, w3] : List va_W) := pm_n 4 [0, 1, 2, 3] (by decide) rfl rfl
    have hP := bk_reP hpm2 hP
    have hD := bk_reD hpm2 hD
    have hP : va_P (dC, dI) vwCl (List.flatten [[(h0, .inr (8, [.ref (r0 0), .int tp_10, .ref pl0, .ref sp0, .ref rd0, .ref (r0 1), .int mv_14, .ref fi0, .ref se0, .ref fa0, .ref cr0, .ref ra0, .ref pa0, .int nw0])), (r0 0, .inl (cB, 1600, .inl f_9)), (r0 1, .inl (cI, 6, .inl f_13))], w1, w2, w3]) H := hP
    have hD : va_D A (List.flatten [[(h0, .inr (8, [.ref (r0 0), .int tp_10, .ref pl0, .ref sp0, .ref rd0, .ref (r0 1), .int mv_14, .ref fi0, .ref se0, .ref fa0, .ref cr0, .ref ra0, .ref pa0, .int nw0])), (r0 0, .inl (cB, 1600, .inl f_9)), (r0 1, .inl (cI, 6, .inl f_13))], w1, w2, w3]) := hD
    rcases hw with ⟨rfl, c_31⟩ | ⟨rfl, c_32, c_33⟩ | ⟨rfl, c_34, c_35⟩
    · refine lv_if_ne (tgt := 17) hx hb dX10_fall_12 (by decide) (fun c_36 => ?_) (fun c_36 => absurd c_36 (by decide))
      refine lv_aload_n hx hb dX10_fall_17 rfl (lv_at hl 0 rfl) ?_
      refine va_get (D := (dC, dI)) (ci := 8) (v := .ref fa0) (C := RX10) (T := TX10) (N := 14) hx hb hts iw_X10_fall_X10 hown hK hP 0 rfl rfl 9 (by decide) (hts (.fieldLink RX10 54 "HungFloors" "falling" "LHungFloors$Fall;") (by decide +kernel)) (fun _ h9 => h9) rfl dX10_fall_18 ?_
      refine lv_aload_n hx hb dX10_fall_21 rfl (lv_at hl 0 rfl) ?_
      refine lv_aload_n hx hb dX10_fall_22 rfl (lv_at hl 0 rfl) ?_
      refine va_get (D := (dC, dI)) (ci := 8) (v := .ref fi0) (C := RX10) (T := TX10) (N := 14) hx hb hts iw_X10_fall_X10 hown hK hP 0 rfl rfl 7 (by decide) (hts (.fieldLink RX10 44 "HungFloors" "first" "LHungFloors$Frame;") (by decide +kernel)) (fun _ h9 => h9) rfl dX10_fall_23 ?_
      refine lv_iload_n hx hb dX10_fall_26 rfl (lv_at hl 1 rfl) ?_
      have hpm : List.Perm ([[(h0, .inr (8, [.ref (r0 0), .int tp_10, .ref pl0, .ref sp0, .ref rd0, .ref (r0 1), .int mv_14, .ref fi0, .ref se0, .ref fa0, .ref cr0, .ref ra0, .ref pa0, .int nw0])), (r0 0, .inl (cB, 1600, .inl f_9)), (r0 1, .inl (cI, 6, .inl f_13))], w1, w2, w3] : List va_W) (([[(h0, .inr (8, [.ref (r0 0), .int tp_10, .ref pl0, .ref sp0, .ref rd0, .ref (r0 1), .int mv_14, .ref fi0, .ref se0, .ref fa0, .ref cr0, .ref ra0, .ref pa0, .int nw0])), (r0 0, .inl (cB, 1600, .inl f_9)), (r0 1, .inl (cI, 6, .inl f_13))], w1, w2] : List va_W) ++ ([w3] : List va_W)) := pm_n 4 [0, 1, 2, 3] (by decide) rfl rfl
      have hPc := bk_P hpm hP
      have hDc := bk_D hpm hD
      have hFc := bk_F hpm hD hS hA
      refine va_callr (va_runV (As := [.ref fi0, .int p1]) (rest := [.ref fa0]) ⟨hx, hb, hml, hown, hts⟩ (c_X10_reckoned l dC dI ad tN fN cB cI cJ cZ cQ h0 fi0 p1 r0 pl0 sp0 rd0 fi0 se0 fa0 cr0 ra0 pa0 nw0 _ r1 fc1 dc1 rk1 _ r2 pl2 _ ⟨f_9, tp_10, f_13, mv_14, rfl, by omega, by omega, by omega, by omega⟩ o1 o2 H.size (by omega) (by omega)) (cwV 2 hts gX10_fall_X10_reckoned rfl rfl rfl (by decide +kernel) ⟨(Nat.le_of_ble_eq_true rfl), (Nat.le_of_ble_eq_true rfl)⟩) ⟨fun a U g mk q => by obtain ⟨q0, q1, qP, qK, qD, qE⟩ := q; exact ⟨q0, q1, qP, va_K.moved (u := U) (U := U.calling g mk a) (Vm.Alike.refl U.vm) qK, qD, ey_blind qE⟩, va_recv hK hPc (ci := 8) (q0 := 0) rfl rfl, fun U hU hW => ⟨rfl, by rw [hU], by rw [hU]; exact hPc, va_K.moved hW.alike hK, hDc.weaken (fun _ _ _ _ => trivial), ey_call hE hS hFc hU hW⟩⟩ rfl rfl hl.1 rfl (lv_room (Nat.le_of_ble_eq_true rfl)) dX10_fall_27 ⟨(Nat.le_of_ble_eq_true rfl), (Nat.le_of_ble_eq_true rfl)⟩) hS (fun q _ h => hFc q h) hFc (fun u r_37 t H locs ht hvm hw hB hz1 hk1 hS => ?_)
      obtain ⟨hra, w_38, o_39, hP1, hD1⟩ := hB
      have hra := hra.symm
      subst hra
      rw [ht] at hP1
      obtain ⟨hP, hD⟩ := bk_join hpm hP hD hk1 hFc (Cs1 := [[(h0, .inr (8, [.ref (r0 0), .int tp_10, .ref pl0, .ref sp0, .ref rd0, .ref (r0 1), .int mv_14, .ref fi0, .ref se0, .ref fa0, .ref cr0, .ref ra0, .ref pa0, .int nw0])), (r0 0, .inl (cB, 1600, .inl f_9)), (r0 1, .inl (cI, 6, .inl f_13))], w1, w_38]) hP1 hD1
      have hpm2 : List.Perm (([[(h0, .inr (8, [.ref (r0 0), .int tp_10, .ref pl0, .ref sp0, .ref rd0, .ref (r0 1), .int mv_14, .ref fi0, .ref se0, .ref fa0, .ref cr0, .ref ra0, .ref pa0, .int nw0])), (r0 0, .inl (cB, 1600, .inl f_9)), (r0 1, .inl (cI, 6, .inl f_13))], w1, w_38] : List va_W) ++ ([w3] : List va_W)) ([[(h0, .inr (8, [.ref (r0 0), .int tp_10, .ref pl0, .ref sp0, .ref rd0, .ref (r0 1), .int mv_14, .ref fi0, .ref se0, .ref fa0, .ref cr0, .ref ra0, .ref pa0, .int nw0])), (r0 0, .inl (cB, 1600, .inl f_9)), (r0 1, .inl (cI, 6, .inl f_13))], w1, w_38, w3] : List va_W) := pm_n 4 [0, 1, 2, 3] (by decide) rfl rfl
      have hP := bk_reP hpm2 hP
      have hD := bk_reD hpm2 hD
      have hP : va_P (dC, dI) vwCl (List.flatten [[(h0, .inr (8, [.ref (r0 0), .int tp_10, .ref pl0, .ref sp0, .ref rd0, .ref (r0 1), .int mv_14, .ref fi0, .ref se0, .ref fa0, .ref cr0, .ref ra0, .ref pa0, .int nw0])), (r0 0, .inl (cB, 1600, .inl f_9)), (r0 1, .inl (cI, 6, .inl f_13))], w1, w_38, w3]) H := hP
      have hD : va_D A (List.flatten [[(h0, .inr (8, [.ref (r0 0), .int tp_10, .ref pl0, .ref sp0, .ref rd0, .ref (r0 1), .int mv_14, .ref fi0, .ref se0, .ref fa0, .ref cr0, .ref ra0, .ref pa0, .int nw0])), (r0 0, .inl (cB, 1600, .inl f_9)), (r0 1, .inl (cI, 6, .inl f_13))], w1, w_38, w3]) := hD
      obtain ⟨fn_40, f_43, rfl, hl_41, hh_42⟩ := o3
      have hpm : List.Perm ([[(h0, .inr (8, [.ref (r0 0), .int tp_10, .ref pl0, .ref sp0, .ref rd0, .ref (r0 1), .int mv_14, .ref fi0, .ref se0, .ref fa0, .ref cr0, .ref ra0, .ref pa0, .int nw0])), (r0 0, .inl (cB, 1600, .inl f_9)), (r0 1, .inl (cI, 6, .inl f_13))], w1, w_38, [(fa0, .inr (1, [.int fn_40, .int wc3, .ref (r3 0)])), (r3 0, .inl (cI, 70, .inl f_43))]] : List va_W) (([[(fa0, .inr (1, [.int fn_40, .int wc3, .ref (r3 0)])), (r3 0, .inl (cI, 70, .inl f_43))], w_38, w1] : List va_W) ++ ([[(h0, .inr (8, [.ref (r0 0), .int tp_10, .ref pl0, .ref sp0, .ref rd0, .ref (r0 1), .int mv_14, .ref fi0, .ref se0, .ref fa0, .ref cr0, .ref ra0, .ref pa0, .int nw0])), (r0 0, .inl (cB, 1600, .inl f_9)), (r0 1, .inl (cI, 6, .inl f_13))]] : List va_W)) := pm_n 4 [3, 2, 1, 0] (by decide) rfl rfl
      have hPc := bk_P hpm hP
      have hDc := bk_D hpm hD
      have hFc := bk_F hpm hD hS hA
      refine va_callv (va_runV (As := [.ref fi0]) (rest := []) ⟨hx, hb, hml, hown, hts⟩ (c_X1_run l dC dI ad tN fN cB cI cJ cZ fa0 fi0 r3 wc3 _ r2 pl0 _ r1 fc1 dc1 rk1 _ ⟨fn_40, f_43, rfl, by omega, by omega⟩ o_39 o1 H.size) (cwV 1 hts gX10_fall_X1_run rfl rfl rfl (by decide +kernel) ⟨(Nat.le_of_ble_eq_true rfl), (Nat.le_of_ble_eq_true rfl)⟩) ⟨fun a U g mk q => by obtain ⟨q0, q1, qP, qK, qD, qE⟩ := q; exact ⟨q0, q1, qP, va_K.moved (u := U) (U := U.calling g mk a) (Vm.Alike.refl U.vm) qK, qD, ey_blind qE⟩, va_recv hK hPc (ci := 1) (q0 := 0) rfl rfl, fun U hU hW => ⟨rfl, by rw [hU], by rw [hU]; exact hPc, va_K.moved hW.alike (va_K.sub hK [0, 1, 2, 3] rfl), hDc.weaken (fun _ _ _ _ => trivial), ey_call hE hS hFc hU hW⟩⟩ rfl rfl hl.1 rfl (lv_room (Nat.le_of_ble_eq_true rfl)) dX10_fall_30 ⟨(Nat.le_of_ble_eq_true rfl), (Nat.le_of_ble_eq_true rfl)⟩) hS (fun q _ h => hFc q h) hFc (fun u t H locs ht hvm hw hB hz1 hk1 hS => ?_)
      obtain ⟨wc_47, w_45, w_48, o_46, o_49, hP1, hD1⟩ := hB
      rw [ht] at hP1
      obtain ⟨hP, hD⟩ := bk_join hpm hP hD hk1 hFc (Cs1 := [w_45, w_48, w1]) hP1 hD1
      have hpm2 : List.Perm (([w_45, w_48, w1] : List va_W) ++ ([[(h0, .inr (8, [.ref (r0 0), .int tp_10, .ref pl0, .ref sp0, .ref rd0, .ref (r0 1), .int mv_14, .ref fi0, .ref se0, .ref fa0, .ref cr0, .ref ra0, .ref pa0, .int nw0])), (r0 0, .inl (cB, 1600, .inl f_9)), (r0 1, .inl (cI, 6, .inl f_13))]] : List va_W)) ([[(h0, .inr (8, [.ref (r0 0), .int tp_10, .ref pl0, .ref sp0, .ref rd0, .ref (r0 1), .int mv_14, .ref fi0, .ref se0, .ref fa0, .ref cr0, .ref ra0, .ref pa0, .int nw0])), (r0 0, .inl (cB, 1600, .inl f_9)), (r0 1, .inl (cI, 6, .inl f_13))], w1, w_48, w_45] : List va_W) := pm_n 4 [3, 2, 1, 0] (by decide) rfl rfl
      have hP := bk_reP hpm2 hP
      have hD := bk_reD hpm2 hD
      have hP : va_P (dC, dI) vwCl (List.flatten [[(h0, .inr (8, [.ref (r0 0), .int tp_10, .ref pl0, .ref sp0, .ref rd0, .ref (r0 1), .int mv_14, .ref fi0, .ref se0, .ref fa0, .ref cr0, .ref ra0, .ref pa0, .int nw0])), (r0 0, .inl (cB, 1600, .inl f_9)), (r0 1, .inl (cI, 6, .inl f_13))], w1, w_48, w_45]) H := hP
      have hD : va_D A (List.flatten [[(h0, .inr (8, [.ref (r0 0), .int tp_10, .ref pl0, .ref sp0, .ref rd0, .ref (r0 1), .int mv_14, .ref fi0, .ref se0, .ref fa0, .ref cr0, .ref ra0, .ref pa0, .int nw0])), (r0 0, .inl (cB, 1600, .inl f_9)), (r0 1, .inl (cI, 6, .inl f_13))], w1, w_48, w_45]) := hD
      obtain ⟨hx_50, hx_51⟩ := okx_fall o_46
      refine lv_iload_n hx hb dX10_fall_33 rfl (lv_at hl 2 rfl) ?_
      refine lv_if_ne (tgt := 47) hx hb dX10_fall_34 (by decide) (fun c_52 => False.elim (by have c_52 := f_ne rfl tI_0 c_52; omega)) (fun c_52 => ?_)
      have c_52 : p2.toInt = 0 := f_eq rfl tI_0 c_52
      refine lv_aload_n hx hb dX10_fall_37 rfl (lv_at hl 0 rfl) ?_
      refine va_get (D := (dC, dI)) (ci := 8) (v := .ref fa0) (C := RX10) (T := TX10) (N := 14) hx hb hts iw_X10_fall_X10 hown hK hP 0 rfl rfl 9 (by decide) (hts (.fieldLink RX10 54 "HungFloors" "falling" "LHungFloors$Fall;") (by decide +kernel)) (fun _ h9 => h9) rfl dX10_fall_38 ?_
      obtain ⟨f_55, f_56, f_57, f_58, f_61, f_63, f_64, f_66, f_68, rfl, hl_53, hh_54, hl_59, hh_60, hr_62, hr_65, hr_67⟩ := o1
      obtain ⟨fr_69, dr_72, rc_75, f_78, f_80, gn_81, f_82, f_83, f_84, f_85, f_86, sc_87, jc_88, f_91, f_93, rfl, hl_70, hh_71, hl_73, hh_74, hl_76, hh_77, hr_79, hl_89, hh_90, hr_92, hr_94⟩ := o_49
      obtain ⟨fn_95, f_98, rfl, hl_96, hh_97⟩ := o_46
      refine va_get (D := (dC, dI)) (ci := 1) (v := .int fn_95) (C := RX1) (T := TX1) (N := 3) hx hb hts iw_X10_fall_X1 hown hK hP 24 rfl rfl 0 (by decide) (hts (.fieldLink RX10 170 "HungFloors$Fall" "fallen" "I") (by decide +kernel)) (fun _ h9 => h9) rfl dX10_fall_41 ?_
      refine lv_goto (tgt := 54) hx hb dX10_fall_44 (by decide) ?_
      rw [hQ0]
      exact W.iret (v := fn_95) hx hb hr (fun t ht hW => ⟨⟨fn_95, (), rfl, trivial, ⟨pl0, _, wc_47, _, Or.inr (rfl), ⟨fr_69, dr_72, rc_75, f_78, f_80, gn_81, f_82, f_83, f_84, f_85, f_86, sc_87, jc_88, f_91, f_93, rfl, by omega, by omega, by omega, by omega, by omega, by omega, hr_79, by omega, by omega, hr_92, hr_94⟩, ⟨fn_95, f_98, rfl, by omega, by omega⟩, by rw [ht]; exact hP, hD⟩⟩, hS.F ht⟩) hS.2.2 dX10_fall_54
    · refine lv_if_ne (tgt := 17) hx hb dX10_fall_12 (by decide) (fun c_99 => absurd c_99 (by decide)) (fun c_99 => ?_)
      refine lv_iconst (v := (-1)) hx hb dX10_fall_15 (by decide) ?_
      rw [hQ0]
      exact W.iret (v := (-1)) hx hb hr (fun t ht hW => ⟨⟨(-1), (), rfl, trivial, ⟨pl2, _, wc3, _, Or.inl rfl, o2, o3, by rw [ht]; exact hP, hD⟩⟩, hS.F ht⟩) hS.2.2 dX10_fall_16
    · refine lv_if_ne (tgt := 17) hx hb dX10_fall_12 (by decide) (fun c_100 => ?_) (fun c_100 => absurd c_100 (by decide))
      refine lv_aload_n hx hb dX10_fall_17 rfl (lv_at hl 0 rfl) ?_
      refine va_get (D := (dC, dI)) (ci := 8) (v := .ref fa0) (C := RX10) (T := TX10) (N := 14) hx hb hts iw_X10_fall_X10 hown hK hP 0 rfl rfl 9 (by decide) (hts (.fieldLink RX10 54 "HungFloors" "falling" "LHungFloors$Fall;") (by decide +kernel)) (fun _ h9 => h9) rfl dX10_fall_18 ?_
      refine lv_aload_n hx hb dX10_fall_21 rfl (lv_at hl 0 rfl) ?_
      refine lv_aload_n hx hb dX10_fall_22 rfl (lv_at hl 0 rfl) ?_
      refine va_get (D := (dC, dI)) (ci := 8) (v := .ref fi0) (C := RX10) (T := TX10) (N := 14) hx hb hts iw_X10_fall_X10 hown hK hP 0 rfl rfl 7 (by decide) (hts (.fieldLink RX10 44 "HungFloors" "first" "LHungFloors$Frame;") (by decide +kernel)) (fun _ h9 => h9) rfl dX10_fall_23 ?_
      refine lv_iload_n hx hb dX10_fall_26 rfl (lv_at hl 1 rfl) ?_
      have hpm : List.Perm ([[(h0, .inr (8, [.ref (r0 0), .int tp_10, .ref pl0, .ref sp0, .ref rd0, .ref (r0 1), .int mv_14, .ref fi0, .ref se0, .ref fa0, .ref cr0, .ref ra0, .ref pa0, .int nw0])), (r0 0, .inl (cB, 1600, .inl f_9)), (r0 1, .inl (cI, 6, .inl f_13))], w1, w2, w3] : List va_W) (([[(h0, .inr (8, [.ref (r0 0), .int tp_10, .ref pl0, .ref sp0, .ref rd0, .ref (r0 1), .int mv_14, .ref fi0, .ref se0, .ref fa0, .ref cr0, .ref ra0, .ref pa0, .int nw0])), (r0 0, .inl (cB, 1600, .inl f_9)), (r0 1, .inl (cI, 6, .inl f_13))], w1, w2] : List va_W) ++ ([w3] : List va_W)) := pm_n 4 [0, 1, 2, 3] (by decide) rfl rfl
      have hPc := bk_P hpm hP
      have hDc := bk_D hpm hD
      have hFc := bk_F hpm hD hS hA
      refine va_callr (va_runV (As := [.ref fi0, .int p1]) (rest := [.ref fa0]) ⟨hx, hb, hml, hown, hts⟩ (c_X10_reckoned l dC dI ad tN fN cB cI cJ cZ cQ h0 fi0 p1 r0 pl0 sp0 rd0 fi0 se0 fa0 cr0 ra0 pa0 nw0 _ r1 fc1 dc1 rk1 _ r2 pl2 _ ⟨f_9, tp_10, f_13, mv_14, rfl, by omega, by omega, by omega, by omega⟩ o1 o2 H.size (by omega) (by omega)) (cwV 2 hts gX10_fall_X10_reckoned rfl rfl rfl (by decide +kernel) ⟨(Nat.le_of_ble_eq_true rfl), (Nat.le_of_ble_eq_true rfl)⟩) ⟨fun a U g mk q => by obtain ⟨q0, q1, qP, qK, qD, qE⟩ := q; exact ⟨q0, q1, qP, va_K.moved (u := U) (U := U.calling g mk a) (Vm.Alike.refl U.vm) qK, qD, ey_blind qE⟩, va_recv hK hPc (ci := 8) (q0 := 0) rfl rfl, fun U hU hW => ⟨rfl, by rw [hU], by rw [hU]; exact hPc, va_K.moved hW.alike hK, hDc.weaken (fun _ _ _ _ => trivial), ey_call hE hS hFc hU hW⟩⟩ rfl rfl hl.1 rfl (lv_room (Nat.le_of_ble_eq_true rfl)) dX10_fall_27 ⟨(Nat.le_of_ble_eq_true rfl), (Nat.le_of_ble_eq_true rfl)⟩) hS (fun q _ h => hFc q h) hFc (fun u r_101 t H locs ht hvm hw hB hz1 hk1 hS => ?_)
      obtain ⟨hra, w_102, o_103, hP1, hD1⟩ := hB
      have hra := hra.symm
      subst hra
      rw [ht] at hP1
      obtain ⟨hP, hD⟩ := bk_join hpm hP hD hk1 hFc (Cs1 := [[(h0, .inr (8, [.ref (r0 0), .int tp_10, .ref pl0, .ref sp0, .ref rd0, .ref (r0 1), .int mv_14, .ref fi0, .ref se0, .ref fa0, .ref cr0, .ref ra0, .ref pa0, .int nw0])), (r0 0, .inl (cB, 1600, .inl f_9)), (r0 1, .inl (cI, 6, .inl f_13))], w1, w_102]) hP1 hD1
      have hpm2 : List.Perm (([[(h0, .inr (8, [.ref (r0 0), .int tp_10, .ref pl0, .ref sp0, .ref rd0, .ref (r0 1), .int mv_14, .ref fi0, .ref se0, .ref fa0, .ref cr0, .ref ra0, .ref pa0, .int nw0])), (r0 0, .inl (cB, 1600, .inl f_9)), (r0 1, .inl (cI, 6, .inl f_13))], w1, w_102] : List va_W) ++ ([w3] : List va_W)) ([[(h0, .inr (8, [.ref (r0 0), .int tp_10, .ref pl0, .ref sp0, .ref rd0, .ref (r0 1), .int mv_14, .ref fi0, .ref se0, .ref fa0, .ref cr0, .ref ra0, .ref pa0, .int nw0])), (r0 0, .inl (cB, 1600, .inl f_9)), (r0 1, .inl (cI, 6, .inl f_13))], w1, w_102, w3] : List va_W) := pm_n 4 [0, 1, 2, 3] (by decide) rfl rfl
      have hP := bk_reP hpm2 hP
      have hD := bk_reD hpm2 hD
      have hP : va_P (dC, dI) vwCl (List.flatten [[(h0, .inr (8, [.ref (r0 0), .int tp_10, .ref pl0, .ref sp0, .ref rd0, .ref (r0 1), .int mv_14, .ref fi0, .ref se0, .ref fa0, .ref cr0, .ref ra0, .ref pa0, .int nw0])), (r0 0, .inl (cB, 1600, .inl f_9)), (r0 1, .inl (cI, 6, .inl f_13))], w1, w_102, w3]) H := hP
      have hD : va_D A (List.flatten [[(h0, .inr (8, [.ref (r0 0), .int tp_10, .ref pl0, .ref sp0, .ref rd0, .ref (r0 1), .int mv_14, .ref fi0, .ref se0, .ref fa0, .ref cr0, .ref ra0, .ref pa0, .int nw0])), (r0 0, .inl (cB, 1600, .inl f_9)), (r0 1, .inl (cI, 6, .inl f_13))], w1, w_102, w3]) := hD
      obtain ⟨fn_104, f_107, rfl, hl_105, hh_106⟩ := o3
      have hpm : List.Perm ([[(h0, .inr (8, [.ref (r0 0), .int tp_10, .ref pl0, .ref sp0, .ref rd0, .ref (r0 1), .int mv_14, .ref fi0, .ref se0, .ref fa0, .ref cr0, .ref ra0, .ref pa0, .int nw0])), (r0 0, .inl (cB, 1600, .inl f_9)), (r0 1, .inl (cI, 6, .inl f_13))], w1, w_102, [(fa0, .inr (1, [.int fn_104, .int wc3, .ref (r3 0)])), (r3 0, .inl (cI, 70, .inl f_107))]] : List va_W) (([[(fa0, .inr (1, [.int fn_104, .int wc3, .ref (r3 0)])), (r3 0, .inl (cI, 70, .inl f_107))], w_102, w1] : List va_W) ++ ([[(h0, .inr (8, [.ref (r0 0), .int tp_10, .ref pl0, .ref sp0, .ref rd0, .ref (r0 1), .int mv_14, .ref fi0, .ref se0, .ref fa0, .ref cr0, .ref ra0, .ref pa0, .int nw0])), (r0 0, .inl (cB, 1600, .inl f_9)), (r0 1, .inl (cI, 6, .inl f_13))]] : List va_W)) := pm_n 4 [3, 2, 1, 0] (by decide) rfl rfl
      have hPc := bk_P hpm hP
      have hDc := bk_D hpm hD
      have hFc := bk_F hpm hD hS hA
      refine va_callv (va_runV (As := [.ref fi0]) (rest := []) ⟨hx, hb, hml, hown, hts⟩ (c_X1_run l dC dI ad tN fN cB cI cJ cZ fa0 fi0 r3 wc3 _ r2 pl0 _ r1 fc1 dc1 rk1 _ ⟨fn_104, f_107, rfl, by omega, by omega⟩ o_103 o1 H.size) (cwV 1 hts gX10_fall_X1_run rfl rfl rfl (by decide +kernel) ⟨(Nat.le_of_ble_eq_true rfl), (Nat.le_of_ble_eq_true rfl)⟩) ⟨fun a U g mk q => by obtain ⟨q0, q1, qP, qK, qD, qE⟩ := q; exact ⟨q0, q1, qP, va_K.moved (u := U) (U := U.calling g mk a) (Vm.Alike.refl U.vm) qK, qD, ey_blind qE⟩, va_recv hK hPc (ci := 1) (q0 := 0) rfl rfl, fun U hU hW => ⟨rfl, by rw [hU], by rw [hU]; exact hPc, va_K.moved hW.alike (va_K.sub hK [0, 1, 2, 3] rfl), hDc.weaken (fun _ _ _ _ => trivial), ey_call hE hS hFc hU hW⟩⟩ rfl rfl hl.1 rfl (lv_room (Nat.le_of_ble_eq_true rfl)) dX10_fall_30 ⟨(Nat.le_of_ble_eq_true rfl), (Nat.le_of_ble_eq_true rfl)⟩) hS (fun q _ h => hFc q h) hFc (fun u t H locs ht hvm hw hB hz1 hk1 hS => ?_)
      obtain ⟨wc_111, w_109, w_112, o_110, o_113, hP1, hD1⟩ := hB
      rw [ht] at hP1
      obtain ⟨hP, hD⟩ := bk_join hpm hP hD hk1 hFc (Cs1 := [w_109, w_112, w1]) hP1 hD1
      have hpm2 : List.Perm (([w_109, w_112, w1] : List va_W) ++ ([[(h0, .inr (8, [.ref (r0 0), .int tp_10, .ref pl0, .ref sp0, .ref rd0, .ref (r0 1), .int mv_14, .ref fi0, .ref se0, .ref fa0, .ref cr0, .ref ra0, .ref pa0, .int nw0])), (r0 0, .inl (cB, 1600, .inl f_9)), (r0 1, .inl (cI, 6, .inl f_13))]] : List va_W)) ([[(h0, .inr (8, [.ref (r0 0), .int tp_10, .ref pl0, .ref sp0, .ref rd0, .ref (r0 1), .int mv_14, .ref fi0, .ref se0, .ref fa0, .ref cr0, .ref ra0, .ref pa0, .int nw0])), (r0 0, .inl (cB, 1600, .inl f_9)), (r0 1, .inl (cI, 6, .inl f_13))], w1, w_112, w_109] : List va_W) := pm_n 4 [3, 2, 1, 0] (by decide) rfl rfl
      have hP := bk_reP hpm2 hP
      have hD := bk_reD hpm2 hD
      have hP : va_P (dC, dI) vwCl (List.flatten [[(h0, .inr (8, [.ref (r0 0), .int tp_10, .ref pl0, .ref sp0, .ref rd0, .ref (r0 1), .int mv_14, .ref fi0, .ref se0, .ref fa0, .ref cr0, .ref ra0, .ref pa0, .int nw0])), (r0 0, .inl (cB, 1600, .inl f_9)), (r0 1, .inl (cI, 6, .inl f_13))], w1, w_112, w_109]) H := hP
      have hD : va_D A (List.flatten [[(h0, .inr (8, [.ref (r0 0), .int tp_10, .ref pl0, .ref sp0, .ref rd0, .ref (r0 1), .int mv_14, .ref fi0, .ref se0, .ref fa0, .ref cr0, .ref ra0, .ref pa0, .int nw0])), (r0 0, .inl (cB, 1600, .inl f_9)), (r0 1, .inl (cI, 6, .inl f_13))], w1, w_112, w_109]) := hD
      obtain ⟨hx_114, hx_115⟩ := okx_fall o_110
      refine lv_iload_n hx hb dX10_fall_33 rfl (lv_at hl 2 rfl) ?_
      refine lv_if_ne (tgt := 47) hx hb dX10_fall_34 (by decide) (fun c_116 => ?_) (fun c_116 => False.elim (by have c_116 := f_eq rfl tI_0 c_116; omega))
      have c_116 : ¬ p2.toInt = 0 := f_ne rfl tI_0 c_116
      refine lv_aload_n hx hb dX10_fall_47 rfl (lv_at hl 0 rfl) ?_
      refine va_get (D := (dC, dI)) (ci := 8) (v := .ref fa0) (C := RX10) (T := TX10) (N := 14) hx hb hts iw_X10_fall_X10 hown hK hP 0 rfl rfl 9 (by decide) (hts (.fieldLink RX10 54 "HungFloors" "falling" "LHungFloors$Fall;") (by decide +kernel)) (fun _ h9 => h9) rfl dX10_fall_48 ?_
      obtain ⟨f_119, f_120, f_121, f_122, f_125, f_127, f_128, f_130, f_132, rfl, hl_117, hh_118, hl_123, hh_124, hr_126, hr_129, hr_131⟩ := o1
      obtain ⟨fr_133, dr_136, rc_139, f_142, f_144, gn_145, f_146, f_147, f_148, f_149, f_150, sc_151, jc_152, f_155, f_157, rfl, hl_134, hh_135, hl_137, hh_138, hl_140, hh_141, hr_143, hl_153, hh_154, hr_156, hr_158⟩ := o_113
      obtain ⟨fn_159, f_162, rfl, hl_160, hh_161⟩ := o_110
      refine va_get (D := (dC, dI)) (ci := 1) (v := .int wc_111) (C := RX1) (T := TX1) (N := 3) hx hb hts iw_X10_fall_X1 hown hK hP 24 rfl rfl 1 (by decide) (hts (.fieldLink RX10 173 "HungFloors$Fall" "wentCount" "I") (by decide +kernel)) (fun _ h9 => h9) rfl dX10_fall_51 ?_
      rw [hQ0]
      exact W.iret (v := wc_111) hx hb hr (fun t ht hW => ⟨⟨wc_111, (), rfl, trivial, ⟨pl0, _, wc_111, _, Or.inr (rfl), ⟨fr_133, dr_136, rc_139, f_142, f_144, gn_145, f_146, f_147, f_148, f_149, f_150, sc_151, jc_152, f_155, f_157, rfl, by omega, by omega, by omega, by omega, by omega, by omega, hr_143, by omega, by omega, hr_156, hr_158⟩, ⟨fn_159, f_162, rfl, by omega, by omega⟩, by rw [ht]; exact hP, hD⟩⟩, hS.F ht⟩) hS.2.2 dX10_fall_54
theorem iw_X10_goes_X1 : ∀ w ∈ wsX10, w ∈ wsX10_goes := fun _ h => List.mem_cons_of_mem _ (List.mem_append_left _ (List.mem_append_left _ (List.mem_append_right _ h)))
theorem iw_X10_goes_X10 : ∀ w ∈ wsX100, w ∈ wsX10_goes := fun _ h => List.mem_cons_of_mem _ (List.mem_append_left _ (List.mem_append_left _ (List.mem_append_left _ (List.mem_append_right _ h))))
set_option maxHeartbeats 4000000 in
set_option maxRecDepth 100000 in
theorem c_X10_goes (l : Launch) (dC : Nat → ClassId) (dI : Nat → Nat → Nat) (ad : Nat → Nat) (tN : Nat) (fN : Nat → Int64) (cB cI cJ cZ cQ : ClassId) (h0 : Nat) (p1 : Int32) (p2 : Int32) (r0 : Nat → Nat) (pl0 : Nat) (sp0 : Nat) (rd0 : Nat) (fi0 : Nat) (se0 : Nat) (fa0 : Nat) (cr0 : Nat) (ra0 : Nat) (pa0 : Nat) (nw0 : Int32) (w0 : va_W) (r1 : Nat → Nat) (fc1 : Int32) (dc1 : Int32) (rk1 : Nat → Int32) (w1 : va_W) (r2 : Nat → Nat) (pl2 : Nat) (w2 : va_W) (r3 : Nat → Nat) (wc3 : Int32) (w3 : va_W) (o0 : ok_main ad cB cI cJ cZ h0 r0 pl0 sp0 rd0 fi0 se0 fa0 cr0 ra0 pa0 nw0 w0) (o1 : ok_plan ad cB cI cJ cZ pl0 r1 fc1 dc1 rk1 w1) (o2 : ok_frame ad cB cI cJ cZ fi0 r2 pl2 w2) (o3 : ok_fall ad cB cI cJ cZ fa0 r3 wc3 w3) (sz : Nat) : Met l yX10_goes wsX10_goes ({ frames := 5, cells := 0, slots := 0, locals := 111 } : Room) (va_Pc [.ref h0, .int p1, .int p2] (fun U => U.heap.size = sz ∧ va_P (dC, dI) vwCl (List.flatten [w0, w1, w2, w3]) U.heap ∧ va_K (dC, dI) vwCl [(cB, .byte), (cI, .int), (cJ, .long), (cZ, .boolean), (cQ, .array .long)] U ∧ va_D (fun _ => True) (List.flatten [w0, w1, w2, w3]) ∧ ex_Y ad tN fN (va_A (List.flatten [w0, w1, w2, w3]) sz) U)) (va_Qi (fun (r : Int32) (_ : Unit) => True) (fun (_ : Unit) (t : State) => ∃ (pl29 : Nat) (w29 : va_W) (wc39 : Int32) (w39 : va_W), ((pl29 = pl2) ∨ (pl29 = pl0)) ∧ ok_frame ad cB cI cJ cZ fi0 r2 pl29 w29 ∧ ok_fall ad cB cI cJ cZ fa0 r3 wc39 w39 ∧ va_P (dC, dI) vwCl (List.flatten [w0, w1, w29, w39]) t.heap ∧ va_D (va_A (List.flatten [w0, w1, w2, w3]) sz) (List.flatten [w0, w1, w29, w39])) (va_A (List.flatten [w0, w1, w2, w3]) sz)) 0 0 (va_A (List.flatten [w0, w1, w2, w3]) sz) := by
  refine Met.ofW (cc := cX10_goes) (maxL := 3) (ret := (some .int)) (by decide) rfl ?_
  intro p e s m args below meth c s₁ B hml hv
  obtain ⟨rfl, hsz, hP, hK, hD0, hE⟩ := hv
  have hx := B.exec
  have hb := B.bytes
  have hr := B.returns
  have hts := atoms_spec (ws := wsX10_goes) B.pre
  have hown : s.vm.findClass RX10 = some m.cls := findClass_of_methodNamed B.named
  have hlocks := B.notSynchronized
  subst hsz
  have hD := hD0.self (sz := s.heap.size)
  generalize hAe : va_A (List.flatten [w0, w1, w2, w3]) s.heap.size = A at hD hE ⊢
  have hA : ∀ q : Nat, s.heap.size ≤ q → A q := fun q h => by rw [← hAe]; exact Or.inr h
  have hS : va_S A s.heap s.heap [] := va_S.rf
  have hl := lv_entry ([.ref h0, .int p1, .int p2]) (n := 3) (Nat.le_of_ble_eq_true rfl)
  rw [lg_entry_eq]
  generalize (lg_sl ([.ref h0, .int p1, .int p2]) ++ List.replicate (3 - (lg_sl ([.ref h0, .int p1, .int p2])).length) Slot.unset).toArray = ls at hl ⊢
  have hl : lv_has ls 3 [(0, .ref h0), (1, .int p1), (2, .int p2)] := hl
  clear hAe
  refine W_name (fun Q0 hQ0 => ?_)
  obtain ⟨hx_1, hx_2⟩ := okx_main o0
  obtain ⟨hx_3, hx_4, hx_5, hx_6⟩ := okx_plan o1
  obtain ⟨hx_7, hx_8⟩ := okx_fall o3
  refine lv_aload_n hx hb dX10_goes_0 rfl (lv_at hl 0 rfl) ?_
  refine lv_iload_n hx hb dX10_goes_1 rfl (lv_at hl 1 rfl) ?_
  obtain ⟨f_9, tp_10, f_13, mv_14, rfl, hl_11, hh_12, hl_15, hh_16⟩ := o0
  have hpm : List.Perm ([[(h0, .inr (8, [.ref (r0 0), .int tp_10, .ref pl0, .ref sp0, .ref rd0, .ref (r0 1), .int mv_14, .ref fi0, .ref se0, .ref fa0, .ref cr0, .ref ra0, .ref pa0, .int nw0])), (r0 0, .inl (cB, 1600, .inl f_9)), (r0 1, .inl (cI, 6, .inl f_13))], w1, w2, w3] : List va_W) (([[(h0, .inr (8, [.ref (r0 0), .int tp_10, .ref pl0, .ref sp0, .ref rd0, .ref (r0 1), .int mv_14, .ref fi0, .ref se0, .ref fa0, .ref cr0, .ref ra0, .ref pa0, .int nw0])), (r0 0, .inl (cB, 1600, .inl f_9)), (r0 1, .inl (cI, 6, .inl f_13))], w1] : List va_W) ++ ([w2, w3] : List va_W)) := pm_n 4 [0, 1, 2, 3] (by decide) rfl rfl
  have hPc := bk_P hpm hP
  have hDc := bk_D hpm hD
  have hFc := bk_F hpm hD hS hA
  refine va_calli (va_runV (As := [.int p1]) (rest := []) ⟨hx, hb, hml, hown, hts⟩ (c_X10_isDrawing l dC dI ad tN fN cB cI cJ cZ cQ h0 p1 r0 pl0 sp0 rd0 fi0 se0 fa0 cr0 ra0 pa0 nw0 _ r1 fc1 dc1 rk1 _ ⟨f_9, tp_10, f_13, mv_14, rfl, by omega, by omega, by omega, by omega⟩ o1 s.heap.size) (cwV 1 hts gX10_goes_X10_isDrawing rfl rfl rfl (by decide +kernel) ⟨(Nat.le_of_ble_eq_true rfl), (Nat.le_of_ble_eq_true rfl)⟩) ⟨fun a U g mk q => by obtain ⟨q0, q1, qP, qK, qD, qE⟩ := q; exact ⟨q0, q1, qP, va_K.moved (u := U) (U := U.calling g mk a) (Vm.Alike.refl U.vm) qK, qD, ey_blind qE⟩, va_recv hK hPc (ci := 8) (q0 := 0) rfl rfl, fun U hU hW => ⟨rfl, by rw [hU], by rw [hU]; exact hPc, va_K.moved hW.alike hK, hDc.weaken (fun _ _ _ _ => trivial), ey_call hE hS hFc hU hW⟩⟩ rfl rfl hl.1 rfl (lv_room (Nat.le_of_ble_eq_true rfl)) dX10_goes_2 ⟨(Nat.le_of_ble_eq_true rfl), (Nat.le_of_ble_eq_true rfl)⟩) hS (fun q _ h => hFc q h) hFc (fun r_17 u t H locs ht hvm hw hB hz1 hk1 hS => ?_)
  obtain ⟨hP1, hD1⟩ := hB
  rw [ht] at hP1
  obtain ⟨hP, hD⟩ := bk_join hpm hP hD hk1 hFc (Cs1 := [[(h0, .inr (8, [.ref (r0 0), .int tp_10, .ref pl0, .ref sp0, .ref rd0, .ref (r0 1), .int mv_14, .ref fi0, .ref se0, .ref fa0, .ref cr0, .ref ra0, .ref pa0, .int nw0])), (r0 0, .inl (cB, 1600, .inl f_9)), (r0 1, .inl (cI, 6, .inl f_13))], w1]) hP1 hD1
  have hpm2 : List.Perm (([[(h0, .inr (8, [.ref (r0 0), .int tp_10, .ref pl0, .ref sp0, .ref rd0, .ref (r0 1), .int mv_14, .ref fi0, .ref se0, .ref fa0, .ref cr0, .ref ra0, .ref pa0, .int nw0])), (r0 0, .inl (cB, 1600, .inl f_9)), (r0 1, .inl (cI, 6, .inl f_13))], w1] : List va_W) ++ ([w2, w3] : List va_W)) ([[(h0, .inr (8, [.ref (r0 0), .int tp_10, .ref pl0, .ref sp0, .ref rd0, .ref (r0 1), .int mv_14, .ref fi0, .ref se0, .ref fa0, .ref cr0, .ref ra0, .ref pa0, .int nw0])), (r0 0, .inl (cB, 1600, .inl f_9)), (r0 1, .inl (cI, 6, .inl f_13))], w1, w2, w3] : List va_W) := pm_n 4 [0, 1, 2, 3] (by decide) rfl rfl
  have hP := bk_reP hpm2 hP
  have hD := bk_reD hpm2 hD
  have hP : va_P (dC, dI) vwCl (List.flatten [[(h0, .inr (8, [.ref (r0 0), .int tp_10, .ref pl0, .ref sp0, .ref rd0, .ref (r0 1), .int mv_14, .ref fi0, .ref se0, .ref fa0, .ref cr0, .ref ra0, .ref pa0, .int nw0])), (r0 0, .inl (cB, 1600, .inl f_9)), (r0 1, .inl (cI, 6, .inl f_13))], w1, w2, w3]) H := hP
  have hD : va_D A (List.flatten [[(h0, .inr (8, [.ref (r0 0), .int tp_10, .ref pl0, .ref sp0, .ref rd0, .ref (r0 1), .int mv_14, .ref fi0, .ref se0, .ref fa0, .ref cr0, .ref ra0, .ref pa0, .int nw0])), (r0 0, .inl (cB, 1600, .inl f_9)), (r0 1, .inl (cI, 6, .inl f_13))], w1, w2, w3]) := hD
  rcases hw with ⟨rfl, c_18, c_19⟩ | ⟨rfl, c_20, c_21, c_22⟩ | ⟨rfl, c_23, c_24, c_25, c_26⟩
  · refine lv_if_ne (tgt := 10) hx hb dX10_goes_5 (by decide) (fun c_27 => absurd c_27 (by decide)) (fun c_27 => ?_)
    refine lv_iconst (v := (-1)) hx hb dX10_goes_8 (by decide) ?_
    rw [hQ0]
    exact W.iret (v := (-1)) hx hb hr (fun t ht hW => ⟨⟨(-1), (), rfl, trivial, ⟨pl2, _, wc3, _, Or.inl rfl, o2, o3, by rw [ht]; exact hP, hD⟩⟩, hS.F ht⟩) hS.2.2 dX10_goes_9
  · refine lv_if_ne (tgt := 10) hx hb dX10_goes_5 (by decide) (fun c_28 => absurd c_28 (by decide)) (fun c_28 => ?_)
    refine lv_iconst (v := (-1)) hx hb dX10_goes_8 (by decide) ?_
    rw [hQ0]
    exact W.iret (v := (-1)) hx hb hr (fun t ht hW => ⟨⟨(-1), (), rfl, trivial, ⟨pl2, _, wc3, _, Or.inl rfl, o2, o3, by rw [ht]; exact hP, hD⟩⟩, hS.F ht⟩) hS.2.2 dX10_goes_9
  · refine lv_if_ne (tgt := 10) hx hb dX10_goes_5 (by decide) (fun c_29 => ?_) (fun c_29 => absurd c_29 (by decide))
    refine lv_aload_n hx hb dX10_goes_10 rfl (lv_at hl 0 rfl) ?_
    refine va_get (D := (dC, dI)) (ci := 8) (v := .ref fa0) (C := RX10) (T := TX10) (N := 14) hx hb hts iw_X10_goes_X10 hown hK hP 0 rfl rfl 9 (by decide) (hts (.fieldLink RX10 54 "HungFloors" "falling" "LHungFloors$Fall;") (by decide +kernel)) (fun _ h9 => h9) rfl dX10_goes_11 ?_
    refine lv_aload_n hx hb dX10_goes_14 rfl (lv_at hl 0 rfl) ?_
    refine lv_aload_n hx hb dX10_goes_15 rfl (lv_at hl 0 rfl) ?_
    refine va_get (D := (dC, dI)) (ci := 8) (v := .ref fi0) (C := RX10) (T := TX10) (N := 14) hx hb hts iw_X10_goes_X10 hown hK hP 0 rfl rfl 7 (by decide) (hts (.fieldLink RX10 44 "HungFloors" "first" "LHungFloors$Frame;") (by decide +kernel)) (fun _ h9 => h9) rfl dX10_goes_16 ?_
    refine lv_iload_n hx hb dX10_goes_19 rfl (lv_at hl 1 rfl) ?_
    have hpm : List.Perm ([[(h0, .inr (8, [.ref (r0 0), .int tp_10, .ref pl0, .ref sp0, .ref rd0, .ref (r0 1), .int mv_14, .ref fi0, .ref se0, .ref fa0, .ref cr0, .ref ra0, .ref pa0, .int nw0])), (r0 0, .inl (cB, 1600, .inl f_9)), (r0 1, .inl (cI, 6, .inl f_13))], w1, w2, w3] : List va_W) (([[(h0, .inr (8, [.ref (r0 0), .int tp_10, .ref pl0, .ref sp0, .ref rd0, .ref (r0 1), .int mv_14, .ref fi0, .ref se0, .ref fa0, .ref cr0, .ref ra0, .ref pa0, .int nw0])), (r0 0, .inl (cB, 1600, .inl f_9)), (r0 1, .inl (cI, 6, .inl f_13))], w1, w2] : List va_W) ++ ([w3] : List va_W)) := pm_n 4 [0, 1, 2, 3] (by decide) rfl rfl
    have hPc := bk_P hpm hP
    have hDc := bk_D hpm hD
    have hFc := bk_F hpm hD hS hA
    refine va_callr (va_runV (As := [.ref fi0, .int p1]) (rest := [.ref fa0]) ⟨hx, hb, hml, hown, hts⟩ (c_X10_reckoned l dC dI ad tN fN cB cI cJ cZ cQ h0 fi0 p1 r0 pl0 sp0 rd0 fi0 se0 fa0 cr0 ra0 pa0 nw0 _ r1 fc1 dc1 rk1 _ r2 pl2 _ ⟨f_9, tp_10, f_13, mv_14, rfl, by omega, by omega, by omega, by omega⟩ o1 o2 H.size (by omega) (by omega)) (cwV 2 hts gX10_goes_X10_reckoned rfl rfl rfl (by decide +kernel) ⟨(Nat.le_of_ble_eq_true rfl), (Nat.le_of_ble_eq_true rfl)⟩) ⟨fun a U g mk q => by obtain ⟨q0, q1, qP, qK, qD, qE⟩ := q; exact ⟨q0, q1, qP, va_K.moved (u := U) (U := U.calling g mk a) (Vm.Alike.refl U.vm) qK, qD, ey_blind qE⟩, va_recv hK hPc (ci := 8) (q0 := 0) rfl rfl, fun U hU hW => ⟨rfl, by rw [hU], by rw [hU]; exact hPc, va_K.moved hW.alike hK, hDc.weaken (fun _ _ _ _ => trivial), ey_call hE hS hFc hU hW⟩⟩ rfl rfl hl.1 rfl (lv_room (Nat.le_of_ble_eq_true rfl)) dX10_goes_20 ⟨(Nat.le_of_ble_eq_true rfl), (Nat.le_of_ble_eq_true rfl)⟩) hS (fun q _ h => hFc q h) hFc (fun u r_30 t H locs ht hvm hw hB hz1 hk1 hS => ?_)
    obtain ⟨hra, w_31, o_32, hP1, hD1⟩ := hB
    have hra := hra.symm
    subst hra
    rw [ht] at hP1
    obtain ⟨hP, hD⟩ := bk_join hpm hP hD hk1 hFc (Cs1 := [[(h0, .inr (8, [.ref (r0 0), .int tp_10, .ref pl0, .ref sp0, .ref rd0, .ref (r0 1), .int mv_14, .ref fi0, .ref se0, .ref fa0, .ref cr0, .ref ra0, .ref pa0, .int nw0])), (r0 0, .inl (cB, 1600, .inl f_9)), (r0 1, .inl (cI, 6, .inl f_13))], w1, w_31]) hP1 hD1
    have hpm2 : List.Perm (([[(h0, .inr (8, [.ref (r0 0), .int tp_10, .ref pl0, .ref sp0, .ref rd0, .ref (r0 1), .int mv_14, .ref fi0, .ref se0, .ref fa0, .ref cr0, .ref ra0, .ref pa0, .int nw0])), (r0 0, .inl (cB, 1600, .inl f_9)), (r0 1, .inl (cI, 6, .inl f_13))], w1, w_31] : List va_W) ++ ([w3] : List va_W)) ([[(h0, .inr (8, [.ref (r0 0), .int tp_10, .ref pl0, .ref sp0, .ref rd0, .ref (r0 1), .int mv_14, .ref fi0, .ref se0, .ref fa0, .ref cr0, .ref ra0, .ref pa0, .int nw0])), (r0 0, .inl (cB, 1600, .inl f_9)), (r0 1, .inl (cI, 6, .inl f_13))], w1, w_31, w3] : List va_W) := pm_n 4 [0, 1, 2, 3] (by decide) rfl rfl
    have hP := bk_reP hpm2 hP
    have hD := bk_reD hpm2 hD
    have hP : va_P (dC, dI) vwCl (List.flatten [[(h0, .inr (8, [.ref (r0 0), .int tp_10, .ref pl0, .ref sp0, .ref rd0, .ref (r0 1), .int mv_14, .ref fi0, .ref se0, .ref fa0, .ref cr0, .ref ra0, .ref pa0, .int nw0])), (r0 0, .inl (cB, 1600, .inl f_9)), (r0 1, .inl (cI, 6, .inl f_13))], w1, w_31, w3]) H := hP
    have hD : va_D A (List.flatten [[(h0, .inr (8, [.ref (r0 0), .int tp_10, .ref pl0, .ref sp0, .ref rd0, .ref (r0 1), .int mv_14, .ref fi0, .ref se0, .ref fa0, .ref cr0, .ref ra0, .ref pa0, .int nw0])), (r0 0, .inl (cB, 1600, .inl f_9)), (r0 1, .inl (cI, 6, .inl f_13))], w1, w_31, w3]) := hD
    obtain ⟨fn_33, f_36, rfl, hl_34, hh_35⟩ := o3
    have hpm : List.Perm ([[(h0, .inr (8, [.ref (r0 0), .int tp_10, .ref pl0, .ref sp0, .ref rd0, .ref (r0 1), .int mv_14, .ref fi0, .ref se0, .ref fa0, .ref cr0, .ref ra0, .ref pa0, .int nw0])), (r0 0, .inl (cB, 1600, .inl f_9)), (r0 1, .inl (cI, 6, .inl f_13))], w1, w_31, [(fa0, .inr (1, [.int fn_33, .int wc3, .ref (r3 0)])), (r3 0, .inl (cI, 70, .inl f_36))]] : List va_W) (([[(fa0, .inr (1, [.int fn_33, .int wc3, .ref (r3 0)])), (r3 0, .inl (cI, 70, .inl f_36))], w_31, w1] : List va_W) ++ ([[(h0, .inr (8, [.ref (r0 0), .int tp_10, .ref pl0, .ref sp0, .ref rd0, .ref (r0 1), .int mv_14, .ref fi0, .ref se0, .ref fa0, .ref cr0, .ref ra0, .ref pa0, .int nw0])), (r0 0, .inl (cB, 1600, .inl f_9)), (r0 1, .inl (cI, 6, .inl f_13))]] : List va_W)) := pm_n 4 [3, 2, 1, 0] (by decide) rfl rfl
    have hPc := bk_P hpm hP
    have hDc := bk_D hpm hD
    have hFc := bk_F hpm hD hS hA
    refine va_callv (va_runV (As := [.ref fi0]) (rest := []) ⟨hx, hb, hml, hown, hts⟩ (c_X1_run l dC dI ad tN fN cB cI cJ cZ fa0 fi0 r3 wc3 _ r2 pl0 _ r1 fc1 dc1 rk1 _ ⟨fn_33, f_36, rfl, by omega, by omega⟩ o_32 o1 H.size) (cwV 1 hts gX10_goes_X1_run rfl rfl rfl (by decide +kernel) ⟨(Nat.le_of_ble_eq_true rfl), (Nat.le_of_ble_eq_true rfl)⟩) ⟨fun a U g mk q => by obtain ⟨q0, q1, qP, qK, qD, qE⟩ := q; exact ⟨q0, q1, qP, va_K.moved (u := U) (U := U.calling g mk a) (Vm.Alike.refl U.vm) qK, qD, ey_blind qE⟩, va_recv hK hPc (ci := 1) (q0 := 0) rfl rfl, fun U hU hW => ⟨rfl, by rw [hU], by rw [hU]; exact hPc, va_K.moved hW.alike (va_K.sub hK [0, 1, 2, 3] rfl), hDc.weaken (fun _ _ _ _ => trivial), ey_call hE hS hFc hU hW⟩⟩ rfl rfl hl.1 rfl (lv_room (Nat.le_of_ble_eq_true rfl)) dX10_goes_23 ⟨(Nat.le_of_ble_eq_true rfl), (Nat.le_of_ble_eq_true rfl)⟩) hS (fun q _ h => hFc q h) hFc (fun u t H locs ht hvm hw hB hz1 hk1 hS => ?_)
    obtain ⟨wc_40, w_38, w_41, o_39, o_42, hP1, hD1⟩ := hB
    rw [ht] at hP1
    obtain ⟨hP, hD⟩ := bk_join hpm hP hD hk1 hFc (Cs1 := [w_38, w_41, w1]) hP1 hD1
    have hpm2 : List.Perm (([w_38, w_41, w1] : List va_W) ++ ([[(h0, .inr (8, [.ref (r0 0), .int tp_10, .ref pl0, .ref sp0, .ref rd0, .ref (r0 1), .int mv_14, .ref fi0, .ref se0, .ref fa0, .ref cr0, .ref ra0, .ref pa0, .int nw0])), (r0 0, .inl (cB, 1600, .inl f_9)), (r0 1, .inl (cI, 6, .inl f_13))]] : List va_W)) ([[(h0, .inr (8, [.ref (r0 0), .int tp_10, .ref pl0, .ref sp0, .ref rd0, .ref (r0 1), .int mv_14, .ref fi0, .ref se0, .ref fa0, .ref cr0, .ref ra0, .ref pa0, .int nw0])), (r0 0, .inl (cB, 1600, .inl f_9)), (r0 1, .inl (cI, 6, .inl f_13))], w1, w_41, w_38] : List va_W) := pm_n 4 [3, 2, 1, 0] (by decide) rfl rfl
    have hP := bk_reP hpm2 hP
    have hD := bk_reD hpm2 hD
    have hP : va_P (dC, dI) vwCl (List.flatten [[(h0, .inr (8, [.ref (r0 0), .int tp_10, .ref pl0, .ref sp0, .ref rd0, .ref (r0 1), .int mv_14, .ref fi0, .ref se0, .ref fa0, .ref cr0, .ref ra0, .ref pa0, .int nw0])), (r0 0, .inl (cB, 1600, .inl f_9)), (r0 1, .inl (cI, 6, .inl f_13))], w1, w_41, w_38]) H := hP
    have hD : va_D A (List.flatten [[(h0, .inr (8, [.ref (r0 0), .int tp_10, .ref pl0, .ref sp0, .ref rd0, .ref (r0 1), .int mv_14, .ref fi0, .ref se0, .ref fa0, .ref cr0, .ref ra0, .ref pa0, .int nw0])), (r0 0, .inl (cB, 1600, .inl f_9)), (r0 1, .inl (cI, 6, .inl f_13))], w1, w_41, w_38]) := hD
    obtain ⟨hx_43, hx_44⟩ := okx_fall o_39
    refine lv_iload_n hx hb dX10_goes_26 rfl (lv_at hl 2 rfl) ?_
    refine lv_if_lt (tgt := 53) hx hb dX10_goes_27 (by decide) (fun c_45 => ?_) (fun c_45 => ?_)
    · have c_45 : p2.toInt < 0 := f_lt rfl tI_0 c_45
      refine lv_iconst (v := (-1)) hx hb dX10_goes_53 (by decide) ?_
      rw [hQ0]
      exact W.iret (v := (-1)) hx hb hr (fun t ht hW => ⟨⟨(-1), (), rfl, trivial, ⟨pl0, _, wc_40, _, Or.inr (rfl), o_42, o_39, by rw [ht]; exact hP, hD⟩⟩, hS.F ht⟩) hS.2.2 dX10_goes_54
    · have c_45 : 0 ≤ p2.toInt := f_nlt rfl tI_0 c_45
      refine lv_iload_n hx hb dX10_goes_30 rfl (lv_at hl 2 rfl) ?_
      refine lv_aload_n hx hb dX10_goes_31 rfl (lv_at hl 0 rfl) ?_
      refine va_get (D := (dC, dI)) (ci := 8) (v := .ref fa0) (C := RX10) (T := TX10) (N := 14) hx hb hts iw_X10_goes_X10 hown hK hP 0 rfl rfl 9 (by decide) (hts (.fieldLink RX10 54 "HungFloors" "falling" "LHungFloors$Fall;") (by decide +kernel)) (fun _ h9 => h9) rfl dX10_goes_32 ?_
      obtain ⟨f_48, f_49, f_50, f_51, f_54, f_56, f_57, f_59, f_61, rfl, hl_46, hh_47, hl_52, hh_53, hr_55, hr_58, hr_60⟩ := o1
      obtain ⟨fr_62, dr_65, rc_68, f_71, f_73, gn_74, f_75, f_76, f_77, f_78, f_79, sc_80, jc_81, f_84, f_86, rfl, hl_63, hh_64, hl_66, hh_67, hl_69, hh_70, hr_72, hl_82, hh_83, hr_85, hr_87⟩ := o_42
      obtain ⟨fn_88, f_91, rfl, hl_89, hh_90⟩ := o_39
      refine va_get (D := (dC, dI)) (ci := 1) (v := .int wc_40) (C := RX1) (T := TX1) (N := 3) hx hb hts iw_X10_goes_X1 hown hK hP 24 rfl rfl 1 (by decide) (hts (.fieldLink RX10 173 "HungFloors$Fall" "wentCount" "I") (by decide +kernel)) (fun _ h9 => h9) rfl dX10_goes_35 ?_
      refine lv_icmp_ge (tgt := 53) hx hb dX10_goes_38 (by decide) (fun c_92 => ?_) (fun c_92 => ?_)
      · have c_92 : wc_40.toInt ≤ p2.toInt := f_le rfl rfl c_92
        refine lv_iconst (v := (-1)) hx hb dX10_goes_53 (by decide) ?_
        rw [hQ0]
        exact W.iret (v := (-1)) hx hb hr (fun t ht hW => ⟨⟨(-1), (), rfl, trivial, ⟨pl0, _, wc_40, _, Or.inr (rfl), ⟨fr_62, dr_65, rc_68, f_71, f_73, gn_74, f_75, f_76, f_77, f_78, f_79, sc_80, jc_81, f_84, f_86, rfl, by omega, by omega, by omega, by omega, by omega, by omega, hr_72, by omega, by omega, hr_85, hr_87⟩, ⟨fn_88, f_91, rfl, by omega, by omega⟩, by rw [ht]; exact hP, hD⟩⟩, hS.F ht⟩) hS.2.2 dX10_goes_54
      · have c_92 : p2.toInt < wc_40.toInt := f_nle rfl rfl c_92
        refine lv_aload_n hx hb dX10_goes_41 rfl (lv_at hl 0 rfl) ?_
        refine va_get (D := (dC, dI)) (ci := 8) (v := .ref fa0) (C := RX10) (T := TX10) (N := 14) hx hb hts iw_X10_goes_X10 hown hK hP 0 rfl rfl 9 (by decide) (hts (.fieldLink RX10 54 "HungFloors" "falling" "LHungFloors$Fall;") (by decide +kernel)) (fun _ h9 => h9) rfl dX10_goes_42 ?_
        refine va_get (D := (dC, dI)) (ci := 1) (v := .ref (r3 0)) (C := RX1) (T := TX1) (N := 3) hx hb hts iw_X10_goes_X1 hown hK hP 24 rfl rfl 2 (by decide) (hts (.fieldLink RX10 176 "HungFloors$Fall" "went" "[I") (by decide +kernel)) (fun _ h9 => h9) rfl dX10_goes_45 ?_
        refine lv_iload_n hx hb dX10_goes_48 rfl (lv_at hl 2 rfl) ?_
        refine va_iald hx hb hK hP 25 1 rfl rfl (v_in rfl (by omega) (by omega)) dX10_goes_49 ?_
        refine lv_topi (fun z_93 ez_93 => ?_)
        refine lv_goto (tgt := 54) hx hb dX10_goes_50 (by decide) ?_
        rw [hQ0]
        exact W.iret (v := z_93) hx hb hr (fun t ht hW => ⟨⟨z_93, (), rfl, trivial, ⟨pl0, _, wc_40, _, Or.inr (rfl), ⟨fr_62, dr_65, rc_68, f_71, f_73, gn_74, f_75, f_76, f_77, f_78, f_79, sc_80, jc_81, f_84, f_86, rfl, by omega, by omega, by omega, by omega, by omega, by omega, hr_72, by omega, by omega, hr_85, hr_87⟩, ⟨fn_88, f_91, rfl, by omega, by omega⟩, by rw [ht]; exact hP, hD⟩⟩, hS.F ht⟩) hS.2.2 dX10_goes_54
