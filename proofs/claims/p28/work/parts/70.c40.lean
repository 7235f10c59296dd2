theorem iw_X10_story_X10 : ∀ w ∈ wsX100, w ∈ wsX10_story := fun _ h => List.mem_cons_of_mem _ (List.mem_append_left _ (List.mem_append_right _ h))
set_option maxHeartbeats 4000000 in
set_option maxRecDepth 100000 in
theorem c_X10_story (l : Launch) (dC : Nat → ClassId) (dI : Nat → Nat → Nat) (ad : Nat → Nat) (tN : Nat) (fN : Nat → Int64) (cB cI cJ cZ cQ : ClassId) (h0 : Nat) (p1 : Int32) (p2 : Int32) (p3 : Int32) (r0 : Nat → Nat) (pl0 : Nat) (sp0 : Nat) (rd0 : Nat) (fi0 : Nat) (se0 : Nat) (fa0 : Nat) (cr0 : Nat) (ra0 : Nat) (pa0 : Nat) (nw0 : Int32) (w0 : va_W) (r1 : Nat → Nat) (pc1 : Int32) (w1 : va_W) (o0 : ok_main ad cB cI cJ cZ h0 r0 pl0 sp0 rd0 fi0 se0 fa0 cr0 ra0 pa0 nw0 w0) (o1 : ok_pap ad cB cI cJ cZ pa0 r1 pc1 w1) (sz : Nat) : Met l yX10_story wsX10_story ({ frames := 2, cells := 0, slots := 0, locals := 45 } : Room) (va_Pc [.ref h0, .int p1, .int p2, .int p3] (fun U => U.heap.size = sz ∧ va_P (dC, dI) vwCl (List.flatten [w0, w1]) U.heap ∧ va_K (dC, dI) vwCl [(cB, .byte), (cI, .int), (cJ, .long), (cZ, .boolean), (cQ, .array .long)] U ∧ va_D (fun _ => True) (List.flatten [w0, w1]) ∧ ex_Y ad tN fN (va_A (List.flatten [w0, w1]) sz) U)) (va_Qi (fun (r : Int32) (_ : Unit) => 0 ≤ r.toInt ∧ r.toInt ≤ 1) (fun (_ : Unit) (t : State) => ∃ (w19 : va_W), ok_pap ad cB cI cJ cZ pa0 r1 pc1 w19 ∧ va_P (dC, dI) vwCl (List.flatten [w0, w19]) t.heap ∧ va_D (va_A (List.flatten [w0, w1]) sz) (List.flatten [w0, w19])) (va_A (List.flatten [w0, w1]) sz)) 0 0 (va_A (List.flatten [w0, w1]) sz) := by
  refine Met.ofW (cc := cX10_story) (maxL := 4) (ret := (some .boolean)) (by decide) rfl ?_
  intro p e s m args below meth c s₁ B hml hv
  obtain ⟨rfl, hsz, hP, hK, hD0, hE⟩ := hv
  have hx := B.exec
  have hb := B.bytes
  have hr := B.returns
  have hts := atoms_spec (ws := wsX10_story) B.pre
  have hown : s.vm.findClass RX10 = some m.cls := findClass_of_methodNamed B.named
  have hlocks := B.notSynchronized
  subst hsz
  have hD := hD0.self (sz := s.heap.size)
  generalize hAe : va_A (List.flatten [w0, w1]) s.heap.size = A at hD hE ⊢
  have hA : ∀ q : Nat, s.heap.size ≤ q → A q := fun q h => by rw [← hAe]; exact Or.inr h
  have hS : va_S A s.heap s.heap [] := va_S.rf
  have hl := lv_entry ([.ref h0, .int p1, .int p2, .int p3]) (n := 4) (Nat.le_of_ble_eq_true rfl)
  rw [lg_entry_eq]
  generalize (lg_sl ([.ref h0, .int p1, .int p2, .int p3]) ++ List.replicate (4 - (lg_sl ([.ref h0, .int p1, .int p2, .int p3])).length) Slot.unset).toArray = ls at hl ⊢
  have hl : lv_has ls 4 [(0, .ref h0), (1, .int p1), (2, .int p2), (3, .int p3)] := hl
  clear hAe
  refine W_name (fun Q0 hQ0 => ?_)
  obtain ⟨hx_1, hx_2⟩ := okx_main o0
  obtain ⟨hx_3, hx_4⟩ := okx_pap o1
  refine lv_iload_n hx hb dX10_story_0 rfl (lv_at hl 2 rfl) ?_
  refine lv_if_lt (tgt := 20) hx hb dX10_story_1 (by decide) (fun c_5 => ?_) (fun c_5 => ?_)
  · have c_5 : p2.toInt < 0 := f_lt rfl tI_0 c_5
    refine lv_iconst (v := 0) hx hb dX10_story_20 (by decide) ?_
    rw [hQ0]
    exact W.zret (v := 0) hx hb hr (by decide) (fun t ht hW => ⟨⟨0, (), rfl, ⟨by decide, by decide⟩, ⟨_, o1, by rw [ht]; exact hP, hD⟩⟩, hS.F ht⟩) hS.2.2 dX10_story_21
  · have c_5 : 0 ≤ p2.toInt := f_nlt rfl tI_0 c_5
    refine lv_iload_n hx hb dX10_story_4 rfl (lv_at hl 2 rfl) ?_
    refine lv_bipush (v := 10) hx hb dX10_story_5 (by decide) ?_
    refine lv_icmp_gt (tgt := 20) hx hb dX10_story_7 (by decide) (fun c_6 => ?_) (fun c_6 => ?_)
    · have c_6 : 10 < p2.toInt := f_lt tI_10 rfl c_6
      refine lv_iconst (v := 0) hx hb dX10_story_20 (by decide) ?_
      rw [hQ0]
      exact W.zret (v := 0) hx hb hr (by decide) (fun t ht hW => ⟨⟨0, (), rfl, ⟨by decide, by decide⟩, ⟨_, o1, by rw [ht]; exact hP, hD⟩⟩, hS.F ht⟩) hS.2.2 dX10_story_21
    · have c_6 : p2.toInt ≤ 10 := f_nlt tI_10 rfl c_6
      refine lv_iload_n hx hb dX10_story_10 rfl (lv_at hl 3 rfl) ?_
      refine lv_if_lt (tgt := 20) hx hb dX10_story_11 (by decide) (fun c_7 => ?_) (fun c_7 => ?_)
      · have c_7 : p3.toInt < 0 := f_lt rfl tI_0 c_7
        refine lv_iconst (v := 0) hx hb dX10_story_20 (by decide) ?_
        rw [hQ0]
        exact W.zret (v := 0) hx hb hr (by decide) (fun t ht hW => ⟨⟨0, (), rfl, ⟨by decide, by decide⟩, ⟨_, o1, by rw [ht]; exact hP, hD⟩⟩, hS.F ht⟩) hS.2.2 dX10_story_21
      · have c_7 : 0 ≤ p3.toInt := f_nlt rfl tI_0 c_7
        refine lv_iload_n hx hb dX10_story_14 rfl (lv_at hl 3 rfl) ?_
        refine lv_bipush (v := 10) hx hb dX10_story_15 (by decide) ?_
        refine lv_icmp_le (tgt := 22) hx hb dX10_story_17 (by decide) (fun c_8 => ?_) (fun c_8 => ?_)
        · have c_8 : p3.toInt ≤ 10 := f_le rfl tI_10 c_8
          refine lv_aload_n hx hb dX10_story_22 rfl (lv_at hl 0 rfl) ?_
          obtain ⟨f_9, tp_10, f_13, mv_14, rfl, hl_11, hh_12, hl_15, hh_16⟩ := o0
          refine va_get (D := (dC, dI)) (ci := 8) (v := .ref pa0) (C := RX10) (T := TX10) (N := 14) hx hb hts iw_X10_story_X10 hown hK hP 0 rfl rfl 12 (by decide) (hts (.fieldLink RX10 75 "HungFloors" "papers" "LHungFloors$Papers;") (by decide +kernel)) (fun _ h9 => h9) rfl dX10_story_23 ?_
          refine lv_iload_n hx hb dX10_story_26 rfl (lv_at hl 1 rfl) ?_
          refine lv_iload_n hx hb dX10_story_27 rfl (lv_at hl 2 rfl) ?_
          refine lv_iload_n hx hb dX10_story_28 rfl (lv_at hl 3 rfl) ?_
          obtain ⟨f_19, f_20, f_21, f_22, f_23, f_24, f_25, sc_26, f_29, f_31, f_32, rfl, hl_17, hh_18, hl_27, hh_28, hr_30⟩ := o1
          have hpm : List.Perm ([[(h0, .inr (8, [.ref (r0 0), .int tp_10, .ref pl0, .ref sp0, .ref rd0, .ref (r0 1), .int mv_14, .ref fi0, .ref se0, .ref fa0, .ref cr0, .ref ra0, .ref pa0, .int nw0])), (r0 0, .inl (cB, 1600, .inl f_9)), (r0 1, .inl (cI, 6, .inl f_13))], [(pa0, .inr (4, [.int pc1, .ref (r1 0), .ref (r1 1), .ref (r1 2), .ref (r1 3), .ref (r1 4), .ref (r1 5), .ref (r1 6), .int sc_26, .ref (r1 7), .ref (r1 8), .ref (r1 9)])), (r1 0, .inl (cI, 60, .inl f_19)), (r1 1, .inl (cI, 60, .inl f_20)), (r1 2, .inl (cI, 60, .inl f_21)), (r1 3, .inl (cI, 60, .inl f_22)), (r1 4, .inl (cZ, 60, .inl f_23)), (r1 5, .inl (cI, 60, .inl f_24)), (r1 6, .inl (cI, 60, .inl f_25)), (r1 7, .inl (cI, 9, .inl f_29)), (r1 8, .inl (cI, 9, .inl f_31)), (r1 9, .inl (cI, 9, .inl f_32))]] : List va_W) (([[(pa0, .inr (4, [.int pc1, .ref (r1 0), .ref (r1 1), .ref (r1 2), .ref (r1 3), .ref (r1 4), .ref (r1 5), .ref (r1 6), .int sc_26, .ref (r1 7), .ref (r1 8), .ref (r1 9)])), (r1 0, .inl (cI, 60, .inl f_19)), (r1 1, .inl (cI, 60, .inl f_20)), (r1 2, .inl (cI, 60, .inl f_21)), (r1 3, .inl (cI, 60, .inl f_22)), (r1 4, .inl (cZ, 60, .inl f_23)), (r1 5, .inl (cI, 60, .inl f_24)), (r1 6, .inl (cI, 60, .inl f_25)), (r1 7, .inl (cI, 9, .inl f_29)), (r1 8, .inl (cI, 9, .inl f_31)), (r1 9, .inl (cI, 9, .inl f_32))]] : List va_W) ++ ([[(h0, .inr (8, [.ref (r0 0), .int tp_10, .ref pl0, .ref sp0, .ref rd0, .ref (r0 1), .int mv_14, .ref fi0, .ref se0, .ref fa0, .ref cr0, .ref ra0, .ref pa0, .int nw0])), (r0 0, .inl (cB, 1600, .inl f_9)), (r0 1, .inl (cI, 6, .inl f_13))]] : List va_W)) := pm_n 2 [1, 0] (by decide) rfl rfl
          have hPc := bk_P hpm hP
          have hDc := bk_D hpm hD
          have hFc := bk_F hpm hD hS hA
          refine va_calli (va_runV (As := [.int p1, .int p2, .int p3]) (rest := []) ⟨hx, hb, hml, hown, hts⟩ (c_X6_letBear l dC dI ad tN fN cB cI cJ cZ pa0 p1 p2 p3 r1 pc1 _ ⟨f_19, f_20, f_21, f_22, f_23, f_24, f_25, sc_26, f_29, f_31, f_32, rfl, by omega, by omega, by omega, by omega, hr_30⟩ s.heap.size) (cwV 3 hts gX10_story_X6_letBear rfl rfl rfl (by decide +kernel) ⟨(Nat.le_of_ble_eq_true rfl), (Nat.le_of_ble_eq_true rfl)⟩) ⟨fun a U g mk q => by obtain ⟨q0, q1, qP, qK, qD, qE⟩ := q; exact ⟨q0, q1, qP, va_K.moved (u := U) (U := U.calling g mk a) (Vm.Alike.refl U.vm) qK, qD, ey_blind qE⟩, va_recv hK hPc (ci := 4) (q0 := 0) rfl rfl, fun U hU hW => ⟨rfl, by rw [hU], by rw [hU]; exact hPc, va_K.moved hW.alike (va_K.sub hK [0, 1, 2, 3] rfl), hDc.weaken (fun _ _ _ _ => trivial), ey_call hE hS hFc hU hW⟩⟩ rfl rfl hl.1 rfl (lv_room (Nat.le_of_ble_eq_true rfl)) dX10_story_29 ⟨(Nat.le_of_ble_eq_true rfl), (Nat.le_of_ble_eq_true rfl)⟩) hS (fun q _ h => hFc q h) hFc (fun r_33 u t H locs ht hvm hw hB hz1 hk1 hS => ?_)
          obtain ⟨w_34, o_35, hP1, hD1⟩ := hB
          rw [ht] at hP1
          obtain ⟨hP, hD⟩ := bk_join hpm hP hD hk1 hFc (Cs1 := [w_34]) hP1 hD1
          have hpm2 : List.Perm (([w_34] : List va_W) ++ ([[(h0, .inr (8, [.ref (r0 0), .int tp_10, .ref pl0, .ref sp0, .ref rd0, .ref (r0 1), .int mv_14, .ref fi0, .ref se0, .ref fa0, .ref cr0, .ref ra0, .ref pa0, .int nw0])), (r0 0, .inl (cB, 1600, .inl f_9)), (r0 1, .inl (cI, 6, .inl f_13))]] : List va_W)) ([[(h0, .inr (8, [.ref (r0 0), .int tp_10, .ref pl0, .ref sp0, .ref rd0, .ref (r0 1), .int mv_14, .ref fi0, .ref se0, .ref fa0, .ref cr0, .ref ra0, .ref pa0, .int nw0])), (r0 0, .inl (cB, 1600, .inl f_9)), (r0 1, .inl (cI, 6, .inl f_13))], w_34] : List va_W) := pm_n 2 [1, 0] (by decide) rfl rfl
          have hP := bk_reP hpm2 hP
          have hD := bk_reD hpm2 hD
          have hP : va_P (dC, dI) vwCl (List.flatten [[(h0, .inr (8, [.ref (r0 0), .int tp_10, .ref pl0, .ref sp0, .ref rd0, .ref (r0 1), .int mv_14, .ref fi0, .ref se0, .ref fa0, .ref cr0, .ref ra0, .ref pa0, .int nw0])), (r0 0, .inl (cB, 1600, .inl f_9)), (r0 1, .inl (cI, 6, .inl f_13))], w_34]) H := hP
          have hD : va_D A (List.flatten [[(h0, .inr (8, [.ref (r0 0), .int tp_10, .ref pl0, .ref sp0, .ref rd0, .ref (r0 1), .int mv_14, .ref fi0, .ref se0, .ref fa0, .ref cr0, .ref ra0, .ref pa0, .int nw0])), (r0 0, .inl (cB, 1600, .inl f_9)), (r0 1, .inl (cI, 6, .inl f_13))], w_34]) := hD
          obtain ⟨hx_36, hx_37⟩ := okx_pap o_35
          obtain ⟨hlr_33, hhr_33⟩ := hw
          rw [hQ0]
          exact W.zret (v := r_33) hx hb hr (z_nar (by omega) (by omega)) (fun t ht hW => ⟨⟨r_33, (), rfl, ⟨by omega, by omega⟩, ⟨_, o_35, by rw [ht]; exact hP, hD⟩⟩, hS.F ht⟩) hS.2.2 dX10_story_32
        · have c_8 : 10 < p3.toInt := f_nle rfl tI_10 c_8
          refine lv_iconst (v := 0) hx hb dX10_story_20 (by decide) ?_
          rw [hQ0]
          exact W.zret (v := 0) hx hb hr (by decide) (fun t ht hW => ⟨⟨0, (), rfl, ⟨by decide, by decide⟩, ⟨_, o1, by rw [ht]; exact hP, hD⟩⟩, hS.F ht⟩) hS.2.2 dX10_story_21
theorem iw_X10_believed_X10 : ∀ w ∈ wsX100, w ∈ wsX10_believed := fun _ h => List.mem_cons_of_mem _ (List.mem_append_left _ (List.mem_append_right _ h))
set_option maxHeartbeats 4000000 in
set_option maxRecDepth 100000 in
theorem c_X10_believed (l : Launch) (dC : Nat → ClassId) (dI : Nat → Nat → Nat) (ad : Nat → Nat) (tN : Nat) (fN : Nat → Int64) (cB cI cJ cZ cQ : ClassId) (h0 : Nat) (p1 : Int32) (p2 : Int32) (r0 : Nat → Nat) (pl0 : Nat) (sp0 : Nat) (rd0 : Nat) (fi0 : Nat) (se0 : Nat) (fa0 : Nat) (cr0 : Nat) (ra0 : Nat) (pa0 : Nat) (nw0 : Int32) (w0 : va_W) (r1 : Nat → Nat) (pc1 : Int32) (w1 : va_W) (o0 : ok_main ad cB cI cJ cZ h0 r0 pl0 sp0 rd0 fi0 se0 fa0 cr0 ra0 pa0 nw0 w0) (o1 : ok_pap ad cB cI cJ cZ pa0 r1 pc1 w1) (sz : Nat) : Met l yX10_believed wsX10_believed ({ frames := 2, cells := 0, slots := 0, locals := 56 } : Room) (va_Pc [.ref h0, .int p1, .int p2] (fun U => U.heap.size = sz ∧ va_P (dC, dI) vwCl (List.flatten [w0, w1]) U.heap ∧ va_K (dC, dI) vwCl [(cB, .byte), (cI, .int), (cJ, .long), (cZ, .boolean), (cQ, .array .long)] U ∧ va_D (fun _ => True) (List.flatten [w0, w1]) ∧ ex_Y ad tN fN (va_A (List.flatten [w0, w1]) sz) U)) (va_Ql (fun (r : Int64) (_ : Unit) => True) (fun (_ : Unit) (t : State) => va_P (dC, dI) vwCl (List.flatten [w0, w1]) t.heap ∧ va_D (va_A (List.flatten [w0, w1]) sz) (List.flatten [w0, w1])) (va_A (List.flatten [w0, w1]) sz)) 0 0 (va_A (List.flatten [w0, w1]) sz) := by
  refine Met.ofW (cc := cX10_believed) (maxL := 7) (ret := (some .long)) (by decide) rfl ?_
  intro p e s m args below meth c s₁ B hml hv
  obtain ⟨rfl, hsz, hP, hK, hD0, hE⟩ := hv
  have hx := B.exec
  have hb := B.bytes
  have hr := B.returns
  have hts := atoms_spec (ws := wsX10_believed) B.pre
  have hown : s.vm.findClass RX10 = some m.cls := findClass_of_methodNamed B.named
  have hlocks := B.notSynchronized
  subst hsz
  have hD := hD0.self (sz := s.heap.size)
  generalize hAe : va_A (List.flatten [w0, w1]) s.heap.size = A at hD hE ⊢
  have hA : ∀ q : Nat, s.heap.size ≤ q → A q := fun q h => by rw [← hAe]; exact Or.inr h
  have hS : va_S A s.heap s.heap [] := va_S.rf
  have hl := lv_entry ([.ref h0, .int p1, .int p2]) (n := 7) (Nat.le_of_ble_eq_true rfl)
  rw [lg_entry_eq]
  generalize (lg_sl ([.ref h0, .int p1, .int p2]) ++ List.replicate (7 - (lg_sl ([.ref h0, .int p1, .int p2])).length) Slot.unset).toArray = ls at hl ⊢
  have hl : lv_has ls 7 [(0, .ref h0), (1, .int p1), (2, .int p2)] := hl
  clear hAe
  refine W_name (fun Q0 hQ0 => ?_)
  obtain ⟨hx_1, hx_2⟩ := okx_main o0
  obtain ⟨hx_3, hx_4⟩ := okx_pap o1
  refine lv_aload_n hx hb dX10_believed_0 rfl (lv_at hl 0 rfl) ?_
  obtain ⟨f_5, tp_6, f_9, mv_10, rfl, hl_7, hh_8, hl_11, hh_12⟩ := o0
  refine va_get (D := (dC, dI)) (ci := 8) (v := .ref pa0) (C := RX10) (T := TX10) (N := 14) hx hb hts iw_X10_believed_X10 hown hK hP 0 rfl rfl 12 (by decide) (hts (.fieldLink RX10 75 "HungFloors" "papers" "LHungFloors$Papers;") (by decide +kernel)) (fun _ h9 => h9) rfl dX10_believed_1 ?_
  refine lv_iconst (v := 1) hx hb dX10_believed_4 (by decide) ?_
  refine lv_iload_n hx hb dX10_believed_5 rfl (lv_at hl 2 rfl) ?_
  obtain ⟨f_15, f_16, f_17, f_18, f_19, f_20, f_21, sc_22, f_25, f_27, f_28, rfl, hl_13, hh_14, hl_23, hh_24, hr_26⟩ := o1
  have hpm : List.Perm ([[(h0, .inr (8, [.ref (r0 0), .int tp_6, .ref pl0, .ref sp0, .ref rd0, .ref (r0 1), .int mv_10, .ref fi0, .ref se0, .ref fa0, .ref cr0, .ref ra0, .ref pa0, .int nw0])), (r0 0, .inl (cB, 1600, .inl f_5)), (r0 1, .inl (cI, 6, .inl f_9))], [(pa0, .inr (4, [.int pc1, .ref (r1 0), .ref (r1 1), .ref (r1 2), .ref (r1 3), .ref (r1 4), .ref (r1 5), .ref (r1 6), .int sc_22, .ref (r1 7), .ref (r1 8), .ref (r1 9)])), (r1 0, .inl (cI, 60, .inl f_15)), (r1 1, .inl (cI, 60, .inl f_16)), (r1 2, .inl (cI, 60, .inl f_17)), (r1 3, .inl (cI, 60, .inl f_18)), (r1 4, .inl (cZ, 60, .inl f_19)), (r1 5, .inl (cI, 60, .inl f_20)), (r1 6, .inl (cI, 60, .inl f_21)), (r1 7, .inl (cI, 9, .inl f_25)), (r1 8, .inl (cI, 9, .inl f_27)), (r1 9, .inl (cI, 9, .inl f_28))]] : List va_W) (([[(pa0, .inr (4, [.int pc1, .ref (r1 0), .ref (r1 1), .ref (r1 2), .ref (r1 3), .ref (r1 4), .ref (r1 5), .ref (r1 6), .int sc_22, .ref (r1 7), .ref (r1 8), .ref (r1 9)])), (r1 0, .inl (cI, 60, .inl f_15)), (r1 1, .inl (cI, 60, .inl f_16)), (r1 2, .inl (cI, 60, .inl f_17)), (r1 3, .inl (cI, 60, .inl f_18)), (r1 4, .inl (cZ, 60, .inl f_19)), (r1 5, .inl (cI, 60, .inl f_20)), (r1 6, .inl (cI, 60, .inl f_21)), (r1 7, .inl (cI, 9, .inl f_25)), (r1 8, .inl (cI, 9, .inl f_27)), (r1 9, .inl (cI, 9, .inl f_28))]] : List va_W) ++ ([[(h0, .inr (8, [.ref (r0 0), .int tp_6, .ref pl0, .ref sp0, .ref rd0, .ref (r0 1), .int mv_10, .ref fi0, .ref se0, .ref fa0, .ref cr0, .ref ra0, .ref pa0, .int nw0])), (r0 0, .inl (cB, 1600, .inl f_5)), (r0 1, .inl (cI, 6, .inl f_9))]] : List va_W)) := pm_n 2 [1, 0] (by decide) rfl rfl
  have hPc := bk_P hpm hP
  have hDc := bk_D hpm hD
  have hFc := bk_F hpm hD hS hA
  refine va_calll (va_runV (As := [.int 1, .int p2]) (rest := []) ⟨hx, hb, hml, hown, hts⟩ (c_X6_oddsTogether l dC dI ad tN fN cB cI cJ cZ pa0 1 p2 r1 pc1 _ ⟨f_15, f_16, f_17, f_18, f_19, f_20, f_21, sc_22, f_25, f_27, f_28, rfl, by omega, by omega, by omega, by omega, hr_26⟩ s.heap.size) (cwV 2 hts gX10_believed_X6_oddsTogether rfl rfl rfl (by decide +kernel) ⟨(Nat.le_of_ble_eq_true rfl), (Nat.le_of_ble_eq_true rfl)⟩) ⟨fun a U g mk q => by obtain ⟨q0, q1, qP, qK, qD, qE⟩ := q; exact ⟨q0, q1, qP, va_K.moved (u := U) (U := U.calling g mk a) (Vm.Alike.refl U.vm) qK, qD, ey_blind qE⟩, va_recv hK hPc (ci := 4) (q0 := 0) rfl rfl, fun U hU hW => ⟨rfl, by rw [hU], by rw [hU]; exact hPc, va_K.moved hW.alike (va_K.sub hK [0, 1, 2, 3] rfl), hDc.weaken (fun _ _ _ _ => trivial), ey_call hE hS hFc hU hW⟩⟩ rfl rfl hl.1 rfl (lv_room (Nat.le_of_ble_eq_true rfl)) dX10_believed_6 ⟨(Nat.le_of_ble_eq_true rfl), (Nat.le_of_ble_eq_true rfl)⟩) hS (fun q _ h => hFc q h) hFc (fun r_29 u t H locs ht hvm hw hB hz1 hk1 hS => ?_)
  obtain ⟨hP1, hD1⟩ := hB
  rw [ht] at hP1
  obtain ⟨hP, hD⟩ := bk_join hpm hP hD hk1 hFc (Cs1 := [[(pa0, .inr (4, [.int pc1, .ref (r1 0), .ref (r1 1), .ref (r1 2), .ref (r1 3), .ref (r1 4), .ref (r1 5), .ref (r1 6), .int sc_22, .ref (r1 7), .ref (r1 8), .ref (r1 9)])), (r1 0, .inl (cI, 60, .inl f_15)), (r1 1, .inl (cI, 60, .inl f_16)), (r1 2, .inl (cI, 60, .inl f_17)), (r1 3, .inl (cI, 60, .inl f_18)), (r1 4, .inl (cZ, 60, .inl f_19)), (r1 5, .inl (cI, 60, .inl f_20)), (r1 6, .inl (cI, 60, .inl f_21)), (r1 7, .inl (cI, 9, .inl f_25)), (r1 8, .inl (cI, 9, .inl f_27)), (r1 9, .inl (cI, 9, .inl f_28))]]) hP1 hD1
  have hpm2 : List.Perm (([[(pa0, .inr (4, [.int pc1, .ref (r1 0), .ref (r1 1), .ref (r1 2), .ref (r1 3), .ref (r1 4), .ref (r1 5), .ref (r1 6), .int sc_22, .ref (r1 7), .ref (r1 8), .ref (r1 9)])), (r1 0, .inl (cI, 60, .inl f_15)), (r1 1, .inl (cI, 60, .inl f_16)), (r1 2, .inl (cI, 60, .inl f_17)), (r1 3, .inl (cI, 60, .inl f_18)), (r1 4, .inl (cZ, 60, .inl f_19)), (r1 5, .inl (cI, 60, .inl f_20)), (r1 6, .inl (cI, 60, .inl f_21)), (r1 7, .inl (cI, 9, .inl f_25)), (r1 8, .inl (cI, 9, .inl f_27)), (r1 9, .inl (cI, 9, .inl f_28))]] : List va_W) ++ ([[(h0, .inr (8, [.ref (r0 0), .int tp_6, .ref pl0, .ref sp0, .ref rd0, .ref (r0 1), .int mv_10, .ref fi0, .ref se0, .ref fa0, .ref cr0, .ref ra0, .ref pa0, .int nw0])), (r0 0, .inl (cB, 1600, .inl f_5)), (r0 1, .inl (cI, 6, .inl f_9))]] : List va_W)) ([[(h0, .inr (8, [.ref (r0 0), .int tp_6, .ref pl0, .ref sp0, .ref rd0, .ref (r0 1), .int mv_10, .ref fi0, .ref se0, .ref fa0, .ref cr0, .ref ra0, .ref pa0, .int nw0])), (r0 0, .inl (cB, 1600, .inl f_5)), (r0 1, .inl (cI, 6, .inl f_9))], [(pa0, .inr (4, [.int pc1, .ref (r1 0), .ref (r1 1), .ref (r1 2), .ref (r1 3), .ref (r1 4), .ref (r1 5), .ref (r1 6), .int sc_22, .ref (r1 7), .ref (r1 8), .ref (r1 9)])), (r1 0, .inl (cI, 60, .inl f_15)), (r1 1, .inl (cI, 60, .inl f_16)), (r1 2, .inl (cI, 60, .inl f_17)), (r1 3, .inl (cI, 60, .inl f_18)), (r1 4, .inl (cZ, 60, .inl f_19)), (r1 5, .inl (cI, 60, .inl f_20)), (r1 6, .inl (cI, 60, .inl f_21)), (r1 7, .inl (cI, 9, .inl f_25)), (r1 8, .inl (cI, 9, .inl f_27)), (r1 9, .inl (cI, 9, .inl f_28))]] : List va_W) := pm_n 2 [1, 0] (by decide) rfl rfl
  have hP := bk_reP hpm2 hP
  have hD := bk_reD hpm2 hD
  have hP : va_P (dC, dI) vwCl (List.flatten [[(h0, .inr (8, [.ref (r0 0), .int tp_6, .ref pl0, .ref sp0, .ref rd0, .ref (r0 1), .int mv_10, .ref fi0, .ref se0, .ref fa0, .ref cr0, .ref ra0, .ref pa0, .int nw0])), (r0 0, .inl (cB, 1600, .inl f_5)), (r0 1, .inl (cI, 6, .inl f_9))], [(pa0, .inr (4, [.int pc1, .ref (r1 0), .ref (r1 1), .ref (r1 2), .ref (r1 3), .ref (r1 4), .ref (r1 5), .ref (r1 6), .int sc_22, .ref (r1 7), .ref (r1 8), .ref (r1 9)])), (r1 0, .inl (cI, 60, .inl f_15)), (r1 1, .inl (cI, 60, .inl f_16)), (r1 2, .inl (cI, 60, .inl f_17)), (r1 3, .inl (cI, 60, .inl f_18)), (r1 4, .inl (cZ, 60, .inl f_19)), (r1 5, .inl (cI, 60, .inl f_20)), (r1 6, .inl (cI, 60, .inl f_21)), (r1 7, .inl (cI, 9, .inl f_25)), (r1 8, .inl (cI, 9, .inl f_27)), (r1 9, .inl (cI, 9, .inl f_28))]]) H := hP
  have hD : va_D A (List.flatten [[(h0, .inr (8, [.ref (r0 0), .int tp_6, .ref pl0, .ref sp0, .ref rd0, .ref (r0 1), .int mv_10, .ref fi0, .ref se0, .ref fa0, .ref cr0, .ref ra0, .ref pa0, .int nw0])), (r0 0, .inl (cB, 1600, .inl f_5)), (r0 1, .inl (cI, 6, .inl f_9))], [(pa0, .inr (4, [.int pc1, .ref (r1 0), .ref (r1 1), .ref (r1 2), .ref (r1 3), .ref (r1 4), .ref (r1 5), .ref (r1 6), .int sc_22, .ref (r1 7), .ref (r1 8), .ref (r1 9)])), (r1 0, .inl (cI, 60, .inl f_15)), (r1 1, .inl (cI, 60, .inl f_16)), (r1 2, .inl (cI, 60, .inl f_17)), (r1 3, .inl (cI, 60, .inl f_18)), (r1 4, .inl (cZ, 60, .inl f_19)), (r1 5, .inl (cI, 60, .inl f_20)), (r1 6, .inl (cI, 60, .inl f_21)), (r1 7, .inl (cI, 9, .inl f_25)), (r1 8, .inl (cI, 9, .inl f_27)), (r1 9, .inl (cI, 9, .inl f_28))]]) := hD
  refine lv_lstore_n (lv' := [(3, .long r_29), (0, .ref h0), (1, .int p1), (2, .int p2)]) hx hb dX10_believed_9 rfl hl (by decide) rfl (fun ls hl => ?_)
  refine lv_aload_n hx hb dX10_believed_10 rfl (lv_at hl 1 rfl) ?_
  refine va_get (D := (dC, dI)) (ci := 8) (v := .ref pa0) (C := RX10) (T := TX10) (N := 14) hx hb hts iw_X10_believed_X10 hown hK hP 0 rfl rfl 12 (by decide) (hts (.fieldLink RX10 75 "HungFloors" "papers" "LHungFloors$Papers;") (by decide +kernel)) (fun _ h9 => h9) rfl dX10_believed_11 ?_
  refine lv_iconst (v := 0) hx hb dX10_believed_14 (by decide) ?_
  refine lv_iload_n hx hb dX10_believed_15 rfl (lv_at hl 3 rfl) ?_
  have hpm : List.Perm ([[(h0, .inr (8, [.ref (r0 0), .int tp_6, .ref pl0, .ref sp0, .ref rd0, .ref (r0 1), .int mv_10, .ref fi0, .ref se0, .ref fa0, .ref cr0, .ref ra0, .ref pa0, .int nw0])), (r0 0, .inl (cB, 1600, .inl f_5)), (r0 1, .inl (cI, 6, .inl f_9))], [(pa0, .inr (4, [.int pc1, .ref (r1 0), .ref (r1 1), .ref (r1 2), .ref (r1 3), .ref (r1 4), .ref (r1 5), .ref (r1 6), .int sc_22, .ref (r1 7), .ref (r1 8), .ref (r1 9)])), (r1 0, .inl (cI, 60, .inl f_15)), (r1 1, .inl (cI, 60, .inl f_16)), (r1 2, .inl (cI, 60, .inl f_17)), (r1 3, .inl (cI, 60, .inl f_18)), (r1 4, .inl (cZ, 60, .inl f_19)), (r1 5, .inl (cI, 60, .inl f_20)), (r1 6, .inl (cI, 60, .inl f_21)), (r1 7, .inl (cI, 9, .inl f_25)), (r1 8, .inl (cI, 9, .inl f_27)), (r1 9, .inl (cI, 9, .inl f_28))]] : List va_W) (([[(pa0, .inr (4, [.int pc1, .ref (r1 0), .ref (r1 1), .ref (r1 2), .ref (r1 3), .ref (r1 4), .ref (r1 5), .ref (r1 6), .int sc_22, .ref (r1 7), .ref (r1 8), .ref (r1 9)])), (r1 0, .inl (cI, 60, .inl f_15)), (r1 1, .inl (cI, 60, .inl f_16)), (r1 2, .inl (cI, 60, .inl f_17)), (r1 3, .inl (cI, 60, .inl f_18)), (r1 4, .inl (cZ, 60, .inl f_19)), (r1 5, .inl (cI, 60, .inl f_20)), (r1 6, .inl (cI, 60, .inl f_21)), (r1 7, .inl (cI, 9, .inl f_25)), (r1 8, .inl (cI, 9, .inl f_27)), (r1 9, .inl (cI, 9, .inl f_28))]] : List va_W) ++ ([[(h0, .inr (8, [.ref (r0 0), .int tp_6, .ref pl0, .ref sp0, .ref rd0, .ref (r0 1), .int mv_10, .ref fi0, .ref se0, .ref fa0, .ref cr0, .ref ra0, .ref pa0, .int nw0])), (r0 0, .inl (cB, 1600, .inl f_5)), (r0 1, .inl (cI, 6, .inl f_9))]] : List va_W)) := pm_n 2 [1, 0] (by decide) rfl rfl
  have hPc := bk_P hpm hP
  have hDc := bk_D hpm hD
  have hFc := bk_F hpm hD hS hA
  refine va_calll (va_runV (As := [.int 0, .int p2]) (rest := []) ⟨hx, hb, hml, hown, hts⟩ (c_X6_oddsTogether l dC dI ad tN fN cB cI cJ cZ pa0 0 p2 r1 pc1 _ ⟨f_15, f_16, f_17, f_18, f_19, f_20, f_21, sc_22, f_25, f_27, f_28, rfl, by omega, by omega, by omega, by omega, hr_26⟩ H.size) (cwV 2 hts gX10_believed_X6_oddsTogether rfl rfl rfl (by decide +kernel) ⟨(Nat.le_of_ble_eq_true rfl), (Nat.le_of_ble_eq_true rfl)⟩) ⟨fun a U g mk q => by obtain ⟨q0, q1, qP, qK, qD, qE⟩ := q; exact ⟨q0, q1, qP, va_K.moved (u := U) (U := U.calling g mk a) (Vm.Alike.refl U.vm) qK, qD, ey_blind qE⟩, va_recv hK hPc (ci := 4) (q0 := 0) rfl rfl, fun U hU hW => ⟨rfl, by rw [hU], by rw [hU]; exact hPc, va_K.moved hW.alike (va_K.sub hK [0, 1, 2, 3] rfl), hDc.weaken (fun _ _ _ _ => trivial), ey_call hE hS hFc hU hW⟩⟩ rfl rfl hl.1 rfl (lv_room (Nat.le_of_ble_eq_true rfl)) dX10_believed_16 ⟨(Nat.le_of_ble_eq_true rfl), (Nat.le_of_ble_eq_true rfl)⟩) hS (fun q _ h => hFc q h) hFc (fun r_30 u t H locs ht hvm hw hB hz1 hk1 hS => ?_)
  obtain ⟨hP1, hD1⟩ := hB
  rw [ht] at hP1
  obtain ⟨hP, hD⟩ := bk_join hpm hP hD hk1 hFc (Cs1 := [[(pa0, .inr (4, [.int pc1, .ref (r1 0), .ref (r1 1), .ref (r1 2), .ref (r1 3), .ref (r1 4), .ref (r1 5), .ref (r1 6), .int sc_22, .ref (r1 7), .ref (r1 8), .ref (r1 9)])), (r1 0, .inl (cI, 60, .inl f_15)), (r1 1, .inl (cI, 60, .inl f_16)), (r1 2, .inl (cI, 60, .inl f_17)), (r1 3, .inl (cI, 60, .inl f_18)), (r1 4, .inl (cZ, 60, .inl f_19)), (r1 5, .inl (cI, 60, .inl f_20)), (r1 6, .inl (cI, 60, .inl f_21)), (r1 7, .inl (cI, 9, .inl f_25)), (r1 8, .inl (cI, 9, .inl f_27)), (r1 9, .inl (cI, 9, .inl f_28))]]) hP1 hD1
  have hpm2 : List.Perm (([[(pa0, .inr (4, [.int pc1, .ref (r1 0), .ref (r1 1), .ref (r1 2), .ref (r1 3), .ref (r1 4), .ref (r1 5), .ref (r1 6), .int sc_22, .ref (r1 7), .ref (r1 8), .ref (r1 9)])), (r1 0, .inl (cI, 60, .inl f_15)), (r1 1, .inl (cI, 60, .inl f_16)), (r1 2, .inl (cI, 60, .inl f_17)), (r1 3, .inl (cI, 60, .inl f_18)), (r1 4, .inl (cZ, 60, .inl f_19)), (r1 5, .inl (cI, 60, .inl f_20)), (r1 6, .inl (cI, 60, .inl f_21)), (r1 7, .inl (cI, 9, .inl f_25)), (r1 8, .inl (cI, 9, .inl f_27)), (r1 9, .inl (cI, 9, .inl f_28))]] : List va_W) ++ ([[(h0, .inr (8, [.ref (r0 0), .int tp_6, .ref pl0, .ref sp0, .ref rd0, .ref (r0 1), .int mv_10, .ref fi0, .ref se0, .ref fa0, .ref cr0, .ref ra0, .ref pa0, .int nw0])), (r0 0, .inl (cB, 1600, .inl f_5)), (r0 1, .inl (cI, 6, .inl f_9))]] : List va_W)) ([[(h0, .inr (8, [.ref (r0 0), .int tp_6, .ref pl0, .ref sp0, .ref rd0, .ref (r0 1), .int mv_10, .ref fi0, .ref se0, .ref fa0, .ref cr0, .ref ra0, .ref pa0, .int nw0])), (r0 0, .inl (cB, 1600, .inl f_5)), (r0 1, .inl (cI, 6, .inl f_9))], [(pa0, .inr (4, [.int pc1, .ref (r1 0), .ref (r1 1), .ref (r1 2), .ref (r1 3), .ref (r1 4), .ref (r1 5), .ref (r1 6), .int sc_22, .ref (r1 7), .ref (r1 8), .ref (r1 9)])), (r1 0, .inl (cI, 60, .inl f_15)), (r1 1, .inl (cI, 60, .inl f_16)), (r1 2, .inl (cI, 60, .inl f_17)), (r1 3, .inl (cI, 60, .inl f_18)), (r1 4, .inl (cZ, 60, .inl f_19)), (r1 5, .inl (cI, 60, .inl f_20)), (r1 6, .inl (cI, 60, .inl f_21)), (r1 7, .inl (cI, 9, .inl f_25)), (r1 8, .inl (cI, 9, .inl f_27)), (r1 9, .inl (cI, 9, .inl f_28))]] : List va_W) := pm_n 2 [1, 0] (by decide) rfl rfl
  have hP := bk_reP hpm2 hP
  have hD := bk_reD hpm2 hD
  have hP : va_P (dC, dI) vwCl (List.flatten [[(h0, .inr (8, [.ref (r0 0), .int tp_6, .ref pl0, .ref sp0, .ref rd0, .ref (r0 1), .int mv_10, .ref fi0, .ref se0, .ref fa0, .ref cr0, .ref ra0, .ref pa0, .int nw0])), (r0 0, .inl (cB, 1600, .inl f_5)), (r0 1, .inl (cI, 6, .inl f_9))], [(pa0, .inr (4, [.int pc1, .ref (r1 0), .ref (r1 1), .ref (r1 2), .ref (r1 3), .ref (r1 4), .ref (r1 5), .ref (r1 6), .int sc_22, .ref (r1 7), .ref (r1 8), .ref (r1 9)])), (r1 0, .inl (cI, 60, .inl f_15)), (r1 1, .inl (cI, 60, .inl f_16)), (r1 2, .inl (cI, 60, .inl f_17)), (r1 3, .inl (cI, 60, .inl f_18)), (r1 4, .inl (cZ, 60, .inl f_19)), (r1 5, .inl (cI, 60, .inl f_20)), (r1 6, .inl (cI, 60, .inl f_21)), (r1 7, .inl (cI, 9, .inl f_25)), (r1 8, .inl (cI, 9, .inl f_27)), (r1 9, .inl (cI, 9, .inl f_28))]]) H := hP
  have hD : va_D A (List.flatten [[(h0, .inr (8, [.ref (r0 0), .int tp_6, .ref pl0, .ref sp0, .ref rd0, .ref (r0 1), .int mv_10, .ref fi0, .ref se0, .ref fa0, .ref cr0, .ref ra0, .ref pa0, .int nw0])), (r0 0, .inl (cB, 1600, .inl f_5)), (r0 1, .inl (cI, 6, .inl f_9))], [(pa0, .inr (4, [.int pc1, .ref (r1 0), .ref (r1 1), .ref (r1 2), .ref (r1 3), .ref (r1 4), .ref (r1 5), .ref (r1 6), .int sc_22, .ref (r1 7), .ref (r1 8), .ref (r1 9)])), (r1 0, .inl (cI, 60, .inl f_15)), (r1 1, .inl (cI, 60, .inl f_16)), (r1 2, .inl (cI, 60, .inl f_17)), (r1 3, .inl (cI, 60, .inl f_18)), (r1 4, .inl (cZ, 60, .inl f_19)), (r1 5, .inl (cI, 60, .inl f_20)), (r1 6, .inl (cI, 60, .inl f_21)), (r1 7, .inl (cI, 9, .inl f_25)), (r1 8, .inl (cI, 9, .inl f_27)), (r1 9, .inl (cI, 9, .inl f_28))]]) := hD
  refine lv_lstore (lv' := [(5, .long r_30), (3, .long r_29), (0, .ref h0), (1, .int p1), (2, .int p2)]) hx hb dX10_believed_19 hl (by decide) rfl (fun ls hl => ?_)
  refine lv_lload_n hx hb dX10_believed_21 rfl (lv_at hl 1 rfl) ?_
  refine lv_lload_n hx hb dX10_believed_22 rfl (lv_at hl 1 rfl) ?_
  refine lv_lload hx hb dX10_believed_23 (lv_at hl 0 rfl) ?_
  refine lv_ladd hx hb dX10_believed_25 ?_
  refine lv_topl (fun z_31 ez_31 => ?_)
  refine lv_iload_n hx hb dX10_believed_26 rfl (lv_at hl 3 rfl) ?_
  have hpm : List.Perm ([[(h0, .inr (8, [.ref (r0 0), .int tp_6, .ref pl0, .ref sp0, .ref rd0, .ref (r0 1), .int mv_10, .ref fi0, .ref se0, .ref fa0, .ref cr0, .ref ra0, .ref pa0, .int nw0])), (r0 0, .inl (cB, 1600, .inl f_5)), (r0 1, .inl (cI, 6, .inl f_9))], [(pa0, .inr (4, [.int pc1, .ref (r1 0), .ref (r1 1), .ref (r1 2), .ref (r1 3), .ref (r1 4), .ref (r1 5), .ref (r1 6), .int sc_22, .ref (r1 7), .ref (r1 8), .ref (r1 9)])), (r1 0, .inl (cI, 60, .inl f_15)), (r1 1, .inl (cI, 60, .inl f_16)), (r1 2, .inl (cI, 60, .inl f_17)), (r1 3, .inl (cI, 60, .inl f_18)), (r1 4, .inl (cZ, 60, .inl f_19)), (r1 5, .inl (cI, 60, .inl f_20)), (r1 6, .inl (cI, 60, .inl f_21)), (r1 7, .inl (cI, 9, .inl f_25)), (r1 8, .inl (cI, 9, .inl f_27)), (r1 9, .inl (cI, 9, .inl f_28))]] : List va_W) (([] : List va_W) ++ ([[(h0, .inr (8, [.ref (r0 0), .int tp_6, .ref pl0, .ref sp0, .ref rd0, .ref (r0 1), .int mv_10, .ref fi0, .ref se0, .ref fa0, .ref cr0, .ref ra0, .ref pa0, .int nw0])), (r0 0, .inl (cB, 1600, .inl f_5)), (r0 1, .inl (cI, 6, .inl f_9))], [(pa0, .inr (4, [.int pc1, .ref (r1 0), .ref (r1 1), .ref (r1 2), .ref (r1 3), .ref (r1 4), .ref (r1 5), .ref (r1 6), .int sc_22, .ref (r1 7), .ref (r1 8), .ref (r1 9)])), (r1 0, .inl (cI, 60, .inl f_15)), (r1 1, .inl (cI, 60, .inl f_16)), (r1 2, .inl (cI, 60, .inl f_17)), (r1 3, .inl (cI, 60, .inl f_18)), (r1 4, .inl (cZ, 60, .inl f_19)), (r1 5, .inl (cI, 60, .inl f_20)), (r1 6, .inl (cI, 60, .inl f_21)), (r1 7, .inl (cI, 9, .inl f_25)), (r1 8, .inl (cI, 9, .inl f_27)), (r1 9, .inl (cI, 9, .inl f_28))]] : List va_W)) := pm_n 2 [0, 1] (by decide) rfl rfl
  have hPc := bk_P hpm hP
  have hDc := bk_D hpm hD
  have hFc := bk_F hpm hD hS hA
  refine va_calll (va_runS (As := [.long r_29, .long z_31, .int p1]) (rest := []) ⟨hx, hb, hml, hown, hts⟩ (c_X2_partOf l dC dI ad tN fN cB cI cJ cZ r_29 z_31 p1 H.size) (va_cwS 3 hts gX10_believed_X2_partOf rfl rfl rfl (by decide +kernel) ⟨(Nat.le_of_ble_eq_true rfl), (Nat.le_of_ble_eq_true rfl)⟩) ⟨fun a U g mk q => by obtain ⟨q0, q1, qP, qK, qD, qE⟩ := q; exact ⟨q0, q1, qP, va_K.moved (u := U) (U := U.calling g mk a) (Vm.Alike.refl U.vm) qK, qD, ey_blind qE⟩, fun U hU hW => ⟨rfl, by rw [hU], by rw [hU]; exact hPc, va_K.moved hW.alike (va_K.sub hK [0, 1, 2, 3] rfl), hDc.weaken (fun _ _ _ _ => trivial), ey_call hE hS hFc hU hW⟩⟩ rfl rfl hl.1 rfl (lv_room (Nat.le_of_ble_eq_true rfl)) dX10_believed_27 ⟨(Nat.le_of_ble_eq_true rfl), (Nat.le_of_ble_eq_true rfl)⟩) hS (fun q _ h => hFc q h) hFc (fun r_32 u t H locs ht hvm hw hB hz1 hk1 hS => ?_)
  obtain ⟨hP1, hD1⟩ := hB
  rw [ht] at hP1
  obtain ⟨hP, hD⟩ := bk_join hpm hP hD hk1 hFc (Cs1 := []) hP1 hD1
  have hpm2 : List.Perm (([] : List va_W) ++ ([[(h0, .inr (8, [.ref (r0 0), .int tp_6, .ref pl0, .ref sp0, .ref rd0, .ref (r0 1), .int mv_10, .ref fi0, .ref se0, .ref fa0, .ref cr0, .ref ra0, .ref pa0, .int nw0])), (r0 0, .inl (cB, 1600, .inl f_5)), (r0 1, .inl (cI, 6, .inl f_9))], [(pa0, .inr (4, [.int pc1, .ref (r1 0), .ref (r1 1), .ref (r1 2), .ref (r1 3), .ref (r1 4), .ref (r1 5), .ref (r1 6), .int sc_22, .ref (r1 7), .ref (r1 8), .ref (r1 9)])), (r1 0, .inl (cI, 60, .inl f_15)), (r1 1, .inl (cI, 60, .inl f_16)), (r1 2, .inl (cI, 60, .inl f_17)), (r1 3, .inl (cI, 60, .inl f_18)), (r1 4, .inl (cZ, 60, .inl f_19)), (r1 5, .inl (cI, 60, .inl f_20)), (r1 6, .inl (cI, 60, .inl f_21)), (r1 7, .inl (cI, 9, .inl f_25)), (r1 8, .inl (cI, 9, .inl f_27)), (r1 9, .inl (cI, 9, .inl f_28))]] : List va_W)) ([[(h0, .inr (8, [.ref (r0 0), .int tp_6, .ref pl0, .ref sp0, .ref rd0, .ref (r0 1), .int mv_10, .ref fi0, .ref se0, .ref fa0, .ref cr0, .ref ra0, .ref pa0, .int nw0])), (r0 0, .inl (cB, 1600, .inl f_5)), (r0 1, .inl (cI, 6, .inl f_9))], [(pa0, .inr (4, [.int pc1, .ref (r1 0), .ref (r1 1), .ref (r1 2), .ref (r1 3), .ref (r1 4), .ref (r1 5), .ref (r1 6), .int sc_22, .ref (r1 7), .ref (r1 8), .ref (r1 9)])), (r1 0, .inl (cI, 60, .inl f_15)), (r1 1, .inl (cI, 60, .inl f_16)), (r1 2, .inl (cI, 60, .inl f_17)), (r1 3, .inl (cI, 60, .inl f_18)), (r1 4, .inl (cZ, 60, .inl f_19)), (r1 5, .inl (cI, 60, .inl f_20)), (r1 6, .inl (cI, 60, .inl f_21)), (r1 7, .inl (cI, 9, .inl f_25)), (r1 8, .inl (cI, 9, .inl f_27)), (r1 9, .inl (cI, 9, .inl f_28))]] : List va_W) := pm_n 2 [0, 1] (by decide) rfl rfl
  have hP := bk_reP hpm2 hP
  have hD := bk_reD hpm2 hD
  have hP : va_P (dC, dI) vwCl (List.flatten [[(h0, .inr (8, [.ref (r0 0), .int tp_6, .ref pl0, .ref sp0, .ref rd0, .ref (r0 1), .int mv_10, .ref fi0, .ref se0, .ref fa0, .ref cr0, .ref ra0, .ref pa0, .int nw0])), (r0 0, .inl (cB, 1600, .inl f_5)), (r0 1, .inl (cI, 6, .inl f_9))], [(pa0, .inr (4, [.int pc1, .ref (r1 0), .ref (r1 1), .ref (r1 2), .ref (r1 3), .ref (r1 4), .ref (r1 5), .ref (r1 6), .int sc_22, .ref (r1 7), .ref (r1 8), .ref (r1 9)])), (r1 0, .inl (cI, 60, .inl f_15)), (r1 1, .inl (cI, 60, .inl f_16)), (r1 2, .inl (cI, 60, .inl f_17)), (r1 3, .inl (cI, 60, .inl f_18)), (r1 4, .inl (cZ, 60, .inl f_19)), (r1 5, .inl (cI, 60, .inl f_20)), (r1 6, .inl (cI, 60, .inl f_21)), (r1 7, .inl (cI, 9, .inl f_25)), (r1 8, .inl (cI, 9, .inl f_27)), (r1 9, .inl (cI, 9, .inl f_28))]]) H := hP
  have hD : va_D A (List.flatten [[(h0, .inr (8, [.ref (r0 0), .int tp_6, .ref pl0, .ref sp0, .ref rd0, .ref (r0 1), .int mv_10, .ref fi0, .ref se0, .ref fa0, .ref cr0, .ref ra0, .ref pa0, .int nw0])), (r0 0, .inl (cB, 1600, .inl f_5)), (r0 1, .inl (cI, 6, .inl f_9))], [(pa0, .inr (4, [.int pc1, .ref (r1 0), .ref (r1 1), .ref (r1 2), .ref (r1 3), .ref (r1 4), .ref (r1 5), .ref (r1 6), .int sc_22, .ref (r1 7), .ref (r1 8), .ref (r1 9)])), (r1 0, .inl (cI, 60, .inl f_15)), (r1 1, .inl (cI, 60, .inl f_16)), (r1 2, .inl (cI, 60, .inl f_17)), (r1 3, .inl (cI, 60, .inl f_18)), (r1 4, .inl (cZ, 60, .inl f_19)), (r1 5, .inl (cI, 60, .inl f_20)), (r1 6, .inl (cI, 60, .inl f_21)), (r1 7, .inl (cI, 9, .inl f_25)), (r1 8, .inl (cI, 9, .inl f_27)), (r1 9, .inl (cI, 9, .inl f_28))]]) := hD
  rw [hQ0]
  exact W.lret (v := r_32) hx hb hr (fun t ht hW => ⟨⟨r_32, (), rfl, trivial, ⟨by rw [ht]; exact hP, hD⟩⟩, hS.F ht⟩) hS.2.2 dX10_believed_30
theorem iw_X10_untell_X10 : ∀ w ∈ wsX100, w ∈ wsX10_untell := fun _ h => List.mem_cons_of_mem _ (List.mem_append_left _ (List.mem_append_right _ h))
set_option maxHeartbeats 4000000 in
set_option maxRecDepth 100000 in
theorem c_X10_untell (l : Launch) (dC : Nat → ClassId) (dI : Nat → Nat → Nat) (ad : Nat → Nat) (tN : Nat) (fN : Nat → Int64) (cB cI cJ cZ cQ : ClassId) (h0 : Nat) (p1 : Int32) (r0 : Nat → Nat) (pl0 : Nat) (sp0 : Nat) (rd0 : Nat) (fi0 : Nat) (se0 : Nat) (fa0 : Nat) (cr0 : Nat) (ra0 : Nat) (pa0 : Nat) (nw0 : Int32) (w0 : va_W) (r1 : Nat → Nat) (pc1 : Int32) (w1 : va_W) (o0 : ok_main ad cB cI cJ cZ h0 r0 pl0 sp0 rd0 fi0 se0 fa0 cr0 ra0 pa0 nw0 w0) (o1 : ok_pap ad cB cI cJ cZ pa0 r1 pc1 w1) (sz : Nat) : Met l yX10_untell wsX10_untell ({ frames := 2, cells := 0, slots := 0, locals := 43 } : Room) (va_Pc [.ref h0, .int p1] (fun U => U.heap.size = sz ∧ va_P (dC, dI) vwCl (List.flatten [w0, w1]) U.heap ∧ va_K (dC, dI) vwCl [(cB, .byte), (cI, .int), (cJ, .long), (cZ, .boolean), (cQ, .array .long)] U ∧ va_D (fun _ => True) (List.flatten [w0, w1]) ∧ ex_Y ad tN fN (va_A (List.flatten [w0, w1]) sz) U)) (va_Qi (fun (r : Int32) (_ : Unit) => 0 ≤ r.toInt ∧ r.toInt ≤ 1) (fun (_ : Unit) (t : State) => ∃ (w19 : va_W), ok_pap ad cB cI cJ cZ pa0 r1 pc1 w19 ∧ va_P (dC, dI) vwCl (List.flatten [w0, w19]) t.heap ∧ va_D (va_A (List.flatten [w0, w1]) sz) (List.flatten [w0, w19])) (va_A (List.flatten [w0, w1]) sz)) 0 0 (va_A (List.flatten [w0, w1]) sz) := by
  refine Met.ofW (cc := cX10_untell) (maxL := 2) (ret := (some .boolean)) (by decide) rfl ?_
  intro p e s m args below meth c s₁ B hml hv
  obtain ⟨rfl, hsz, hP, hK, hD0, hE⟩ := hv
  have hx := B.exec
  have hb := B.bytes
  have hr := B.returns
  have hts := atoms_spec (ws := wsX10_untell) B.pre
  have hown : s.vm.findClass RX10 = some m.cls := findClass_of_methodNamed B.named
  have hlocks := B.notSynchronized
  subst hsz
  have hD := hD0.self (sz := s.heap.size)
  generalize hAe : va_A (List.flatten [w0, w1]) s.heap.size = A at hD hE ⊢
  have hA : ∀ q : Nat, s.heap.size ≤ q → A q := fun q h => by rw [← hAe]; exact Or.inr h
  have hS : va_S A s.heap s.heap [] := va_S.rf
  have hl := lv_entry ([.ref h0, .int p1]) (n := 2) (Nat.le_of_ble_eq_true rfl)
  rw [lg_entry_eq]
  generalize (lg_sl ([.ref h0, .int p1]) ++ List.replicate (2 - (lg_sl ([.ref h0, .int p1])).length) Slot.unset).toArray = ls at hl ⊢
  have hl : lv_has ls 2 [(0, .ref h0), (1, .int p1)] := hl
  clear hAe
  refine W_name (fun Q0 hQ0 => ?_)
  obtain ⟨hx_1, hx_2⟩ := okx_main o0
  obtain ⟨hx_3, hx_4⟩ := okx_pap o1
  refine lv_aload_n hx hb dX10_untell_0 rfl (lv_at hl 0 rfl) ?_
  obtain ⟨f_5, tp_6, f_9, mv_10, rfl, hl_7, hh_8, hl_11, hh_12⟩ := o0
  refine va_get (D := (dC, dI)) (ci := 8) (v := .ref pa0) (C := RX10) (T := TX10) (N := 14) hx hb hts iw_X10_untell_X10 hown hK hP 0 rfl rfl 12 (by decide) (hts (.fieldLink RX10 75 "HungFloors" "papers" "LHungFloors$Papers;") (by decide +kernel)) (fun _ h9 => h9) rfl dX10_untell_1 ?_
  refine lv_iload_n hx hb dX10_untell_4 rfl (lv_at hl 1 rfl) ?_
  refine lv_aload_n hx hb dX10_untell_5 rfl (lv_at hl 0 rfl) ?_
  refine va_get (D := (dC, dI)) (ci := 8) (v := .int nw0) (C := RX10) (T := TX10) (N := 14) hx hb hts iw_X10_untell_X10 hown hK hP 0 rfl rfl 13 (by decide) (hts (.fieldLink RX10 79 "HungFloors" "now" "I") (by decide +kernel)) (fun _ h9 => h9) rfl dX10_untell_6 ?_
  obtain ⟨f_15, f_16, f_17, f_18, f_19, f_20, f_21, sc_22, f_25, f_27, f_28, rfl, hl_13, hh_14, hl_23, hh_24, hr_26⟩ := o1
  have hpm : List.Perm ([[(h0, .inr (8, [.ref (r0 0), .int tp_6, .ref pl0, .ref sp0, .ref rd0, .ref (r0 1), .int mv_10, .ref fi0, .ref se0, .ref fa0, .ref cr0, .ref ra0, .ref pa0, .int nw0])), (r0 0, .inl (cB, 1600, .inl f_5)), (r0 1, .inl (cI, 6, .inl f_9))], [(pa0, .inr (4, [.int pc1, .ref (r1 0), .ref (r1 1), .ref (r1 2), .ref (r1 3), .ref (r1 4), .ref (r1 5), .ref (r1 6), .int sc_22, .ref (r1 7), .ref (r1 8), .ref (r1 9)])), (r1 0, .inl (cI, 60, .inl f_15)), (r1 1, .inl (cI, 60, .inl f_16)), (r1 2, .inl (cI, 60, .inl f_17)), (r1 3, .inl (cI, 60, .inl f_18)), (r1 4, .inl (cZ, 60, .inl f_19)), (r1 5, .inl (cI, 60, .inl f_20)), (r1 6, .inl (cI, 60, .inl f_21)), (r1 7, .inl (cI, 9, .inl f_25)), (r1 8, .inl (cI, 9, .inl f_27)), (r1 9, .inl (cI, 9, .inl f_28))]] : List va_W) (([[(pa0, .inr (4, [.int pc1, .ref (r1 0), .ref (r1 1), .ref (r1 2), .ref (r1 3), .ref (r1 4), .ref (r1 5), .ref (r1 6), .int sc_22, .ref (r1 7), .ref (r1 8), .ref (r1 9)])), (r1 0, .inl (cI, 60, .inl f_15)), (r1 1, .inl (cI, 60, .inl f_16)), (r1 2, .inl (cI, 60, .inl f_17)), (r1 3, .inl (cI, 60, .inl f_18)), (r1 4, .inl (cZ, 60, .inl f_19)), (r1 5, .inl (cI, 60, .inl f_20)), (r1 6, .inl (cI, 60, .inl f_21)), (r1 7, .inl (cI, 9, .inl f_25)), (r1 8, .inl (cI, 9, .inl f_27)), (r1 9, .inl (cI, 9, .inl f_28))]] : List va_W) ++ ([[(h0, .inr (8, [.ref (r0 0), .int tp_6, .ref pl0, .ref sp0, .ref rd0, .ref (r0 1), .int mv_10, .ref fi0, .ref se0, .ref fa0, .ref cr0, .ref ra0, .ref pa0, .int nw0])), (r0 0, .inl (cB, 1600, .inl f_5)), (r0 1, .inl (cI, 6, .inl f_9))]] : List va_W)) := pm_n 2 [1, 0] (by decide) rfl rfl
  have hPc := bk_P hpm hP
  have hDc := bk_D hpm hD
  have hFc := bk_F hpm hD hS hA
  refine va_calli (va_runV (As := [.int p1, .int nw0]) (rest := []) ⟨hx, hb, hml, hown, hts⟩ (c_X6_takeBack l dC dI ad tN fN cB cI cJ cZ pa0 p1 nw0 r1 pc1 _ ⟨f_15, f_16, f_17, f_18, f_19, f_20, f_21, sc_22, f_25, f_27, f_28, rfl, by omega, by omega, by omega, by omega, hr_26⟩ s.heap.size) (cwV 2 hts gX10_untell_X6_takeBack rfl rfl rfl (by decide +kernel) ⟨(Nat.le_of_ble_eq_true rfl), (Nat.le_of_ble_eq_true rfl)⟩) ⟨fun a U g mk q => by obtain ⟨q0, q1, qP, qK, qD, qE⟩ := q; exact ⟨q0, q1, qP, va_K.moved (u := U) (U := U.calling g mk a) (Vm.Alike.refl U.vm) qK, qD, ey_blind qE⟩, va_recv hK hPc (ci := 4) (q0 := 0) rfl rfl, fun U hU hW => ⟨rfl, by rw [hU], by rw [hU]; exact hPc, va_K.moved hW.alike (va_K.sub hK [0, 1, 2, 3] rfl), hDc.weaken (fun _ _ _ _ => trivial), ey_call hE hS hFc hU hW⟩⟩ rfl rfl hl.1 rfl (lv_room (Nat.le_of_ble_eq_true rfl)) dX10_untell_9 ⟨(Nat.le_of_ble_eq_true rfl), (Nat.le_of_ble_eq_true rfl)⟩) hS (fun q _ h => hFc q h) hFc (fun r_29 u t H locs ht hvm hw hB hz1 hk1 hS => ?_)
  obtain ⟨w_30, o_31, hP1, hD1⟩ := hB
  rw [ht] at hP1
  obtain ⟨hP, hD⟩ := bk_join hpm hP hD hk1 hFc (Cs1 := [w_30]) hP1 hD1
  have hpm2 : List.Perm (([w_30] : List va_W) ++ ([[(h0, .inr (8, [.ref (r0 0), .int tp_6, .ref pl0, .ref sp0, .ref rd0, .ref (r0 1), .int mv_10, .ref fi0, .ref se0, .ref fa0, .ref cr0, .ref ra0, .ref pa0, .int nw0])), (r0 0, .inl (cB, 1600, .inl f_5)), (r0 1, .inl (cI, 6, .inl f_9))]] : List va_W)) ([[(h0, .inr (8, [.ref (r0 0), .int tp_6, .ref pl0, .ref sp0, .ref rd0, .ref (r0 1), .int mv_10, .ref fi0, .ref se0, .ref fa0, .ref cr0, .ref ra0, .ref pa0, .int nw0])), (r0 0, .inl (cB, 1600, .inl f_5)), (r0 1, .inl (cI, 6, .inl f_9))], w_30] : List va_W) := pm_n 2 [1, 0] (by decide) rfl rfl
  have hP := bk_reP hpm2 hP
  have hD := bk_reD hpm2 hD
  have hP : va_P (dC, dI) vwCl (List.flatten [[(h0, .inr (8, [.ref (r0 0), .int tp_6, .ref pl0, .ref sp0, .ref rd0, .ref (r0 1), .int mv_10, .ref fi0, .ref se0, .ref fa0, .ref cr0, .ref ra0, .ref pa0, .int nw0])), (r0 0, .inl (cB, 1600, .inl f_5)), (r0 1, .inl (cI, 6, .inl f_9))], w_30]) H := hP
  have hD : va_D A (List.flatten [[(h0, .inr (8, [.ref (r0 0), .int tp_6, .ref pl0, .ref sp0, .ref rd0, .ref (r0 1), .int mv_10, .ref fi0, .ref se0, .ref fa0, .ref cr0, .ref ra0, .ref pa0, .int nw0])), (r0 0, .inl (cB, 1600, .inl f_5)), (r0 1, .inl (cI, 6, .inl f_9))], w_30]) := hD
  obtain ⟨hx_32, hx_33⟩ := okx_pap o_31
  obtain ⟨hlr_29, hhr_29⟩ := hw
  rw [hQ0]
  exact W.zret (v := r_29) hx hb hr (z_nar (by omega) (by omega)) (fun t ht hW => ⟨⟨r_29, (), rfl, ⟨by omega, by omega⟩, ⟨_, o_31, by rw [ht]; exact hP, hD⟩⟩, hS.F ht⟩) hS.2.2 dX10_untell_12
theorem iw_X10_paper_X10 : ∀ w ∈ wsX100, w ∈ wsX10_paper := fun _ h => List.mem_cons_of_mem _ (List.mem_append_left _ (List.mem_append_left _ (List.mem_append_right _ h)))
set_option maxHeartbeats 4000000 in
set_option maxRecDepth 100000 in
theorem c_X10_paper (l : Launch) (dC : Nat → ClassId) (dI : Nat → Nat → Nat) (ad : Nat → Nat) (tN : Nat) (fN : Nat → Int64) (cB cI cJ cZ cQ : ClassId) (h0 : Nat) (p1 : Int32) (p2 : Int32) (p3 : Int32) (p4 : Int32) (p5 : Int32) (r0 : Nat → Nat) (pl0 : Nat) (sp0 : Nat) (rd0 : Nat) (fi0 : Nat) (se0 : Nat) (fa0 : Nat) (cr0 : Nat) (ra0 : Nat) (pa0 : Nat) (nw0 : Int32) (w0 : va_W) (r1 : Nat → Nat) (fc1 : Int32) (dc1 : Int32) (rk1 : Nat → Int32) (w1 : va_W) (r2 : Nat → Nat) (pc2 : Int32) (w2 : va_W) (o0 : ok_main ad cB cI cJ cZ h0 r0 pl0 sp0 rd0 fi0 se0 fa0 cr0 ra0 pa0 nw0 w0) (o1 : ok_plan ad cB cI cJ cZ pl0 r1 fc1 dc1 rk1 w1) (o2 : ok_pap ad cB cI cJ cZ pa0 r2 pc2 w2) (sz : Nat) : Met l yX10_paper wsX10_paper ({ frames := 1, cells := 0, slots := 0, locals := 26 } : Room) (va_Pc [.ref h0, .int p1, .int p2, .int p3, .int p4, .int p5] (fun U => U.heap.size = sz ∧ va_P (dC, dI) vwCl (List.flatten [w0, w1, w2]) U.heap ∧ va_K (dC, dI) vwCl [(cB, .byte), (cI, .int), (cJ, .long), (cZ, .boolean), (cQ, .array .long)] U ∧ va_D (fun _ => True) (List.flatten [w0, w1, w2]) ∧ ex_Y ad tN fN (va_A (List.flatten [w0, w1, w2]) sz) U)) (va_Qi (fun (r : Int32) (_ : Unit) => -1 ≤ r.toInt ∧ r.toInt ≤ 59) (fun (_ : Unit) (t : State) => ∃ (pc29 : Int32) (w29 : va_W), ok_pap ad cB cI cJ cZ pa0 r2 pc29 w29 ∧ va_P (dC, dI) vwCl (List.flatten [w0, w1, w29]) t.heap ∧ va_D (va_A (List.flatten [w0, w1, w2]) sz) (List.flatten [w0, w1, w29])) (va_A (List.flatten [w0, w1, w2]) sz)) 0 0 (va_A (List.flatten [w0, w1, w2]) sz) := by
  refine Met.ofW (cc := cX10_paper) (maxL := 7) (ret := (some .int)) (by decide) rfl ?_
  intro p e s m args below meth c s₁ B hml hv
  obtain ⟨rfl, hsz, hP, hK, hD0, hE⟩ := hv
  have hx := B.exec
  have hb := B.bytes
  have hr := B.returns
  have hts := atoms_spec (ws := wsX10_paper) B.pre
  have hown : s.vm.findClass RX10 = some m.cls := findClass_of_methodNamed B.named
  have hlocks := B.notSynchronized
  subst hsz
  have hD := hD0.self (sz := s.heap.size)
  generalize hAe : va_A (List.flatten [w0, w1, w2]) s.heap.size = A at hD hE ⊢
  have hA : ∀ q : Nat, s.heap.size ≤ q → A q := fun q h => by rw [← hAe]; exact Or.inr h
  have hS : va_S A s.heap s.heap [] := va_S.rf
  have hl := lv_entry ([.ref h0, .int p1, .int p2, .int p3, .int p4, .int p5]) (n := 7) (Nat.le_of_ble_eq_true rfl)
  rw [lg_entry_eq]
  generalize (lg_sl ([.ref h0, .int p1, .int p2, .int p3, .int p4, .int p5]) ++ List.replicate (7 - (lg_sl ([.ref h0, .int p1, .int p2, .int p3, .int p4, .int p5])).length) Slot.unset).toArray = ls at hl ⊢
  have hl : lv_has ls 7 [(0, .ref h0), (1, .int p1), (2, .int p2), (3, .int p3), (4, .int p4), (5, .int p5)] := hl
  clear hAe
  refine W_name (fun Q0 hQ0 => ?_)
  obtain ⟨hx_1, hx_2⟩ := okx_main o0
  obtain ⟨hx_3, hx_4, hx_5, hx_6⟩ := okx_plan o1
  obtain ⟨hx_7, hx_8⟩ := okx_pap o2
  refine lv_iload_n hx hb dX10_paper_0 rfl (lv_at hl 1 rfl) ?_
  have hpm : List.Perm ([w0, w1, w2] : List va_W) (([] : List va_W) ++ ([w0, w1, w2] : List va_W)) := pm_n 3 [0, 1, 2] (by decide) rfl rfl
  have hPc := bk_P hpm hP
  have hDc := bk_D hpm hD
  have hFc := bk_F hpm hD hS hA
  refine va_calli (va_runS (As := [.int p1]) (rest := []) ⟨hx, hb, hml, hown, hts⟩ (c_X10_isOffice l dC dI ad tN fN cB cI cJ cZ p1 s.heap.size) (va_cwS 1 hts gX10_paper_X10_isOffice rfl rfl rfl (by decide +kernel) ⟨(Nat.le_of_ble_eq_true rfl), (Nat.le_of_ble_eq_true rfl)⟩) ⟨fun a U g mk q => by obtain ⟨q0, q1, qP, qK, qD, qE⟩ := q; exact ⟨q0, q1, qP, va_K.moved (u := U) (U := U.calling g mk a) (Vm.Alike.refl U.vm) qK, qD, ey_blind qE⟩, fun U hU hW => ⟨rfl, by rw [hU], by rw [hU]; exact hPc, va_K.moved hW.alike (va_K.sub hK [0, 1, 2, 3] rfl), hDc.weaken (fun _ _ _ _ => trivial), ey_call hE hS hFc hU hW⟩⟩ rfl rfl hl.1 rfl (lv_room (Nat.le_of_ble_eq_true rfl)) dX10_paper_1 ⟨(Nat.le_of_ble_eq_true rfl), (Nat.le_of_ble_eq_true rfl)⟩) hS (fun q _ h => hFc q h) hFc (fun r_9 u t H locs ht hvm hw hB hz1 hk1 hS => ?_)
  obtain ⟨hP1, hD1⟩ := hB
  rw [ht] at hP1
  obtain ⟨hP, hD⟩ := bk_join hpm hP hD hk1 hFc (Cs1 := []) hP1 hD1
  have hpm2 : List.Perm (([] : List va_W) ++ ([w0, w1, w2] : List va_W)) ([w0, w1, w2] : List va_W) := pm_n 3 [0, 1, 2] (by decide) rfl rfl
  have hP := bk_reP hpm2 hP
  have hD := bk_reD hpm2 hD
  have hP : va_P (dC, dI) vwCl (List.flatten [w0, w1, w2]) H := hP
  have hD : va_D A (List.flatten [w0, w1, w2]) := hD
  rcases hw with ⟨rfl, c_10⟩ | ⟨rfl, c_11, c_12⟩ | ⟨rfl, c_13, c_14⟩
  · refine lv_if_eq (tgt := 38) hx hb dX10_paper_4 (by decide) (fun c_15 => ?_) (fun c_15 => absurd c_15 (by decide))
    refine lv_iconst (v := 0) hx hb dX10_paper_38 (by decide) ?_
    refine lv_istore (lv' := [(6, .int 0), (0, .ref h0), (1, .int p1), (2, .int p2), (3, .int p3), (4, .int p4), (5, .int p5)]) hx hb dX10_paper_39 hl (by decide) rfl (fun ls hl => ?_)
    refine lv_iload hx hb dX10_paper_41 (lv_at hl 0 rfl) ?_
    refine lv_if_eq (tgt := 67) hx hb dX10_paper_43 (by decide) (fun c_16 => ?_) (fun c_16 => absurd c_16 (by decide))
    refine lv_iconst (v := (-1)) hx hb dX10_paper_67 (by decide) ?_
    rw [hQ0]
    exact W.iret (v := (-1)) hx hb hr (fun t ht hW => ⟨⟨(-1), (), rfl, ⟨by decide, by decide⟩, ⟨pc2, _, o2, by rw [ht]; exact hP, hD⟩⟩, hS.F ht⟩) hS.2.2 dX10_paper_68
  · refine lv_if_eq (tgt := 38) hx hb dX10_paper_4 (by decide) (fun c_17 => ?_) (fun c_17 => absurd c_17 (by decide))
    refine lv_iconst (v := 0) hx hb dX10_paper_38 (by decide) ?_
    refine lv_istore (lv' := [(6, .int 0), (0, .ref h0), (1, .int p1), (2, .int p2), (3, .int p3), (4, .int p4), (5, .int p5)]) hx hb dX10_paper_39 hl (by decide) rfl (fun ls hl => ?_)
    refine lv_iload hx hb dX10_paper_41 (lv_at hl 0 rfl) ?_
    refine lv_if_eq (tgt := 67) hx hb dX10_paper_43 (by decide) (fun c_18 => ?_) (fun c_18 => absurd c_18 (by decide))
    refine lv_iconst (v := (-1)) hx hb dX10_paper_67 (by decide) ?_
    rw [hQ0]
    exact W.iret (v := (-1)) hx hb hr (fun t ht hW => ⟨⟨(-1), (), rfl, ⟨by decide, by decide⟩, ⟨pc2, _, o2, by rw [ht]; exact hP, hD⟩⟩, hS.F ht⟩) hS.2.2 dX10_paper_68
  · refine lv_if_eq (tgt := 38) hx hb dX10_paper_4 (by decide) (fun c_19 => absurd c_19 (by decide)) (fun c_19 => ?_)
    refine lv_iload_n hx hb dX10_paper_7 rfl (lv_at hl 2 rfl) ?_
    have hpm : List.Perm ([w0, w1, w2] : List va_W) (([] : List va_W) ++ ([w0, w1, w2] : List va_W)) := pm_n 3 [0, 1, 2] (by decide) rfl rfl
    have hPc := bk_P hpm hP
    have hDc := bk_D hpm hD
    have hFc := bk_F hpm hD hS hA
    refine va_calli (va_runS (As := [.int p2]) (rest := []) ⟨hx, hb, hml, hown, hts⟩ (c_X10_isDay l dC dI ad tN fN cB cI cJ cZ p2 H.size) (va_cwS 1 hts gX10_paper_X10_isDay rfl rfl rfl (by decide +kernel) ⟨(Nat.le_of_ble_eq_true rfl), (Nat.le_of_ble_eq_true rfl)⟩) ⟨fun a U g mk q => by obtain ⟨q0, q1, qP, qK, qD, qE⟩ := q; exact ⟨q0, q1, qP, va_K.moved (u := U) (U := U.calling g mk a) (Vm.Alike.refl U.vm) qK, qD, ey_blind qE⟩, fun U hU hW => ⟨rfl, by rw [hU], by rw [hU]; exact hPc, va_K.moved hW.alike (va_K.sub hK [0, 1, 2, 3] rfl), hDc.weaken (fun _ _ _ _ => trivial), ey_call hE hS hFc hU hW⟩⟩ rfl rfl hl.1 rfl (lv_room (Nat.le_of_ble_eq_true rfl)) dX10_paper_8 ⟨(Nat.le_of_ble_eq_true rfl), (Nat.le_of_ble_eq_true rfl)⟩) hS (fun q _ h => hFc q h) hFc (fun r_20 u t H locs ht hvm hw hB hz1 hk1 hS => ?_)
    obtain ⟨hP1, hD1⟩ := hB
    rw [ht] at hP1
    obtain ⟨hP, hD⟩ := bk_join hpm hP hD hk1 hFc (Cs1 := []) hP1 hD1
    have hpm2 : List.Perm (([] : List va_W) ++ ([w0, w1, w2] : List va_W)) ([w0, w1, w2] : List va_W) := pm_n 3 [0, 1, 2] (by decide) rfl rfl
    have hP := bk_reP hpm2 hP
    have hD := bk_reD hpm2 hD
    have hP : va_P (dC, dI) vwCl (List.flatten [w0, w1, w2]) H := hP
    have hD : va_D A (List.flatten [w0, w1, w2]) := hD
    rcases hw with ⟨rfl, c_21⟩ | ⟨rfl, c_22, c_23⟩ | ⟨rfl, c_24, c_25⟩
    · refine lv_if_eq (tgt := 38) hx hb dX10_paper_11 (by decide) (fun c_26 => ?_) (fun c_26 => absurd c_26 (by decide))
      refine lv_iconst (v := 0) hx hb dX10_paper_38 (by decide) ?_
      refine lv_istore (lv' := [(6, .int 0), (0, .ref h0), (1, .int p1), (2, .int p2), (3, .int p3), (4, .int p4), (5, .int p5)]) hx hb dX10_paper_39 hl (by decide) rfl (fun ls hl => ?_)
      refine lv_iload hx hb dX10_paper_41 (lv_at hl 0 rfl) ?_
      refine lv_if_eq (tgt := 67) hx hb dX10_paper_43 (by decide) (fun c_27 => ?_) (fun c_27 => absurd c_27 (by decide))
      refine lv_iconst (v := (-1)) hx hb dX10_paper_67 (by decide) ?_
      rw [hQ0]
      exact W.iret (v := (-1)) hx hb hr (fun t ht hW => ⟨⟨(-1), (), rfl, ⟨by decide, by decide⟩, ⟨pc2, _, o2, by rw [ht]; exact hP, hD⟩⟩, hS.F ht⟩) hS.2.2 dX10_paper_68
    · refine lv_if_eq (tgt := 38) hx hb dX10_paper_11 (by decide) (fun c_28 => ?_) (fun c_28 => absurd c_28 (by decide))
      refine lv_iconst (v := 0) hx hb dX10_paper_38 (by decide) ?_
      refine lv_istore (lv' := [(6, .int 0), (0, .ref h0), (1, .int p1), (2, .int p2), (3, .int p3), (4, .int p4), (5, .int p5)]) hx hb dX10_paper_39 hl (by decide) rfl (fun ls hl => ?_)
      refine lv_iload hx hb dX10_paper_41 (lv_at hl 0 rfl) ?_
      refine lv_if_eq (tgt := 67) hx hb dX10_paper_43 (by decide) (fun c_29 => ?_) (fun c_29 => absurd c_29 (by decide))
      refine lv_iconst (v := (-1)) hx hb dX10_paper_67 (by decide) ?_
      rw [hQ0]
      exact W.iret (v := (-1)) hx hb hr (fun t ht hW => ⟨⟨(-1), (), rfl, ⟨by decide, by decide⟩, ⟨pc2, _, o2, by rw [ht]; exact hP, hD⟩⟩, hS.F ht⟩) hS.2.2 dX10_paper_68
    · refine lv_if_eq (tgt := 38) hx hb dX10_paper_11 (by decide) (fun c_30 => absurd c_30 (by decide)) (fun c_30 => ?_)
      refine lv_aload_n hx hb dX10_paper_14 rfl (lv_at hl 0 rfl) ?_
      refine lv_iload_n hx hb dX10_paper_15 rfl (lv_at hl 3 rfl) ?_
      obtain ⟨f_31, tp_32, f_35, mv_36, rfl, hl_33, hh_34, hl_37, hh_38⟩ := o0
      have hpm : List.Perm ([[(h0, .inr (8, [.ref (r0 0), .int tp_32, .ref pl0, .ref sp0, .ref rd0, .ref (r0 1), .int mv_36, .ref fi0, .ref se0, .ref fa0, .ref cr0, .ref ra0, .ref pa0, .int nw0])), (r0 0, .inl (cB, 1600, .inl f_31)), (r0 1, .inl (cI, 6, .inl f_35))], w1, w2] : List va_W) (([[(h0, .inr (8, [.ref (r0 0), .int tp_32, .ref pl0, .ref sp0, .ref rd0, .ref (r0 1), .int mv_36, .ref fi0, .ref se0, .ref fa0, .ref cr0, .ref ra0, .ref pa0, .int nw0])), (r0 0, .inl (cB, 1600, .inl f_31)), (r0 1, .inl (cI, 6, .inl f_35))], w1] : List va_W) ++ ([w2] : List va_W)) := pm_n 3 [0, 1, 2] (by decide) rfl rfl
      have hPc := bk_P hpm hP
      have hDc := bk_D hpm hD
      have hFc := bk_F hpm hD hS hA
      refine va_calli (va_runV (As := [.int p3]) (rest := []) ⟨hx, hb, hml, hown, hts⟩ (c_X10_isDrawing l dC dI ad tN fN cB cI cJ cZ cQ h0 p3 r0 pl0 sp0 rd0 fi0 se0 fa0 cr0 ra0 pa0 nw0 _ r1 fc1 dc1 rk1 _ ⟨f_31, tp_32, f_35, mv_36, rfl, by omega, by omega, by omega, by omega⟩ o1 H.size) (cwV 1 hts gX10_paper_X10_isDrawing rfl rfl rfl (by decide +kernel) ⟨(Nat.le_of_ble_eq_true rfl), (Nat.le_of_ble_eq_true rfl)⟩) ⟨fun a U g mk q => by obtain ⟨q0, q1, qP, qK, qD, qE⟩ := q; exact ⟨q0, q1, qP, va_K.moved (u := U) (U := U.calling g mk a) (Vm.Alike.refl U.vm) qK, qD, ey_blind qE⟩, va_recv hK hPc (ci := 8) (q0 := 0) rfl rfl, fun U hU hW => ⟨rfl, by rw [hU], by rw [hU]; exact hPc, va_K.moved hW.alike hK, hDc.weaken (fun _ _ _ _ => trivial), ey_call hE hS hFc hU hW⟩⟩ rfl rfl hl.1 rfl (lv_room (Nat.le_of_ble_eq_true rfl)) dX10_paper_16 ⟨(Nat.le_of_ble_eq_true rfl), (Nat.le_of_ble_eq_true rfl)⟩) hS (fun q _ h => hFc q h) hFc (fun r_39 u t H locs ht hvm hw hB hz1 hk1 hS => ?_)
      obtain ⟨hP1, hD1⟩ := hB
      rw [ht] at hP1
      obtain ⟨hP, hD⟩ := bk_join hpm hP hD hk1 hFc (Cs1 := [[(h0, .inr (8, [.ref (r0 0), .int tp_32, .ref pl0, .ref sp0, .ref rd0, .ref (r0 1), .int mv_36, .ref fi0, .ref se0, .ref fa0, .ref cr0, .ref ra0, .ref pa0, .int nw0])), (r0 0, .inl (cB, 1600, .inl f_31)), (r0 1, .inl (cI, 6, .inl f_35))], w1]) hP1 hD1
      have hpm2 : List.Perm (([[(h0, .inr (8, [.ref (r0 0), .int tp_32, .ref pl0, .ref sp0, .ref rd0, .ref (r0 1), .int mv_36, .ref fi0, .ref se0, .ref fa0, .ref cr0, .ref ra0, .ref pa0, .int nw0])), (r0 0, .inl (cB, 1600, .inl f_31)), (r0 1, .inl (cI, 6, .inl f_35))], w1] : List va_W) ++ ([w2] : List va_W)) ([[(h0, .inr (8, [.ref (r0 0), .int tp_32, .ref pl0, .ref sp0, .ref rd0, .ref (r0 1), .int mv_36, .ref fi0, .ref se0, .ref fa0, .ref cr0, .ref ra0, .ref pa0, .int nw0])), (r0 0, .inl (cB, 1600, .inl f_31)), (r0 1, .inl (cI, 6, .inl f_35))], w1, w2] : List va_W) := pm_n 3 [0, 1, 2] (by decide) rfl rfl
      have hP := bk_reP hpm2 hP
      have hD := bk_reD hpm2 hD
      have hP : va_P (dC, dI) vwCl (List.flatten [[(h0, .inr (8, [.ref (r0 0), .int tp_32, .ref pl0, .ref sp0, .ref rd0, .ref (r0 1), .int mv_36, .ref fi0, .ref se0, .ref fa0, .ref cr0, .ref ra0, .ref pa0, .int nw0])), (r0 0, .inl (cB, 1600, .inl f_31)), (r0 1, .inl (cI, 6, .inl f_35))], w1, w2]) H := hP
      have hD : va_D A (List.flatten [[(h0, .inr (8, [.ref (r0 0), .int tp_32, .ref pl0, .ref sp0, .ref rd0, .ref (r0 1), .int mv_36, .ref fi0, .ref se0, .ref fa0, .ref cr0, .ref ra0, .ref pa0, .int nw0])), (r0 0, .inl (cB, 1600, .inl f_31)), (r0 1, .inl (cI, 6, .inl f_35))], w1, w2]) := hD
      rcases hw with ⟨rfl, c_40, c_41⟩ | ⟨rfl, c_42, c_43, c_44⟩ | ⟨rfl, c_45, c_46, c_47, c_48⟩
      · refine lv_if_eq (tgt := 38) hx hb dX10_paper_19 (by decide) (fun c_49 => ?_) (fun c_49 => absurd c_49 (by decide))
        refine lv_iconst (v := 0) hx hb dX10_paper_38 (by decide) ?_
        refine lv_istore (lv' := [(6, .int 0), (0, .ref h0), (1, .int p1), (2, .int p2), (3, .int p3), (4, .int p4), (5, .int p5)]) hx hb dX10_paper_39 hl (by decide) rfl (fun ls hl => ?_)
        refine lv_iload hx hb dX10_paper_41 (lv_at hl 0 rfl) ?_
        refine lv_if_eq (tgt := 67) hx hb dX10_paper_43 (by decide) (fun c_50 => ?_) (fun c_50 => absurd c_50 (by decide))
        refine lv_iconst (v := (-1)) hx hb dX10_paper_67 (by decide) ?_
        rw [hQ0]
        exact W.iret (v := (-1)) hx hb hr (fun t ht hW => ⟨⟨(-1), (), rfl, ⟨by decide, by decide⟩, ⟨pc2, _, o2, by rw [ht]; exact hP, hD⟩⟩, hS.F ht⟩) hS.2.2 dX10_paper_68
      · refine lv_if_eq (tgt := 38) hx hb dX10_paper_19 (by decide) (fun c_51 => ?_) (fun c_51 => absurd c_51 (by decide))
        refine lv_iconst (v := 0) hx hb dX10_paper_38 (by decide) ?_
        refine lv_istore (lv' := [(6, .int 0), (0, .ref h0), (1, .int p1), (2, .int p2), (3, .int p3), (4, .int p4), (5, .int p5)]) hx hb dX10_paper_39 hl (by decide) rfl (fun ls hl => ?_)
        refine lv_iload hx hb dX10_paper_41 (lv_at hl 0 rfl) ?_
        refine lv_if_eq (tgt := 67) hx hb dX10_paper_43 (by decide) (fun c_52 => ?_) (fun c_52 => absurd c_52 (by decide))
        refine lv_iconst (v := (-1)) hx hb dX10_paper_67 (by decide) ?_
        rw [hQ0]
        exact W.iret (v := (-1)) hx hb hr (fun t ht hW => ⟨⟨(-1), (), rfl, ⟨by decide, by decide⟩, ⟨pc2, _, o2, by rw [ht]; exact hP, hD⟩⟩, hS.F ht⟩) hS.2.2 dX10_paper_68
      · refine lv_if_eq (tgt := 38) hx hb dX10_paper_19 (by decide) (fun c_53 => absurd c_53 (by decide)) (fun c_53 => ?_)
        refine lv_iload hx hb dX10_paper_22 (lv_at hl 4 rfl) ?_
        refine lv_if_lt (tgt := 38) hx hb dX10_paper_24 (by decide) (fun c_54 => ?_) (fun c_54 => ?_)
        · have c_54 : p4.toInt < 0 := f_lt rfl tI_0 c_54
          refine lv_iconst (v := 0) hx hb dX10_paper_38 (by decide) ?_
          refine lv_istore (lv' := [(6, .int 0), (0, .ref h0), (1, .int p1), (2, .int p2), (3, .int p3), (4, .int p4), (5, .int p5)]) hx hb dX10_paper_39 hl (by decide) rfl (fun ls hl => ?_)
          refine lv_iload hx hb dX10_paper_41 (lv_at hl 0 rfl) ?_
          refine lv_if_eq (tgt := 67) hx hb dX10_paper_43 (by decide) (fun c_55 => ?_) (fun c_55 => absurd c_55 (by decide))
          refine lv_iconst (v := (-1)) hx hb dX10_paper_67 (by decide) ?_
          rw [hQ0]
          exact W.iret (v := (-1)) hx hb hr (fun t ht hW => ⟨⟨(-1), (), rfl, ⟨by decide, by decide⟩, ⟨pc2, _, o2, by rw [ht]; exact hP, hD⟩⟩, hS.F ht⟩) hS.2.2 dX10_paper_68
        · have c_54 : 0 ≤ p4.toInt := f_nlt rfl tI_0 c_54
          refine lv_iload hx hb dX10_paper_27 (lv_at hl 4 rfl) ?_
          refine lv_bipush (v := 99) hx hb dX10_paper_29 (by decide) ?_
          refine lv_icmp_gt (tgt := 38) hx hb dX10_paper_31 (by decide) (fun c_56 => ?_) (fun c_56 => ?_)
          · have c_56 : 99 < p4.toInt := f_lt tI_99 rfl c_56
            refine lv_iconst (v := 0) hx hb dX10_paper_38 (by decide) ?_
            refine lv_istore (lv' := [(6, .int 0), (0, .ref h0), (1, .int p1), (2, .int p2), (3, .int p3), (4, .int p4), (5, .int p5)]) hx hb dX10_paper_39 hl (by decide) rfl (fun ls hl => ?_)
            refine lv_iload hx hb dX10_paper_41 (lv_at hl 0 rfl) ?_
            refine lv_if_eq (tgt := 67) hx hb dX10_paper_43 (by decide) (fun c_57 => ?_) (fun c_57 => absurd c_57 (by decide))
            refine lv_iconst (v := (-1)) hx hb dX10_paper_67 (by decide) ?_
            rw [hQ0]
            exact W.iret (v := (-1)) hx hb hr (fun t ht hW => ⟨⟨(-1), (), rfl, ⟨by decide, by decide⟩, ⟨pc2, _, o2, by rw [ht]; exact hP, hD⟩⟩, hS.F ht⟩) hS.2.2 dX10_paper_68
          · have c_56 : p4.toInt ≤ 99 := f_nlt tI_99 rfl c_56
            refine lv_iconst (v := 1) hx hb dX10_paper_34 (by decide) ?_
            refine lv_goto (tgt := 39) hx hb dX10_paper_35 (by decide) ?_
            refine lv_istore (lv' := [(6, .int 1), (0, .ref h0), (1, .int p1), (2, .int p2), (3, .int p3), (4, .int p4), (5, .int p5)]) hx hb dX10_paper_39 hl (by decide) rfl (fun ls hl => ?_)
            refine lv_iload hx hb dX10_paper_41 (lv_at hl 0 rfl) ?_
            refine lv_if_eq (tgt := 67) hx hb dX10_paper_43 (by decide) (fun c_58 => absurd c_58 (by decide)) (fun c_58 => ?_)
            refine lv_aload_n hx hb dX10_paper_46 rfl (lv_at hl 1 rfl) ?_
            refine va_get (D := (dC, dI)) (ci := 8) (v := .ref pa0) (C := RX10) (T := TX10) (N := 14) hx hb hts iw_X10_paper_X10 hown hK hP 0 rfl rfl 12 (by decide) (hts (.fieldLink RX10 75 "HungFloors" "papers" "LHungFloors$Papers;") (by decide +kernel)) (fun _ h9 => h9) rfl dX10_paper_47 ?_
            refine lv_iload_n hx hb dX10_paper_50 rfl (lv_at hl 2 rfl) ?_
            refine lv_iload_n hx hb dX10_paper_51 rfl (lv_at hl 3 rfl) ?_
            refine lv_iload_n hx hb dX10_paper_52 rfl (lv_at hl 4 rfl) ?_
            refine lv_iload hx hb dX10_paper_53 (lv_at hl 5 rfl) ?_
            refine lv_iload hx hb dX10_paper_55 (lv_at hl 6 rfl) ?_
            refine lv_aload_n hx hb dX10_paper_57 rfl (lv_at hl 1 rfl) ?_
            refine va_get (D := (dC, dI)) (ci := 8) (v := .int nw0) (C := RX10) (T := TX10) (N := 14) hx hb hts iw_X10_paper_X10 hown hK hP 0 rfl rfl 13 (by decide) (hts (.fieldLink RX10 79 "HungFloors" "now" "I") (by decide +kernel)) (fun _ h9 => h9) rfl dX10_paper_58 ?_
            obtain ⟨f_61, f_62, f_63, f_64, f_65, f_66, f_67, sc_68, f_71, f_73, f_74, rfl, hl_59, hh_60, hl_69, hh_70, hr_72⟩ := o2
            have hpm : List.Perm ([[(h0, .inr (8, [.ref (r0 0), .int tp_32, .ref pl0, .ref sp0, .ref rd0, .ref (r0 1), .int mv_36, .ref fi0, .ref se0, .ref fa0, .ref cr0, .ref ra0, .ref pa0, .int nw0])), (r0 0, .inl (cB, 1600, .inl f_31)), (r0 1, .inl (cI, 6, .inl f_35))], w1, [(pa0, .inr (4, [.int pc2, .ref (r2 0), .ref (r2 1), .ref (r2 2), .ref (r2 3), .ref (r2 4), .ref (r2 5), .ref (r2 6), .int sc_68, .ref (r2 7), .ref (r2 8), .ref (r2 9)])), (r2 0, .inl (cI, 60, .inl f_61)), (r2 1, .inl (cI, 60, .inl f_62)), (r2 2, .inl (cI, 60, .inl f_63)), (r2 3, .inl (cI, 60, .inl f_64)), (r2 4, .inl (cZ, 60, .inl f_65)), (r2 5, .inl (cI, 60, .inl f_66)), (r2 6, .inl (cI, 60, .inl f_67)), (r2 7, .inl (cI, 9, .inl f_71)), (r2 8, .inl (cI, 9, .inl f_73)), (r2 9, .inl (cI, 9, .inl f_74))]] : List va_W) (([[(pa0, .inr (4, [.int pc2, .ref (r2 0), .ref (r2 1), .ref (r2 2), .ref (r2 3), .ref (r2 4), .ref (r2 5), .ref (r2 6), .int sc_68, .ref (r2 7), .ref (r2 8), .ref (r2 9)])), (r2 0, .inl (cI, 60, .inl f_61)), (r2 1, .inl (cI, 60, .inl f_62)), (r2 2, .inl (cI, 60, .inl f_63)), (r2 3, .inl (cI, 60, .inl f_64)), (r2 4, .inl (cZ, 60, .inl f_65)), (r2 5, .inl (cI, 60, .inl f_66)), (r2 6, .inl (cI, 60, .inl f_67)), (r2 7, .inl (cI, 9, .inl f_71)), (r2 8, .inl (cI, 9, .inl f_73)), (r2 9, .inl (cI, 9, .inl f_74))]] : List va_W) ++ ([[(h0, .inr (8, [.ref (r0 0), .int tp_32, .ref pl0, .ref sp0, .ref rd0, .ref (r0 1), .int mv_36, .ref fi0, .ref se0, .ref fa0, .ref cr0, .ref ra0, .ref pa0, .int nw0])), (r0 0, .inl (cB, 1600, .inl f_31)), (r0 1, .inl (cI, 6, .inl f_35))], w1] : List va_W)) := pm_n 3 [2, 0, 1] (by decide) rfl rfl
            have hPc := bk_P hpm hP
            have hDc := bk_D hpm hD
            have hFc := bk_F hpm hD hS hA
            refine va_calli (va_runV (As := [.int p1, .int p2, .int p3, .int p4, .int p5, .int nw0]) (rest := []) ⟨hx, hb, hml, hown, hts⟩ (c_X6_tell l dC dI ad tN fN cB cI cJ cZ pa0 p1 p2 p3 p4 p5 nw0 r2 pc2 _ ⟨f_61, f_62, f_63, f_64, f_65, f_66, f_67, sc_68, f_71, f_73, f_74, rfl, by omega, by omega, by omega, by omega, hr_72⟩ H.size) (cwV 6 hts gX10_paper_X6_tell rfl rfl rfl (by decide +kernel) ⟨(Nat.le_of_ble_eq_true rfl), (Nat.le_of_ble_eq_true rfl)⟩) ⟨fun a U g mk q => by obtain ⟨q0, q1, qP, qK, qD, qE⟩ := q; exact ⟨q0, q1, qP, va_K.moved (u := U) (U := U.calling g mk a) (Vm.Alike.refl U.vm) qK, qD, ey_blind qE⟩, va_recv hK hPc (ci := 4) (q0 := 0) rfl rfl, fun U hU hW => ⟨rfl, by rw [hU], by rw [hU]; exact hPc, va_K.moved hW.alike (va_K.sub hK [0, 1, 2, 3] rfl), hDc.weaken (fun _ _ _ _ => trivial), ey_call hE hS hFc hU hW⟩⟩ rfl rfl hl.1 rfl (lv_room (Nat.le_of_ble_eq_true rfl)) dX10_paper_61 ⟨(Nat.le_of_ble_eq_true rfl), (Nat.le_of_ble_eq_true rfl)⟩) hS (fun q _ h => hFc q h) hFc (fun r_75 u t H locs ht hvm hw hB hz1 hk1 hS => ?_)
            obtain ⟨pc_78, w_76, o_77, hP1, hD1⟩ := hB
            rw [ht] at hP1
            obtain ⟨hP, hD⟩ := bk_join hpm hP hD hk1 hFc (Cs1 := [w_76]) hP1 hD1
            have hpm2 : List.Perm (([w_76] : List va_W) ++ ([[(h0, .inr (8, [.ref (r0 0), .int tp_32, .ref pl0, .ref sp0, .ref rd0, .ref (r0 1), .int mv_36, .ref fi0, .ref se0, .ref fa0, .ref cr0, .ref ra0, .ref pa0, .int nw0])), (r0 0, .inl (cB, 1600, .inl f_31)), (r0 1, .inl (cI, 6, .inl f_35))], w1] : List va_W)) ([[(h0, .inr (8, [.ref (r0 0), .int tp_32, .ref pl0, .ref sp0, .ref rd0, .ref (r0 1), .int mv_36, .ref fi0, .ref se0, .ref fa0, .ref cr0, .ref ra0, .ref pa0, .int nw0])), (r0 0, .inl (cB, 1600, .inl f_31)), (r0 1, .inl (cI, 6, .inl f_35))], w1, w_76] : List va_W) := pm_n 3 [1, 2, 0] (by decide) rfl rfl
            have hP := bk_reP hpm2 hP
            have hD := bk_reD hpm2 hD
            have hP : va_P (dC, dI) vwCl (List.flatten [[(h0, .inr (8, [.ref (r0 0), .int tp_32, .ref pl0, .ref sp0, .ref rd0, .ref (r0 1), .int mv_36, .ref fi0, .ref se0, .ref fa0, .ref cr0, .ref ra0, .ref pa0, .int nw0])), (r0 0, .inl (cB, 1600, .inl f_31)), (r0 1, .inl (cI, 6, .inl f_35))], w1, w_76]) H := hP
            have hD : va_D A (List.flatten [[(h0, .inr (8, [.ref (r0 0), .int tp_32, .ref pl0, .ref sp0, .ref rd0, .ref (r0 1), .int mv_36, .ref fi0, .ref se0, .ref fa0, .ref cr0, .ref ra0, .ref pa0, .int nw0])), (r0 0, .inl (cB, 1600, .inl f_31)), (r0 1, .inl (cI, 6, .inl f_35))], w1, w_76]) := hD
            obtain ⟨hx_79, hx_80⟩ := okx_pap o_77
            obtain ⟨hlr_75, hhr_75⟩ := hw
            refine lv_goto (tgt := 68) hx hb dX10_paper_64 (by decide) ?_
            rw [hQ0]
            exact W.iret (v := r_75) hx hb hr (fun t ht hW => ⟨⟨r_75, (), rfl, ⟨by omega, by omega⟩, ⟨pc_78, _, o_77, by rw [ht]; exact hP, hD⟩⟩, hS.F ht⟩) hS.2.2 dX10_paper_68
theorem iw_X10_spent_X10 : ∀ w ∈ wsX100, w ∈ wsX10_spent := fun _ h => List.mem_cons_of_mem _ (List.mem_append_left _ (List.mem_append_left _ (List.mem_append_right _ h)))
set_option maxHeartbeats 4000000 in
set_option maxRecDepth 100000 in
theorem c_X10_spent (l : Launch) (dC : Nat → ClassId) (dI : Nat → Nat → Nat) (ad : Nat → Nat) (tN : Nat) (fN : Nat → Int64) (cB cI cJ cZ cQ : ClassId) (h0 : Nat) (p1 : Int32) (p2 : Int32) (p3 : Int32) (p4 : Int32) (r0 : Nat → Nat) (pl0 : Nat) (sp0 : Nat) (rd0 : Nat) (fi0 : Nat) (se0 : Nat) (fa0 : Nat) (cr0 : Nat) (ra0 : Nat) (pa0 : Nat) (nw0 : Int32) (w0 : va_W) (r1 : Nat → Nat) (fc1 : Int32) (dc1 : Int32) (rk1 : Nat → Int32) (w1 : va_W) (r2 : Nat → Nat) (pc2 : Int32) (w2 : va_W) (o0 : ok_main ad cB cI cJ cZ h0 r0 pl0 sp0 rd0 fi0 se0 fa0 cr0 ra0 pa0 nw0 w0) (o1 : ok_plan ad cB cI cJ cZ pl0 r1 fc1 dc1 rk1 w1) (o2 : ok_pap ad cB cI cJ cZ pa0 r2 pc2 w2) (sz : Nat) : Met l yX10_spent wsX10_spent ({ frames := 2, cells := 0, slots := 0, locals := 49 } : Room) (va_Pc [.ref h0, .int p1, .int p2, .int p3, .int p4] (fun U => U.heap.size = sz ∧ va_P (dC, dI) vwCl (List.flatten [w0, w1, w2]) U.heap ∧ va_K (dC, dI) vwCl [(cB, .byte), (cI, .int), (cJ, .long), (cZ, .boolean), (cQ, .array .long)] U ∧ va_D (fun _ => True) (List.flatten [w0, w1, w2]) ∧ ex_Y ad tN fN (va_A (List.flatten [w0, w1, w2]) sz) U)) (va_Qi (fun (r : Int32) (_ : Unit) => True) (fun (_ : Unit) (t : State) => va_P (dC, dI) vwCl (List.flatten [w0, w1, w2]) t.heap ∧ va_D (va_A (List.flatten [w0, w1, w2]) sz) (List.flatten [w0, w1, w2])) (va_A (List.flatten [w0, w1, w2]) sz)) 0 0 (va_A (List.flatten [w0, w1, w2]) sz) := by
  refine Met.ofW (cc := cX10_spent) (maxL := 5) (ret := (some .int)) (by decide) rfl ?_
  intro p e s m args below meth c s₁ B hml hv
  obtain ⟨rfl, hsz, hP, hK, hD0, hE⟩ := hv
  have hx := B.exec
  have hb := B.bytes
  have hr := B.returns
  have hts := atoms_spec (ws := wsX10_spent) B.pre
  have hown : s.vm.findClass RX10 = some m.cls := findClass_of_methodNamed B.named
  have hlocks := B.notSynchronized
  subst hsz
  have hD := hD0.self (sz := s.heap.size)
  generalize hAe : va_A (List.flatten [w0, w1, w2]) s.heap.size = A at hD hE ⊢
  have hA : ∀ q : Nat, s.heap.size ≤ q → A q := fun q h => by rw [← hAe]; exact Or.inr h
  have hS : va_S A s.heap s.heap [] := va_S.rf
  have hl := lv_entry ([.ref h0, .int p1, .int p2, .int p3, .int p4]) (n := 5) (Nat.le_of_ble_eq_true rfl)
  rw [lg_entry_eq]
  generalize (lg_sl ([.ref h0, .int p1, .int p2, .int p3, .int p4]) ++ List.replicate (5 - (lg_sl ([.ref h0, .int p1, .int p2, .int p3, .int p4])).length) Slot.unset).toArray = ls at hl ⊢
  have hl : lv_has ls 5 [(0, .ref h0), (1, .int p1), (2, .int p2), (3, .int p3), (4, .int p4)] := hl
  clear hAe
  refine W_name (fun Q0 hQ0 => ?_)
  obtain ⟨hx_1, hx_2⟩ := okx_main o0
  obtain ⟨hx_3, hx_4, hx_5, hx_6⟩ := okx_plan o1
  obtain ⟨hx_7, hx_8⟩ := okx_pap o2
  refine lv_iload_n hx hb dX10_spent_0 rfl (lv_at hl 1 rfl) ?_
  have hpm : List.Perm ([w0, w1, w2] : List va_W) (([] : List va_W) ++ ([w0, w1, w2] : List va_W)) := pm_n 3 [0, 1, 2] (by decide) rfl rfl
  have hPc := bk_P hpm hP
  have hDc := bk_D hpm hD
  have hFc := bk_F hpm hD hS hA
  refine va_calli (va_runS (As := [.int p1]) (rest := []) ⟨hx, hb, hml, hown, hts⟩ (c_X10_isOffice l dC dI ad tN fN cB cI cJ cZ p1 s.heap.size) (va_cwS 1 hts gX10_spent_X10_isOffice rfl rfl rfl (by decide +kernel) ⟨(Nat.le_of_ble_eq_true rfl), (Nat.le_of_ble_eq_true rfl)⟩) ⟨fun a U g mk q => by obtain ⟨q0, q1, qP, qK, qD, qE⟩ := q; exact ⟨q0, q1, qP, va_K.moved (u := U) (U := U.calling g mk a) (Vm.Alike.refl U.vm) qK, qD, ey_blind qE⟩, fun U hU hW => ⟨rfl, by rw [hU], by rw [hU]; exact hPc, va_K.moved hW.alike (va_K.sub hK [0, 1, 2, 3] rfl), hDc.weaken (fun _ _ _ _ => trivial), ey_call hE hS hFc hU hW⟩⟩ rfl rfl hl.1 rfl (lv_room (Nat.le_of_ble_eq_true rfl)) dX10_spent_1 ⟨(Nat.le_of_ble_eq_true rfl), (Nat.le_of_ble_eq_true rfl)⟩) hS (fun q _ h => hFc q h) hFc (fun r_9 u t H locs ht hvm hw hB hz1 hk1 hS => ?_)
  obtain ⟨hP1, hD1⟩ := hB
  rw [ht] at hP1
  obtain ⟨hP, hD⟩ := bk_join hpm hP hD hk1 hFc (Cs1 := []) hP1 hD1
  have hpm2 : List.Perm (([] : List va_W) ++ ([w0, w1, w2] : List va_W)) ([w0, w1, w2] : List va_W) := pm_n 3 [0, 1, 2] (by decide) rfl rfl
  have hP := bk_reP hpm2 hP
  have hD := bk_reD hpm2 hD
  have hP : va_P (dC, dI) vwCl (List.flatten [w0, w1, w2]) H := hP
  have hD : va_D A (List.flatten [w0, w1, w2]) := hD
  rcases hw with ⟨rfl, c_10⟩ | ⟨rfl, c_11, c_12⟩ | ⟨rfl, c_13, c_14⟩
  · refine lv_if_eq (tgt := 22) hx hb dX10_spent_4 (by decide) (fun c_15 => ?_) (fun c_15 => absurd c_15 (by decide))
    refine lv_iconst (v := (-1)) hx hb dX10_spent_22 (by decide) ?_
    rw [hQ0]
    exact W.iret (v := (-1)) hx hb hr (fun t ht hW => ⟨⟨(-1), (), rfl, trivial, ⟨by rw [ht]; exact hP, hD⟩⟩, hS.F ht⟩) hS.2.2 dX10_spent_23
  · refine lv_if_eq (tgt := 22) hx hb dX10_spent_4 (by decide) (fun c_16 => ?_) (fun c_16 => absurd c_16 (by decide))
    refine lv_iconst (v := (-1)) hx hb dX10_spent_22 (by decide) ?_
    rw [hQ0]
    exact W.iret (v := (-1)) hx hb hr (fun t ht hW => ⟨⟨(-1), (), rfl, trivial, ⟨by rw [ht]; exact hP, hD⟩⟩, hS.F ht⟩) hS.2.2 dX10_spent_23
  · refine lv_if_eq (tgt := 22) hx hb dX10_spent_4 (by decide) (fun c_17 => absurd c_17 (by decide)) (fun c_17 => ?_)
    refine lv_aload_n hx hb dX10_spent_7 rfl (lv_at hl 0 rfl) ?_
    refine lv_iload_n hx hb dX10_spent_8 rfl (lv_at hl 2 rfl) ?_
    obtain ⟨f_18, tp_19, f_22, mv_23, rfl, hl_20, hh_21, hl_24, hh_25⟩ := o0
    have hpm : List.Perm ([[(h0, .inr (8, [.ref (r0 0), .int tp_19, .ref pl0, .ref sp0, .ref rd0, .ref (r0 1), .int mv_23, .ref fi0, .ref se0, .ref fa0, .ref cr0, .ref ra0, .ref pa0, .int nw0])), (r0 0, .inl (cB, 1600, .inl f_18)), (r0 1, .inl (cI, 6, .inl f_22))], w1, w2] : List va_W) (([[(h0, .inr (8, [.ref (r0 0), .int tp_19, .ref pl0, .ref sp0, .ref rd0, .ref (r0 1), .int mv_23, .ref fi0, .ref se0, .ref fa0, .ref cr0, .ref ra0, .ref pa0, .int nw0])), (r0 0, .inl (cB, 1600, .inl f_18)), (r0 1, .inl (cI, 6, .inl f_22))], w1] : List va_W) ++ ([w2] : List va_W)) := pm_n 3 [0, 1, 2] (by decide) rfl rfl
    have hPc := bk_P hpm hP
    have hDc := bk_D hpm hD
    have hFc := bk_F hpm hD hS hA
    refine va_calli (va_runV (As := [.int p2]) (rest := []) ⟨hx, hb, hml, hown, hts⟩ (c_X10_isDrawing l dC dI ad tN fN cB cI cJ cZ cQ h0 p2 r0 pl0 sp0 rd0 fi0 se0 fa0 cr0 ra0 pa0 nw0 _ r1 fc1 dc1 rk1 _ ⟨f_18, tp_19, f_22, mv_23, rfl, by omega, by omega, by omega, by omega⟩ o1 H.size) (cwV 1 hts gX10_spent_X10_isDrawing rfl rfl rfl (by decide +kernel) ⟨(Nat.le_of_ble_eq_true rfl), (Nat.le_of_ble_eq_true rfl)⟩) ⟨fun a U g mk q => by obtain ⟨q0, q1, qP, qK, qD, qE⟩ := q; exact ⟨q0, q1, qP, va_K.moved (u := U) (U := U.calling g mk a) (Vm.Alike.refl U.vm) qK, qD, ey_blind qE⟩, va_recv hK hPc (ci := 8) (q0 := 0) rfl rfl, fun U hU hW => ⟨rfl, by rw [hU], by rw [hU]; exact hPc, va_K.moved hW.alike hK, hDc.weaken (fun _ _ _ _ => trivial), ey_call hE hS hFc hU hW⟩⟩ rfl rfl hl.1 rfl (lv_room (Nat.le_of_ble_eq_true rfl)) dX10_spent_9 ⟨(Nat.le_of_ble_eq_true rfl), (Nat.le_of_ble_eq_true rfl)⟩) hS (fun q _ h => hFc q h) hFc (fun r_26 u t H locs ht hvm hw hB hz1 hk1 hS => ?_)
    obtain ⟨hP1, hD1⟩ := hB
    rw [ht] at hP1
    obtain ⟨hP, hD⟩ := bk_join hpm hP hD hk1 hFc (Cs1 := [[(h0, .inr (8, [.ref (r0 0), .int tp_19, .ref pl0, .ref sp0, .ref rd0, .ref (r0 1), .int mv_23, .ref fi0, .ref se0, .ref fa0, .ref cr0, .ref ra0, .ref pa0, .int nw0])), (r0 0, .inl (cB, 1600, .inl f_18)), (r0 1, .inl (cI, 6, .inl f_22))], w1]) hP1 hD1
    have hpm2 : List.Perm (([[(h0, .inr (8, [.ref (r0 0), .int tp_19, .ref pl0, .ref sp0, .ref rd0, .ref (r0 1), .int mv_23, .ref fi0, .ref se0, .ref fa0, .ref cr0, .ref ra0, .ref pa0, .int nw0])), (r0 0, .inl (cB, 1600, .inl f_18)), (r0 1, .inl (cI, 6, .inl f_22))], w1] : List va_W) ++ ([w2] : List va_W)) ([[(h0, .inr (8, [.ref (r0 0), .int tp_19, .ref pl0, .ref sp0, .ref rd0, .ref (r0 1), .int mv_23, .ref fi0, .ref se0, .ref fa0, .ref cr0, .ref ra0, .ref pa0, .int nw0])), (r0 0, .inl (cB, 1600, .inl f_18)), (r0 1, .inl (cI, 6, .inl f_22))], w1, w2] : List va_W) := pm_n 3 [0, 1, 2] (by decide) rfl rfl
    have hP := bk_reP hpm2 hP
    have hD := bk_reD hpm2 hD
    have hP : va_P (dC, dI) vwCl (List.flatten [[(h0, .inr (8, [.ref (r0 0), .int tp_19, .ref pl0, .ref sp0, .ref rd0, .ref (r0 1), .int mv_23, .ref fi0, .ref se0, .ref fa0, .ref cr0, .ref ra0, .ref pa0, .int nw0])), (r0 0, .inl (cB, 1600, .inl f_18)), (r0 1, .inl (cI, 6, .inl f_22))], w1, w2]) H := hP
    have hD : va_D A (List.flatten [[(h0, .inr (8, [.ref (r0 0), .int tp_19, .ref pl0, .ref sp0, .ref rd0, .ref (r0 1), .int mv_23, .ref fi0, .ref se0, .ref fa0, .ref cr0, .ref ra0, .ref pa0, .int nw0])), (r0 0, .inl (cB, 1600, .inl f_18)), (r0 1, .inl (cI, 6, .inl f_22))], w1, w2]) := hD
    rcases hw with ⟨rfl, c_27, c_28⟩ | ⟨rfl, c_29, c_30, c_31⟩ | ⟨rfl, c_32, c_33, c_34, c_35⟩
    · refine lv_if_eq (tgt := 22) hx hb dX10_spent_12 (by decide) (fun c_36 => ?_) (fun c_36 => absurd c_36 (by decide))
      refine lv_iconst (v := (-1)) hx hb dX10_spent_22 (by decide) ?_
      rw [hQ0]
      exact W.iret (v := (-1)) hx hb hr (fun t ht hW => ⟨⟨(-1), (), rfl, trivial, ⟨by rw [ht]; exact hP, hD⟩⟩, hS.F ht⟩) hS.2.2 dX10_spent_23
    · refine lv_if_eq (tgt := 22) hx hb dX10_spent_12 (by decide) (fun c_37 => ?_) (fun c_37 => absurd c_37 (by decide))
      refine lv_iconst (v := (-1)) hx hb dX10_spent_22 (by decide) ?_
      rw [hQ0]
      exact W.iret (v := (-1)) hx hb hr (fun t ht hW => ⟨⟨(-1), (), rfl, trivial, ⟨by rw [ht]; exact hP, hD⟩⟩, hS.F ht⟩) hS.2.2 dX10_spent_23
    · refine lv_if_eq (tgt := 22) hx hb dX10_spent_12 (by decide) (fun c_38 => absurd c_38 (by decide)) (fun c_38 => ?_)
      refine lv_iload_n hx hb dX10_spent_15 rfl (lv_at hl 3 rfl) ?_
      have hpm : List.Perm ([[(h0, .inr (8, [.ref (r0 0), .int tp_19, .ref pl0, .ref sp0, .ref rd0, .ref (r0 1), .int mv_23, .ref fi0, .ref se0, .ref fa0, .ref cr0, .ref ra0, .ref pa0, .int nw0])), (r0 0, .inl (cB, 1600, .inl f_18)), (r0 1, .inl (cI, 6, .inl f_22))], w1, w2] : List va_W) (([] : List va_W) ++ ([[(h0, .inr (8, [.ref (r0 0), .int tp_19, .ref pl0, .ref sp0, .ref rd0, .ref (r0 1), .int mv_23, .ref fi0, .ref se0, .ref fa0, .ref cr0, .ref ra0, .ref pa0, .int nw0])), (r0 0, .inl (cB, 1600, .inl f_18)), (r0 1, .inl (cI, 6, .inl f_22))], w1, w2] : List va_W)) := pm_n 3 [0, 1, 2] (by decide) rfl rfl
      have hPc := bk_P hpm hP
      have hDc := bk_D hpm hD
      have hFc := bk_F hpm hD hS hA
      refine va_calli (va_runS (As := [.int p3]) (rest := []) ⟨hx, hb, hml, hown, hts⟩ (c_X10_isDay l dC dI ad tN fN cB cI cJ cZ p3 H.size) (va_cwS 1 hts gX10_spent_X10_isDay rfl rfl rfl (by decide +kernel) ⟨(Nat.le_of_ble_eq_true rfl), (Nat.le_of_ble_eq_true rfl)⟩) ⟨fun a U g mk q => by obtain ⟨q0, q1, qP, qK, qD, qE⟩ := q; exact ⟨q0, q1, qP, va_K.moved (u := U) (U := U.calling g mk a) (Vm.Alike.refl U.vm) qK, qD, ey_blind qE⟩, fun U hU hW => ⟨rfl, by rw [hU], by rw [hU]; exact hPc, va_K.moved hW.alike (va_K.sub hK [0, 1, 2, 3] rfl), hDc.weaken (fun _ _ _ _ => trivial), ey_call hE hS hFc hU hW⟩⟩ rfl rfl hl.1 rfl (lv_room (Nat.le_of_ble_eq_true rfl)) dX10_spent_16 ⟨(Nat.le_of_ble_eq_true rfl), (Nat.le_of_ble_eq_true rfl)⟩) hS (fun q _ h => hFc q h) hFc (fun r_39 u t H locs ht hvm hw hB hz1 hk1 hS => ?_)
      obtain ⟨hP1, hD1⟩ := hB
      rw [ht] at hP1
      obtain ⟨hP, hD⟩ := bk_join hpm hP hD hk1 hFc (Cs1 := []) hP1 hD1
      have hpm2 : List.Perm (([] : List va_W) ++ ([[(h0, .inr (8, [.ref (r0 0), .int tp_19, .ref pl0, .ref sp0, .ref rd0, .ref (r0 1), .int mv_23, .ref fi0, .ref se0, .ref fa0, .ref cr0, .ref ra0, .ref pa0, .int nw0])), (r0 0, .inl (cB, 1600, .inl f_18)), (r0 1, .inl (cI, 6, .inl f_22))], w1, w2] : List va_W)) ([[(h0, .inr (8, [.ref (r0 0), .int tp_19, .ref pl0, .ref sp0, .ref rd0, .ref (r0 1), .int mv_23, .ref fi0, .ref se0, .ref fa0, .ref cr0, .ref ra0, .ref pa0, .int nw0])), (r0 0, .inl (cB, 1600, .inl f_18)), (r0 1, .inl (cI, 6, .inl f_22))], w1, w2] : List va_W) := pm_n 3 [0, 1, 2] (by decide) rfl rfl
      have hP := bk_reP hpm2 hP
      have hD := bk_reD hpm2 hD
      have hP : va_P (dC, dI) vwCl (List.flatten [[(h0, .inr (8, [.ref (r0 0), .int tp_19, .ref pl0, .ref sp0, .ref rd0, .ref (r0 1), .int mv_23, .ref fi0, .ref se0, .ref fa0, .ref cr0, .ref ra0, .ref pa0, .int nw0])), (r0 0, .inl (cB, 1600, .inl f_18)), (r0 1, .inl (cI, 6, .inl f_22))], w1, w2]) H := hP
      have hD : va_D A (List.flatten [[(h0, .inr (8, [.ref (r0 0), .int tp_19, .ref pl0, .ref sp0, .ref rd0, .ref (r0 1), .int mv_23, .ref fi0, .ref se0, .ref fa0, .ref cr0, .ref ra0, .ref pa0, .int nw0])), (r0 0, .inl (cB, 1600, .inl f_18)), (r0 1, .inl (cI, 6, .inl f_22))], w1, w2]) := hD
      rcases hw with ⟨rfl, c_40⟩ | ⟨rfl, c_41, c_42⟩ | ⟨rfl, c_43, c_44⟩
      · refine lv_if_ne (tgt := 24) hx hb dX10_spent_19 (by decide) (fun c_45 => absurd c_45 (by decide)) (fun c_45 => ?_)
        refine lv_iconst (v := (-1)) hx hb dX10_spent_22 (by decide) ?_
        rw [hQ0]
        exact W.iret (v := (-1)) hx hb hr (fun t ht hW => ⟨⟨(-1), (), rfl, trivial, ⟨by rw [ht]; exact hP, hD⟩⟩, hS.F ht⟩) hS.2.2 dX10_spent_23
      · refine lv_if_ne (tgt := 24) hx hb dX10_spent_19 (by decide) (fun c_46 => absurd c_46 (by decide)) (fun c_46 => ?_)
        refine lv_iconst (v := (-1)) hx hb dX10_spent_22 (by decide) ?_
        rw [hQ0]
        exact W.iret (v := (-1)) hx hb hr (fun t ht hW => ⟨⟨(-1), (), rfl, trivial, ⟨by rw [ht]; exact hP, hD⟩⟩, hS.F ht⟩) hS.2.2 dX10_spent_23
      · refine lv_if_ne (tgt := 24) hx hb dX10_spent_19 (by decide) (fun c_47 => ?_) (fun c_47 => absurd c_47 (by decide))
        refine lv_aload_n hx hb dX10_spent_24 rfl (lv_at hl 0 rfl) ?_
        refine va_get (D := (dC, dI)) (ci := 8) (v := .ref pa0) (C := RX10) (T := TX10) (N := 14) hx hb hts iw_X10_spent_X10 hown hK hP 0 rfl rfl 12 (by decide) (hts (.fieldLink RX10 75 "HungFloors" "papers" "LHungFloors$Papers;") (by decide +kernel)) (fun _ h9 => h9) rfl dX10_spent_25 ?_
        refine lv_iload_n hx hb dX10_spent_28 rfl (lv_at hl 1 rfl) ?_
        refine lv_iload_n hx hb dX10_spent_29 rfl (lv_at hl 2 rfl) ?_
        refine lv_iload_n hx hb dX10_spent_30 rfl (lv_at hl 3 rfl) ?_
        refine lv_iload hx hb dX10_spent_31 (lv_at hl 4 rfl) ?_
        obtain ⟨f_50, f_51, f_52, f_53, f_54, f_55, f_56, sc_57, f_60, f_62, f_63, rfl, hl_48, hh_49, hl_58, hh_59, hr_61⟩ := o2
        have hpm : List.Perm ([[(h0, .inr (8, [.ref (r0 0), .int tp_19, .ref pl0, .ref sp0, .ref rd0, .ref (r0 1), .int mv_23, .ref fi0, .ref se0, .ref fa0, .ref cr0, .ref ra0, .ref pa0, .int nw0])), (r0 0, .inl (cB, 1600, .inl f_18)), (r0 1, .inl (cI, 6, .inl f_22))], w1, [(pa0, .inr (4, [.int pc2, .ref (r2 0), .ref (r2 1), .ref (r2 2), .ref (r2 3), .ref (r2 4), .ref (r2 5), .ref (r2 6), .int sc_57, .ref (r2 7), .ref (r2 8), .ref (r2 9)])), (r2 0, .inl (cI, 60, .inl f_50)), (r2 1, .inl (cI, 60, .inl f_51)), (r2 2, .inl (cI, 60, .inl f_52)), (r2 3, .inl (cI, 60, .inl f_53)), (r2 4, .inl (cZ, 60, .inl f_54)), (r2 5, .inl (cI, 60, .inl f_55)), (r2 6, .inl (cI, 60, .inl f_56)), (r2 7, .inl (cI, 9, .inl f_60)), (r2 8, .inl (cI, 9, .inl f_62)), (r2 9, .inl (cI, 9, .inl f_63))]] : List va_W) (([[(pa0, .inr (4, [.int pc2, .ref (r2 0), .ref (r2 1), .ref (r2 2), .ref (r2 3), .ref (r2 4), .ref (r2 5), .ref (r2 6), .int sc_57, .ref (r2 7), .ref (r2 8), .ref (r2 9)])), (r2 0, .inl (cI, 60, .inl f_50)), (r2 1, .inl (cI, 60, .inl f_51)), (r2 2, .inl (cI, 60, .inl f_52)), (r2 3, .inl (cI, 60, .inl f_53)), (r2 4, .inl (cZ, 60, .inl f_54)), (r2 5, .inl (cI, 60, .inl f_55)), (r2 6, .inl (cI, 60, .inl f_56)), (r2 7, .inl (cI, 9, .inl f_60)), (r2 8, .inl (cI, 9, .inl f_62)), (r2 9, .inl (cI, 9, .inl f_63))]] : List va_W) ++ ([[(h0, .inr (8, [.ref (r0 0), .int tp_19, .ref pl0, .ref sp0, .ref rd0, .ref (r0 1), .int mv_23, .ref fi0, .ref se0, .ref fa0, .ref cr0, .ref ra0, .ref pa0, .int nw0])), (r0 0, .inl (cB, 1600, .inl f_18)), (r0 1, .inl (cI, 6, .inl f_22))], w1] : List va_W)) := pm_n 3 [2, 0, 1] (by decide) rfl rfl
        have hPc := bk_P hpm hP
        have hDc := bk_D hpm hD
        have hFc := bk_F hpm hD hS hA
        refine va_calli (va_runV (As := [.int p1, .int p2, .int p3, .int p4]) (rest := []) ⟨hx, hb, hml, hown, hts⟩ (c_X6_hoursUpTo l dC dI ad tN fN cB cI cJ cZ pa0 p1 p2 p3 p4 r2 pc2 _ ⟨f_50, f_51, f_52, f_53, f_54, f_55, f_56, sc_57, f_60, f_62, f_63, rfl, by omega, by omega, by omega, by omega, hr_61⟩ H.size) (cwV 4 hts gX10_spent_X6_hoursUpTo rfl rfl rfl (by decide +kernel) ⟨(Nat.le_of_ble_eq_true rfl), (Nat.le_of_ble_eq_true rfl)⟩) ⟨fun a U g mk q => by obtain ⟨q0, q1, qP, qK, qD, qE⟩ := q; exact ⟨q0, q1, qP, va_K.moved (u := U) (U := U.calling g mk a) (Vm.Alike.refl U.vm) qK, qD, ey_blind qE⟩, va_recv hK hPc (ci := 4) (q0 := 0) rfl rfl, fun U hU hW => ⟨rfl, by rw [hU], by rw [hU]; exact hPc, va_K.moved hW.alike (va_K.sub hK [0, 1, 2, 3] rfl), hDc.weaken (fun _ _ _ _ => trivial), ey_call hE hS hFc hU hW⟩⟩ rfl rfl hl.1 rfl (lv_room (Nat.le_of_ble_eq_true rfl)) dX10_spent_33 ⟨(Nat.le_of_ble_eq_true rfl), (Nat.le_of_ble_eq_true rfl)⟩) hS (fun q _ h => hFc q h) hFc (fun r_64 u t H locs ht hvm hw hB hz1 hk1 hS => ?_)
        obtain ⟨hP1, hD1⟩ := hB
        rw [ht] at hP1
        obtain ⟨hP, hD⟩ := bk_join hpm hP hD hk1 hFc (Cs1 := [[(pa0, .inr (4, [.int pc2, .ref (r2 0), .ref (r2 1), .ref (r2 2), .ref (r2 3), .ref (r2 4), .ref (r2 5), .ref (r2 6), .int sc_57, .ref (r2 7), .ref (r2 8), .ref (r2 9)])), (r2 0, .inl (cI, 60, .inl f_50)), (r2 1, .inl (cI, 60, .inl f_51)), (r2 2, .inl (cI, 60, .inl f_52)), (r2 3, .inl (cI, 60, .inl f_53)), (r2 4, .inl (cZ, 60, .inl f_54)), (r2 5, .inl (cI, 60, .inl f_55)), (r2 6, .inl (cI, 60, .inl f_56)), (r2 7, .inl (cI, 9, .inl f_60)), (r2 8, .inl (cI, 9, .inl f_62)), (r2 9, .inl (cI, 9, .inl f_63))]]) hP1 hD1
        have hpm2 : List.Perm (([[(pa0, .inr (4, [.int pc2, .ref (r2 0), .ref (r2 1), .ref (r2 2), .ref (r2 3), .ref (r2 4), .ref (r2 5), .ref (r2 6), .int sc_57, .ref (r2 7), .ref (r2 8), .ref (r2 9)])), (r2 0, .inl (cI, 60, .inl f_50)), (r2 1, .inl (cI, 60, .inl f_51)), (r2 2, .inl (cI, 60, .inl f_52)), (r2 3, .inl (cI, 60, .inl f_53)), (r2 4, .inl (cZ, 60, .inl f_54)), (r2 5, .inl (cI, 60, .inl f_55)), (r2 6, .inl (cI, 60, .inl f_56)), (r2 7, .inl (cI, 9, .inl f_60)), (r2 8, .inl (cI, 9, .inl f_62)), (r2 9, .inl (cI, 9, .inl f_63))]] : List va_W) ++ ([[(h0, .inr (8, [.ref (r0 0), .int tp_19, .ref pl0, .ref sp0, .ref rd0, .ref (r0 1), .int mv_23, .ref fi0, .ref se0, .ref fa0, .ref cr0, .ref ra0, .ref pa0, .int nw0])), (r0 0, .inl (cB, 1600, .inl f_18)), (r0 1, .inl (cI, 6, .inl f_22))], w1] : List va_W)) ([[(h0, .inr (8, [.ref (r0 0), .int tp_19, .ref pl0, .ref sp0, .ref rd0, .ref (r0 1), .int mv_23, .ref fi0, .ref se0, .ref fa0, .ref cr0, .ref ra0, .ref pa0, .int nw0])), (r0 0, .inl (cB, 1600, .inl f_18)), (r0 1, .inl (cI, 6, .inl f_22))], w1, [(pa0, .inr (4, [.int pc2, .ref (r2 0), .ref (r2 1), .ref (r2 2), .ref (r2 3), .ref (r2 4), .ref (r2 5), .ref (r2 6), .int sc_57, .ref (r2 7), .ref (r2 8), .ref (r2 9)])), (r2 0, .inl (cI, 60, .inl f_50)), (r2 1, .inl (cI, 60, .inl f_51)), (r2 2, .inl (cI, 60, .inl f_52)), (r2 3, .inl (cI, 60, .inl f_53)), (r2 4, .inl (cZ, 60, .inl f_54)), (r2 5, .inl (cI, 60, .inl f_55)), (r2 6, .inl (cI, 60, .inl f_56)), (r2 7, .inl (cI, 9, .inl f_60)), (r2 8, .inl (cI, 9, .inl f_62)), (r2 9, .inl (cI, 9, .inl f_63))]] : List va_W) := pm_n 3 [1, 2, 0] (by decide) rfl rfl
        have hP := bk_reP hpm2 hP
        have hD := bk_reD hpm2 hD
        have hP : va_P (dC, dI) vwCl (List.flatten [[(h0, .inr (8, [.ref (r0 0), .int tp_19, .ref pl0, .ref sp0, .ref rd0, .ref (r0 1), .int mv_23, .ref fi0, .ref se0, .ref fa0, .ref cr0, .ref ra0, .ref pa0, .int nw0])), (r0 0, .inl (cB, 1600, .inl f_18)), (r0 1, .inl (cI, 6, .inl f_22))], w1, [(pa0, .inr (4, [.int pc2, .ref (r2 0), .ref (r2 1), .ref (r2 2), .ref (r2 3), .ref (r2 4), .ref (r2 5), .ref (r2 6), .int sc_57, .ref (r2 7), .ref (r2 8), .ref (r2 9)])), (r2 0, .inl (cI, 60, .inl f_50)), (r2 1, .inl (cI, 60, .inl f_51)), (r2 2, .inl (cI, 60, .inl f_52)), (r2 3, .inl (cI, 60, .inl f_53)), (r2 4, .inl (cZ, 60, .inl f_54)), (r2 5, .inl (cI, 60, .inl f_55)), (r2 6, .inl (cI, 60, .inl f_56)), (r2 7, .inl (cI, 9, .inl f_60)), (r2 8, .inl (cI, 9, .inl f_62)), (r2 9, .inl (cI, 9, .inl f_63))]]) H := hP
        have hD : va_D A (List.flatten [[(h0, .inr (8, [.ref (r0 0), .int tp_19, .ref pl0, .ref sp0, .ref rd0, .ref (r0 1), .int mv_23, .ref fi0, .ref se0, .ref fa0, .ref cr0, .ref ra0, .ref pa0, .int nw0])), (r0 0, .inl (cB, 1600, .inl f_18)), (r0 1, .inl (cI, 6, .inl f_22))], w1, [(pa0, .inr (4, [.int pc2, .ref (r2 0), .ref (r2 1), .ref (r2 2), .ref (r2 3), .ref (r2 4), .ref (r2 5), .ref (r2 6), .int sc_57, .ref (r2 7), .ref (r2 8), .ref (r2 9)])), (r2 0, .inl (cI, 60, .inl f_50)), (r2 1, .inl (cI, 60, .inl f_51)), (r2 2, .inl (cI, 60, .inl f_52)), (r2 3, .inl (cI, 60, .inl f_53)), (r2 4, .inl (cZ, 60, .inl f_54)), (r2 5, .inl (cI, 60, .inl f_55)), (r2 6, .inl (cI, 60, .inl f_56)), (r2 7, .inl (cI, 9, .inl f_60)), (r2 8, .inl (cI, 9, .inl f_62)), (r2 9, .inl (cI, 9, .inl f_63))]]) := hD
        rw [hQ0]
        exact W.iret (v := r_64) hx hb hr (fun t ht hW => ⟨⟨r_64, (), rfl, trivial, ⟨by rw [ht]; exact hP, hD⟩⟩, hS.F ht⟩) hS.2.2 dX10_spent_36
theorem iw_X10_hollow_X10 : ∀ w ∈ wsX100, w ∈ wsX10_hollow := fun _ h => List.mem_cons_of_mem _ (List.mem_append_left _ (List.mem_append_left _ (List.mem_append_right _ h)))
theorem iw_X10_hollow_X6 : ∀ w ∈ wsX60, w ∈ wsX10_hollow := fun _ h => List.mem_cons_of_mem _ (List.mem_append_left _ (List.mem_append_right _ h))
set_option maxHeartbeats 4000000 in
set_option maxRecDepth 100000 in
theorem c_X10_hollow (l : Launch) (dC : Nat → ClassId) (dI : Nat → Nat → Nat) (ad : Nat → Nat) (tN : Nat) (fN : Nat → Int64) (cB cI cJ cZ cQ : ClassId) (h0 : Nat) (p1 : Int32) (r0 : Nat → Nat) (pl0 : Nat) (sp0 : Nat) (rd0 : Nat) (fi0 : Nat) (se0 : Nat) (fa0 : Nat) (cr0 : Nat) (ra0 : Nat) (pa0 : Nat) (nw0 : Int32) (w0 : va_W) (r1 : Nat → Nat) (fc1 : Int32) (dc1 : Int32) (rk1 : Nat → Int32) (w1 : va_W) (r2 : Nat → Nat) (pc2 : Int32) (w2 : va_W) (o0 : ok_main ad cB cI cJ cZ h0 r0 pl0 sp0 rd0 fi0 se0 fa0 cr0 ra0 pa0 nw0 w0) (o1 : ok_plan ad cB cI cJ cZ pl0 r1 fc1 dc1 rk1 w1) (o2 : ok_pap ad cB cI cJ cZ pa0 r2 pc2 w2) (sz : Nat) : Met l yX10_hollow wsX10_hollow ({ frames := 2, cells := 0, slots := 0, locals := 49 } : Room) (va_Pc [.ref h0, .int p1] (fun U => U.heap.size = sz ∧ va_P (dC, dI) vwCl (List.flatten [w0, w1, w2]) U.heap ∧ va_K (dC, dI) vwCl [(cB, .byte), (cI, .int), (cJ, .long), (cZ, .boolean), (cQ, .array .long)] U ∧ va_D (fun _ => True) (List.flatten [w0, w1, w2]) ∧ ex_Y ad tN fN (va_A (List.flatten [w0, w1, w2]) sz) U)) (va_Qi (fun (r : Int32) (_ : Unit) => 0 ≤ r.toInt ∧ r.toInt ≤ 70) (fun (_ : Unit) (t : State) => va_P (dC, dI) vwCl (List.flatten [w0, w1, w2]) t.heap ∧ va_D (va_A (List.flatten [w0, w1, w2]) sz) (List.flatten [w0, w1, w2])) (va_A (List.flatten [w0, w1, w2]) sz)) 0 0 (va_A (List.flatten [w0, w1, w2]) sz) := by
  refine Met.ofW (cc := cX10_hollow) (maxL := 5) (ret := (some .int)) (by decide) rfl ?_
  intro p e s m args below meth c s₁ B hml hv
  obtain ⟨rfl, hsz, hP, hK, hD0, hE⟩ := hv
  have hx := B.exec
  have hb := B.bytes
  have hr := B.returns
  have hts := atoms_spec (ws := wsX10_hollow) B.pre
  have hown : s.vm.findClass RX10 = some m.cls := findClass_of_methodNamed B.named
  have hlocks := B.notSynchronized
  subst hsz
  have hD := hD0.self (sz := s.heap.size)
  generalize hAe : va_A (List.flatten [w0, w1, w2]) s.heap.size = A at hD hE ⊢
  have hA : ∀ q : Nat, s.heap.size ≤ q → A q := fun q h => by rw [← hAe]; exact Or.inr h
  have hS : va_S A s.heap s.heap [] := va_S.rf
  have hl := lv_entry ([.ref h0, .int p1]) (n := 5) (Nat.le_of_ble_eq_true rfl)
  rw [lg_entry_eq]
  generalize (lg_sl ([.ref h0, .int p1]) ++ List.replicate (5 - (lg_sl ([.ref h0, .int p1])).length) Slot.unset).toArray = ls at hl ⊢
  have hl : lv_has ls 5 [(0, .ref h0), (1, .int p1)] := hl
  clear hAe
  refine W_name (fun Q0 hQ0 => ?_)
  obtain ⟨hx_1, hx_2⟩ := okx_main o0
  obtain ⟨hx_3, hx_4, hx_5, hx_6⟩ := okx_plan o1
  obtain ⟨hx_7, hx_8⟩ := okx_pap o2
  refine lv_iconst (v := 0) hx hb dX10_hollow_0 (by decide) ?_
  refine lv_istore_n (lv' := [(2, .int 0), (0, .ref h0), (1, .int p1)]) hx hb dX10_hollow_1 rfl hl (by decide) rfl (fun ls hl => ?_)
  refine lv_iconst (v := 0) hx hb dX10_hollow_2 (by decide) ?_
  refine lv_istore_n (lv' := [(3, .int 0), (2, .int 0), (0, .ref h0), (1, .int p1)]) hx hb dX10_hollow_3 rfl hl (by decide) rfl (fun ls hl => ?_)
  obtain ⟨f_59, tp_60, f_63, mv_64, rfl, hl_61, hh_62, hl_65, hh_66⟩ := o0
  obtain ⟨f_69, f_70, f_71, f_72, f_75, f_77, f_78, f_80, f_82, rfl, hl_67, hh_68, hl_73, hh_74, hr_76, hr_79, hr_81⟩ := o1
  obtain ⟨f_85, f_86, f_87, f_88, f_89, f_90, f_91, sc_92, f_95, f_97, f_98, rfl, hl_83, hh_84, hl_93, hh_94, hr_96⟩ := o2
  have lp_218 : ∀ (n : Nat) (g_9 : Int32) (g_10 : Int32), 0 ≤ g_9.toInt → g_9.toInt ≤ 70 → 0 ≤ g_10.toInt → g_10.toInt ≤ 70 → g_10.toInt - g_9.toInt ≤ 0 → g_10.toInt - pc2.toInt ≤ 0 → g_9.toInt - pc2.toInt ≤ 0 → (70 - g_9.toInt).toNat < n → ∀ (H : Heap) (locs : List Loc), va_P (dC, dI) vwCl (List.flatten [[(h0, .inr (8, [.ref (r0 0), .int tp_60, .ref pl0, .ref sp0, .ref rd0, .ref (r0 1), .int mv_64, .ref fi0, .ref se0, .ref fa0, .ref cr0, .ref ra0, .ref pa0, .int nw0])), (r0 0, .inl (cB, 1600, .inl f_59)), (r0 1, .inl (cI, 6, .inl f_63))], [(pl0, .inr (5, [.int fc1, .ref (r1 0), .ref (r1 1), .ref (r1 2), .ref (r1 3), .int dc1, .ref (r1 4), .ref (r1 5), .ref (r1 6), .ref (r1 7), .ref (r1 8), .ref (r1 9)])), (r1 0, .inl (cJ, 6, .inr (.inl f_69))), (r1 1, .inl (cI, 6, .inl f_70)), (r1 2, .inl (cI, 6, .inl f_71)), (r1 3, .inl (cI, 6, .inl f_72)), (r1 4, .inl (cJ, 4, .inr (.inl f_75))), (r1 5, .inl (cI, 4, .inl rk1)), (r1 6, .inl (cJ, 40, .inr (.inl f_77))), (r1 7, .inl (cI, 40, .inl f_78)), (r1 8, .inl (cI, 40, .inl f_80)), (r1 9, .inl (cI, 40, .inl f_82))], [(pa0, .inr (4, [.int pc2, .ref (r2 0), .ref (r2 1), .ref (r2 2), .ref (r2 3), .ref (r2 4), .ref (r2 5), .ref (r2 6), .int sc_92, .ref (r2 7), .ref (r2 8), .ref (r2 9)])), (r2 0, .inl (cI, 60, .inl f_85)), (r2 1, .inl (cI, 60, .inl f_86)), (r2 2, .inl (cI, 60, .inl f_87)), (r2 3, .inl (cI, 60, .inl f_88)), (r2 4, .inl (cZ, 60, .inl f_89)), (r2 5, .inl (cI, 60, .inl f_90)), (r2 6, .inl (cI, 60, .inl f_91)), (r2 7, .inl (cI, 9, .inl f_95)), (r2 8, .inl (cI, 9, .inl f_97)), (r2 9, .inl (cI, 9, .inl f_98))]]) H → va_D A (List.flatten [[(h0, .inr (8, [.ref (r0 0), .int tp_60, .ref pl0, .ref sp0, .ref rd0, .ref (r0 1), .int mv_64, .ref fi0, .ref se0, .ref fa0, .ref cr0, .ref ra0, .ref pa0, .int nw0])), (r0 0, .inl (cB, 1600, .inl f_59)), (r0 1, .inl (cI, 6, .inl f_63))], [(pl0, .inr (5, [.int fc1, .ref (r1 0), .ref (r1 1), .ref (r1 2), .ref (r1 3), .int dc1, .ref (r1 4), .ref (r1 5), .ref (r1 6), .ref (r1 7), .ref (r1 8), .ref (r1 9)])), (r1 0, .inl (cJ, 6, .inr (.inl f_69))), (r1 1, .inl (cI, 6, .inl f_70)), (r1 2, .inl (cI, 6, .inl f_71)), (r1 3, .inl (cI, 6, .inl f_72)), (r1 4, .inl (cJ, 4, .inr (.inl f_75))), (r1 5, .inl (cI, 4, .inl rk1)), (r1 6, .inl (cJ, 40, .inr (.inl f_77))), (r1 7, .inl (cI, 40, .inl f_78)), (r1 8, .inl (cI, 40, .inl f_80)), (r1 9, .inl (cI, 40, .inl f_82))], [(pa0, .inr (4, [.int pc2, .ref (r2 0), .ref (r2 1), .ref (r2 2), .ref (r2 3), .ref (r2 4), .ref (r2 5), .ref (r2 6), .int sc_92, .ref (r2 7), .ref (r2 8), .ref (r2 9)])), (r2 0, .inl (cI, 60, .inl f_85)), (r2 1, .inl (cI, 60, .inl f_86)), (r2 2, .inl (cI, 60, .inl f_87)), (r2 3, .inl (cI, 60, .inl f_88)), (r2 4, .inl (cZ, 60, .inl f_89)), (r2 5, .inl (cI, 60, .inl f_90)), (r2 6, .inl (cI, 60, .inl f_91)), (r2 7, .inl (cI, 9, .inl f_95)), (r2 8, .inl (cI, 9, .inl f_97)), (r2 9, .inl (cI, 9, .inl f_98))]]) → va_S A s.heap H locs → ∀ (ls : Array Slot), lv_has ls 5 [(3, .int g_9), (2, .int g_10), (0, .ref h0), (1, .int p1)] → W p l e (headSpec wsX10_hollow ({ frames := 2, cells := 0, slots := 0, locals := 49 } : Room)).room s m ([.ref h0, .int p1] : List Value).toArray below meth c H locs 0 0 Q0 (F0 m 4 ls []) := by
    intro n
    induction n with
    | zero => intro g_9 g_10 iv_211 iv_212 iv_213 iv_214 iv_215 iv_216 iv_217 hm; exact absurd hm (Nat.not_lt_zero _)
    | succ n ih_219 =>
      intro g_9 g_10 iv_211 iv_212 iv_213 iv_214 iv_215 iv_216 iv_217 hm H locs hP hD hS ls hl
      refine lv_iload_n hx hb dX10_hollow_4 rfl (lv_at hl 0 rfl) ?_
      refine lv_aload_n hx hb dX10_hollow_5 rfl (lv_at hl 2 rfl) ?_
      refine va_get (D := (dC, dI)) (ci := 8) (v := .ref pa0) (C := RX10) (T := TX10) (N := 14) hx hb hts iw_X10_hollow_X10 hown hK hP 0 rfl rfl 12 (by decide) (hts (.fieldLink RX10 75 "HungFloors" "papers" "LHungFloors$Papers;") (by decide +kernel)) (fun _ h9 => h9) rfl dX10_hollow_6 ?_
      refine va_get (D := (dC, dI)) (ci := 4) (v := .int pc2) (C := RX6) (T := TX6) (N := 12) hx hb hts iw_X10_hollow_X6 hown hK hP 14 rfl rfl 0 (by decide) (hts (.fieldLink RX10 294 "HungFloors$Papers" "count" "I") (by decide +kernel)) (fun _ h9 => h9) rfl dX10_hollow_9 ?_
      refine lv_icmp_ge (tgt := 56) hx hb dX10_hollow_12 (by decide) (fun c_220 => ?_) (fun c_220 => ?_)
      · have c_220 : pc2.toInt ≤ g_9.toInt := f_le rfl rfl c_220
        refine lv_iload_n hx hb dX10_hollow_56 rfl (lv_at hl 1 rfl) ?_
        rw [hQ0]
        exact W.iret (v := g_10) hx hb hr (fun t ht hW => ⟨⟨g_10, (), rfl, ⟨by omega, by omega⟩, ⟨by rw [ht]; exact hP, hD⟩⟩, hS.F ht⟩) hS.2.2 dX10_hollow_57
      · have c_220 : g_9.toInt < pc2.toInt := f_nle rfl rfl c_220
        refine lv_aload_n hx hb dX10_hollow_15 rfl (lv_at hl 2 rfl) ?_
        refine va_get (D := (dC, dI)) (ci := 8) (v := .ref pl0) (C := RX10) (T := TX10) (N := 14) hx hb hts iw_X10_hollow_X10 hown hK hP 0 rfl rfl 2 (by decide) (hts (.fieldLink RX10 20 "HungFloors" "plan" "LHungFloors$Plan;") (by decide +kernel)) (fun _ h9 => h9) rfl dX10_hollow_16 ?_
        refine lv_aload_n hx hb dX10_hollow_19 rfl (lv_at hl 2 rfl) ?_
        refine va_get (D := (dC, dI)) (ci := 8) (v := .ref pa0) (C := RX10) (T := TX10) (N := 14) hx hb hts iw_X10_hollow_X10 hown hK hP 0 rfl rfl 12 (by decide) (hts (.fieldLink RX10 75 "HungFloors" "papers" "LHungFloors$Papers;") (by decide +kernel)) (fun _ h9 => h9) rfl dX10_hollow_20 ?_
        refine va_get (D := (dC, dI)) (ci := 4) (v := .ref (r2 2)) (C := RX6) (T := TX6) (N := 12) hx hb hts iw_X10_hollow_X6 hown hK hP 14 rfl rfl 3 (by decide) (hts (.fieldLink RX10 297 "HungFloors$Papers" "drawing" "[I") (by decide +kernel)) (fun _ h9 => h9) rfl dX10_hollow_23 ?_
        refine lv_iload_n hx hb dX10_hollow_26 rfl (lv_at hl 0 rfl) ?_
        refine va_iald hx hb hK hP 17 1 rfl rfl (v_in rfl (by omega) (by omega)) dX10_hollow_27 ?_
        refine lv_topi (fun z_221 ez_221 => ?_)
        have hpm : List.Perm ([[(h0, .inr (8, [.ref (r0 0), .int tp_60, .ref pl0, .ref sp0, .ref rd0, .ref (r0 1), .int mv_64, .ref fi0, .ref se0, .ref fa0, .ref cr0, .ref ra0, .ref pa0, .int nw0])), (r0 0, .inl (cB, 1600, .inl f_59)), (r0 1, .inl (cI, 6, .inl f_63))], [(pl0, .inr (5, [.int fc1, .ref (r1 0), .ref (r1 1), .ref (r1 2), .ref (r1 3), .int dc1, .ref (r1 4), .ref (r1 5), .ref (r1 6), .ref (r1 7), .ref (r1 8), .ref (r1 9)])), (r1 0, .inl (cJ, 6, .inr (.inl f_69))), (r1 1, .inl (cI, 6, .inl f_70)), (r1 2, .inl (cI, 6, .inl f_71)), (r1 3, .inl (cI, 6, .inl f_72)), (r1 4, .inl (cJ, 4, .inr (.inl f_75))), (r1 5, .inl (cI, 4, .inl rk1)), (r1 6, .inl (cJ, 40, .inr (.inl f_77))), (r1 7, .inl (cI, 40, .inl f_78)), (r1 8, .inl (cI, 40, .inl f_80)), (r1 9, .inl (cI, 40, .inl f_82))], [(pa0, .inr (4, [.int pc2, .ref (r2 0), .ref (r2 1), .ref (r2 2), .ref (r2 3), .ref (r2 4), .ref (r2 5), .ref (r2 6), .int sc_92, .ref (r2 7), .ref (r2 8), .ref (r2 9)])), (r2 0, .inl (cI, 60, .inl f_85)), (r2 1, .inl (cI, 60, .inl f_86)), (r2 2, .inl (cI, 60, .inl f_87)), (r2 3, .inl (cI, 60, .inl f_88)), (r2 4, .inl (cZ, 60, .inl f_89)), (r2 5, .inl (cI, 60, .inl f_90)), (r2 6, .inl (cI, 60, .inl f_91)), (r2 7, .inl (cI, 9, .inl f_95)), (r2 8, .inl (cI, 9, .inl f_97)), (r2 9, .inl (cI, 9, .inl f_98))]] : List va_W) (([[(pl0, .inr (5, [.int fc1, .ref (r1 0), .ref (r1 1), .ref (r1 2), .ref (r1 3), .int dc1, .ref (r1 4), .ref (r1 5), .ref (r1 6), .ref (r1 7), .ref (r1 8), .ref (r1 9)])), (r1 0, .inl (cJ, 6, .inr (.inl f_69))), (r1 1, .inl (cI, 6, .inl f_70)), (r1 2, .inl (cI, 6, .inl f_71)), (r1 3, .inl (cI, 6, .inl f_72)), (r1 4, .inl (cJ, 4, .inr (.inl f_75))), (r1 5, .inl (cI, 4, .inl rk1)), (r1 6, .inl (cJ, 40, .inr (.inl f_77))), (r1 7, .inl (cI, 40, .inl f_78)), (r1 8, .inl (cI, 40, .inl f_80)), (r1 9, .inl (cI, 40, .inl f_82))]] : List va_W) ++ ([[(h0, .inr (8, [.ref (r0 0), .int tp_60, .ref pl0, .ref sp0, .ref rd0, .ref (r0 1), .int mv_64, .ref fi0, .ref se0, .ref fa0, .ref cr0, .ref ra0, .ref pa0, .int nw0])), (r0 0, .inl (cB, 1600, .inl f_59)), (r0 1, .inl (cI, 6, .inl f_63))], [(pa0, .inr (4, [.int pc2, .ref (r2 0), .ref (r2 1), .ref (r2 2), .ref (r2 3), .ref (r2 4), .ref (r2 5), .ref (r2 6), .int sc_92, .ref (r2 7), .ref (r2 8), .ref (r2 9)])), (r2 0, .inl (cI, 60, .inl f_85)), (r2 1, .inl (cI, 60, .inl f_86)), (r2 2, .inl (cI, 60, .inl f_87)), (r2 3, .inl (cI, 60, .inl f_88)), (r2 4, .inl (cZ, 60, .inl f_89)), (r2 5, .inl (cI, 60, .inl f_90)), (r2 6, .inl (cI, 60, .inl f_91)), (r2 7, .inl (cI, 9, .inl f_95)), (r2 8, .inl (cI, 9, .inl f_97)), (r2 9, .inl (cI, 9, .inl f_98))]] : List va_W)) := pm_n 3 [1, 0, 2] (by decide) rfl rfl
        have hPc := bk_P hpm hP
        have hDc := bk_D hpm hD
        have hFc := bk_F hpm hD hS hA
        refine va_calli (va_runV (As := [.int z_221]) (rest := []) ⟨hx, hb, hml, hown, hts⟩ (c_X7_jointsOf l dC dI ad tN fN cB cI cJ cZ pl0 z_221 r1 fc1 dc1 rk1 _ ⟨f_69, f_70, f_71, f_72, f_75, f_77, f_78, f_80, f_82, rfl, by omega, by omega, by omega, by omega, hr_76, hr_79, hr_81⟩ H.size) (cwV 1 hts gX10_hollow_X7_jointsOf rfl rfl rfl (by decide +kernel) ⟨(Nat.le_of_ble_eq_true rfl), (Nat.le_of_ble_eq_true rfl)⟩) ⟨fun a U g mk q => by obtain ⟨q0, q1, qP, qK, qD, qE⟩ := q; exact ⟨q0, q1, qP, va_K.moved (u := U) (U := U.calling g mk a) (Vm.Alike.refl U.vm) qK, qD, ey_blind qE⟩, va_recv hK hPc (ci := 5) (q0 := 0) rfl rfl, fun U hU hW => ⟨rfl, by rw [hU], by rw [hU]; exact hPc, va_K.moved hW.alike (va_K.sub hK [0, 1, 2, 3] rfl), hDc.weaken (fun _ _ _ _ => trivial), ey_call hE hS hFc hU hW⟩⟩ rfl rfl hl.1 rfl (lv_room (Nat.le_of_ble_eq_true rfl)) dX10_hollow_28 ⟨(Nat.le_of_ble_eq_true rfl), (Nat.le_of_ble_eq_true rfl)⟩) hS (fun q _ h => hFc q h) hFc (fun r_222 u t H locs ht hvm hw hB hz1 hk1 hS => ?_)
        obtain ⟨hP1, hD1⟩ := hB
        rw [ht] at hP1
        obtain ⟨hP, hD⟩ := bk_join hpm hP hD hk1 hFc (Cs1 := [[(pl0, .inr (5, [.int fc1, .ref (r1 0), .ref (r1 1), .ref (r1 2), .ref (r1 3), .int dc1, .ref (r1 4), .ref (r1 5), .ref (r1 6), .ref (r1 7), .ref (r1 8), .ref (r1 9)])), (r1 0, .inl (cJ, 6, .inr (.inl f_69))), (r1 1, .inl (cI, 6, .inl f_70)), (r1 2, .inl (cI, 6, .inl f_71)), (r1 3, .inl (cI, 6, .inl f_72)), (r1 4, .inl (cJ, 4, .inr (.inl f_75))), (r1 5, .inl (cI, 4, .inl rk1)), (r1 6, .inl (cJ, 40, .inr (.inl f_77))), (r1 7, .inl (cI, 40, .inl f_78)), (r1 8, .inl (cI, 40, .inl f_80)), (r1 9, .inl (cI, 40, .inl f_82))]]) hP1 hD1
        have hpm2 : List.Perm (([[(pl0, .inr (5, [.int fc1, .ref (r1 0), .ref (r1 1), .ref (r1 2), .ref (r1 3), .int dc1, .ref (r1 4), .ref (r1 5), .ref (r1 6), .ref (r1 7), .ref (r1 8), .ref (r1 9)])), (r1 0, .inl (cJ, 6, .inr (.inl f_69))), (r1 1, .inl (cI, 6, .inl f_70)), (r1 2, .inl (cI, 6, .inl f_71)), (r1 3, .inl (cI, 6, .inl f_72)), (r1 4, .inl (cJ, 4, .inr (.inl f_75))), (r1 5, .inl (cI, 4, .inl rk1)), (r1 6, .inl (cJ, 40, .inr (.inl f_77))), (r1 7, .inl (cI, 40, .inl f_78)), (r1 8, .inl (cI, 40, .inl f_80)), (r1 9, .inl (cI, 40, .inl f_82))]] : List va_W) ++ ([[(h0, .inr (8, [.ref (r0 0), .int tp_60, .ref pl0, .ref sp0, .ref rd0, .ref (r0 1), .int mv_64, .ref fi0, .ref se0, .ref fa0, .ref cr0, .ref ra0, .ref pa0, .int nw0])), (r0 0, .inl (cB, 1600, .inl f_59)), (r0 1, .inl (cI, 6, .inl f_63))], [(pa0, .inr (4, [.int pc2, .ref (r2 0), .ref (r2 1), .ref (r2 2), .ref (r2 3), .ref (r2 4), .ref (r2 5), .ref (r2 6), .int sc_92, .ref (r2 7), .ref (r2 8), .ref (r2 9)])), (r2 0, .inl (cI, 60, .inl f_85)), (r2 1, .inl (cI, 60, .inl f_86)), (r2 2, .inl (cI, 60, .inl f_87)), (r2 3, .inl (cI, 60, .inl f_88)), (r2 4, .inl (cZ, 60, .inl f_89)), (r2 5, .inl (cI, 60, .inl f_90)), (r2 6, .inl (cI, 60, .inl f_91)), (r2 7, .inl (cI, 9, .inl f_95)), (r2 8, .inl (cI, 9, .inl f_97)), (r2 9, .inl (cI, 9, .inl f_98))]] : List va_W)) ([[(h0, .inr (8, [.ref (r0 0), .int tp_60, .ref pl0, .ref sp0, .ref rd0, .ref (r0 1), .int mv_64, .ref fi0, .ref se0, .ref fa0, .ref cr0, .ref ra0, .ref pa0, .int nw0])), (r0 0, .inl (cB, 1600, .inl f_59)), (r0 1, .inl (cI, 6, .inl f_63))], [(pl0, .inr (5, [.int fc1, .ref (r1 0), .ref (r1 1), .ref (r1 2), .ref (r1 3), .int dc1, .ref (r1 4), .ref (r1 5), .ref (r1 6), .ref (r1 7), .ref (r1 8), .ref (r1 9)])), (r1 0, .inl (cJ, 6, .inr (.inl f_69))), (r1 1, .inl (cI, 6, .inl f_70)), (r1 2, .inl (cI, 6, .inl f_71)), (r1 3, .inl (cI, 6, .inl f_72)), (r1 4, .inl (cJ, 4, .inr (.inl f_75))), (r1 5, .inl (cI, 4, .inl rk1)), (r1 6, .inl (cJ, 40, .inr (.inl f_77))), (r1 7, .inl (cI, 40, .inl f_78)), (r1 8, .inl (cI, 40, .inl f_80)), (r1 9, .inl (cI, 40, .inl f_82))], [(pa0, .inr (4, [.int pc2, .ref (r2 0), .ref (r2 1), .ref (r2 2), .ref (r2 3), .ref (r2 4), .ref (r2 5), .ref (r2 6), .int sc_92, .ref (r2 7), .ref (r2 8), .ref (r2 9)])), (r2 0, .inl (cI, 60, .inl f_85)), (r2 1, .inl (cI, 60, .inl f_86)), (r2 2, .inl (cI, 60, .inl f_87)), (r2 3, .inl (cI, 60, .inl f_88)), (r2 4, .inl (cZ, 60, .inl f_89)), (r2 5, .inl (cI, 60, .inl f_90)), (r2 6, .inl (cI, 60, .inl f_91)), (r2 7, .inl (cI, 9, .inl f_95)), (r2 8, .inl (cI, 9, .inl f_97)), (r2 9, .inl (cI, 9, .inl f_98))]] : List va_W) := pm_n 3 [1, 0, 2] (by decide) rfl rfl
        have hP := bk_reP hpm2 hP
        have hD := bk_reD hpm2 hD
        have hP : va_P (dC, dI) vwCl (List.flatten [[(h0, .inr (8, [.ref (r0 0), .int tp_60, .ref pl0, .ref sp0, .ref rd0, .ref (r0 1), .int mv_64, .ref fi0, .ref se0, .ref fa0, .ref cr0, .ref ra0, .ref pa0, .int nw0])), (r0 0, .inl (cB, 1600, .inl f_59)), (r0 1, .inl (cI, 6, .inl f_63))], [(pl0, .inr (5, [.int fc1, .ref (r1 0), .ref (r1 1), .ref (r1 2), .ref (r1 3), .int dc1, .ref (r1 4), .ref (r1 5), .ref (r1 6), .ref (r1 7), .ref (r1 8), .ref (r1 9)])), (r1 0, .inl (cJ, 6, .inr (.inl f_69))), (r1 1, .inl (cI, 6, .inl f_70)), (r1 2, .inl (cI, 6, .inl f_71)), (r1 3, .inl (cI, 6, .inl f_72)), (r1 4, .inl (cJ, 4, .inr (.inl f_75))), (r1 5, .inl (cI, 4, .inl rk1)), (r1 6, .inl (cJ, 40, .inr (.inl f_77))), (r1 7, .inl (cI, 40, .inl f_78)), (r1 8, .inl (cI, 40, .inl f_80)), (r1 9, .inl (cI, 40, .inl f_82))], [(pa0, .inr (4, [.int pc2, .ref (r2 0), .ref (r2 1), .ref (r2 2), .ref (r2 3), .ref (r2 4), .ref (r2 5), .ref (r2 6), .int sc_92, .ref (r2 7), .ref (r2 8), .ref (r2 9)])), (r2 0, .inl (cI, 60, .inl f_85)), (r2 1, .inl (cI, 60, .inl f_86)), (r2 2, .inl (cI, 60, .inl f_87)), (r2 3, .inl (cI, 60, .inl f_88)), (r2 4, .inl (cZ, 60, .inl f_89)), (r2 5, .inl (cI, 60, .inl f_90)), (r2 6, .inl (cI, 60, .inl f_91)), (r2 7, .inl (cI, 9, .inl f_95)), (r2 8, .inl (cI, 9, .inl f_97)), (r2 9, .inl (cI, 9, .inl f_98))]]) H := hP
        have hD : va_D A (List.flatten [[(h0, .inr (8, [.ref (r0 0), .int tp_60, .ref pl0, .ref sp0, .ref rd0, .ref (r0 1), .int mv_64, .ref fi0, .ref se0, .ref fa0, .ref cr0, .ref ra0, .ref pa0, .int nw0])), (r0 0, .inl (cB, 1600, .inl f_59)), (r0 1, .inl (cI, 6, .inl f_63))], [(pl0, .inr (5, [.int fc1, .ref (r1 0), .ref (r1 1), .ref (r1 2), .ref (r1 3), .int dc1, .ref (r1 4), .ref (r1 5), .ref (r1 6), .ref (r1 7), .ref (r1 8), .ref (r1 9)])), (r1 0, .inl (cJ, 6, .inr (.inl f_69))), (r1 1, .inl (cI, 6, .inl f_70)), (r1 2, .inl (cI, 6, .inl f_71)), (r1 3, .inl (cI, 6, .inl f_72)), (r1 4, .inl (cJ, 4, .inr (.inl f_75))), (r1 5, .inl (cI, 4, .inl rk1)), (r1 6, .inl (cJ, 40, .inr (.inl f_77))), (r1 7, .inl (cI, 40, .inl f_78)), (r1 8, .inl (cI, 40, .inl f_80)), (r1 9, .inl (cI, 40, .inl f_82))], [(pa0, .inr (4, [.int pc2, .ref (r2 0), .ref (r2 1), .ref (r2 2), .ref (r2 3), .ref (r2 4), .ref (r2 5), .ref (r2 6), .int sc_92, .ref (r2 7), .ref (r2 8), .ref (r2 9)])), (r2 0, .inl (cI, 60, .inl f_85)), (r2 1, .inl (cI, 60, .inl f_86)), (r2 2, .inl (cI, 60, .inl f_87)), (r2 3, .inl (cI, 60, .inl f_88)), (r2 4, .inl (cZ, 60, .inl f_89)), (r2 5, .inl (cI, 60, .inl f_90)), (r2 6, .inl (cI, 60, .inl f_91)), (r2 7, .inl (cI, 9, .inl f_95)), (r2 8, .inl (cI, 9, .inl f_97)), (r2 9, .inl (cI, 9, .inl f_98))]]) := hD
        obtain ⟨hlr_222, hhr_222⟩ := hw
        refine lv_istore (lv' := [(4, .int r_222), (3, .int g_9), (2, .int g_10), (0, .ref h0), (1, .int p1)]) hx hb dX10_hollow_31 hl (by decide) rfl (fun ls hl => ?_)
        refine lv_aload_n hx hb dX10_hollow_33 rfl (lv_at hl 3 rfl) ?_
        refine va_get (D := (dC, dI)) (ci := 8) (v := .ref pa0) (C := RX10) (T := TX10) (N := 14) hx hb hts iw_X10_hollow_X10 hown hK hP 0 rfl rfl 12 (by decide) (hts (.fieldLink RX10 75 "HungFloors" "papers" "LHungFloors$Papers;") (by decide +kernel)) (fun _ h9 => h9) rfl dX10_hollow_34 ?_
        refine lv_iload_n hx hb dX10_hollow_37 rfl (lv_at hl 1 rfl) ?_
        refine lv_iload hx hb dX10_hollow_38 (lv_at hl 0 rfl) ?_
        refine lv_iload_n hx hb dX10_hollow_40 rfl (lv_at hl 4 rfl) ?_
        have hpm : List.Perm ([[(h0, .inr (8, [.ref (r0 0), .int tp_60, .ref pl0, .ref sp0, .ref rd0, .ref (r0 1), .int mv_64, .ref fi0, .ref se0, .ref fa0, .ref cr0, .ref ra0, .ref pa0, .int nw0])), (r0 0, .inl (cB, 1600, .inl f_59)), (r0 1, .inl (cI, 6, .inl f_63))], [(pl0, .inr (5, [.int fc1, .ref (r1 0), .ref (r1 1), .ref (r1 2), .ref (r1 3), .int dc1, .ref (r1 4), .ref (r1 5), .ref (r1 6), .ref (r1 7), .ref (r1 8), .ref (r1 9)])), (r1 0, .inl (cJ, 6, .inr (.inl f_69))), (r1 1, .inl (cI, 6, .inl f_70)), (r1 2, .inl (cI, 6, .inl f_71)), (r1 3, .inl (cI, 6, .inl f_72)), (r1 4, .inl (cJ, 4, .inr (.inl f_75))), (r1 5, .inl (cI, 4, .inl rk1)), (r1 6, .inl (cJ, 40, .inr (.inl f_77))), (r1 7, .inl (cI, 40, .inl f_78)), (r1 8, .inl (cI, 40, .inl f_80)), (r1 9, .inl (cI, 40, .inl f_82))], [(pa0, .inr (4, [.int pc2, .ref (r2 0), .ref (r2 1), .ref (r2 2), .ref (r2 3), .ref (r2 4), .ref (r2 5), .ref (r2 6), .int sc_92, .ref (r2 7), .ref (r2 8), .ref (r2 9)])), (r2 0, .inl (cI, 60, .inl f_85)), (r2 1, .inl (cI, 60, .inl f_86)), (r2 2, .inl (cI, 60, .inl f_87)), (r2 3, .inl (cI, 60, .inl f_88)), (r2 4, .inl (cZ, 60, .inl f_89)), (r2 5, .inl (cI, 60, .inl f_90)), (r2 6, .inl (cI, 60, .inl f_91)), (r2 7, .inl (cI, 9, .inl f_95)), (r2 8, .inl (cI, 9, .inl f_97)), (r2 9, .inl (cI, 9, .inl f_98))]] : List va_W) (([[(pa0, .inr (4, [.int pc2, .ref (r2 0), .ref (r2 1), .ref (r2 2), .ref (r2 3), .ref (r2 4), .ref (r2 5), .ref (r2 6), .int sc_92, .ref (r2 7), .ref (r2 8), .ref (r2 9)])), (r2 0, .inl (cI, 60, .inl f_85)), (r2 1, .inl (cI, 60, .inl f_86)), (r2 2, .inl (cI, 60, .inl f_87)), (r2 3, .inl (cI, 60, .inl f_88)), (r2 4, .inl (cZ, 60, .inl f_89)), (r2 5, .inl (cI, 60, .inl f_90)), (r2 6, .inl (cI, 60, .inl f_91)), (r2 7, .inl (cI, 9, .inl f_95)), (r2 8, .inl (cI, 9, .inl f_97)), (r2 9, .inl (cI, 9, .inl f_98))]] : List va_W) ++ ([[(h0, .inr (8, [.ref (r0 0), .int tp_60, .ref pl0, .ref sp0, .ref rd0, .ref (r0 1), .int mv_64, .ref fi0, .ref se0, .ref fa0, .ref cr0, .ref ra0, .ref pa0, .int nw0])), (r0 0, .inl (cB, 1600, .inl f_59)), (r0 1, .inl (cI, 6, .inl f_63))], [(pl0, .inr (5, [.int fc1, .ref (r1 0), .ref (r1 1), .ref (r1 2), .ref (r1 3), .int dc1, .ref (r1 4), .ref (r1 5), .ref (r1 6), .ref (r1 7), .ref (r1 8), .ref (r1 9)])), (r1 0, .inl (cJ, 6, .inr (.inl f_69))), (r1 1, .inl (cI, 6, .inl f_70)), (r1 2, .inl (cI, 6, .inl f_71)), (r1 3, .inl (cI, 6, .inl f_72)), (r1 4, .inl (cJ, 4, .inr (.inl f_75))), (r1 5, .inl (cI, 4, .inl rk1)), (r1 6, .inl (cJ, 40, .inr (.inl f_77))), (r1 7, .inl (cI, 40, .inl f_78)), (r1 8, .inl (cI, 40, .inl f_80)), (r1 9, .inl (cI, 40, .inl f_82))]] : List va_W)) := pm_n 3 [2, 0, 1] (by decide) rfl rfl
        have hPc := bk_P hpm hP
        have hDc := bk_D hpm hD
        have hFc := bk_F hpm hD hS hA
        refine va_calli (va_runV (As := [.int g_9, .int r_222, .int p1]) (rest := []) ⟨hx, hb, hml, hown, hts⟩ (c_X6_isHollow l dC dI ad tN fN cB cI cJ cZ pa0 g_9 r_222 p1 r2 pc2 _ ⟨f_85, f_86, f_87, f_88, f_89, f_90, f_91, sc_92, f_95, f_97, f_98, rfl, by omega, by omega, by omega, by omega, hr_96⟩ H.size) (cwV 3 hts gX10_hollow_X6_isHollow rfl rfl rfl (by decide +kernel) ⟨(Nat.le_of_ble_eq_true rfl), (Nat.le_of_ble_eq_true rfl)⟩) ⟨fun a U g mk q => by obtain ⟨q0, q1, qP, qK, qD, qE⟩ := q; exact ⟨q0, q1, qP, va_K.moved (u := U) (U := U.calling g mk a) (Vm.Alike.refl U.vm) qK, qD, ey_blind qE⟩, va_recv hK hPc (ci := 4) (q0 := 0) rfl rfl, fun U hU hW => ⟨rfl, by rw [hU], by rw [hU]; exact hPc, va_K.moved hW.alike (va_K.sub hK [0, 1, 2, 3] rfl), hDc.weaken (fun _ _ _ _ => trivial), ey_call hE hS hFc hU hW⟩⟩ rfl rfl hl.1 rfl (lv_room (Nat.le_of_ble_eq_true rfl)) dX10_hollow_41 ⟨(Nat.le_of_ble_eq_true rfl), (Nat.le_of_ble_eq_true rfl)⟩) hS (fun q _ h => hFc q h) hFc (fun r_223 u t H locs ht hvm hw hB hz1 hk1 hS => ?_)
        obtain ⟨hP1, hD1⟩ := hB
        rw [ht] at hP1
        obtain ⟨hP, hD⟩ := bk_join hpm hP hD hk1 hFc (Cs1 := [[(pa0, .inr (4, [.int pc2, .ref (r2 0), .ref (r2 1), .ref (r2 2), .ref (r2 3), .ref (r2 4), .ref (r2 5), .ref (r2 6), .int sc_92, .ref (r2 7), .ref (r2 8), .ref (r2 9)])), (r2 0, .inl (cI, 60, .inl f_85)), (r2 1, .inl (cI, 60, .inl f_86)), (r2 2, .inl (cI, 60, .inl f_87)), (r2 3, .inl (cI, 60, .inl f_88)), (r2 4, .inl (cZ, 60, .inl f_89)), (r2 5, .inl (cI, 60, .inl f_90)), (r2 6, .inl (cI, 60, .inl f_91)), (r2 7, .inl (cI, 9, .inl f_95)), (r2 8, .inl (cI, 9, .inl f_97)), (r2 9, .inl (cI, 9, .inl f_98))]]) hP1 hD1
        have hpm2 : List.Perm (([[(pa0, .inr (4, [.int pc2, .ref (r2 0), .ref (r2 1), .ref (r2 2), .ref (r2 3), .ref (r2 4), .ref (r2 5), .ref (r2 6), .int sc_92, .ref (r2 7), .ref (r2 8), .ref (r2 9)])), (r2 0, .inl (cI, 60, .inl f_85)), (r2 1, .inl (cI, 60, .inl f_86)), (r2 2, .inl (cI, 60, .inl f_87)), (r2 3, .inl (cI, 60, .inl f_88)), (r2 4, .inl (cZ, 60, .inl f_89)), (r2 5, .inl (cI, 60, .inl f_90)), (r2 6, .inl (cI, 60, .inl f_91)), (r2 7, .inl (cI, 9, .inl f_95)), (r2 8, .inl (cI, 9, .inl f_97)), (r2 9, .inl (cI, 9, .inl f_98))]] : List va_W) ++ ([[(h0, .inr (8, [.ref (r0 0), .int tp_60, .ref pl0, .ref sp0, .ref rd0, .ref (r0 1), .int mv_64, .ref fi0, .ref se0, .ref fa0, .ref cr0, .ref ra0, .ref pa0, .int nw0])), (r0 0, .inl (cB, 1600, .inl f_59)), (r0 1, .inl (cI, 6, .inl f_63))], [(pl0, .inr (5, [.int fc1, .ref (r1 0), .ref (r1 1), .ref (r1 2), .ref (r1 3), .int dc1, .ref (r1 4), .ref (r1 5), .ref (r1 6), .ref (r1 7), .ref (r1 8), .ref (r1 9)])), (r1 0, .inl (cJ, 6, .inr (.inl f_69))), (r1 1, .inl (cI, 6, .inl f_70)), (r1 2, .inl (cI, 6, .inl f_71)), (r1 3, .inl (cI, 6, .inl f_72)), (r1 4, .inl (cJ, 4, .inr (.inl f_75))), (r1 5, .inl (cI, 4, .inl rk1)), (r1 6, .inl (cJ, 40, .inr (.inl f_77))), (r1 7, .inl (cI, 40, .inl f_78)), (r1 8, .inl (cI, 40, .inl f_80)), (r1 9, .inl (cI, 40, .inl f_82))]] : List va_W)) ([[(h0, .inr (8, [.ref (r0 0), .int tp_60, .ref pl0, .ref sp0, .ref rd0, .ref (r0 1), .int mv_64, .ref fi0, .ref se0, .ref fa0, .ref cr0, .ref ra0, .ref pa0, .int nw0])), (r0 0, .inl (cB, 1600, .inl f_59)), (r0 1, .inl (cI, 6, .inl f_63))], [(pl0, .inr (5, [.int fc1, .ref (r1 0), .ref (r1 1), .ref (r1 2), .ref (r1 3), .int dc1, .ref (r1 4), .ref (r1 5), .ref (r1 6), .ref (r1 7), .ref (r1 8), .ref (r1 9)])), (r1 0, .inl (cJ, 6, .inr (.inl f_69))), (r1 1, .inl (cI, 6, .inl f_70)), (r1 2, .inl (cI, 6, .inl f_71)), (r1 3, .inl (cI, 6, .inl f_72)), (r1 4, .inl (cJ, 4, .inr (.inl f_75))), (r1 5, .inl (cI, 4, .inl rk1)), (r1 6, .inl (cJ, 40, .inr (.inl f_77))), (r1 7, .inl (cI, 40, .inl f_78)), (r1 8, .inl (cI, 40, .inl f_80)), (r1 9, .inl (cI, 40, .inl f_82))], [(pa0, .inr (4, [.int pc2, .ref (r2 0), .ref (r2 1), .ref (r2 2), .ref (r2 3), .ref (r2 4), .ref (r2 5), .ref (r2 6), .int sc_92, .ref (r2 7), .ref (r2 8), .ref (r2 9)])), (r2 0, .inl (cI, 60, .inl f_85)), (r2 1, .inl (cI, 60, .inl f_86)), (r2 2, .inl (cI, 60, .inl f_87)), (r2 3, .inl (cI, 60, .inl f_88)), (r2 4, .inl (cZ, 60, .inl f_89)), (r2 5, .inl (cI, 60, .inl f_90)), (r2 6, .inl (cI, 60, .inl f_91)), (r2 7, .inl (cI, 9, .inl f_95)), (r2 8, .inl (cI, 9, .inl f_97)), (r2 9, .inl (cI, 9, .inl f_98))]] : List va_W) := pm_n 3 [1, 2, 0] (by decide) rfl rfl
        have hP := bk_reP hpm2 hP
        have hD := bk_reD hpm2 hD
        have hP : va_P (dC, dI) vwCl (List.flatten [[(h0, .inr (8, [.ref (r0 0), .int tp_60, .ref pl0, .ref sp0, .ref rd0, .ref (r0 1), .int mv_64, .ref fi0, .ref se0, .ref fa0, .ref cr0, .ref ra0, .ref pa0, .int nw0])), (r0 0, .inl (cB, 1600, .inl f_59)), (r0 1, .inl (cI, 6, .inl f_63))], [(pl0, .inr (5, [.int fc1, .ref (r1 0), .ref (r1 1), .ref (r1 2), .ref (r1 3), .int dc1, .ref (r1 4), .ref (r1 5), .ref (r1 6), .ref (r1 7), .ref (r1 8), .ref (r1 9)])), (r1 0, .inl (cJ, 6, .inr (.inl f_69))), (r1 1, .inl (cI, 6, .inl f_70)), (r1 2, .inl (cI, 6, .inl f_71)), (r1 3, .inl (cI, 6, .inl f_72)), (r1 4, .inl (cJ, 4, .inr (.inl f_75))), (r1 5, .inl (cI, 4, .inl rk1)), (r1 6, .inl (cJ, 40, .inr (.inl f_77))), (r1 7, .inl (cI, 40, .inl f_78)), (r1 8, .inl (cI, 40, .inl f_80)), (r1 9, .inl (cI, 40, .inl f_82))], [(pa0, .inr (4, [.int pc2, .ref (r2 0), .ref (r2 1), .ref (r2 2), .ref (r2 3), .ref (r2 4), .ref (r2 5), .ref (r2 6), .int sc_92, .ref (r2 7), .ref (r2 8), .ref (r2 9)])), (r2 0, .inl (cI, 60, .inl f_85)), (r2 1, .inl (cI, 60, .inl f_86)), (r2 2, .inl (cI, 60, .inl f_87)), (r2 3, .inl (cI, 60, .inl f_88)), (r2 4, .inl (cZ, 60, .inl f_89)), (r2 5, .inl (cI, 60, .inl f_90)), (r2 6, .inl (cI, 60, .inl f_91)), (r2 7, .inl (cI, 9, .inl f_95)), (r2 8, .inl (cI, 9, .inl f_97)), (r2 9, .inl (cI, 9, .inl f_98))]]) H := hP
        have hD : va_D A (List.flatten [[(h0, .inr (8, [.ref (r0 0), .int tp_60, .ref pl0, .ref sp0, .ref rd0, .ref (r0 1), .int mv_64, .ref fi0, .ref se0, .ref fa0, .ref cr0, .ref ra0, .ref pa0, .int nw0])), (r0 0, .inl (cB, 1600, .inl f_59)), (r0 1, .inl (cI, 6, .inl f_63))], [(pl0, .inr (5, [.int fc1, .ref (r1 0), .ref (r1 1), .ref (r1 2), .ref (r1 3), .int dc1, .ref (r1 4), .ref (r1 5), .ref (r1 6), .ref (r1 7), .ref (r1 8), .ref (r1 9)])), (r1 0, .inl (cJ, 6, .inr (.inl f_69))), (r1 1, .inl (cI, 6, .inl f_70)), (r1 2, .inl (cI, 6, .inl f_71)), (r1 3, .inl (cI, 6, .inl f_72)), (r1 4, .inl (cJ, 4, .inr (.inl f_75))), (r1 5, .inl (cI, 4, .inl rk1)), (r1 6, .inl (cJ, 40, .inr (.inl f_77))), (r1 7, .inl (cI, 40, .inl f_78)), (r1 8, .inl (cI, 40, .inl f_80)), (r1 9, .inl (cI, 40, .inl f_82))], [(pa0, .inr (4, [.int pc2, .ref (r2 0), .ref (r2 1), .ref (r2 2), .ref (r2 3), .ref (r2 4), .ref (r2 5), .ref (r2 6), .int sc_92, .ref (r2 7), .ref (r2 8), .ref (r2 9)])), (r2 0, .inl (cI, 60, .inl f_85)), (r2 1, .inl (cI, 60, .inl f_86)), (r2 2, .inl (cI, 60, .inl f_87)), (r2 3, .inl (cI, 60, .inl f_88)), (r2 4, .inl (cZ, 60, .inl f_89)), (r2 5, .inl (cI, 60, .inl f_90)), (r2 6, .inl (cI, 60, .inl f_91)), (r2 7, .inl (cI, 9, .inl f_95)), (r2 8, .inl (cI, 9, .inl f_97)), (r2 9, .inl (cI, 9, .inl f_98))]]) := hD
        obtain ⟨hlr_223, hhr_223⟩ := hw
        refine lv_if_eq (tgt := 50) hx hb dX10_hollow_44 (by decide) (fun c_224 => ?_) (fun c_224 => ?_)
        · have c_224 : r_223.toInt = 0 := f_eq rfl tI_0 c_224
          obtain ⟨z_225, ez_225⟩ : ∃ y : Int32, y = g_9 + 1 := ⟨_, rfl⟩
          have hz_225 : z_225.toInt = g_9.toInt + 1 := by rw [ez_225]; exact t_add rfl tI_1 (by omega) (by omega)
          refine lv_iinc (v := z_225) (lv' := [(3, .int z_225), (4, .int r_222), (2, .int g_10), (0, .ref h0), (1, .int p1)]) hx hb dX10_hollow_50 hl (k := 1) rfl (by rw [ez_225]; rfl) (by decide) rfl (fun ls hl => ?_)
          refine lv_goto (tgt := 4) hx hb dX10_hollow_53 (by decide) ?_
          exact ih_219 z_225 g_10 (by omega) (by omega) (by omega) (by omega) (by omega) (by omega) (by omega) (by omega) _ _ hP hD hS ls (lv_sub hl [0, 2, 3, 4] rfl)
        · have c_224 : ¬ r_223.toInt = 0 := f_ne rfl tI_0 c_224
          obtain ⟨z_226, ez_226⟩ : ∃ y : Int32, y = g_10 + 1 := ⟨_, rfl⟩
          have hz_226 : z_226.toInt = g_10.toInt + 1 := by rw [ez_226]; exact t_add rfl tI_1 (by omega) (by omega)
          refine lv_iinc (v := z_226) (lv' := [(2, .int z_226), (4, .int r_222), (3, .int g_9), (0, .ref h0), (1, .int p1)]) hx hb dX10_hollow_47 hl (k := 2) rfl (by rw [ez_226]; rfl) (by decide) rfl (fun ls hl => ?_)
          obtain ⟨z_227, ez_227⟩ : ∃ y : Int32, y = g_9 + 1 := ⟨_, rfl⟩
          have hz_227 : z_227.toInt = g_9.toInt + 1 := by rw [ez_227]; exact t_add rfl tI_1 (by omega) (by omega)
          refine lv_iinc (v := z_227) (lv' := [(3, .int z_227), (2, .int z_226), (4, .int r_222), (0, .ref h0), (1, .int p1)]) hx hb dX10_hollow_50 hl (k := 2) rfl (by rw [ez_227]; rfl) (by decide) rfl (fun ls hl => ?_)
          refine lv_goto (tgt := 4) hx hb dX10_hollow_53 (by decide) ?_
          exact ih_219 z_227 z_226 (by omega) (by omega) (by omega) (by omega) (by omega) (by omega) (by omega) (by omega) _ _ hP hD hS ls (lv_sub hl [0, 1, 3, 4] rfl)
  exact lp_218 _ 0 0 (by have := tI_0; omega) (by have := tI_0; omega) (by have := tI_0; omega) (by have := tI_0; omega) (by have := tI_0; omega) (by have := tI_0; omega) (by have := tI_0; omega) (Nat.lt_succ_self _) _ _ hP hD hS ls (lv_sub hl [0, 1, 2, 3] rfl)
