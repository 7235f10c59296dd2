set_option maxHeartbeats 4000000 in
set_option maxRecDepth 100000 in
theorem c_X7_empty (l : Launch) (dC : Nat → ClassId) (dI : Nat → Nat → Nat) (ad : Nat → Nat) (tN : Nat) (fN : Nat → Int64) (cB cI cJ cZ : ClassId) (h0 : Nat) (r0 : Nat → Nat) (fc0 : Int32) (dc0 : Int32) (w0 : va_W) (o0 : ok_plan ad cB cI cJ cZ h0 r0 fc0 dc0 w0) (sz : Nat) : Met l yX7_empty wsX7_empty ({ frames := 0, cells := 0, slots := 0, locals := 0 } : Room) (va_Pc [.ref h0] (fun U => U.heap.size = sz ∧ va_P (dC, dI) vwCl (List.flatten [w0]) U.heap ∧ va_K (dC, dI) vwCl [(cB, .byte), (cI, .int), (cJ, .long), (cZ, .boolean)] U ∧ va_D (fun _ => True) (List.flatten [w0]) ∧ ex_Y ad tN fN (va_A (List.flatten [w0]) sz) U)) (va_Qv (fun _ : Unit => True) (fun (_ : Unit) (t : State) => ∃ (w09 : va_W), ok_plan ad cB cI cJ cZ h0 r0 0 0 w09 ∧ va_P (dC, dI) vwCl (List.flatten [w09]) t.heap ∧ va_D (va_A (List.flatten [w0]) sz) (List.flatten [w09])) (va_A (List.flatten [w0]) sz)) 0 0 (va_A (List.flatten [w0]) sz) := by
  refine Met.ofW (cc := cX7_empty) (maxL := 1) (ret := none) (by decide) rfl ?_
  intro p e s m args below meth c s₁ B hml hv
  obtain ⟨rfl, hsz, hP, hK, hD0, hE⟩ := hv
  have hx := B.exec
  have hb := B.bytes
  have hr := B.returns
  have hts := atoms_spec (ws := wsX7_empty) B.pre
  have hown : s.vm.findClass RX7 = some m.cls := findClass_of_methodNamed B.named
  have hlocks := B.notSynchronized
  subst hsz
  have hD := hD0.self (sz := s.heap.size)
  generalize hAe : va_A (List.flatten [w0]) s.heap.size = A at hD hE ⊢
  have hA : ∀ q : Nat, s.heap.size ≤ q → A q := fun q h => by rw [← hAe]; exact Or.inr h
  have hS : va_S A s.heap s.heap [] := va_S.rf
  have hl := lv_entry ([.ref h0]) (n := 1) (Nat.le_of_ble_eq_true rfl)
  rw [lg_entry_eq]
  generalize (lg_sl ([.ref h0]) ++ List.replicate (1 - (lg_sl ([.ref h0])).length) Slot.unset).toArray = ls at hl ⊢
  have hl : lv_has ls 1 [(0, .ref h0)] := hl
  clear hAe
  refine W_name (fun Q0 hQ0 => ?_)
  refine lv_aload_n hx hb dX7_empty_0 rfl (lv_at hl 0 rfl) ?_
  refine lv_iconst (v := 0) hx hb dX7_empty_1 (by decide) ?_
  obtain ⟨f_3, f_4, f_5, f_6, f_9, f_10, f_12, f_13, f_15, f_16, rfl, hl_1, hh_2, hl_7, hh_8, hr_11, hr_14⟩ := o0
  refine va_put (D := (dC, dI)) (ci := 5) (v := .int 0) (ty := .int) (C := RX7) (T := TX7) (N := 12) hx hb hts iw_X7_empty_X7 tyX7 tyX7_ok nmX7 hown hK hP hD hS 0 rfl rfl 0 (by decide) (hts (.fieldLink RX7 9 "HungFloors$Plan" "floorCount" "I") (by decide +kernel)) (fun _ h9 => h9) rfl (by decide +kernel) rfl rfl (Nat.le_of_ble_eq_true rfl) dX7_empty_2 (fun H locs hP hD hS => ?_)
  have hP : va_P (dC, dI) vwCl (List.flatten [[(h0, .inr (5, [.int 0, .ref (r0 0), .ref (r0 1), .ref (r0 2), .ref (r0 3), .int dc0, .ref (r0 4), .ref (r0 5), .ref (r0 6), .ref (r0 7), .ref (r0 8), .ref (r0 9)])), (r0 0, .inl (cJ, 6, .inr (.inl f_3))), (r0 1, .inl (cI, 6, .inl f_4)), (r0 2, .inl (cI, 6, .inl f_5)), (r0 3, .inl (cI, 6, .inl f_6)), (r0 4, .inl (cJ, 4, .inr (.inl f_9))), (r0 5, .inl (cI, 4, .inl f_10)), (r0 6, .inl (cJ, 40, .inr (.inl f_12))), (r0 7, .inl (cI, 40, .inl f_13)), (r0 8, .inl (cI, 40, .inl f_15)), (r0 9, .inl (cI, 40, .inl f_16))]]) H := hP
  have hD : va_D A (List.flatten [[(h0, .inr (5, [.int 0, .ref (r0 0), .ref (r0 1), .ref (r0 2), .ref (r0 3), .int dc0, .ref (r0 4), .ref (r0 5), .ref (r0 6), .ref (r0 7), .ref (r0 8), .ref (r0 9)])), (r0 0, .inl (cJ, 6, .inr (.inl f_3))), (r0 1, .inl (cI, 6, .inl f_4)), (r0 2, .inl (cI, 6, .inl f_5)), (r0 3, .inl (cI, 6, .inl f_6)), (r0 4, .inl (cJ, 4, .inr (.inl f_9))), (r0 5, .inl (cI, 4, .inl f_10)), (r0 6, .inl (cJ, 40, .inr (.inl f_12))), (r0 7, .inl (cI, 40, .inl f_13)), (r0 8, .inl (cI, 40, .inl f_15)), (r0 9, .inl (cI, 40, .inl f_16))]]) := hD
  refine lv_aload_n hx hb dX7_empty_5 rfl (lv_at hl 0 rfl) ?_
  refine lv_iconst (v := 0) hx hb dX7_empty_6 (by decide) ?_
  refine va_put (D := (dC, dI)) (ci := 5) (v := .int 0) (ty := .int) (C := RX7) (T := TX7) (N := 12) hx hb hts iw_X7_empty_X7 tyX7 tyX7_ok nmX7 hown hK hP hD hS 0 rfl rfl 5 (by decide) (hts (.fieldLink RX7 29 "HungFloors$Plan" "drawingCount" "I") (by decide +kernel)) (fun _ h9 => h9) rfl (by decide +kernel) rfl rfl (Nat.le_of_ble_eq_true rfl) dX7_empty_7 (fun H locs hP hD hS => ?_)
  have hP : va_P (dC, dI) vwCl (List.flatten [[(h0, .inr (5, [.int 0, .ref (r0 0), .ref (r0 1), .ref (r0 2), .ref (r0 3), .int 0, .ref (r0 4), .ref (r0 5), .ref (r0 6), .ref (r0 7), .ref (r0 8), .ref (r0 9)])), (r0 0, .inl (cJ, 6, .inr (.inl f_3))), (r0 1, .inl (cI, 6, .inl f_4)), (r0 2, .inl (cI, 6, .inl f_5)), (r0 3, .inl (cI, 6, .inl f_6)), (r0 4, .inl (cJ, 4, .inr (.inl f_9))), (r0 5, .inl (cI, 4, .inl f_10)), (r0 6, .inl (cJ, 40, .inr (.inl f_12))), (r0 7, .inl (cI, 40, .inl f_13)), (r0 8, .inl (cI, 40, .inl f_15)), (r0 9, .inl (cI, 40, .inl f_16))]]) H := hP
  have hD : va_D A (List.flatten [[(h0, .inr (5, [.int 0, .ref (r0 0), .ref (r0 1), .ref (r0 2), .ref (r0 3), .int 0, .ref (r0 4), .ref (r0 5), .ref (r0 6), .ref (r0 7), .ref (r0 8), .ref (r0 9)])), (r0 0, .inl (cJ, 6, .inr (.inl f_3))), (r0 1, .inl (cI, 6, .inl f_4)), (r0 2, .inl (cI, 6, .inl f_5)), (r0 3, .inl (cI, 6, .inl f_6)), (r0 4, .inl (cJ, 4, .inr (.inl f_9))), (r0 5, .inl (cI, 4, .inl f_10)), (r0 6, .inl (cJ, 40, .inr (.inl f_12))), (r0 7, .inl (cI, 40, .inl f_13)), (r0 8, .inl (cI, 40, .inl f_15)), (r0 9, .inl (cI, 40, .inl f_16))]]) := hD
  rw [hQ0]
  exact W.vret hx hb hr (fun t ht hW => ⟨⟨(), rfl, trivial, ⟨_, ⟨f_3, f_4, f_5, f_6, f_9, f_10, f_12, f_13, f_15, f_16, rfl, by decide, by decide, by decide, by decide, hr_11, hr_14⟩, by rw [ht]; exact hP, hD⟩⟩, hS.F ht⟩) hS.2.2 dX7_empty_10
set_option maxHeartbeats 4000000 in
set_option maxRecDepth 100000 in
theorem c_X7_takesFloor (l : Launch) (dC : Nat → ClassId) (dI : Nat → Nat → Nat) (ad : Nat → Nat) (tN : Nat) (fN : Nat → Int64) (cB cI cJ cZ : ClassId) (h0 : Nat) (r0 : Nat → Nat) (fc0 : Int32) (dc0 : Int32) (w0 : va_W) (o0 : ok_plan ad cB cI cJ cZ h0 r0 fc0 dc0 w0) (sz : Nat) : Met l yX7_takesFloor wsX7_takesFloor ({ frames := 0, cells := 0, slots := 0, locals := 0 } : Room) (va_Pc [.ref h0] (fun U => U.heap.size = sz ∧ va_P (dC, dI) vwCl (List.flatten [w0]) U.heap ∧ va_K (dC, dI) vwCl [(cB, .byte), (cI, .int), (cJ, .long), (cZ, .boolean)] U ∧ va_D (fun _ => True) (List.flatten [w0]) ∧ ex_Y ad tN fN (va_A (List.flatten [w0]) sz) U)) (va_Qi (fun (r : Int32) (_ : Unit) => (r = 0 ∧ 6 ≤ fc0.toInt) ∨ (r = 0 ∧ fc0.toInt < 6 ∧ ¬ dc0.toInt = 0) ∨ (r = 1 ∧ fc0.toInt < 6 ∧ dc0.toInt = 0)) (fun (_ : Unit) (t : State) => va_P (dC, dI) vwCl (List.flatten [w0]) t.heap ∧ va_D (va_A (List.flatten [w0]) sz) (List.flatten [w0])) (va_A (List.flatten [w0]) sz)) 0 0 (va_A (List.flatten [w0]) sz) := by
  refine Met.ofW (cc := cX7_takesFloor) (maxL := 1) (ret := (some .boolean)) (by decide) rfl ?_
  intro p e s m args below meth c s₁ B hml hv
  obtain ⟨rfl, hsz, hP, hK, hD0, hE⟩ := hv
  have hx := B.exec
  have hb := B.bytes
  have hr := B.returns
  have hts := atoms_spec (ws := wsX7_takesFloor) B.pre
  have hown : s.vm.findClass RX7 = some m.cls := findClass_of_methodNamed B.named
  have hlocks := B.notSynchronized
  subst hsz
  have hD := hD0.self (sz := s.heap.size)
  generalize hAe : va_A (List.flatten [w0]) s.heap.size = A at hD hE ⊢
  have hA : ∀ q : Nat, s.heap.size ≤ q → A q := fun q h => by rw [← hAe]; exact Or.inr h
  have hS : va_S A s.heap s.heap [] := va_S.rf
  have hl := lv_entry ([.ref h0]) (n := 1) (Nat.le_of_ble_eq_true rfl)
  rw [lg_entry_eq]
  generalize (lg_sl ([.ref h0]) ++ List.replicate (1 - (lg_sl ([.ref h0])).length) Slot.unset).toArray = ls at hl ⊢
  have hl : lv_has ls 1 [(0, .ref h0)] := hl
  clear hAe
  refine W_name (fun Q0 hQ0 => ?_)
  refine lv_aload_n hx hb dX7_takesFloor_0 rfl (lv_at hl 0 rfl) ?_
  obtain ⟨f_19, f_20, f_21, f_22, f_25, f_26, f_28, f_29, f_31, f_32, rfl, hl_17, hh_18, hl_23, hh_24, hr_27, hr_30⟩ := o0
  refine va_get (D := (dC, dI)) (ci := 5) (v := .int fc0) (C := RX7) (T := TX7) (N := 12) hx hb hts iw_X7_takesFloor_X7 hown hK hP 0 rfl rfl 0 (by decide) (hts (.fieldLink RX7 9 "HungFloors$Plan" "floorCount" "I") (by decide +kernel)) (fun _ h9 => h9) rfl dX7_takesFloor_1 ?_
  refine lv_bipush (v := 6) hx hb dX7_takesFloor_4 (by decide) ?_
  refine lv_icmp_ge (tgt := 20) hx hb dX7_takesFloor_6 (by decide) (fun c_33 => ?_) (fun c_33 => ?_)
  · have c_33 : 6 ≤ fc0.toInt := f_le tI_6 rfl c_33
    refine lv_iconst (v := 0) hx hb dX7_takesFloor_20 (by decide) ?_
    rw [hQ0]
    exact W.zret (v := 0) hx hb hr (by decide) (fun t ht hW => ⟨⟨0, (), rfl, Or.inl ⟨rfl, c_33⟩, ⟨by rw [ht]; exact hP, hD⟩⟩, hS.F ht⟩) hS.2.2 dX7_takesFloor_21
  · have c_33 : fc0.toInt < 6 := f_nle tI_6 rfl c_33
    refine lv_aload_n hx hb dX7_takesFloor_9 rfl (lv_at hl 0 rfl) ?_
    refine va_get (D := (dC, dI)) (ci := 5) (v := .int dc0) (C := RX7) (T := TX7) (N := 12) hx hb hts iw_X7_takesFloor_X7 hown hK hP 0 rfl rfl 5 (by decide) (hts (.fieldLink RX7 29 "HungFloors$Plan" "drawingCount" "I") (by decide +kernel)) (fun _ h9 => h9) rfl dX7_takesFloor_10 ?_
    refine lv_if_ne (tgt := 20) hx hb dX7_takesFloor_13 (by decide) (fun c_34 => ?_) (fun c_34 => ?_)
    · have c_34 : ¬ dc0.toInt = 0 := f_ne rfl tI_0 c_34
      refine lv_iconst (v := 0) hx hb dX7_takesFloor_20 (by decide) ?_
      rw [hQ0]
      exact W.zret (v := 0) hx hb hr (by decide) (fun t ht hW => ⟨⟨0, (), rfl, Or.inr (Or.inl ⟨rfl, c_33, c_34⟩), ⟨by rw [ht]; exact hP, hD⟩⟩, hS.F ht⟩) hS.2.2 dX7_takesFloor_21
    · have c_34 : dc0.toInt = 0 := f_eq rfl tI_0 c_34
      refine lv_iconst (v := 1) hx hb dX7_takesFloor_16 (by decide) ?_
      refine lv_goto (tgt := 21) hx hb dX7_takesFloor_17 (by decide) ?_
      rw [hQ0]
      exact W.zret (v := 1) hx hb hr (by decide) (fun t ht hW => ⟨⟨1, (), rfl, Or.inr (Or.inr (⟨rfl, c_33, c_34⟩)), ⟨by rw [ht]; exact hP, hD⟩⟩, hS.F ht⟩) hS.2.2 dX7_takesFloor_21
set_option maxHeartbeats 4000000 in
set_option maxRecDepth 100000 in
theorem c_X7_takesDrawing (l : Launch) (dC : Nat → ClassId) (dI : Nat → Nat → Nat) (ad : Nat → Nat) (tN : Nat) (fN : Nat → Int64) (cB cI cJ cZ : ClassId) (h0 : Nat) (r0 : Nat → Nat) (fc0 : Int32) (dc0 : Int32) (w0 : va_W) (o0 : ok_plan ad cB cI cJ cZ h0 r0 fc0 dc0 w0) (sz : Nat) : Met l yX7_takesDrawing wsX7_takesDrawing ({ frames := 0, cells := 0, slots := 0, locals := 0 } : Room) (va_Pc [.ref h0] (fun U => U.heap.size = sz ∧ va_P (dC, dI) vwCl (List.flatten [w0]) U.heap ∧ va_K (dC, dI) vwCl [(cB, .byte), (cI, .int), (cJ, .long), (cZ, .boolean)] U ∧ va_D (fun _ => True) (List.flatten [w0]) ∧ ex_Y ad tN fN (va_A (List.flatten [w0]) sz) U)) (va_Qi (fun (r : Int32) (_ : Unit) => (r = 0 ∧ 4 ≤ dc0.toInt) ∨ (r = 1 ∧ dc0.toInt < 4)) (fun (_ : Unit) (t : State) => va_P (dC, dI) vwCl (List.flatten [w0]) t.heap ∧ va_D (va_A (List.flatten [w0]) sz) (List.flatten [w0])) (va_A (List.flatten [w0]) sz)) 0 0 (va_A (List.flatten [w0]) sz) := by
  refine Met.ofW (cc := cX7_takesDrawing) (maxL := 1) (ret := (some .boolean)) (by decide) rfl ?_
  intro p e s m args below meth c s₁ B hml hv
  obtain ⟨rfl, hsz, hP, hK, hD0, hE⟩ := hv
  have hx := B.exec
  have hb := B.bytes
  have hr := B.returns
  have hts := atoms_spec (ws := wsX7_takesDrawing) B.pre
  have hown : s.vm.findClass RX7 = some m.cls := findClass_of_methodNamed B.named
  have hlocks := B.notSynchronized
  subst hsz
  have hD := hD0.self (sz := s.heap.size)
  generalize hAe : va_A (List.flatten [w0]) s.heap.size = A at hD hE ⊢
  have hA : ∀ q : Nat, s.heap.size ≤ q → A q := fun q h => by rw [← hAe]; exact Or.inr h
  have hS : va_S A s.heap s.heap [] := va_S.rf
  have hl := lv_entry ([.ref h0]) (n := 1) (Nat.le_of_ble_eq_true rfl)
  rw [lg_entry_eq]
  generalize (lg_sl ([.ref h0]) ++ List.replicate (1 - (lg_sl ([.ref h0])).length) Slot.unset).toArray = ls at hl ⊢
  have hl : lv_has ls 1 [(0, .ref h0)] := hl
  clear hAe
  refine W_name (fun Q0 hQ0 => ?_)
  refine lv_aload_n hx hb dX7_takesDrawing_0 rfl (lv_at hl 0 rfl) ?_
  obtain ⟨f_37, f_38, f_39, f_40, f_43, f_44, f_46, f_47, f_49, f_50, rfl, hl_35, hh_36, hl_41, hh_42, hr_45, hr_48⟩ := o0
  refine va_get (D := (dC, dI)) (ci := 5) (v := .int dc0) (C := RX7) (T := TX7) (N := 12) hx hb hts iw_X7_takesDrawing_X7 hown hK hP 0 rfl rfl 5 (by decide) (hts (.fieldLink RX7 29 "HungFloors$Plan" "drawingCount" "I") (by decide +kernel)) (fun _ h9 => h9) rfl dX7_takesDrawing_1 ?_
  refine lv_iconst (v := 4) hx hb dX7_takesDrawing_4 (by decide) ?_
  refine lv_icmp_ge (tgt := 12) hx hb dX7_takesDrawing_5 (by decide) (fun c_51 => ?_) (fun c_51 => ?_)
  · have c_51 : 4 ≤ dc0.toInt := f_le tI_4 rfl c_51
    refine lv_iconst (v := 0) hx hb dX7_takesDrawing_12 (by decide) ?_
    rw [hQ0]
    exact W.zret (v := 0) hx hb hr (by decide) (fun t ht hW => ⟨⟨0, (), rfl, Or.inl ⟨rfl, c_51⟩, ⟨by rw [ht]; exact hP, hD⟩⟩, hS.F ht⟩) hS.2.2 dX7_takesDrawing_13
  · have c_51 : dc0.toInt < 4 := f_nle tI_4 rfl c_51
    refine lv_iconst (v := 1) hx hb dX7_takesDrawing_8 (by decide) ?_
    refine lv_goto (tgt := 13) hx hb dX7_takesDrawing_9 (by decide) ?_
    rw [hQ0]
    exact W.zret (v := 1) hx hb hr (by decide) (fun t ht hW => ⟨⟨1, (), rfl, Or.inr (⟨rfl, c_51⟩), ⟨by rw [ht]; exact hP, hD⟩⟩, hS.F ht⟩) hS.2.2 dX7_takesDrawing_13
set_option maxHeartbeats 4000000 in
set_option maxRecDepth 100000 in
theorem c_J6_bitCount_0f7a4 (l : Launch) (dC : Nat → ClassId) (dI : Nat → Nat → Nat) (ad : Nat → Nat) (tN : Nat) (fN : Nat → Int64) (cB cI cJ cZ : ClassId) (p1 : Int32) (sz : Nat) : Met l yJ6_bitCount_0f7a4 wsJ6_bitCount_0f7a4 ({ frames := 0, cells := 0, slots := 0, locals := 0 } : Room) (va_Pc [.int p1] (fun U => U.heap.size = sz ∧ va_P (dC, dI) vwCl (List.flatten []) U.heap ∧ va_K (dC, dI) vwCl [(cB, .byte), (cI, .int), (cJ, .long), (cZ, .boolean)] U ∧ va_D (fun _ => True) (List.flatten []) ∧ ex_Y ad tN fN (va_A (List.flatten []) sz) U)) (va_Qi (fun (r : Int32) (_ : Unit) => True) (fun (_ : Unit) (t : State) => va_P (dC, dI) vwCl (List.flatten []) t.heap ∧ va_D (va_A (List.flatten []) sz) (List.flatten [])) (va_A (List.flatten []) sz)) 0 0 (va_A (List.flatten []) sz) := by
  refine Met.ofW (cc := cJ6_bitCount_0f7a4) (maxL := 1) (ret := (some .int)) (by decide) rfl ?_
  intro p e s m args below meth c s₁ B hml hv
  obtain ⟨rfl, hsz, hP, hK, hD0, hE⟩ := hv
  have hx := B.exec
  have hb := B.bytes
  have hr := B.returns
  have hts := atoms_spec (ws := wsJ6_bitCount_0f7a4) B.pre
  have hown : s.vm.findClass RJ6 = some m.cls := findClass_of_methodNamed B.named
  have hlocks := B.notSynchronized
  subst hsz
  have hD := hD0.self (sz := s.heap.size)
  generalize hAe : va_A (List.flatten []) s.heap.size = A at hD hE ⊢
  have hA : ∀ q : Nat, s.heap.size ≤ q → A q := fun q h => by rw [← hAe]; exact Or.inr h
  have hS : va_S A s.heap s.heap [] := va_S.rf
  have hl := lv_entry ([.int p1]) (n := 1) (Nat.le_of_ble_eq_true rfl)
  rw [lg_entry_eq]
  generalize (lg_sl ([.int p1]) ++ List.replicate (1 - (lg_sl ([.int p1])).length) Slot.unset).toArray = ls at hl ⊢
  have hl : lv_has ls 1 [(0, .int p1)] := hl
  clear hAe
  refine W_name (fun Q0 hQ0 => ?_)
  refine lv_iload_n hx hb dJ6_bitCount_0f7a4_0 rfl (lv_at hl 0 rfl) ?_
  refine lv_iload_n hx hb dJ6_bitCount_0f7a4_1 rfl (lv_at hl 0 rfl) ?_
  refine lv_iconst (v := 1) hx hb dJ6_bitCount_0f7a4_2 (by decide) ?_
  refine lv_iushr hx hb dJ6_bitCount_0f7a4_3 rfl ?_
  refine lv_topi (fun z_77 ez_77 => ?_)
  refine lv_ldcw hx hb hown (hts (.constant RJ6 265 (1431655765)) (by decide +kernel)) dJ6_bitCount_0f7a4_4 ?_
  refine lv_iand hx hb dJ6_bitCount_0f7a4_7 ?_
  refine lv_topi (fun z_78 ez_78 => ?_)
  refine lv_isub hx hb dJ6_bitCount_0f7a4_8 ?_
  refine lv_topi (fun z_79 ez_79 => ?_)
  refine lv_istore_n (lv' := [(0, .int z_79)]) hx hb dJ6_bitCount_0f7a4_9 rfl hl (by decide) rfl (fun ls hl => ?_)
  refine lv_iload_n hx hb dJ6_bitCount_0f7a4_10 rfl (lv_at hl 0 rfl) ?_
  refine lv_ldcw hx hb hown (hts (.constant RJ6 266 (858993459)) (by decide +kernel)) dJ6_bitCount_0f7a4_11 ?_
  refine lv_iand hx hb dJ6_bitCount_0f7a4_14 ?_
  refine lv_topi (fun z_80 ez_80 => ?_)
  refine lv_iload_n hx hb dJ6_bitCount_0f7a4_15 rfl (lv_at hl 0 rfl) ?_
  refine lv_iconst (v := 2) hx hb dJ6_bitCount_0f7a4_16 (by decide) ?_
  refine lv_iushr hx hb dJ6_bitCount_0f7a4_17 rfl ?_
  refine lv_topi (fun z_81 ez_81 => ?_)
  refine lv_ldcw hx hb hown (hts (.constant RJ6 266 (858993459)) (by decide +kernel)) dJ6_bitCount_0f7a4_18 ?_
  refine lv_iand hx hb dJ6_bitCount_0f7a4_21 ?_
  refine lv_topi (fun z_82 ez_82 => ?_)
  refine lv_iadd hx hb dJ6_bitCount_0f7a4_22 ?_
  refine lv_topi (fun z_83 ez_83 => ?_)
  refine lv_istore_n (lv' := [(0, .int z_83)]) hx hb dJ6_bitCount_0f7a4_23 rfl hl (by decide) rfl (fun ls hl => ?_)
  refine lv_iload_n hx hb dJ6_bitCount_0f7a4_24 rfl (lv_at hl 0 rfl) ?_
  refine lv_iload_n hx hb dJ6_bitCount_0f7a4_25 rfl (lv_at hl 0 rfl) ?_
  refine lv_iconst (v := 4) hx hb dJ6_bitCount_0f7a4_26 (by decide) ?_
  refine lv_iushr hx hb dJ6_bitCount_0f7a4_27 rfl ?_
  refine lv_topi (fun z_84 ez_84 => ?_)
  refine lv_iadd hx hb dJ6_bitCount_0f7a4_28 ?_
  refine lv_topi (fun z_85 ez_85 => ?_)
  refine lv_ldcw hx hb hown (hts (.constant RJ6 267 (252645135)) (by decide +kernel)) dJ6_bitCount_0f7a4_29 ?_
  refine lv_iand hx hb dJ6_bitCount_0f7a4_32 ?_
  refine lv_topi (fun z_86 ez_86 => ?_)
  refine lv_istore_n (lv' := [(0, .int z_86)]) hx hb dJ6_bitCount_0f7a4_33 rfl hl (by decide) rfl (fun ls hl => ?_)
  refine lv_iload_n hx hb dJ6_bitCount_0f7a4_34 rfl (lv_at hl 0 rfl) ?_
  refine lv_iload_n hx hb dJ6_bitCount_0f7a4_35 rfl (lv_at hl 0 rfl) ?_
  refine lv_bipush (v := 8) hx hb dJ6_bitCount_0f7a4_36 (by decide) ?_
  refine lv_iushr hx hb dJ6_bitCount_0f7a4_38 rfl ?_
  refine lv_topi (fun z_87 ez_87 => ?_)
  refine lv_iadd hx hb dJ6_bitCount_0f7a4_39 ?_
  refine lv_topi (fun z_88 ez_88 => ?_)
  refine lv_istore_n (lv' := [(0, .int z_88)]) hx hb dJ6_bitCount_0f7a4_40 rfl hl (by decide) rfl (fun ls hl => ?_)
  refine lv_iload_n hx hb dJ6_bitCount_0f7a4_41 rfl (lv_at hl 0 rfl) ?_
  refine lv_iload_n hx hb dJ6_bitCount_0f7a4_42 rfl (lv_at hl 0 rfl) ?_
  refine lv_bipush (v := 16) hx hb dJ6_bitCount_0f7a4_43 (by decide) ?_
  refine lv_iushr hx hb dJ6_bitCount_0f7a4_45 rfl ?_
  refine lv_topi (fun z_89 ez_89 => ?_)
  refine lv_iadd hx hb dJ6_bitCount_0f7a4_46 ?_
  refine lv_topi (fun z_90 ez_90 => ?_)
  refine lv_istore_n (lv' := [(0, .int z_90)]) hx hb dJ6_bitCount_0f7a4_47 rfl hl (by decide) rfl (fun ls hl => ?_)
  refine lv_iload_n hx hb dJ6_bitCount_0f7a4_48 rfl (lv_at hl 0 rfl) ?_
  refine lv_bipush (v := 63) hx hb dJ6_bitCount_0f7a4_49 (by decide) ?_
  refine lv_iand hx hb dJ6_bitCount_0f7a4_51 ?_
  refine lv_topi (fun z_91 ez_91 => ?_)
  rw [hQ0]
  exact W.iret (v := z_91) hx hb hr (fun t ht hW => ⟨⟨z_91, (), rfl, trivial, ⟨by rw [ht]; exact hP, hD⟩⟩, hS.F ht⟩) hS.2.2 dJ6_bitCount_0f7a4_52
set_option maxHeartbeats 4000000 in
set_option maxRecDepth 100000 in
theorem c_X7_jointsOf (l : Launch) (dC : Nat → ClassId) (dI : Nat → Nat → Nat) (ad : Nat → Nat) (tN : Nat) (fN : Nat → Int64) (cB cI cJ cZ : ClassId) (h0 : Nat) (p1 : Int32) (r0 : Nat → Nat) (fc0 : Int32) (dc0 : Int32) (w0 : va_W) (o0 : ok_plan ad cB cI cJ cZ h0 r0 fc0 dc0 w0) (sz : Nat) : Met l yX7_jointsOf wsX7_jointsOf ({ frames := 1, cells := 0, slots := 0, locals := 20 } : Room) (va_Pc [.ref h0, .int p1] (fun U => U.heap.size = sz ∧ va_P (dC, dI) vwCl (List.flatten [w0]) U.heap ∧ va_K (dC, dI) vwCl [(cB, .byte), (cI, .int), (cJ, .long), (cZ, .boolean)] U ∧ va_D (fun _ => True) (List.flatten [w0]) ∧ ex_Y ad tN fN (va_A (List.flatten [w0]) sz) U)) (va_Qi (fun (r : Int32) (_ : Unit) => True) (fun (_ : Unit) (t : State) => va_P (dC, dI) vwCl (List.flatten [w0]) t.heap ∧ va_D (va_A (List.flatten [w0]) sz) (List.flatten [w0])) (va_A (List.flatten [w0]) sz)) 0 0 (va_A (List.flatten [w0]) sz) := by
  refine Met.ofW (cc := cX7_jointsOf) (maxL := 5) (ret := (some .int)) (by decide) rfl ?_
  intro p e s m args below meth c s₁ B hml hv
  obtain ⟨rfl, hsz, hP, hK, hD0, hE⟩ := hv
  have hx := B.exec
  have hb := B.bytes
  have hr := B.returns
  have hts := atoms_spec (ws := wsX7_jointsOf) B.pre
  have hown : s.vm.findClass RX7 = some m.cls := findClass_of_methodNamed B.named
  have hlocks := B.notSynchronized
  subst hsz
  have hD := hD0.self (sz := s.heap.size)
  generalize hAe : va_A (List.flatten [w0]) s.heap.size = A at hD hE ⊢
  have hA : ∀ q : Nat, s.heap.size ≤ q → A q := fun q h => by rw [← hAe]; exact Or.inr h
  have hS : va_S A s.heap s.heap [] := va_S.rf
  have hl := lv_entry ([.ref h0, .int p1]) (n := 5) (Nat.le_of_ble_eq_true rfl)
  rw [lg_entry_eq]
  generalize (lg_sl ([.ref h0, .int p1]) ++ List.replicate (5 - (lg_sl ([.ref h0, .int p1])).length) Slot.unset).toArray = ls at hl ⊢
  have hl : lv_has ls 5 [(0, .ref h0), (1, .int p1)] := hl
  clear hAe
  refine W_name (fun Q0 hQ0 => ?_)
  refine lv_iconst (v := 0) hx hb dX7_jointsOf_0 (by decide) ?_
  refine lv_istore_n (lv' := [(2, .int 0), (0, .ref h0), (1, .int p1)]) hx hb dX7_jointsOf_1 rfl hl (by decide) rfl (fun ls hl => ?_)
  refine lv_iload_n hx hb dX7_jointsOf_2 rfl (lv_at hl 2 rfl) ?_
  refine lv_if_lt (tgt := 56) hx hb dX7_jointsOf_3 (by decide) (fun c_52 => ?_) (fun c_52 => ?_)
  · have c_52 : p1.toInt < 0 := f_lt rfl tI_0 c_52
    refine lv_iload_n hx hb dX7_jointsOf_56 rfl (lv_at hl 0 rfl) ?_
    rw [hQ0]
    exact W.iret (v := 0) hx hb hr (fun t ht hW => ⟨⟨0, (), rfl, trivial, ⟨by rw [ht]; exact hP, hD⟩⟩, hS.F ht⟩) hS.2.2 dX7_jointsOf_57
  · have c_52 : 0 ≤ p1.toInt := f_nlt rfl tI_0 c_52
    refine lv_iload_n hx hb dX7_jointsOf_6 rfl (lv_at hl 2 rfl) ?_
    refine lv_aload_n hx hb dX7_jointsOf_7 rfl (lv_at hl 1 rfl) ?_
    obtain ⟨f_55, f_56, f_57, f_58, f_61, f_62, f_64, f_65, f_67, f_68, rfl, hl_53, hh_54, hl_59, hh_60, hr_63, hr_66⟩ := o0
    refine va_get (D := (dC, dI)) (ci := 5) (v := .int dc0) (C := RX7) (T := TX7) (N := 12) hx hb hts iw_X7_jointsOf_X7 hown hK hP 0 rfl rfl 5 (by decide) (hts (.fieldLink RX7 29 "HungFloors$Plan" "drawingCount" "I") (by decide +kernel)) (fun _ h9 => h9) rfl dX7_jointsOf_8 ?_
    refine lv_icmp_ge (tgt := 56) hx hb dX7_jointsOf_11 (by decide) (fun c_69 => ?_) (fun c_69 => ?_)
    · have c_69 : dc0.toInt ≤ p1.toInt := f_le rfl rfl c_69
      refine lv_iload_n hx hb dX7_jointsOf_56 rfl (lv_at hl 0 rfl) ?_
      rw [hQ0]
      exact W.iret (v := 0) hx hb hr (fun t ht hW => ⟨⟨0, (), rfl, trivial, ⟨by rw [ht]; exact hP, hD⟩⟩, hS.F ht⟩) hS.2.2 dX7_jointsOf_57
    · have c_69 : p1.toInt < dc0.toInt := f_nle rfl rfl c_69
      refine lv_iload_n hx hb dX7_jointsOf_14 rfl (lv_at hl 2 rfl) ?_
      refine lv_bipush (v := 10) hx hb dX7_jointsOf_15 (by decide) ?_
      refine lv_imul hx hb dX7_jointsOf_17 ?_
      refine lv_topi (fun z_70 ez_70 => ?_)
      have hz_70 : z_70.toInt = p1.toInt * 10 := by rw [ez_70]; exact t_mul rfl tI_10 (by omega) (by omega)
      refine lv_istore_n (lv' := [(3, .int z_70), (2, .int 0), (0, .ref h0), (1, .int p1)]) hx hb dX7_jointsOf_18 rfl hl (by decide) rfl (fun ls hl => ?_)
      refine lv_iconst (v := 0) hx hb dX7_jointsOf_19 (by decide) ?_
      refine lv_istore (lv' := [(4, .int 0), (3, .int z_70), (2, .int 0), (0, .ref h0), (1, .int p1)]) hx hb dX7_jointsOf_20 hl (by decide) rfl (fun ls hl => ?_)
      have lp_178 : ∀ (n : Nat) (g_71 : Int32) (g_72 : Int32), 0 ≤ g_71.toInt → g_71.toInt ≤ 10 → (10 - g_71.toInt).toNat < n → ∀ (H : Heap) (locs : List Loc), va_P (dC, dI) vwCl (List.flatten [[(h0, .inr (5, [.int fc0, .ref (r0 0), .ref (r0 1), .ref (r0 2), .ref (r0 3), .int dc0, .ref (r0 4), .ref (r0 5), .ref (r0 6), .ref (r0 7), .ref (r0 8), .ref (r0 9)])), (r0 0, .inl (cJ, 6, .inr (.inl f_55))), (r0 1, .inl (cI, 6, .inl f_56)), (r0 2, .inl (cI, 6, .inl f_57)), (r0 3, .inl (cI, 6, .inl f_58)), (r0 4, .inl (cJ, 4, .inr (.inl f_61))), (r0 5, .inl (cI, 4, .inl f_62)), (r0 6, .inl (cJ, 40, .inr (.inl f_64))), (r0 7, .inl (cI, 40, .inl f_65)), (r0 8, .inl (cI, 40, .inl f_67)), (r0 9, .inl (cI, 40, .inl f_68))]]) H → va_D A (List.flatten [[(h0, .inr (5, [.int fc0, .ref (r0 0), .ref (r0 1), .ref (r0 2), .ref (r0 3), .int dc0, .ref (r0 4), .ref (r0 5), .ref (r0 6), .ref (r0 7), .ref (r0 8), .ref (r0 9)])), (r0 0, .inl (cJ, 6, .inr (.inl f_55))), (r0 1, .inl (cI, 6, .inl f_56)), (r0 2, .inl (cI, 6, .inl f_57)), (r0 3, .inl (cI, 6, .inl f_58)), (r0 4, .inl (cJ, 4, .inr (.inl f_61))), (r0 5, .inl (cI, 4, .inl f_62)), (r0 6, .inl (cJ, 40, .inr (.inl f_64))), (r0 7, .inl (cI, 40, .inl f_65)), (r0 8, .inl (cI, 40, .inl f_67)), (r0 9, .inl (cI, 40, .inl f_68))]]) → va_S A s.heap H locs → ∀ (ls : Array Slot), lv_has ls 5 [(4, .int g_71), (3, .int z_70), (2, .int g_72), (0, .ref h0), (1, .int p1)] → W p l e (headSpec wsX7_jointsOf ({ frames := 1, cells := 0, slots := 0, locals := 20 } : Room)).room s m ([.ref h0, .int p1] : List Value).toArray below meth c H locs 0 0 Q0 (F0 m 22 ls []) := by
        intro n
        induction n with
        | zero => intro g_71 g_72 iv_176 iv_177 hm; exact absurd hm (Nat.not_lt_zero _)
        | succ n ih =>
          intro g_71 g_72 iv_176 iv_177 hm H locs hP hD hS ls hl
          refine lv_iload hx hb dX7_jointsOf_22 (lv_at hl 0 rfl) ?_
          refine lv_aload_n hx hb dX7_jointsOf_24 rfl (lv_at hl 3 rfl) ?_
          refine va_get (D := (dC, dI)) (ci := 5) (v := .ref (r0 5)) (C := RX7) (T := TX7) (N := 12) hx hb hts iw_X7_jointsOf_X7 hown hK hP 0 rfl rfl 7 (by decide) (hts (.fieldLink RX7 35 "HungFloors$Plan" "rodCount" "[I") (by decide +kernel)) (fun _ h9 => h9) rfl dX7_jointsOf_25 ?_
          refine lv_iload_n hx hb dX7_jointsOf_28 rfl (lv_at hl 4 rfl) ?_
          refine va_iald hx hb hK hP 6 1 rfl rfl (v_in rfl (by omega) (by omega)) dX7_jointsOf_29 ?_
          refine lv_topi (fun z_179 ez_179 => ?_)
          have gz_179 := rg_at hr_63 ez_179
          have g1z_179 := gz_179.1
          have g2z_179 := gz_179.2
          refine lv_icmp_ge (tgt := 56) hx hb dX7_jointsOf_30 (by decide) (fun c_180 => ?_) (fun c_180 => ?_)
          · have c_180 : z_179.toInt ≤ g_71.toInt := f_le rfl rfl c_180
            refine lv_iload_n hx hb dX7_jointsOf_56 rfl (lv_at hl 2 rfl) ?_
            rw [hQ0]
            exact W.iret (v := g_72) hx hb hr (fun t ht hW => ⟨⟨g_72, (), rfl, trivial, ⟨by rw [ht]; exact hP, hD⟩⟩, hS.F ht⟩) hS.2.2 dX7_jointsOf_57
          · have c_180 : g_71.toInt < z_179.toInt := f_nle rfl rfl c_180
            refine lv_iload_n hx hb dX7_jointsOf_33 rfl (lv_at hl 2 rfl) ?_
            refine lv_iconst (v := 1) hx hb dX7_jointsOf_34 (by decide) ?_
            refine lv_aload_n hx hb dX7_jointsOf_35 rfl (lv_at hl 3 rfl) ?_
            refine va_get (D := (dC, dI)) (ci := 5) (v := .ref (r0 8)) (C := RX7) (T := TX7) (N := 12) hx hb hts iw_X7_jointsOf_X7 hown hK hP 0 rfl rfl 10 (by decide) (hts (.fieldLink RX7 44 "HungFloors$Plan" "rodHolds" "[I") (by decide +kernel)) (fun _ h9 => h9) rfl dX7_jointsOf_36 ?_
            refine lv_iload_n hx hb dX7_jointsOf_39 rfl (lv_at hl 1 rfl) ?_
            refine lv_iload hx hb dX7_jointsOf_40 (lv_at hl 0 rfl) ?_
            refine lv_iadd hx hb dX7_jointsOf_42 ?_
            refine lv_topi (fun z_181 ez_181 => ?_)
            have hz_181 : z_181.toInt = z_70.toInt + g_71.toInt := by rw [ez_181]; exact t_add rfl rfl (by omega) (by omega)
            refine va_iald hx hb hK hP 9 1 rfl rfl (v_in rfl (by omega) (by omega)) dX7_jointsOf_43 ?_
            refine lv_topi (fun z_182 ez_182 => ?_)
            have hpm : List.Perm ([[(h0, .inr (5, [.int fc0, .ref (r0 0), .ref (r0 1), .ref (r0 2), .ref (r0 3), .int dc0, .ref (r0 4), .ref (r0 5), .ref (r0 6), .ref (r0 7), .ref (r0 8), .ref (r0 9)])), (r0 0, .inl (cJ, 6, .inr (.inl f_55))), (r0 1, .inl (cI, 6, .inl f_56)), (r0 2, .inl (cI, 6, .inl f_57)), (r0 3, .inl (cI, 6, .inl f_58)), (r0 4, .inl (cJ, 4, .inr (.inl f_61))), (r0 5, .inl (cI, 4, .inl f_62)), (r0 6, .inl (cJ, 40, .inr (.inl f_64))), (r0 7, .inl (cI, 40, .inl f_65)), (r0 8, .inl (cI, 40, .inl f_67)), (r0 9, .inl (cI, 40, .inl f_68))]] : List va_W) (([] : List va_W) ++ ([[(h0, .inr (5, [.int fc0, .ref (r0 0), .ref (r0 1), .ref (r0 2), .ref (r0 3), .int dc0, .ref (r0 4), .ref (r0 5), .ref (r0 6), .ref (r0 7), .ref (r0 8), .ref (r0 9)])), (r0 0, .inl (cJ, 6, .inr (.inl f_55))), (r0 1, .inl (cI, 6, .inl f_56)), (r0 2, .inl (cI, 6, .inl f_57)), (r0 3, .inl (cI, 6, .inl f_58)), (r0 4, .inl (cJ, 4, .inr (.inl f_61))), (r0 5, .inl (cI, 4, .inl f_62)), (r0 6, .inl (cJ, 40, .inr (.inl f_64))), (r0 7, .inl (cI, 40, .inl f_65)), (r0 8, .inl (cI, 40, .inl f_67)), (r0 9, .inl (cI, 40, .inl f_68))]] : List va_W)) := pm_n 1 [0] (by decide) rfl rfl
            have hPc := bk_P hpm hP
            have hDc := bk_D hpm hD
            have hFc := bk_F hpm hD hS hA
            refine va_calli (va_runS (As := [.int z_182]) (rest := [.int 1, .int g_72]) ⟨hx, hb, hml, hown, hts⟩ (c_J6_bitCount_0f7a4 l dC dI ad tN fN cB cI cJ cZ z_182 H.size) (va_cwS 1 hts gX7_jointsOf_J6_bitCount_0f7a4 rfl rfl rfl (by decide +kernel) ⟨(Nat.le_of_ble_eq_true rfl), (Nat.le_of_ble_eq_true rfl)⟩) ⟨fun a U g mk q => by obtain ⟨q0, q1, qP, qK, qD, qE⟩ := q; exact ⟨q0, q1, qP, va_K.moved (u := U) (U := U.calling g mk a) (Vm.Alike.refl U.vm) qK, qD, ey_blind qE⟩, fun U hU hW => ⟨rfl, by rw [hU], by rw [hU]; exact hPc, va_K.moved hW.alike hK, hDc.weaken (fun _ _ _ _ => trivial), ey_call hE hS hFc hU hW⟩⟩ rfl rfl hl.1 rfl (lv_room (Nat.le_of_ble_eq_true rfl)) dX7_jointsOf_44 ⟨(Nat.le_of_ble_eq_true rfl), (Nat.le_of_ble_eq_true rfl)⟩) hS (fun q _ h => hFc q h) hFc (fun r_183 u t H locs ht hvm hw hB hz1 hk1 hS => ?_)
            obtain ⟨hP1, hD1⟩ := hB
            rw [ht] at hP1
            obtain ⟨hP, hD⟩ := bk_join hpm hP hD hk1 hFc (Cs1 := []) hP1 hD1
            have hpm2 : List.Perm (([] : List va_W) ++ ([[(h0, .inr (5, [.int fc0, .ref (r0 0), .ref (r0 1), .ref (r0 2), .ref (r0 3), .int dc0, .ref (r0 4), .ref (r0 5), .ref (r0 6), .ref (r0 7), .ref (r0 8), .ref (r0 9)])), (r0 0, .inl (cJ, 6, .inr (.inl f_55))), (r0 1, .inl (cI, 6, .inl f_56)), (r0 2, .inl (cI, 6, .inl f_57)), (r0 3, .inl (cI, 6, .inl f_58)), (r0 4, .inl (cJ, 4, .inr (.inl f_61))), (r0 5, .inl (cI, 4, .inl f_62)), (r0 6, .inl (cJ, 40, .inr (.inl f_64))), (r0 7, .inl (cI, 40, .inl f_65)), (r0 8, .inl (cI, 40, .inl f_67)), (r0 9, .inl (cI, 40, .inl f_68))]] : List va_W)) ([[(h0, .inr (5, [.int fc0, .ref (r0 0), .ref (r0 1), .ref (r0 2), .ref (r0 3), .int dc0, .ref (r0 4), .ref (r0 5), .ref (r0 6), .ref (r0 7), .ref (r0 8), .ref (r0 9)])), (r0 0, .inl (cJ, 6, .inr (.inl f_55))), (r0 1, .inl (cI, 6, .inl f_56)), (r0 2, .inl (cI, 6, .inl f_57)), (r0 3, .inl (cI, 6, .inl f_58)), (r0 4, .inl (cJ, 4, .inr (.inl f_61))), (r0 5, .inl (cI, 4, .inl f_62)), (r0 6, .inl (cJ, 40, .inr (.inl f_64))), (r0 7, .inl (cI, 40, .inl f_65)), (r0 8, .inl (cI, 40, .inl f_67)), (r0 9, .inl (cI, 40, .inl f_68))]] : List va_W) := pm_n 1 [0] (by decide) rfl rfl
            have hP := bk_reP hpm2 hP
            have hD := bk_reD hpm2 hD
            have hP : va_P (dC, dI) vwCl (List.flatten [[(h0, .inr (5, [.int fc0, .ref (r0 0), .ref (r0 1), .ref (r0 2), .ref (r0 3), .int dc0, .ref (r0 4), .ref (r0 5), .ref (r0 6), .ref (r0 7), .ref (r0 8), .ref (r0 9)])), (r0 0, .inl (cJ, 6, .inr (.inl f_55))), (r0 1, .inl (cI, 6, .inl f_56)), (r0 2, .inl (cI, 6, .inl f_57)), (r0 3, .inl (cI, 6, .inl f_58)), (r0 4, .inl (cJ, 4, .inr (.inl f_61))), (r0 5, .inl (cI, 4, .inl f_62)), (r0 6, .inl (cJ, 40, .inr (.inl f_64))), (r0 7, .inl (cI, 40, .inl f_65)), (r0 8, .inl (cI, 40, .inl f_67)), (r0 9, .inl (cI, 40, .inl f_68))]]) H := hP
            have hD : va_D A (List.flatten [[(h0, .inr (5, [.int fc0, .ref (r0 0), .ref (r0 1), .ref (r0 2), .ref (r0 3), .int dc0, .ref (r0 4), .ref (r0 5), .ref (r0 6), .ref (r0 7), .ref (r0 8), .ref (r0 9)])), (r0 0, .inl (cJ, 6, .inr (.inl f_55))), (r0 1, .inl (cI, 6, .inl f_56)), (r0 2, .inl (cI, 6, .inl f_57)), (r0 3, .inl (cI, 6, .inl f_58)), (r0 4, .inl (cJ, 4, .inr (.inl f_61))), (r0 5, .inl (cI, 4, .inl f_62)), (r0 6, .inl (cJ, 40, .inr (.inl f_64))), (r0 7, .inl (cI, 40, .inl f_65)), (r0 8, .inl (cI, 40, .inl f_67)), (r0 9, .inl (cI, 40, .inl f_68))]]) := hD
            refine lv_iadd hx hb dX7_jointsOf_47 ?_
            refine lv_topi (fun z_184 ez_184 => ?_)
            refine lv_iadd hx hb dX7_jointsOf_48 ?_
            refine lv_topi (fun z_185 ez_185 => ?_)
            refine lv_istore_n (lv' := [(2, .int z_185), (4, .int g_71), (3, .int z_70), (0, .ref h0), (1, .int p1)]) hx hb dX7_jointsOf_49 rfl hl (by decide) rfl (fun ls hl => ?_)
            obtain ⟨z_186, ez_186⟩ : ∃ y : Int32, y = g_71 + 1 := ⟨_, rfl⟩
            have hz_186 : z_186.toInt = g_71.toInt + 1 := by rw [ez_186]; exact t_add rfl tI_1 (by omega) (by omega)
            refine lv_iinc (v := z_186) (lv' := [(4, .int z_186), (2, .int z_185), (3, .int z_70), (0, .ref h0), (1, .int p1)]) hx hb dX7_jointsOf_50 hl (k := 1) rfl (by rw [ez_186]; rfl) (by decide) rfl (fun ls hl => ?_)
            refine lv_goto (tgt := 22) hx hb dX7_jointsOf_53 (by decide) ?_
            exact ih z_186 z_185 (by omega) (by omega) (by omega) _ _ hP hD hS ls (lv_sub hl [0, 2, 1, 3, 4] rfl)
      exact lp_178 _ 0 0 (by have := tI_0; omega) (by have := tI_0; omega) (Nat.lt_succ_self _) _ _ hP hD hS ls (lv_sub hl [0, 1, 2, 3, 4] rfl)
set_option maxHeartbeats 4000000 in
set_option maxRecDepth 100000 in
theorem c_X3_addJoint (l : Launch) (dC : Nat → ClassId) (dI : Nat → Nat → Nat) (ad : Nat → Nat) (tN : Nat) (fN : Nat → Int64) (cB cI cJ cZ : ClassId) (h0 : Nat) (p1 : Int32) (p2 : Int32) (r0 : Nat → Nat) (pl0 : Nat) (w0 : va_W) (o0 : ok_frame ad cB cI cJ cZ h0 r0 pl0 w0) (sz : Nat) (up11 : 0 ≤ p1.toInt) (up12 : p1.toInt ≤ 9) (up21 : -1 ≤ p2.toInt) (up22 : p2.toInt ≤ 5) : Met l yX3_addJoint wsX3_addJoint ({ frames := 0, cells := 0, slots := 0, locals := 0 } : Room) (va_Pc [.ref h0, .int p1, .int p2] (fun U => U.heap.size = sz ∧ va_P (dC, dI) vwCl (List.flatten [w0]) U.heap ∧ va_K (dC, dI) vwCl [(cB, .byte), (cI, .int), (cJ, .long), (cZ, .boolean)] U ∧ va_D (fun _ => True) (List.flatten [w0]) ∧ ex_Y ad tN fN (va_A (List.flatten [w0]) sz) U)) (va_Qv (fun _ : Unit => True) (fun (_ : Unit) (t : State) => ∃ (w09 : va_W), ok_frame ad cB cI cJ cZ h0 r0 pl0 w09 ∧ va_P (dC, dI) vwCl (List.flatten [w09]) t.heap ∧ va_D (va_A (List.flatten [w0]) sz) (List.flatten [w09])) (va_A (List.flatten [w0]) sz)) 0 0 (va_A (List.flatten [w0]) sz) := by
  refine Met.ofW (cc := cX3_addJoint) (maxL := 3) (ret := none) (by decide) rfl ?_
  intro p e s m args below meth c s₁ B hml hv
  obtain ⟨rfl, hsz, hP, hK, hD0, hE⟩ := hv
  have hx := B.exec
  have hb := B.bytes
  have hr := B.returns
  have hts := atoms_spec (ws := wsX3_addJoint) B.pre
  have hown : s.vm.findClass RX3 = some m.cls := findClass_of_methodNamed B.named
  have hlocks := B.notSynchronized
  subst hsz
  have hD := hD0.self (sz := s.heap.size)
  generalize hAe : va_A (List.flatten [w0]) s.heap.size = A at hD hE ⊢
  have hA : ∀ q : Nat, s.heap.size ≤ q → A q := fun q h => by rw [← hAe]; exact Or.inr h
  have hS : va_S A s.heap s.heap [] := va_S.rf
  have hl := lv_entry ([.ref h0, .int p1, .int p2]) (n := 3) (Nat.le_of_ble_eq_true rfl)
  rw [lg_entry_eq]
  generalize (lg_sl ([.ref h0, .int p1, .int p2]) ++ List.replicate (3 - (lg_sl ([.ref h0, .int p1, .int p2])).length) Slot.unset).toArray = ls at hl ⊢
  have hl : lv_has ls 3 [(0, .ref h0), (1, .int p1), (2, .int p2)] := hl
  clear hAe
  refine W_name (fun Q0 hQ0 => ?_)
  refine lv_aload_n hx hb dX3_addJoint_0 rfl (lv_at hl 0 rfl) ?_
  obtain ⟨fr_187, dr_190, rc_193, f_196, f_198, gn_199, f_200, f_201, f_202, f_203, f_204, sc_205, jc_206, f_209, f_211, rfl, hl_188, hh_189, hl_191, hh_192, hl_194, hh_195, hr_197, hl_207, hh_208, hr_210, hr_212⟩ := o0
  refine va_get (D := (dC, dI)) (ci := 2) (v := .int jc_206) (C := RX3) (T := TX3) (N := 16) hx hb hts iw_X3_addJoint_X3 hown hK hP 0 rfl rfl 13 (by decide) (hts (.fieldLink RX3 58 "HungFloors$Frame" "jointCount" "I") (by decide +kernel)) (fun _ h9 => h9) rfl dX3_addJoint_1 ?_
  refine lv_bipush (v := 70) hx hb dX3_addJoint_4 (by decide) ?_
  refine lv_icmp_ge (tgt := 39) hx hb dX3_addJoint_6 (by decide) (fun c_213 => ?_) (fun c_213 => ?_)
  · have c_213 : 70 ≤ jc_206.toInt := f_le tI_70 rfl c_213
    rw [hQ0]
    exact W.vret hx hb hr (fun t ht hW => ⟨⟨(), rfl, trivial, ⟨_, ⟨fr_187, dr_190, rc_193, f_196, f_198, gn_199, f_200, f_201, f_202, f_203, f_204, sc_205, jc_206, f_209, f_211, rfl, by omega, by omega, by omega, by omega, by omega, by omega, hr_197, by omega, by omega, hr_210, hr_212⟩, by rw [ht]; exact hP, hD⟩⟩, hS.F ht⟩) hS.2.2 dX3_addJoint_39
  · have c_213 : jc_206.toInt < 70 := f_nle tI_70 rfl c_213
    refine lv_aload_n hx hb dX3_addJoint_9 rfl (lv_at hl 0 rfl) ?_
    refine va_get (D := (dC, dI)) (ci := 2) (v := .ref (r0 7)) (C := RX3) (T := TX3) (N := 16) hx hb hts iw_X3_addJoint_X3 hown hK hP 0 rfl rfl 14 (by decide) (hts (.fieldLink RX3 61 "HungFloors$Frame" "jointRod" "[I") (by decide +kernel)) (fun _ h9 => h9) rfl dX3_addJoint_10 ?_
    refine lv_aload_n hx hb dX3_addJoint_13 rfl (lv_at hl 0 rfl) ?_
    refine va_get (D := (dC, dI)) (ci := 2) (v := .int jc_206) (C := RX3) (T := TX3) (N := 16) hx hb hts iw_X3_addJoint_X3 hown hK hP 0 rfl rfl 13 (by decide) (hts (.fieldLink RX3 58 "HungFloors$Frame" "jointCount" "I") (by decide +kernel)) (fun _ h9 => h9) rfl dX3_addJoint_14 ?_
    refine lv_iload_n hx hb dX3_addJoint_17 rfl (lv_at hl 1 rfl) ?_
    refine va_iast hx hb hK hP hD hS 8 1 rfl rfl (v_in rfl (by omega) (by omega)) dX3_addJoint_18 (fun H locs hP hD hS => ?_)
    obtain ⟨f_214, hr_215, hP, hD⟩ : ∃ f_214 : Nat → Int32, rg (0) 9 f_214 ∧ va_P (dC, dI) vwCl (List.flatten [[(h0, .inr (2, [.ref pl0, .int fr_187, .int dr_190, .int rc_193, .ref (r0 0), .ref (r0 1), .int gn_199, .ref (r0 2), .ref (r0 3), .ref (r0 4), .ref (r0 5), .ref (r0 6), .long sc_205, .int jc_206, .ref (r0 7), .ref (r0 8)])), (r0 0, .inl (cI, 10, .inl f_196)), (r0 1, .inl (cI, 10, .inl f_198)), (r0 2, .inl (cI, 6, .inl f_200)), (r0 3, .inl (cJ, 6, .inr (.inl f_201))), (r0 4, .inl (cJ, 6, .inr (.inl f_202))), (r0 5, .inl (cJ, 6, .inr (.inl f_203))), (r0 6, .inl (cJ, 10, .inr (.inl f_204))), (r0 7, .inl (cI, 70, .inl f_214)), (r0 8, .inl (cI, 70, .inl f_211))]]) H ∧ va_D A (List.flatten [[(h0, .inr (2, [.ref pl0, .int fr_187, .int dr_190, .int rc_193, .ref (r0 0), .ref (r0 1), .int gn_199, .ref (r0 2), .ref (r0 3), .ref (r0 4), .ref (r0 5), .ref (r0 6), .long sc_205, .int jc_206, .ref (r0 7), .ref (r0 8)])), (r0 0, .inl (cI, 10, .inl f_196)), (r0 1, .inl (cI, 10, .inl f_198)), (r0 2, .inl (cI, 6, .inl f_200)), (r0 3, .inl (cJ, 6, .inr (.inl f_201))), (r0 4, .inl (cJ, 6, .inr (.inl f_202))), (r0 5, .inl (cJ, 6, .inr (.inl f_203))), (r0 6, .inl (cJ, 10, .inr (.inl f_204))), (r0 7, .inl (cI, 70, .inl f_214)), (r0 8, .inl (cI, 70, .inl f_211))]]) := ⟨_, rg_upd hr_210 (by omega) (by omega), hP, hD⟩
    refine lv_aload_n hx hb dX3_addJoint_19 rfl (lv_at hl 0 rfl) ?_
    refine va_get (D := (dC, dI)) (ci := 2) (v := .ref (r0 8)) (C := RX3) (T := TX3) (N := 16) hx hb hts iw_X3_addJoint_X3 hown hK hP 0 rfl rfl 15 (by decide) (hts (.fieldLink RX3 64 "HungFloors$Frame" "jointFloor" "[I") (by decide +kernel)) (fun _ h9 => h9) rfl dX3_addJoint_20 ?_
    refine lv_aload_n hx hb dX3_addJoint_23 rfl (lv_at hl 0 rfl) ?_
    refine va_get (D := (dC, dI)) (ci := 2) (v := .int jc_206) (C := RX3) (T := TX3) (N := 16) hx hb hts iw_X3_addJoint_X3 hown hK hP 0 rfl rfl 13 (by decide) (hts (.fieldLink RX3 58 "HungFloors$Frame" "jointCount" "I") (by decide +kernel)) (fun _ h9 => h9) rfl dX3_addJoint_24 ?_
    refine lv_iload_n hx hb dX3_addJoint_27 rfl (lv_at hl 2 rfl) ?_
    refine va_iast hx hb hK hP hD hS 9 1 rfl rfl (v_in rfl (by omega) (by omega)) dX3_addJoint_28 (fun H locs hP hD hS => ?_)
    obtain ⟨f_216, hr_217, hP, hD⟩ : ∃ f_216 : Nat → Int32, rg (-1) 5 f_216 ∧ va_P (dC, dI) vwCl (List.flatten [[(h0, .inr (2, [.ref pl0, .int fr_187, .int dr_190, .int rc_193, .ref (r0 0), .ref (r0 1), .int gn_199, .ref (r0 2), .ref (r0 3), .ref (r0 4), .ref (r0 5), .ref (r0 6), .long sc_205, .int jc_206, .ref (r0 7), .ref (r0 8)])), (r0 0, .inl (cI, 10, .inl f_196)), (r0 1, .inl (cI, 10, .inl f_198)), (r0 2, .inl (cI, 6, .inl f_200)), (r0 3, .inl (cJ, 6, .inr (.inl f_201))), (r0 4, .inl (cJ, 6, .inr (.inl f_202))), (r0 5, .inl (cJ, 6, .inr (.inl f_203))), (r0 6, .inl (cJ, 10, .inr (.inl f_204))), (r0 7, .inl (cI, 70, .inl f_214)), (r0 8, .inl (cI, 70, .inl f_216))]]) H ∧ va_D A (List.flatten [[(h0, .inr (2, [.ref pl0, .int fr_187, .int dr_190, .int rc_193, .ref (r0 0), .ref (r0 1), .int gn_199, .ref (r0 2), .ref (r0 3), .ref (r0 4), .ref (r0 5), .ref (r0 6), .long sc_205, .int jc_206, .ref (r0 7), .ref (r0 8)])), (r0 0, .inl (cI, 10, .inl f_196)), (r0 1, .inl (cI, 10, .inl f_198)), (r0 2, .inl (cI, 6, .inl f_200)), (r0 3, .inl (cJ, 6, .inr (.inl f_201))), (r0 4, .inl (cJ, 6, .inr (.inl f_202))), (r0 5, .inl (cJ, 6, .inr (.inl f_203))), (r0 6, .inl (cJ, 10, .inr (.inl f_204))), (r0 7, .inl (cI, 70, .inl f_214)), (r0 8, .inl (cI, 70, .inl f_216))]]) := ⟨_, rg_upd hr_212 (by omega) (by omega), hP, hD⟩
    refine lv_aload_n hx hb dX3_addJoint_29 rfl (lv_at hl 0 rfl) ?_
    refine lv_dup hx hb dX3_addJoint_30 rfl ?_
    refine va_get (D := (dC, dI)) (ci := 2) (v := .int jc_206) (C := RX3) (T := TX3) (N := 16) hx hb hts iw_X3_addJoint_X3 hown hK hP 0 rfl rfl 13 (by decide) (hts (.fieldLink RX3 58 "HungFloors$Frame" "jointCount" "I") (by decide +kernel)) (fun _ h9 => h9) rfl dX3_addJoint_31 ?_
    refine lv_iconst (v := 1) hx hb dX3_addJoint_34 (by decide) ?_
    refine lv_iadd hx hb dX3_addJoint_35 ?_
    refine lv_topi (fun z_218 ez_218 => ?_)
    have hz_218 : z_218.toInt = jc_206.toInt + 1 := by rw [ez_218]; exact t_add rfl tI_1 (by omega) (by omega)
    refine va_put (D := (dC, dI)) (ci := 2) (v := .int z_218) (ty := .int) (C := RX3) (T := TX3) (N := 16) hx hb hts iw_X3_addJoint_X3 tyX3 tyX3_ok nmX3 hown hK hP hD hS 0 rfl rfl 13 (by decide) (hts (.fieldLink RX3 58 "HungFloors$Frame" "jointCount" "I") (by decide +kernel)) (fun _ h9 => h9) rfl (by decide +kernel) rfl rfl (Nat.le_of_ble_eq_true rfl) dX3_addJoint_36 (fun H locs hP hD hS => ?_)
    have hP : va_P (dC, dI) vwCl (List.flatten [[(h0, .inr (2, [.ref pl0, .int fr_187, .int dr_190, .int rc_193, .ref (r0 0), .ref (r0 1), .int gn_199, .ref (r0 2), .ref (r0 3), .ref (r0 4), .ref (r0 5), .ref (r0 6), .long sc_205, .int z_218, .ref (r0 7), .ref (r0 8)])), (r0 0, .inl (cI, 10, .inl f_196)), (r0 1, .inl (cI, 10, .inl f_198)), (r0 2, .inl (cI, 6, .inl f_200)), (r0 3, .inl (cJ, 6, .inr (.inl f_201))), (r0 4, .inl (cJ, 6, .inr (.inl f_202))), (r0 5, .inl (cJ, 6, .inr (.inl f_203))), (r0 6, .inl (cJ, 10, .inr (.inl f_204))), (r0 7, .inl (cI, 70, .inl f_214)), (r0 8, .inl (cI, 70, .inl f_216))]]) H := hP
    have hD : va_D A (List.flatten [[(h0, .inr (2, [.ref pl0, .int fr_187, .int dr_190, .int rc_193, .ref (r0 0), .ref (r0 1), .int gn_199, .ref (r0 2), .ref (r0 3), .ref (r0 4), .ref (r0 5), .ref (r0 6), .long sc_205, .int z_218, .ref (r0 7), .ref (r0 8)])), (r0 0, .inl (cI, 10, .inl f_196)), (r0 1, .inl (cI, 10, .inl f_198)), (r0 2, .inl (cI, 6, .inl f_200)), (r0 3, .inl (cJ, 6, .inr (.inl f_201))), (r0 4, .inl (cJ, 6, .inr (.inl f_202))), (r0 5, .inl (cJ, 6, .inr (.inl f_203))), (r0 6, .inl (cJ, 10, .inr (.inl f_204))), (r0 7, .inl (cI, 70, .inl f_214)), (r0 8, .inl (cI, 70, .inl f_216))]]) := hD
    rw [hQ0]
    exact W.vret hx hb hr (fun t ht hW => ⟨⟨(), rfl, trivial, ⟨_, ⟨fr_187, dr_190, rc_193, f_196, f_198, gn_199, f_200, f_201, f_202, f_203, f_204, sc_205, z_218, f_214, f_216, rfl, by omega, by omega, by omega, by omega, by omega, by omega, hr_197, by omega, by omega, hr_215, hr_217⟩, by rw [ht]; exact hP, hD⟩⟩, hS.F ht⟩) hS.2.2 dX3_addJoint_39
set_option maxHeartbeats 4000000 in
set_option maxRecDepth 100000 in
theorem c_X3_unit (l : Launch) (dC : Nat → ClassId) (dI : Nat → Nat → Nat) (ad : Nat → Nat) (tN : Nat) (fN : Nat → Int64) (cB cI cJ cZ : ClassId) (h0 : Nat) (r0 : Nat → Nat) (pl0 : Nat) (w0 : va_W) (o0 : ok_frame ad cB cI cJ cZ h0 r0 pl0 w0) (sz : Nat) : Met l yX3_unit wsX3_unit ({ frames := 0, cells := 0, slots := 0, locals := 0 } : Room) (va_Pc [.ref h0] (fun U => U.heap.size = sz ∧ va_P (dC, dI) vwCl (List.flatten [w0]) U.heap ∧ va_K (dC, dI) vwCl [(cB, .byte), (cI, .int), (cJ, .long), (cZ, .boolean)] U ∧ va_D (fun _ => True) (List.flatten [w0]) ∧ ex_Y ad tN fN (va_A (List.flatten [w0]) sz) U)) (va_Ql (fun (r : Int64) (_ : Unit) => True) (fun (_ : Unit) (t : State) => va_P (dC, dI) vwCl (List.flatten [w0]) t.heap ∧ va_D (va_A (List.flatten [w0]) sz) (List.flatten [w0])) (va_A (List.flatten [w0]) sz)) 0 0 (va_A (List.flatten [w0]) sz) := by
  refine Met.ofW (cc := cX3_unit) (maxL := 1) (ret := (some .long)) (by decide) rfl ?_
  intro p e s m args below meth c s₁ B hml hv
  obtain ⟨rfl, hsz, hP, hK, hD0, hE⟩ := hv
  have hx := B.exec
  have hb := B.bytes
  have hr := B.returns
  have hts := atoms_spec (ws := wsX3_unit) B.pre
  have hown : s.vm.findClass RX3 = some m.cls := findClass_of_methodNamed B.named
  have hlocks := B.notSynchronized
  subst hsz
  have hD := hD0.self (sz := s.heap.size)
  generalize hAe : va_A (List.flatten [w0]) s.heap.size = A at hD hE ⊢
  have hA : ∀ q : Nat, s.heap.size ≤ q → A q := fun q h => by rw [← hAe]; exact Or.inr h
  have hS : va_S A s.heap s.heap [] := va_S.rf
  have hl := lv_entry ([.ref h0]) (n := 1) (Nat.le_of_ble_eq_true rfl)
  rw [lg_entry_eq]
  generalize (lg_sl ([.ref h0]) ++ List.replicate (1 - (lg_sl ([.ref h0])).length) Slot.unset).toArray = ls at hl ⊢
  have hl : lv_has ls 1 [(0, .ref h0)] := hl
  clear hAe
  refine W_name (fun Q0 hQ0 => ?_)
  refine lv_aload_n hx hb dX3_unit_0 rfl (lv_at hl 0 rfl) ?_
  obtain ⟨fr_219, dr_222, rc_225, f_228, f_230, gn_231, f_232, f_233, f_234, f_235, f_236, sc_237, jc_238, f_241, f_243, rfl, hl_220, hh_221, hl_223, hh_224, hl_226, hh_227, hr_229, hl_239, hh_240, hr_242, hr_244⟩ := o0
  refine va_get (D := (dC, dI)) (ci := 2) (v := .long sc_237) (C := RX3) (T := TX3) (N := 16) hx hb hts iw_X3_unit_X3 hown hK hP 0 rfl rfl 12 (by decide) (hts (.fieldLink RX3 54 "HungFloors$Frame" "scale" "J") (by decide +kernel)) (fun _ h9 => h9) rfl dX3_unit_1 ?_
  refine lv_ldc2 hx hb hown (hts (.constantLong RX3 86 (10)) (by decide +kernel)) dX3_unit_4 ?_
  refine lv_lmul hx hb dX3_unit_7 ?_
  refine lv_topl (fun z_245 ez_245 => ?_)
  rw [hQ0]
  exact W.lret (v := z_245) hx hb hr (fun t ht hW => ⟨⟨z_245, (), rfl, trivial, ⟨by rw [ht]; exact hP, hD⟩⟩, hS.F ht⟩) hS.2.2 dX3_unit_8
set_option maxHeartbeats 4000000 in
set_option maxRecDepth 100000 in
theorem c_X3_isThere (l : Launch) (dC : Nat → ClassId) (dI : Nat → Nat → Nat) (ad : Nat → Nat) (tN : Nat) (fN : Nat → Int64) (cB cI cJ cZ : ClassId) (h0 : Nat) (p1 : Int32) (r0 : Nat → Nat) (pl0 : Nat) (w0 : va_W) (o0 : ok_frame ad cB cI cJ cZ h0 r0 pl0 w0) (sz : Nat) : Met l yX3_isThere wsX3_isThere ({ frames := 0, cells := 0, slots := 0, locals := 0 } : Room) (va_Pc [.ref h0, .int p1] (fun U => U.heap.size = sz ∧ va_P (dC, dI) vwCl (List.flatten [w0]) U.heap ∧ va_K (dC, dI) vwCl [(cB, .byte), (cI, .int), (cJ, .long), (cZ, .boolean)] U ∧ va_D (fun _ => True) (List.flatten [w0]) ∧ ex_Y ad tN fN (va_A (List.flatten [w0]) sz) U)) (va_Qi (fun (r : Int32) (_ : Unit) => 0 ≤ r.toInt ∧ r.toInt ≤ 1) (fun (_ : Unit) (t : State) => va_P (dC, dI) vwCl (List.flatten [w0]) t.heap ∧ va_D (va_A (List.flatten [w0]) sz) (List.flatten [w0])) (va_A (List.flatten [w0]) sz)) 0 0 (va_A (List.flatten [w0]) sz) := by
  refine Met.ofW (cc := cX3_isThere) (maxL := 2) (ret := (some .boolean)) (by decide) rfl ?_
  intro p e s m args below meth c s₁ B hml hv
  obtain ⟨rfl, hsz, hP, hK, hD0, hE⟩ := hv
  have hx := B.exec
  have hb := B.bytes
  have hr := B.returns
  have hts := atoms_spec (ws := wsX3_isThere) B.pre
  have hown : s.vm.findClass RX3 = some m.cls := findClass_of_methodNamed B.named
  have hlocks := B.notSynchronized
  subst hsz
  have hD := hD0.self (sz := s.heap.size)
  generalize hAe : va_A (List.flatten [w0]) s.heap.size = A at hD hE ⊢
  have hA : ∀ q : Nat, s.heap.size ≤ q → A q := fun q h => by rw [← hAe]; exact Or.inr h
  have hS : va_S A s.heap s.heap [] := va_S.rf
  have hl := lv_entry ([.ref h0, .int p1]) (n := 2) (Nat.le_of_ble_eq_true rfl)
  rw [lg_entry_eq]
  generalize (lg_sl ([.ref h0, .int p1]) ++ List.replicate (2 - (lg_sl ([.ref h0, .int p1])).length) Slot.unset).toArray = ls at hl ⊢
  have hl : lv_has ls 2 [(0, .ref h0), (1, .int p1)] := hl
  clear hAe
  refine W_name (fun Q0 hQ0 => ?_)
  refine lv_aload_n hx hb dX3_isThere_0 rfl (lv_at hl 0 rfl) ?_
  obtain ⟨fr_246, dr_249, rc_252, f_255, f_257, gn_258, f_259, f_260, f_261, f_262, f_263, sc_264, jc_265, f_268, f_270, rfl, hl_247, hh_248, hl_250, hh_251, hl_253, hh_254, hr_256, hl_266, hh_267, hr_269, hr_271⟩ := o0
  refine va_get (D := (dC, dI)) (ci := 2) (v := .int gn_258) (C := RX3) (T := TX3) (N := 16) hx hb hts iw_X3_isThere_X3 hown hK hP 0 rfl rfl 6 (by decide) (hts (.fieldLink RX3 35 "HungFloors$Frame" "gone" "I") (by decide +kernel)) (fun _ h9 => h9) rfl dX3_isThere_1 ?_
  refine lv_iload_n hx hb dX3_isThere_4 rfl (lv_at hl 1 rfl) ?_
  refine lv_ishr hx hb dX3_isThere_5 ?_
  refine lv_topi (fun z_272 ez_272 => ?_)
  refine lv_iconst (v := 1) hx hb dX3_isThere_6 (by decide) ?_
  refine lv_iand hx hb dX3_isThere_7 ?_
  refine lv_topi (fun z_273 ez_273 => ?_)
  refine lv_if_ne (tgt := 15) hx hb dX3_isThere_8 (by decide) (fun c_274 => ?_) (fun c_274 => ?_)
  · have c_274 : ¬ z_273.toInt = 0 := f_ne rfl tI_0 c_274
    refine lv_iconst (v := 0) hx hb dX3_isThere_15 (by decide) ?_
    rw [hQ0]
    exact W.zret (v := 0) hx hb hr (by decide) (fun t ht hW => ⟨⟨0, (), rfl, ⟨by decide, by decide⟩, ⟨by rw [ht]; exact hP, hD⟩⟩, hS.F ht⟩) hS.2.2 dX3_isThere_16
  · have c_274 : z_273.toInt = 0 := f_eq rfl tI_0 c_274
    refine lv_iconst (v := 1) hx hb dX3_isThere_11 (by decide) ?_
    refine lv_goto (tgt := 16) hx hb dX3_isThere_12 (by decide) ?_
    rw [hQ0]
    exact W.zret (v := 1) hx hb hr (by decide) (fun t ht hW => ⟨⟨1, (), rfl, ⟨by decide, by decide⟩, ⟨by rw [ht]; exact hP, hD⟩⟩, hS.F ht⟩) hS.2.2 dX3_isThere_16
set_option maxHeartbeats 4000000 in
set_option maxRecDepth 100000 in
theorem c_X3_isHeldBy (l : Launch) (dC : Nat → ClassId) (dI : Nat → Nat → Nat) (ad : Nat → Nat) (tN : Nat) (fN : Nat → Int64) (cB cI cJ cZ : ClassId) (h0 : Nat) (p1 : Int32) (p2 : Int32) (r0 : Nat → Nat) (pl0 : Nat) (w0 : va_W) (o0 : ok_frame ad cB cI cJ cZ h0 r0 pl0 w0) (sz : Nat) (up11 : 0 ≤ p1.toInt) (up12 : p1.toInt ≤ 9) : Met l yX3_isHeldBy wsX3_isHeldBy ({ frames := 1, cells := 0, slots := 0, locals := 21 } : Room) (va_Pc [.ref h0, .int p1, .int p2] (fun U => U.heap.size = sz ∧ va_P (dC, dI) vwCl (List.flatten [w0]) U.heap ∧ va_K (dC, dI) vwCl [(cB, .byte), (cI, .int), (cJ, .long), (cZ, .boolean)] U ∧ va_D (fun _ => True) (List.flatten [w0]) ∧ ex_Y ad tN fN (va_A (List.flatten [w0]) sz) U)) (va_Qi (fun (r : Int32) (_ : Unit) => 0 ≤ r.toInt ∧ r.toInt ≤ 1) (fun (_ : Unit) (t : State) => va_P (dC, dI) vwCl (List.flatten [w0]) t.heap ∧ va_D (va_A (List.flatten [w0]) sz) (List.flatten [w0])) (va_A (List.flatten [w0]) sz)) 0 0 (va_A (List.flatten [w0]) sz) := by
  refine Met.ofW (cc := cX3_isHeldBy) (maxL := 3) (ret := (some .boolean)) (by decide) rfl ?_
  intro p e s m args below meth c s₁ B hml hv
  obtain ⟨rfl, hsz, hP, hK, hD0, hE⟩ := hv
  have hx := B.exec
  have hb := B.bytes
  have hr := B.returns
  have hts := atoms_spec (ws := wsX3_isHeldBy) B.pre
  have hown : s.vm.findClass RX3 = some m.cls := findClass_of_methodNamed B.named
  have hlocks := B.notSynchronized
  subst hsz
  have hD := hD0.self (sz := s.heap.size)
  generalize hAe : va_A (List.flatten [w0]) s.heap.size = A at hD hE ⊢
  have hA : ∀ q : Nat, s.heap.size ≤ q → A q := fun q h => by rw [← hAe]; exact Or.inr h
  have hS : va_S A s.heap s.heap [] := va_S.rf
  have hl := lv_entry ([.ref h0, .int p1, .int p2]) (n := 3) (Nat.le_of_ble_eq_true rfl)
  rw [lg_entry_eq]
  generalize (lg_sl ([.ref h0, .int p1, .int p2]) ++ List.replicate (3 - (lg_sl ([.ref h0, .int p1, .int p2])).length) Slot.unset).toArray = ls at hl ⊢
  have hl : lv_has ls 3 [(0, .ref h0), (1, .int p1), (2, .int p2)] := hl
  clear hAe
  refine W_name (fun Q0 hQ0 => ?_)
  refine lv_aload_n hx hb dX3_isHeldBy_0 rfl (lv_at hl 0 rfl) ?_
  refine lv_iload_n hx hb dX3_isHeldBy_1 rfl (lv_at hl 1 rfl) ?_
  obtain ⟨fr_275, dr_278, rc_281, f_284, f_286, gn_287, f_288, f_289, f_290, f_291, f_292, sc_293, jc_294, f_297, f_299, rfl, hl_276, hh_277, hl_279, hh_280, hl_282, hh_283, hr_285, hl_295, hh_296, hr_298, hr_300⟩ := o0
  have hpm : List.Perm ([[(h0, .inr (2, [.ref pl0, .int fr_275, .int dr_278, .int rc_281, .ref (r0 0), .ref (r0 1), .int gn_287, .ref (r0 2), .ref (r0 3), .ref (r0 4), .ref (r0 5), .ref (r0 6), .long sc_293, .int jc_294, .ref (r0 7), .ref (r0 8)])), (r0 0, .inl (cI, 10, .inl f_284)), (r0 1, .inl (cI, 10, .inl f_286)), (r0 2, .inl (cI, 6, .inl f_288)), (r0 3, .inl (cJ, 6, .inr (.inl f_289))), (r0 4, .inl (cJ, 6, .inr (.inl f_290))), (r0 5, .inl (cJ, 6, .inr (.inl f_291))), (r0 6, .inl (cJ, 10, .inr (.inl f_292))), (r0 7, .inl (cI, 70, .inl f_297)), (r0 8, .inl (cI, 70, .inl f_299))]] : List va_W) (([[(h0, .inr (2, [.ref pl0, .int fr_275, .int dr_278, .int rc_281, .ref (r0 0), .ref (r0 1), .int gn_287, .ref (r0 2), .ref (r0 3), .ref (r0 4), .ref (r0 5), .ref (r0 6), .long sc_293, .int jc_294, .ref (r0 7), .ref (r0 8)])), (r0 0, .inl (cI, 10, .inl f_284)), (r0 1, .inl (cI, 10, .inl f_286)), (r0 2, .inl (cI, 6, .inl f_288)), (r0 3, .inl (cJ, 6, .inr (.inl f_289))), (r0 4, .inl (cJ, 6, .inr (.inl f_290))), (r0 5, .inl (cJ, 6, .inr (.inl f_291))), (r0 6, .inl (cJ, 10, .inr (.inl f_292))), (r0 7, .inl (cI, 70, .inl f_297)), (r0 8, .inl (cI, 70, .inl f_299))]] : List va_W) ++ ([] : List va_W)) := pm_n 1 [0] (by decide) rfl rfl
  have hPc := bk_P hpm hP
  have hDc := bk_D hpm hD
  have hFc := bk_F hpm hD hS hA
  refine va_calli (va_runV (As := [.int p1]) (rest := []) ⟨hx, hb, hml, hown, hts⟩ (c_X3_isThere l dC dI ad tN fN cB cI cJ cZ h0 p1 r0 pl0 _ ⟨fr_275, dr_278, rc_281, f_284, f_286, gn_287, f_288, f_289, f_290, f_291, f_292, sc_293, jc_294, f_297, f_299, rfl, by omega, by omega, by omega, by omega, by omega, by omega, hr_285, by omega, by omega, hr_298, hr_300⟩ s.heap.size) (cwV 1 hts gX3_isHeldBy_X3_isThere rfl rfl rfl (by decide +kernel) ⟨(Nat.le_of_ble_eq_true rfl), (Nat.le_of_ble_eq_true rfl)⟩) ⟨fun a U g mk q => by obtain ⟨q0, q1, qP, qK, qD, qE⟩ := q; exact ⟨q0, q1, qP, va_K.moved (u := U) (U := U.calling g mk a) (Vm.Alike.refl U.vm) qK, qD, ey_blind qE⟩, va_recv hK hPc (ci := 2) (q0 := 0) rfl rfl, fun U hU hW => ⟨rfl, by rw [hU], by rw [hU]; exact hPc, va_K.moved hW.alike hK, hDc.weaken (fun _ _ _ _ => trivial), ey_call hE hS hFc hU hW⟩⟩ rfl rfl hl.1 rfl (lv_room (Nat.le_of_ble_eq_true rfl)) dX3_isHeldBy_2 ⟨(Nat.le_of_ble_eq_true rfl), (Nat.le_of_ble_eq_true rfl)⟩) hS (fun q _ h => hFc q h) hFc (fun r_301 u t H locs ht hvm hw hB hz1 hk1 hS => ?_)
  obtain ⟨hP1, hD1⟩ := hB
  rw [ht] at hP1
  obtain ⟨hP, hD⟩ := bk_join hpm hP hD hk1 hFc (Cs1 := [[(h0, .inr (2, [.ref pl0, .int fr_275, .int dr_278, .int rc_281, .ref (r0 0), .ref (r0 1), .int gn_287, .ref (r0 2), .ref (r0 3), .ref (r0 4), .ref (r0 5), .ref (r0 6), .long sc_293, .int jc_294, .ref (r0 7), .ref (r0 8)])), (r0 0, .inl (cI, 10, .inl f_284)), (r0 1, .inl (cI, 10, .inl f_286)), (r0 2, .inl (cI, 6, .inl f_288)), (r0 3, .inl (cJ, 6, .inr (.inl f_289))), (r0 4, .inl (cJ, 6, .inr (.inl f_290))), (r0 5, .inl (cJ, 6, .inr (.inl f_291))), (r0 6, .inl (cJ, 10, .inr (.inl f_292))), (r0 7, .inl (cI, 70, .inl f_297)), (r0 8, .inl (cI, 70, .inl f_299))]]) hP1 hD1
  have hpm2 : List.Perm (([[(h0, .inr (2, [.ref pl0, .int fr_275, .int dr_278, .int rc_281, .ref (r0 0), .ref (r0 1), .int gn_287, .ref (r0 2), .ref (r0 3), .ref (r0 4), .ref (r0 5), .ref (r0 6), .long sc_293, .int jc_294, .ref (r0 7), .ref (r0 8)])), (r0 0, .inl (cI, 10, .inl f_284)), (r0 1, .inl (cI, 10, .inl f_286)), (r0 2, .inl (cI, 6, .inl f_288)), (r0 3, .inl (cJ, 6, .inr (.inl f_289))), (r0 4, .inl (cJ, 6, .inr (.inl f_290))), (r0 5, .inl (cJ, 6, .inr (.inl f_291))), (r0 6, .inl (cJ, 10, .inr (.inl f_292))), (r0 7, .inl (cI, 70, .inl f_297)), (r0 8, .inl (cI, 70, .inl f_299))]] : List va_W) ++ ([] : List va_W)) ([[(h0, .inr (2, [.ref pl0, .int fr_275, .int dr_278, .int rc_281, .ref (r0 0), .ref (r0 1), .int gn_287, .ref (r0 2), .ref (r0 3), .ref (r0 4), .ref (r0 5), .ref (r0 6), .long sc_293, .int jc_294, .ref (r0 7), .ref (r0 8)])), (r0 0, .inl (cI, 10, .inl f_284)), (r0 1, .inl (cI, 10, .inl f_286)), (r0 2, .inl (cI, 6, .inl f_288)), (r0 3, .inl (cJ, 6, .inr (.inl f_289))), (r0 4, .inl (cJ, 6, .inr (.inl f_290))), (r0 5, .inl (cJ, 6, .inr (.inl f_291))), (r0 6, .inl (cJ, 10, .inr (.inl f_292))), (r0 7, .inl (cI, 70, .inl f_297)), (r0 8, .inl (cI, 70, .inl f_299))]] : List va_W) := pm_n 1 [0] (by decide) rfl rfl
  have hP := bk_reP hpm2 hP
  have hD := bk_reD hpm2 hD
  have hP : va_P (dC, dI) vwCl (List.flatten [[(h0, .inr (2, [.ref pl0, .int fr_275, .int dr_278, .int rc_281, .ref (r0 0), .ref (r0 1), .int gn_287, .ref (r0 2), .ref (r0 3), .ref (r0 4), .ref (r0 5), .ref (r0 6), .long sc_293, .int jc_294, .ref (r0 7), .ref (r0 8)])), (r0 0, .inl (cI, 10, .inl f_284)), (r0 1, .inl (cI, 10, .inl f_286)), (r0 2, .inl (cI, 6, .inl f_288)), (r0 3, .inl (cJ, 6, .inr (.inl f_289))), (r0 4, .inl (cJ, 6, .inr (.inl f_290))), (r0 5, .inl (cJ, 6, .inr (.inl f_291))), (r0 6, .inl (cJ, 10, .inr (.inl f_292))), (r0 7, .inl (cI, 70, .inl f_297)), (r0 8, .inl (cI, 70, .inl f_299))]]) H := hP
  have hD : va_D A (List.flatten [[(h0, .inr (2, [.ref pl0, .int fr_275, .int dr_278, .int rc_281, .ref (r0 0), .ref (r0 1), .int gn_287, .ref (r0 2), .ref (r0 3), .ref (r0 4), .ref (r0 5), .ref (r0 6), .long sc_293, .int jc_294, .ref (r0 7), .ref (r0 8)])), (r0 0, .inl (cI, 10, .inl f_284)), (r0 1, .inl (cI, 10, .inl f_286)), (r0 2, .inl (cI, 6, .inl f_288)), (r0 3, .inl (cJ, 6, .inr (.inl f_289))), (r0 4, .inl (cJ, 6, .inr (.inl f_290))), (r0 5, .inl (cJ, 6, .inr (.inl f_291))), (r0 6, .inl (cJ, 10, .inr (.inl f_292))), (r0 7, .inl (cI, 70, .inl f_297)), (r0 8, .inl (cI, 70, .inl f_299))]]) := hD
  obtain ⟨hlr_301, hhr_301⟩ := hw
  refine lv_if_eq (tgt := 25) hx hb dX3_isHeldBy_5 (by decide) (fun c_302 => ?_) (fun c_302 => ?_)
  · have c_302 : r_301.toInt = 0 := f_eq rfl tI_0 c_302
    refine lv_iconst (v := 0) hx hb dX3_isHeldBy_25 (by decide) ?_
    rw [hQ0]
    exact W.zret (v := 0) hx hb hr (by decide) (fun t ht hW => ⟨⟨0, (), rfl, ⟨by decide, by decide⟩, ⟨by rw [ht]; exact hP, hD⟩⟩, hS.F ht⟩) hS.2.2 dX3_isHeldBy_26
  · have c_302 : ¬ r_301.toInt = 0 := f_ne rfl tI_0 c_302
    refine lv_aload_n hx hb dX3_isHeldBy_8 rfl (lv_at hl 0 rfl) ?_
    refine va_get (D := (dC, dI)) (ci := 2) (v := .ref (r0 1)) (C := RX3) (T := TX3) (N := 16) hx hb hts iw_X3_isHeldBy_X3 hown hK hP 0 rfl rfl 5 (by decide) (hts (.fieldLink RX3 32 "HungFloors$Frame" "holds" "[I") (by decide +kernel)) (fun _ h9 => h9) rfl dX3_isHeldBy_9 ?_
    refine lv_iload_n hx hb dX3_isHeldBy_12 rfl (lv_at hl 1 rfl) ?_
    refine va_iald hx hb hK hP 2 1 rfl rfl (v_in rfl (by omega) (by omega)) dX3_isHeldBy_13 ?_
    refine lv_topi (fun z_303 ez_303 => ?_)
    refine lv_iload_n hx hb dX3_isHeldBy_14 rfl (lv_at hl 2 rfl) ?_
    refine lv_ishr hx hb dX3_isHeldBy_15 ?_
    refine lv_topi (fun z_304 ez_304 => ?_)
    refine lv_iconst (v := 1) hx hb dX3_isHeldBy_16 (by decide) ?_
    refine lv_iand hx hb dX3_isHeldBy_17 ?_
    refine lv_topi (fun z_305 ez_305 => ?_)
    refine lv_if_eq (tgt := 25) hx hb dX3_isHeldBy_18 (by decide) (fun c_306 => ?_) (fun c_306 => ?_)
    · have c_306 : z_305.toInt = 0 := f_eq rfl tI_0 c_306
      refine lv_iconst (v := 0) hx hb dX3_isHeldBy_25 (by decide) ?_
      rw [hQ0]
      exact W.zret (v := 0) hx hb hr (by decide) (fun t ht hW => ⟨⟨0, (), rfl, ⟨by decide, by decide⟩, ⟨by rw [ht]; exact hP, hD⟩⟩, hS.F ht⟩) hS.2.2 dX3_isHeldBy_26
    · have c_306 : ¬ z_305.toInt = 0 := f_ne rfl tI_0 c_306
      refine lv_iconst (v := 1) hx hb dX3_isHeldBy_21 (by decide) ?_
      refine lv_goto (tgt := 26) hx hb dX3_isHeldBy_22 (by decide) ?_
      rw [hQ0]
      exact W.zret (v := 1) hx hb hr (by decide) (fun t ht hW => ⟨⟨1, (), rfl, ⟨by decide, by decide⟩, ⟨by rw [ht]; exact hP, hD⟩⟩, hS.F ht⟩) hS.2.2 dX3_isHeldBy_26
set_option maxHeartbeats 4000000 in
set_option maxRecDepth 100000 in
theorem c_X3_isJointThere (l : Launch) (dC : Nat → ClassId) (dI : Nat → Nat → Nat) (ad : Nat → Nat) (tN : Nat) (fN : Nat → Int64) (cB cI cJ cZ : ClassId) (h0 : Nat) (p1 : Int32) (r0 : Nat → Nat) (pl0 : Nat) (w0 : va_W) (o0 : ok_frame ad cB cI cJ cZ h0 r0 pl0 w0) (sz : Nat) (up11 : 0 ≤ p1.toInt) (up12 : p1.toInt ≤ 69) : Met l yX3_isJointThere wsX3_isJointThere ({ frames := 2, cells := 0, slots := 0, locals := 43 } : Room) (va_Pc [.ref h0, .int p1] (fun U => U.heap.size = sz ∧ va_P (dC, dI) vwCl (List.flatten [w0]) U.heap ∧ va_K (dC, dI) vwCl [(cB, .byte), (cI, .int), (cJ, .long), (cZ, .boolean)] U ∧ va_D (fun _ => True) (List.flatten [w0]) ∧ ex_Y ad tN fN (va_A (List.flatten [w0]) sz) U)) (va_Qi (fun (r : Int32) (_ : Unit) => 0 ≤ r.toInt ∧ r.toInt ≤ 1) (fun (_ : Unit) (t : State) => va_P (dC, dI) vwCl (List.flatten [w0]) t.heap ∧ va_D (va_A (List.flatten [w0]) sz) (List.flatten [w0])) (va_A (List.flatten [w0]) sz)) 0 0 (va_A (List.flatten [w0]) sz) := by
  refine Met.ofW (cc := cX3_isJointThere) (maxL := 3) (ret := (some .boolean)) (by decide) rfl ?_
  intro p e s m args below meth c s₁ B hml hv
  obtain ⟨rfl, hsz, hP, hK, hD0, hE⟩ := hv
  have hx := B.exec
  have hb := B.bytes
  have hr := B.returns
  have hts := atoms_spec (ws := wsX3_isJointThere) B.pre
  have hown : s.vm.findClass RX3 = some m.cls := findClass_of_methodNamed B.named
  have hlocks := B.notSynchronized
  subst hsz
  have hD := hD0.self (sz := s.heap.size)
  generalize hAe : va_A (List.flatten [w0]) s.heap.size = A at hD hE ⊢
  have hA : ∀ q : Nat, s.heap.size ≤ q → A q := fun q h => by rw [← hAe]; exact Or.inr h
  have hS : va_S A s.heap s.heap [] := va_S.rf
  have hl := lv_entry ([.ref h0, .int p1]) (n := 3) (Nat.le_of_ble_eq_true rfl)
  rw [lg_entry_eq]
  generalize (lg_sl ([.ref h0, .int p1]) ++ List.replicate (3 - (lg_sl ([.ref h0, .int p1])).length) Slot.unset).toArray = ls at hl ⊢
  have hl : lv_has ls 3 [(0, .ref h0), (1, .int p1)] := hl
  clear hAe
  refine W_name (fun Q0 hQ0 => ?_)
  refine lv_aload_n hx hb dX3_isJointThere_0 rfl (lv_at hl 0 rfl) ?_
  obtain ⟨fr_307, dr_310, rc_313, f_316, f_318, gn_319, f_320, f_321, f_322, f_323, f_324, sc_325, jc_326, f_329, f_331, rfl, hl_308, hh_309, hl_311, hh_312, hl_314, hh_315, hr_317, hl_327, hh_328, hr_330, hr_332⟩ := o0
  refine va_get (D := (dC, dI)) (ci := 2) (v := .ref (r0 8)) (C := RX3) (T := TX3) (N := 16) hx hb hts iw_X3_isJointThere_X3 hown hK hP 0 rfl rfl 15 (by decide) (hts (.fieldLink RX3 64 "HungFloors$Frame" "jointFloor" "[I") (by decide +kernel)) (fun _ h9 => h9) rfl dX3_isJointThere_1 ?_
  refine lv_iload_n hx hb dX3_isJointThere_4 rfl (lv_at hl 1 rfl) ?_
  refine va_iald hx hb hK hP 9 1 rfl rfl (v_in rfl (by omega) (by omega)) dX3_isJointThere_5 ?_
  refine lv_topi (fun z_333 ez_333 => ?_)
  have gz_333 := rg_at hr_332 ez_333
  have g1z_333 := gz_333.1
  have g2z_333 := gz_333.2
  refine lv_istore_n (lv' := [(2, .int z_333), (0, .ref h0), (1, .int p1)]) hx hb dX3_isJointThere_6 rfl hl (by decide) rfl (fun ls hl => ?_)
  refine lv_iload_n hx hb dX3_isJointThere_7 rfl (lv_at hl 0 rfl) ?_
  refine lv_if_ge (tgt := 24) hx hb dX3_isJointThere_8 (by decide) (fun c_334 => ?_) (fun c_334 => ?_)
  · have c_334 : 0 ≤ z_333.toInt := f_le tI_0 rfl c_334
    refine lv_aload_n hx hb dX3_isJointThere_24 rfl (lv_at hl 1 rfl) ?_
    refine lv_aload_n hx hb dX3_isJointThere_25 rfl (lv_at hl 1 rfl) ?_
    refine va_get (D := (dC, dI)) (ci := 2) (v := .ref (r0 7)) (C := RX3) (T := TX3) (N := 16) hx hb hts iw_X3_isJointThere_X3 hown hK hP 0 rfl rfl 14 (by decide) (hts (.fieldLink RX3 61 "HungFloors$Frame" "jointRod" "[I") (by decide +kernel)) (fun _ h9 => h9) rfl dX3_isJointThere_26 ?_
    refine lv_iload_n hx hb dX3_isJointThere_29 rfl (lv_at hl 2 rfl) ?_
    refine va_iald hx hb hK hP 8 1 rfl rfl (v_in rfl (by omega) (by omega)) dX3_isJointThere_30 ?_
    refine lv_topi (fun z_335 ez_335 => ?_)
    have gz_335 := rg_at hr_330 ez_335
    have g1z_335 := gz_335.1
    have g2z_335 := gz_335.2
    refine lv_iload_n hx hb dX3_isJointThere_31 rfl (lv_at hl 0 rfl) ?_
    have hpm : List.Perm ([[(h0, .inr (2, [.ref pl0, .int fr_307, .int dr_310, .int rc_313, .ref (r0 0), .ref (r0 1), .int gn_319, .ref (r0 2), .ref (r0 3), .ref (r0 4), .ref (r0 5), .ref (r0 6), .long sc_325, .int jc_326, .ref (r0 7), .ref (r0 8)])), (r0 0, .inl (cI, 10, .inl f_316)), (r0 1, .inl (cI, 10, .inl f_318)), (r0 2, .inl (cI, 6, .inl f_320)), (r0 3, .inl (cJ, 6, .inr (.inl f_321))), (r0 4, .inl (cJ, 6, .inr (.inl f_322))), (r0 5, .inl (cJ, 6, .inr (.inl f_323))), (r0 6, .inl (cJ, 10, .inr (.inl f_324))), (r0 7, .inl (cI, 70, .inl f_329)), (r0 8, .inl (cI, 70, .inl f_331))]] : List va_W) (([[(h0, .inr (2, [.ref pl0, .int fr_307, .int dr_310, .int rc_313, .ref (r0 0), .ref (r0 1), .int gn_319, .ref (r0 2), .ref (r0 3), .ref (r0 4), .ref (r0 5), .ref (r0 6), .long sc_325, .int jc_326, .ref (r0 7), .ref (r0 8)])), (r0 0, .inl (cI, 10, .inl f_316)), (r0 1, .inl (cI, 10, .inl f_318)), (r0 2, .inl (cI, 6, .inl f_320)), (r0 3, .inl (cJ, 6, .inr (.inl f_321))), (r0 4, .inl (cJ, 6, .inr (.inl f_322))), (r0 5, .inl (cJ, 6, .inr (.inl f_323))), (r0 6, .inl (cJ, 10, .inr (.inl f_324))), (r0 7, .inl (cI, 70, .inl f_329)), (r0 8, .inl (cI, 70, .inl f_331))]] : List va_W) ++ ([] : List va_W)) := pm_n 1 [0] (by decide) rfl rfl
    have hPc := bk_P hpm hP
    have hDc := bk_D hpm hD
    have hFc := bk_F hpm hD hS hA
    refine va_calli (va_runV (As := [.int z_335, .int z_333]) (rest := []) ⟨hx, hb, hml, hown, hts⟩ (c_X3_isHeldBy l dC dI ad tN fN cB cI cJ cZ h0 z_335 z_333 r0 pl0 _ ⟨fr_307, dr_310, rc_313, f_316, f_318, gn_319, f_320, f_321, f_322, f_323, f_324, sc_325, jc_326, f_329, f_331, rfl, by omega, by omega, by omega, by omega, by omega, by omega, hr_317, by omega, by omega, hr_330, hr_332⟩ s.heap.size (by omega) (by omega)) (cwV 2 hts gX3_isJointThere_X3_isHeldBy rfl rfl rfl (by decide +kernel) ⟨(Nat.le_of_ble_eq_true rfl), (Nat.le_of_ble_eq_true rfl)⟩) ⟨fun a U g mk q => by obtain ⟨q0, q1, qP, qK, qD, qE⟩ := q; exact ⟨q0, q1, qP, va_K.moved (u := U) (U := U.calling g mk a) (Vm.Alike.refl U.vm) qK, qD, ey_blind qE⟩, va_recv hK hPc (ci := 2) (q0 := 0) rfl rfl, fun U hU hW => ⟨rfl, by rw [hU], by rw [hU]; exact hPc, va_K.moved hW.alike hK, hDc.weaken (fun _ _ _ _ => trivial), ey_call hE hS hFc hU hW⟩⟩ rfl rfl hl.1 rfl (lv_room (Nat.le_of_ble_eq_true rfl)) dX3_isJointThere_32 ⟨(Nat.le_of_ble_eq_true rfl), (Nat.le_of_ble_eq_true rfl)⟩) hS (fun q _ h => hFc q h) hFc (fun r_336 u t H locs ht hvm hw hB hz1 hk1 hS => ?_)
    obtain ⟨hP1, hD1⟩ := hB
    rw [ht] at hP1
    obtain ⟨hP, hD⟩ := bk_join hpm hP hD hk1 hFc (Cs1 := [[(h0, .inr (2, [.ref pl0, .int fr_307, .int dr_310, .int rc_313, .ref (r0 0), .ref (r0 1), .int gn_319, .ref (r0 2), .ref (r0 3), .ref (r0 4), .ref (r0 5), .ref (r0 6), .long sc_325, .int jc_326, .ref (r0 7), .ref (r0 8)])), (r0 0, .inl (cI, 10, .inl f_316)), (r0 1, .inl (cI, 10, .inl f_318)), (r0 2, .inl (cI, 6, .inl f_320)), (r0 3, .inl (cJ, 6, .inr (.inl f_321))), (r0 4, .inl (cJ, 6, .inr (.inl f_322))), (r0 5, .inl (cJ, 6, .inr (.inl f_323))), (r0 6, .inl (cJ, 10, .inr (.inl f_324))), (r0 7, .inl (cI, 70, .inl f_329)), (r0 8, .inl (cI, 70, .inl f_331))]]) hP1 hD1
    have hpm2 : List.Perm (([[(h0, .inr (2, [.ref pl0, .int fr_307, .int dr_310, .int rc_313, .ref (r0 0), .ref (r0 1), .int gn_319, .ref (r0 2), .ref (r0 3), .ref (r0 4), .ref (r0 5), .ref (r0 6), .long sc_325, .int jc_326, .ref (r0 7), .ref (r0 8)])), (r0 0, .inl (cI, 10, .inl f_316)), (r0 1, .inl (cI, 10, .inl f_318)), (r0 2, .inl (cI, 6, .inl f_320)), (r0 3, .inl (cJ, 6, .inr (.inl f_321))), (r0 4, .inl (cJ, 6, .inr (.inl f_322))), (r0 5, .inl (cJ, 6, .inr (.inl f_323))), (r0 6, .inl (cJ, 10, .inr (.inl f_324))), (r0 7, .inl (cI, 70, .inl f_329)), (r0 8, .inl (cI, 70, .inl f_331))]] : List va_W) ++ ([] : List va_W)) ([[(h0, .inr (2, [.ref pl0, .int fr_307, .int dr_310, .int rc_313, .ref (r0 0), .ref (r0 1), .int gn_319, .ref (r0 2), .ref (r0 3), .ref (r0 4), .ref (r0 5), .ref (r0 6), .long sc_325, .int jc_326, .ref (r0 7), .ref (r0 8)])), (r0 0, .inl (cI, 10, .inl f_316)), (r0 1, .inl (cI, 10, .inl f_318)), (r0 2, .inl (cI, 6, .inl f_320)), (r0 3, .inl (cJ, 6, .inr (.inl f_321))), (r0 4, .inl (cJ, 6, .inr (.inl f_322))), (r0 5, .inl (cJ, 6, .inr (.inl f_323))), (r0 6, .inl (cJ, 10, .inr (.inl f_324))), (r0 7, .inl (cI, 70, .inl f_329)), (r0 8, .inl (cI, 70, .inl f_331))]] : List va_W) := pm_n 1 [0] (by decide) rfl rfl
    have hP := bk_reP hpm2 hP
    have hD := bk_reD hpm2 hD
    have hP : va_P (dC, dI) vwCl (List.flatten [[(h0, .inr (2, [.ref pl0, .int fr_307, .int dr_310, .int rc_313, .ref (r0 0), .ref (r0 1), .int gn_319, .ref (r0 2), .ref (r0 3), .ref (r0 4), .ref (r0 5), .ref (r0 6), .long sc_325, .int jc_326, .ref (r0 7), .ref (r0 8)])), (r0 0, .inl (cI, 10, .inl f_316)), (r0 1, .inl (cI, 10, .inl f_318)), (r0 2, .inl (cI, 6, .inl f_320)), (r0 3, .inl (cJ, 6, .inr (.inl f_321))), (r0 4, .inl (cJ, 6, .inr (.inl f_322))), (r0 5, .inl (cJ, 6, .inr (.inl f_323))), (r0 6, .inl (cJ, 10, .inr (.inl f_324))), (r0 7, .inl (cI, 70, .inl f_329)), (r0 8, .inl (cI, 70, .inl f_331))]]) H := hP
    have hD : va_D A (List.flatten [[(h0, .inr (2, [.ref pl0, .int fr_307, .int dr_310, .int rc_313, .ref (r0 0), .ref (r0 1), .int gn_319, .ref (r0 2), .ref (r0 3), .ref (r0 4), .ref (r0 5), .ref (r0 6), .long sc_325, .int jc_326, .ref (r0 7), .ref (r0 8)])), (r0 0, .inl (cI, 10, .inl f_316)), (r0 1, .inl (cI, 10, .inl f_318)), (r0 2, .inl (cI, 6, .inl f_320)), (r0 3, .inl (cJ, 6, .inr (.inl f_321))), (r0 4, .inl (cJ, 6, .inr (.inl f_322))), (r0 5, .inl (cJ, 6, .inr (.inl f_323))), (r0 6, .inl (cJ, 10, .inr (.inl f_324))), (r0 7, .inl (cI, 70, .inl f_329)), (r0 8, .inl (cI, 70, .inl f_331))]]) := hD
    obtain ⟨hlr_336, hhr_336⟩ := hw
    rw [hQ0]
    exact W.zret (v := r_336) hx hb hr (z_nar (by omega) (by omega)) (fun t ht hW => ⟨⟨r_336, (), rfl, ⟨by omega, by omega⟩, ⟨by rw [ht]; exact hP, hD⟩⟩, hS.F ht⟩) hS.2.2 dX3_isJointThere_35
  · have c_334 : z_333.toInt < 0 := f_nle tI_0 rfl c_334
    refine lv_aload_n hx hb dX3_isJointThere_11 rfl (lv_at hl 1 rfl) ?_
    refine lv_aload_n hx hb dX3_isJointThere_12 rfl (lv_at hl 1 rfl) ?_
    refine va_get (D := (dC, dI)) (ci := 2) (v := .ref (r0 7)) (C := RX3) (T := TX3) (N := 16) hx hb hts iw_X3_isJointThere_X3 hown hK hP 0 rfl rfl 14 (by decide) (hts (.fieldLink RX3 61 "HungFloors$Frame" "jointRod" "[I") (by decide +kernel)) (fun _ h9 => h9) rfl dX3_isJointThere_13 ?_
    refine lv_iload_n hx hb dX3_isJointThere_16 rfl (lv_at hl 2 rfl) ?_
    refine va_iald hx hb hK hP 8 1 rfl rfl (v_in rfl (by omega) (by omega)) dX3_isJointThere_17 ?_
    refine lv_topi (fun z_337 ez_337 => ?_)
    have gz_337 := rg_at hr_330 ez_337
    have g1z_337 := gz_337.1
    have g2z_337 := gz_337.2
    have hpm : List.Perm ([[(h0, .inr (2, [.ref pl0, .int fr_307, .int dr_310, .int rc_313, .ref (r0 0), .ref (r0 1), .int gn_319, .ref (r0 2), .ref (r0 3), .ref (r0 4), .ref (r0 5), .ref (r0 6), .long sc_325, .int jc_326, .ref (r0 7), .ref (r0 8)])), (r0 0, .inl (cI, 10, .inl f_316)), (r0 1, .inl (cI, 10, .inl f_318)), (r0 2, .inl (cI, 6, .inl f_320)), (r0 3, .inl (cJ, 6, .inr (.inl f_321))), (r0 4, .inl (cJ, 6, .inr (.inl f_322))), (r0 5, .inl (cJ, 6, .inr (.inl f_323))), (r0 6, .inl (cJ, 10, .inr (.inl f_324))), (r0 7, .inl (cI, 70, .inl f_329)), (r0 8, .inl (cI, 70, .inl f_331))]] : List va_W) (([[(h0, .inr (2, [.ref pl0, .int fr_307, .int dr_310, .int rc_313, .ref (r0 0), .ref (r0 1), .int gn_319, .ref (r0 2), .ref (r0 3), .ref (r0 4), .ref (r0 5), .ref (r0 6), .long sc_325, .int jc_326, .ref (r0 7), .ref (r0 8)])), (r0 0, .inl (cI, 10, .inl f_316)), (r0 1, .inl (cI, 10, .inl f_318)), (r0 2, .inl (cI, 6, .inl f_320)), (r0 3, .inl (cJ, 6, .inr (.inl f_321))), (r0 4, .inl (cJ, 6, .inr (.inl f_322))), (r0 5, .inl (cJ, 6, .inr (.inl f_323))), (r0 6, .inl (cJ, 10, .inr (.inl f_324))), (r0 7, .inl (cI, 70, .inl f_329)), (r0 8, .inl (cI, 70, .inl f_331))]] : List va_W) ++ ([] : List va_W)) := pm_n 1 [0] (by decide) rfl rfl
    have hPc := bk_P hpm hP
    have hDc := bk_D hpm hD
    have hFc := bk_F hpm hD hS hA
    refine va_calli (va_runV (As := [.int z_337]) (rest := []) ⟨hx, hb, hml, hown, hts⟩ (c_X3_isThere l dC dI ad tN fN cB cI cJ cZ h0 z_337 r0 pl0 _ ⟨fr_307, dr_310, rc_313, f_316, f_318, gn_319, f_320, f_321, f_322, f_323, f_324, sc_325, jc_326, f_329, f_331, rfl, by omega, by omega, by omega, by omega, by omega, by omega, hr_317, by omega, by omega, hr_330, hr_332⟩ s.heap.size) (cwV 1 hts gX3_isJointThere_X3_isThere rfl rfl rfl (by decide +kernel) ⟨(Nat.le_of_ble_eq_true rfl), (Nat.le_of_ble_eq_true rfl)⟩) ⟨fun a U g mk q => by obtain ⟨q0, q1, qP, qK, qD, qE⟩ := q; exact ⟨q0, q1, qP, va_K.moved (u := U) (U := U.calling g mk a) (Vm.Alike.refl U.vm) qK, qD, ey_blind qE⟩, va_recv hK hPc (ci := 2) (q0 := 0) rfl rfl, fun U hU hW => ⟨rfl, by rw [hU], by rw [hU]; exact hPc, va_K.moved hW.alike hK, hDc.weaken (fun _ _ _ _ => trivial), ey_call hE hS hFc hU hW⟩⟩ rfl rfl hl.1 rfl (lv_room (Nat.le_of_ble_eq_true rfl)) dX3_isJointThere_18 ⟨(Nat.le_of_ble_eq_true rfl), (Nat.le_of_ble_eq_true rfl)⟩) hS (fun q _ h => hFc q h) hFc (fun r_338 u t H locs ht hvm hw hB hz1 hk1 hS => ?_)
    obtain ⟨hP1, hD1⟩ := hB
    rw [ht] at hP1
    obtain ⟨hP, hD⟩ := bk_join hpm hP hD hk1 hFc (Cs1 := [[(h0, .inr (2, [.ref pl0, .int fr_307, .int dr_310, .int rc_313, .ref (r0 0), .ref (r0 1), .int gn_319, .ref (r0 2), .ref (r0 3), .ref (r0 4), .ref (r0 5), .ref (r0 6), .long sc_325, .int jc_326, .ref (r0 7), .ref (r0 8)])), (r0 0, .inl (cI, 10, .inl f_316)), (r0 1, .inl (cI, 10, .inl f_318)), (r0 2, .inl (cI, 6, .inl f_320)), (r0 3, .inl (cJ, 6, .inr (.inl f_321))), (r0 4, .inl (cJ, 6, .inr (.inl f_322))), (r0 5, .inl (cJ, 6, .inr (.inl f_323))), (r0 6, .inl (cJ, 10, .inr (.inl f_324))), (r0 7, .inl (cI, 70, .inl f_329)), (r0 8, .inl (cI, 70, .inl f_331))]]) hP1 hD1
    have hpm2 : List.Perm (([[(h0, .inr (2, [.ref pl0, .int fr_307, .int dr_310, .int rc_313, .ref (r0 0), .ref (r0 1), .int gn_319, .ref (r0 2), .ref (r0 3), .ref (r0 4), .ref (r0 5), .ref (r0 6), .long sc_325, .int jc_326, .ref (r0 7), .ref (r0 8)])), (r0 0, .inl (cI, 10, .inl f_316)), (r0 1, .inl (cI, 10, .inl f_318)), (r0 2, .inl (cI, 6, .inl f_320)), (r0 3, .inl (cJ, 6, .inr (.inl f_321))), (r0 4, .inl (cJ, 6, .inr (.inl f_322))), (r0 5, .inl (cJ, 6, .inr (.inl f_323))), (r0 6, .inl (cJ, 10, .inr (.inl f_324))), (r0 7, .inl (cI, 70, .inl f_329)), (r0 8, .inl (cI, 70, .inl f_331))]] : List va_W) ++ ([] : List va_W)) ([[(h0, .inr (2, [.ref pl0, .int fr_307, .int dr_310, .int rc_313, .ref (r0 0), .ref (r0 1), .int gn_319, .ref (r0 2), .ref (r0 3), .ref (r0 4), .ref (r0 5), .ref (r0 6), .long sc_325, .int jc_326, .ref (r0 7), .ref (r0 8)])), (r0 0, .inl (cI, 10, .inl f_316)), (r0 1, .inl (cI, 10, .inl f_318)), (r0 2, .inl (cI, 6, .inl f_320)), (r0 3, .inl (cJ, 6, .inr (.inl f_321))), (r0 4, .inl (cJ, 6, .inr (.inl f_322))), (r0 5, .inl (cJ, 6, .inr (.inl f_323))), (r0 6, .inl (cJ, 10, .inr (.inl f_324))), (r0 7, .inl (cI, 70, .inl f_329)), (r0 8, .inl (cI, 70, .inl f_331))]] : List va_W) := pm_n 1 [0] (by decide) rfl rfl
    have hP := bk_reP hpm2 hP
    have hD := bk_reD hpm2 hD
    have hP : va_P (dC, dI) vwCl (List.flatten [[(h0, .inr (2, [.ref pl0, .int fr_307, .int dr_310, .int rc_313, .ref (r0 0), .ref (r0 1), .int gn_319, .ref (r0 2), .ref (r0 3), .ref (r0 4), .ref (r0 5), .ref (r0 6), .long sc_325, .int jc_326, .ref (r0 7), .ref (r0 8)])), (r0 0, .inl (cI, 10, .inl f_316)), (r0 1, .inl (cI, 10, .inl f_318)), (r0 2, .inl (cI, 6, .inl f_320)), (r0 3, .inl (cJ, 6, .inr (.inl f_321))), (r0 4, .inl (cJ, 6, .inr (.inl f_322))), (r0 5, .inl (cJ, 6, .inr (.inl f_323))), (r0 6, .inl (cJ, 10, .inr (.inl f_324))), (r0 7, .inl (cI, 70, .inl f_329)), (r0 8, .inl (cI, 70, .inl f_331))]]) H := hP
    have hD : va_D A (List.flatten [[(h0, .inr (2, [.ref pl0, .int fr_307, .int dr_310, .int rc_313, .ref (r0 0), .ref (r0 1), .int gn_319, .ref (r0 2), .ref (r0 3), .ref (r0 4), .ref (r0 5), .ref (r0 6), .long sc_325, .int jc_326, .ref (r0 7), .ref (r0 8)])), (r0 0, .inl (cI, 10, .inl f_316)), (r0 1, .inl (cI, 10, .inl f_318)), (r0 2, .inl (cI, 6, .inl f_320)), (r0 3, .inl (cJ, 6, .inr (.inl f_321))), (r0 4, .inl (cJ, 6, .inr (.inl f_322))), (r0 5, .inl (cJ, 6, .inr (.inl f_323))), (r0 6, .inl (cJ, 10, .inr (.inl f_324))), (r0 7, .inl (cI, 70, .inl f_329)), (r0 8, .inl (cI, 70, .inl f_331))]]) := hD
    obtain ⟨hlr_338, hhr_338⟩ := hw
    refine lv_goto (tgt := 35) hx hb dX3_isJointThere_21 (by decide) ?_
    rw [hQ0]
    exact W.zret (v := r_338) hx hb hr (z_nar (by omega) (by omega)) (fun t ht hW => ⟨⟨r_338, (), rfl, ⟨by omega, by omega⟩, ⟨by rw [ht]; exact hP, hD⟩⟩, hS.F ht⟩) hS.2.2 dX3_isJointThere_35
set_option maxHeartbeats 4000000 in
set_option maxRecDepth 100000 in
theorem c_X3_bornBy (l : Launch) (dC : Nat → ClassId) (dI : Nat → Nat → Nat) (ad : Nat → Nat) (tN : Nat) (fN : Nat → Int64) (cB cI cJ cZ : ClassId) (h0 : Nat) (p1 : Int32) (r0 : Nat → Nat) (pl0 : Nat) (w0 : va_W) (o0 : ok_frame ad cB cI cJ cZ h0 r0 pl0 w0) (sz : Nat) (up11 : 0 ≤ p1.toInt) (up12 : p1.toInt ≤ 69) : Met l yX3_bornBy wsX3_bornBy ({ frames := 0, cells := 0, slots := 0, locals := 0 } : Room) (va_Pc [.ref h0, .int p1] (fun U => U.heap.size = sz ∧ va_P (dC, dI) vwCl (List.flatten [w0]) U.heap ∧ va_K (dC, dI) vwCl [(cB, .byte), (cI, .int), (cJ, .long), (cZ, .boolean)] U ∧ va_D (fun _ => True) (List.flatten [w0]) ∧ ex_Y ad tN fN (va_A (List.flatten [w0]) sz) U)) (va_Ql (fun (r : Int64) (_ : Unit) => True) (fun (_ : Unit) (t : State) => va_P (dC, dI) vwCl (List.flatten [w0]) t.heap ∧ va_D (va_A (List.flatten [w0]) sz) (List.flatten [w0])) (va_A (List.flatten [w0]) sz)) 0 0 (va_A (List.flatten [w0]) sz) := by
  refine Met.ofW (cc := cX3_bornBy) (maxL := 3) (ret := (some .long)) (by decide) rfl ?_
  intro p e s m args below meth c s₁ B hml hv
  obtain ⟨rfl, hsz, hP, hK, hD0, hE⟩ := hv
  have hx := B.exec
  have hb := B.bytes
  have hr := B.returns
  have hts := atoms_spec (ws := wsX3_bornBy) B.pre
  have hown : s.vm.findClass RX3 = some m.cls := findClass_of_methodNamed B.named
  have hlocks := B.notSynchronized
  subst hsz
  have hD := hD0.self (sz := s.heap.size)
  generalize hAe : va_A (List.flatten [w0]) s.heap.size = A at hD hE ⊢
  have hA : ∀ q : Nat, s.heap.size ≤ q → A q := fun q h => by rw [← hAe]; exact Or.inr h
  have hS : va_S A s.heap s.heap [] := va_S.rf
  have hl := lv_entry ([.ref h0, .int p1]) (n := 3) (Nat.le_of_ble_eq_true rfl)
  rw [lg_entry_eq]
  generalize (lg_sl ([.ref h0, .int p1]) ++ List.replicate (3 - (lg_sl ([.ref h0, .int p1])).length) Slot.unset).toArray = ls at hl ⊢
  have hl : lv_has ls 3 [(0, .ref h0), (1, .int p1)] := hl
  clear hAe
  refine W_name (fun Q0 hQ0 => ?_)
  refine lv_aload_n hx hb dX3_bornBy_0 rfl (lv_at hl 0 rfl) ?_
  obtain ⟨fr_339, dr_342, rc_345, f_348, f_350, gn_351, f_352, f_353, f_354, f_355, f_356, sc_357, jc_358, f_361, f_363, rfl, hl_340, hh_341, hl_343, hh_344, hl_346, hh_347, hr_349, hl_359, hh_360, hr_362, hr_364⟩ := o0
  refine va_get (D := (dC, dI)) (ci := 2) (v := .ref (r0 8)) (C := RX3) (T := TX3) (N := 16) hx hb hts iw_X3_bornBy_X3 hown hK hP 0 rfl rfl 15 (by decide) (hts (.fieldLink RX3 64 "HungFloors$Frame" "jointFloor" "[I") (by decide +kernel)) (fun _ h9 => h9) rfl dX3_bornBy_1 ?_
  refine lv_iload_n hx hb dX3_bornBy_4 rfl (lv_at hl 1 rfl) ?_
  refine va_iald hx hb hK hP 9 1 rfl rfl (v_in rfl (by omega) (by omega)) dX3_bornBy_5 ?_
  refine lv_topi (fun z_365 ez_365 => ?_)
  have gz_365 := rg_at hr_364 ez_365
  have g1z_365 := gz_365.1
  have g2z_365 := gz_365.2
  refine lv_istore_n (lv' := [(2, .int z_365), (0, .ref h0), (1, .int p1)]) hx hb dX3_bornBy_6 rfl hl (by decide) rfl (fun ls hl => ?_)
  refine lv_iload_n hx hb dX3_bornBy_7 rfl (lv_at hl 0 rfl) ?_
  refine lv_if_ge (tgt := 25) hx hb dX3_bornBy_8 (by decide) (fun c_366 => ?_) (fun c_366 => ?_)
  · have c_366 : 0 ≤ z_365.toInt := f_le tI_0 rfl c_366
    refine lv_aload_n hx hb dX3_bornBy_25 rfl (lv_at hl 1 rfl) ?_
    refine va_get (D := (dC, dI)) (ci := 2) (v := .ref (r0 5)) (C := RX3) (T := TX3) (N := 16) hx hb hts iw_X3_bornBy_X3 hown hK hP 0 rfl rfl 10 (by decide) (hts (.fieldLink RX3 48 "HungFloors$Frame" "shareOf" "[J") (by decide +kernel)) (fun _ h9 => h9) rfl dX3_bornBy_26 ?_
    refine lv_iload_n hx hb dX3_bornBy_29 rfl (lv_at hl 0 rfl) ?_
    refine va_lald hx hb hK hP 6 2 rfl rfl (v_in rfl (by omega) (by omega)) dX3_bornBy_30 ?_
    refine lv_topl (fun z_367 ez_367 => ?_)
    rw [hQ0]
    exact W.lret (v := z_367) hx hb hr (fun t ht hW => ⟨⟨z_367, (), rfl, trivial, ⟨by rw [ht]; exact hP, hD⟩⟩, hS.F ht⟩) hS.2.2 dX3_bornBy_31
  · have c_366 : z_365.toInt < 0 := f_nle tI_0 rfl c_366
    refine lv_aload_n hx hb dX3_bornBy_11 rfl (lv_at hl 1 rfl) ?_
    refine va_get (D := (dC, dI)) (ci := 2) (v := .ref (r0 6)) (C := RX3) (T := TX3) (N := 16) hx hb hts iw_X3_bornBy_X3 hown hK hP 0 rfl rfl 11 (by decide) (hts (.fieldLink RX3 51 "HungFloors$Frame" "bornByRod" "[J") (by decide +kernel)) (fun _ h9 => h9) rfl dX3_bornBy_12 ?_
    refine lv_aload_n hx hb dX3_bornBy_15 rfl (lv_at hl 1 rfl) ?_
    refine va_get (D := (dC, dI)) (ci := 2) (v := .ref (r0 7)) (C := RX3) (T := TX3) (N := 16) hx hb hts iw_X3_bornBy_X3 hown hK hP 0 rfl rfl 14 (by decide) (hts (.fieldLink RX3 61 "HungFloors$Frame" "jointRod" "[I") (by decide +kernel)) (fun _ h9 => h9) rfl dX3_bornBy_16 ?_
    refine lv_iload_n hx hb dX3_bornBy_19 rfl (lv_at hl 2 rfl) ?_
    refine va_iald hx hb hK hP 8 1 rfl rfl (v_in rfl (by omega) (by omega)) dX3_bornBy_20 ?_
    refine lv_topi (fun z_368 ez_368 => ?_)
    have gz_368 := rg_at hr_362 ez_368
    have g1z_368 := gz_368.1
    have g2z_368 := gz_368.2
    refine va_lald hx hb hK hP 7 2 rfl rfl (v_in rfl (by omega) (by omega)) dX3_bornBy_21 ?_
    refine lv_topl (fun z_369 ez_369 => ?_)
    refine lv_goto (tgt := 31) hx hb dX3_bornBy_22 (by decide) ?_
    rw [hQ0]
    exact W.lret (v := z_369) hx hb hr (fun t ht hW => ⟨⟨z_369, (), rfl, trivial, ⟨by rw [ht]; exact hP, hD⟩⟩, hS.F ht⟩) hS.2.2 dX3_bornBy_31
set_option maxHeartbeats 4000000 in
set_option maxRecDepth 100000 in
theorem c_X3_loadNobody (l : Launch) (dC : Nat → ClassId) (dI : Nat → Nat → Nat) (ad : Nat → Nat) (tN : Nat) (fN : Nat → Int64) (cB cI cJ cZ : ClassId) (h0 : Nat) (r0 : Nat → Nat) (pl0 : Nat) (w0 : va_W) (r1 : Nat → Nat) (fc1 : Int32) (dc1 : Int32) (w1 : va_W) (o0 : ok_frame ad cB cI cJ cZ h0 r0 pl0 w0) (o1 : ok_plan ad cB cI cJ cZ pl0 r1 fc1 dc1 w1) (sz : Nat) : Met l yX3_loadNobody wsX3_loadNobody ({ frames := 0, cells := 0, slots := 0, locals := 0 } : Room) (va_Pc [.ref h0] (fun U => U.heap.size = sz ∧ va_P (dC, dI) vwCl (List.flatten [w0, w1]) U.heap ∧ va_K (dC, dI) vwCl [(cB, .byte), (cI, .int), (cJ, .long), (cZ, .boolean)] U ∧ va_D (fun _ => True) (List.flatten [w0, w1]) ∧ ex_Y ad tN fN (va_A (List.flatten [w0, w1]) sz) U)) (va_Qv (fun _ : Unit => True) (fun (_ : Unit) (t : State) => ∃ (w09 : va_W), ok_frame ad cB cI cJ cZ h0 r0 pl0 w09 ∧ va_P (dC, dI) vwCl (List.flatten [w09, w1]) t.heap ∧ va_D (va_A (List.flatten [w0, w1]) sz) (List.flatten [w09, w1])) (va_A (List.flatten [w0, w1]) sz)) 0 0 (va_A (List.flatten [w0, w1]) sz) := by
  refine Met.ofW (cc := cX3_loadNobody) (maxL := 2) (ret := none) (by decide) rfl ?_
  intro p e s m args below meth c s₁ B hml hv
  obtain ⟨rfl, hsz, hP, hK, hD0, hE⟩ := hv
  have hx := B.exec
  have hb := B.bytes
  have hr := B.returns
  have hts := atoms_spec (ws := wsX3_loadNobody) B.pre
  have hown : s.vm.findClass RX3 = some m.cls := findClass_of_methodNamed B.named
  have hlocks := B.notSynchronized
  subst hsz
  have hD := hD0.self (sz := s.heap.size)
  generalize hAe : va_A (List.flatten [w0, w1]) s.heap.size = A at hD hE ⊢
  have hA : ∀ q : Nat, s.heap.size ≤ q → A q := fun q h => by rw [← hAe]; exact Or.inr h
  have hS : va_S A s.heap s.heap [] := va_S.rf
  have hl := lv_entry ([.ref h0]) (n := 2) (Nat.le_of_ble_eq_true rfl)
  rw [lg_entry_eq]
  generalize (lg_sl ([.ref h0]) ++ List.replicate (2 - (lg_sl ([.ref h0])).length) Slot.unset).toArray = ls at hl ⊢
  have hl : lv_has ls 2 [(0, .ref h0)] := hl
  clear hAe
  refine W_name (fun Q0 hQ0 => ?_)
  refine lv_iconst (v := 0) hx hb dX3_loadNobody_0 (by decide) ?_
  refine lv_istore_n (lv' := [(1, .int 0), (0, .ref h0)]) hx hb dX3_loadNobody_1 rfl hl (by decide) rfl (fun ls hl => ?_)
  obtain ⟨fr_419, dr_422, rc_425, f_428, f_430, gn_431, f_432, f_433, f_434, f_435, f_436, sc_437, jc_438, f_441, f_443, rfl, hl_420, hh_421, hl_423, hh_424, hl_426, hh_427, hr_429, hl_439, hh_440, hr_442, hr_444⟩ := o0
  obtain ⟨f_447, f_448, f_449, f_450, f_453, f_454, f_456, f_457, f_459, f_460, rfl, hl_445, hh_446, hl_451, hh_452, hr_455, hr_458⟩ := o1
  have lp_513 : ∀ (n : Nat) (g_370 : Int32) (gf_467 : Nat → Int64), 0 ≤ g_370.toInt → g_370.toInt ≤ 6 → g_370.toInt - fc1.toInt ≤ 0 → (6 - g_370.toInt).toNat < n → ∀ (H : Heap) (locs : List Loc), va_P (dC, dI) vwCl (List.flatten [[(h0, .inr (2, [.ref pl0, .int fr_419, .int dr_422, .int rc_425, .ref (r0 0), .ref (r0 1), .int gn_431, .ref (r0 2), .ref (r0 3), .ref (r0 4), .ref (r0 5), .ref (r0 6), .long sc_437, .int jc_438, .ref (r0 7), .ref (r0 8)])), (r0 0, .inl (cI, 10, .inl f_428)), (r0 1, .inl (cI, 10, .inl f_430)), (r0 2, .inl (cI, 6, .inl f_432)), (r0 3, .inl (cJ, 6, .inr (.inl gf_467))), (r0 4, .inl (cJ, 6, .inr (.inl f_434))), (r0 5, .inl (cJ, 6, .inr (.inl f_435))), (r0 6, .inl (cJ, 10, .inr (.inl f_436))), (r0 7, .inl (cI, 70, .inl f_441)), (r0 8, .inl (cI, 70, .inl f_443))], [(pl0, .inr (5, [.int fc1, .ref (r1 0), .ref (r1 1), .ref (r1 2), .ref (r1 3), .int dc1, .ref (r1 4), .ref (r1 5), .ref (r1 6), .ref (r1 7), .ref (r1 8), .ref (r1 9)])), (r1 0, .inl (cJ, 6, .inr (.inl f_447))), (r1 1, .inl (cI, 6, .inl f_448)), (r1 2, .inl (cI, 6, .inl f_449)), (r1 3, .inl (cI, 6, .inl f_450)), (r1 4, .inl (cJ, 4, .inr (.inl f_453))), (r1 5, .inl (cI, 4, .inl f_454)), (r1 6, .inl (cJ, 40, .inr (.inl f_456))), (r1 7, .inl (cI, 40, .inl f_457)), (r1 8, .inl (cI, 40, .inl f_459)), (r1 9, .inl (cI, 40, .inl f_460))]]) H → va_D A (List.flatten [[(h0, .inr (2, [.ref pl0, .int fr_419, .int dr_422, .int rc_425, .ref (r0 0), .ref (r0 1), .int gn_431, .ref (r0 2), .ref (r0 3), .ref (r0 4), .ref (r0 5), .ref (r0 6), .long sc_437, .int jc_438, .ref (r0 7), .ref (r0 8)])), (r0 0, .inl (cI, 10, .inl f_428)), (r0 1, .inl (cI, 10, .inl f_430)), (r0 2, .inl (cI, 6, .inl f_432)), (r0 3, .inl (cJ, 6, .inr (.inl gf_467))), (r0 4, .inl (cJ, 6, .inr (.inl f_434))), (r0 5, .inl (cJ, 6, .inr (.inl f_435))), (r0 6, .inl (cJ, 10, .inr (.inl f_436))), (r0 7, .inl (cI, 70, .inl f_441)), (r0 8, .inl (cI, 70, .inl f_443))], [(pl0, .inr (5, [.int fc1, .ref (r1 0), .ref (r1 1), .ref (r1 2), .ref (r1 3), .int dc1, .ref (r1 4), .ref (r1 5), .ref (r1 6), .ref (r1 7), .ref (r1 8), .ref (r1 9)])), (r1 0, .inl (cJ, 6, .inr (.inl f_447))), (r1 1, .inl (cI, 6, .inl f_448)), (r1 2, .inl (cI, 6, .inl f_449)), (r1 3, .inl (cI, 6, .inl f_450)), (r1 4, .inl (cJ, 4, .inr (.inl f_453))), (r1 5, .inl (cI, 4, .inl f_454)), (r1 6, .inl (cJ, 40, .inr (.inl f_456))), (r1 7, .inl (cI, 40, .inl f_457)), (r1 8, .inl (cI, 40, .inl f_459)), (r1 9, .inl (cI, 40, .inl f_460))]]) → va_S A s.heap H locs → ∀ (ls : Array Slot), lv_has ls 2 [(1, .int g_370), (0, .ref h0)] → W p l e (headSpec wsX3_loadNobody ({ frames := 0, cells := 0, slots := 0, locals := 0 } : Room)).room s m ([.ref h0] : List Value).toArray below meth c H locs 0 0 Q0 (F0 m 2 ls []) := by
    intro n
    induction n with
    | zero => intro g_370 gf_467 iv_510 iv_511 iv_512 hm; exact absurd hm (Nat.not_lt_zero _)
    | succ n ih =>
      intro g_370 gf_467 iv_510 iv_511 iv_512 hm H locs hP hD hS ls hl
      refine lv_iload_n hx hb dX3_loadNobody_2 rfl (lv_at hl 0 rfl) ?_
      refine lv_aload_n hx hb dX3_loadNobody_3 rfl (lv_at hl 1 rfl) ?_
      refine va_get (D := (dC, dI)) (ci := 2) (v := .ref pl0) (C := RX3) (T := TX3) (N := 16) hx hb hts iw_X3_loadNobody_X3 hown hK hP 0 rfl rfl 0 (by decide) (hts (.fieldLink RX3 12 "HungFloors$Frame" "plan" "LHungFloors$Plan;") (by decide +kernel)) (fun _ h9 => h9) rfl dX3_loadNobody_4 ?_
      refine va_get (D := (dC, dI)) (ci := 5) (v := .int fc1) (C := RX7) (T := TX7) (N := 12) hx hb hts iw_X3_loadNobody_X7 hown hK hP 10 rfl rfl 0 (by decide) (hts (.fieldLink RX3 79 "HungFloors$Plan" "floorCount" "I") (by decide +kernel)) (fun _ h9 => h9) rfl dX3_loadNobody_7 ?_
      refine lv_icmp_ge (tgt := 39) hx hb dX3_loadNobody_10 (by decide) (fun c_514 => ?_) (fun c_514 => ?_)
      · have c_514 : fc1.toInt ≤ g_370.toInt := f_le rfl rfl c_514
        rw [hQ0]
        exact W.vret hx hb hr (fun t ht hW => ⟨⟨(), rfl, trivial, ⟨_, ⟨fr_419, dr_422, rc_425, f_428, f_430, gn_431, f_432, gf_467, f_434, f_435, f_436, sc_437, jc_438, f_441, f_443, rfl, by omega, by omega, by omega, by omega, by omega, by omega, hr_429, by omega, by omega, hr_442, hr_444⟩, by rw [ht]; exact hP, hD⟩⟩, hS.F ht⟩) hS.2.2 dX3_loadNobody_39
      · have c_514 : g_370.toInt < fc1.toInt := f_nle rfl rfl c_514
        refine lv_aload_n hx hb dX3_loadNobody_13 rfl (lv_at hl 1 rfl) ?_
        refine va_get (D := (dC, dI)) (ci := 2) (v := .ref (r0 3)) (C := RX3) (T := TX3) (N := 16) hx hb hts iw_X3_loadNobody_X3 hown hK hP 0 rfl rfl 8 (by decide) (hts (.fieldLink RX3 41 "HungFloors$Frame" "own" "[J") (by decide +kernel)) (fun _ h9 => h9) rfl dX3_loadNobody_14 ?_
        refine lv_iload_n hx hb dX3_loadNobody_17 rfl (lv_at hl 0 rfl) ?_
        refine lv_ldc2 hx hb hown (hts (.constantLong RX3 86 (10)) (by decide +kernel)) dX3_loadNobody_18 ?_
        refine lv_aload_n hx hb dX3_loadNobody_21 rfl (lv_at hl 1 rfl) ?_
        refine va_get (D := (dC, dI)) (ci := 2) (v := .ref pl0) (C := RX3) (T := TX3) (N := 16) hx hb hts iw_X3_loadNobody_X3 hown hK hP 0 rfl rfl 0 (by decide) (hts (.fieldLink RX3 12 "HungFloors$Frame" "plan" "LHungFloors$Plan;") (by decide +kernel)) (fun _ h9 => h9) rfl dX3_loadNobody_22 ?_
        refine va_get (D := (dC, dI)) (ci := 5) (v := .ref (r1 1)) (C := RX7) (T := TX7) (N := 12) hx hb hts iw_X3_loadNobody_X7 hown hK hP 10 rfl rfl 2 (by decide) (hts (.fieldLink RX3 88 "HungFloors$Plan" "weighs" "[I") (by decide +kernel)) (fun _ h9 => h9) rfl dX3_loadNobody_25 ?_
        refine lv_iload_n hx hb dX3_loadNobody_28 rfl (lv_at hl 0 rfl) ?_
        refine va_iald hx hb hK hP 12 1 rfl rfl (v_in rfl (by omega) (by omega)) dX3_loadNobody_29 ?_
        refine lv_topi (fun z_515 ez_515 => ?_)
        obtain ⟨z_516, ez_516⟩ : ∃ y : Int64, (z_515 : Int32).toInt64 = y := ⟨_, rfl⟩
        refine lv_i2l (v := z_516) hx hb dX3_loadNobody_30 ez_516 ?_
        refine lv_lmul hx hb dX3_loadNobody_31 ?_
        refine lv_topl (fun z_517 ez_517 => ?_)
        refine va_last hx hb hK hP hD hS 4 2 rfl rfl (v_in rfl (by omega) (by omega)) dX3_loadNobody_32 (fun H locs hP hD hS => ?_)
        obtain ⟨f_518, hP, hD⟩ : ∃ f_518 : Nat → Int64, va_P (dC, dI) vwCl (List.flatten [[(h0, .inr (2, [.ref pl0, .int fr_419, .int dr_422, .int rc_425, .ref (r0 0), .ref (r0 1), .int gn_431, .ref (r0 2), .ref (r0 3), .ref (r0 4), .ref (r0 5), .ref (r0 6), .long sc_437, .int jc_438, .ref (r0 7), .ref (r0 8)])), (r0 0, .inl (cI, 10, .inl f_428)), (r0 1, .inl (cI, 10, .inl f_430)), (r0 2, .inl (cI, 6, .inl f_432)), (r0 3, .inl (cJ, 6, .inr (.inl f_518))), (r0 4, .inl (cJ, 6, .inr (.inl f_434))), (r0 5, .inl (cJ, 6, .inr (.inl f_435))), (r0 6, .inl (cJ, 10, .inr (.inl f_436))), (r0 7, .inl (cI, 70, .inl f_441)), (r0 8, .inl (cI, 70, .inl f_443))], [(pl0, .inr (5, [.int fc1, .ref (r1 0), .ref (r1 1), .ref (r1 2), .ref (r1 3), .int dc1, .ref (r1 4), .ref (r1 5), .ref (r1 6), .ref (r1 7), .ref (r1 8), .ref (r1 9)])), (r1 0, .inl (cJ, 6, .inr (.inl f_447))), (r1 1, .inl (cI, 6, .inl f_448)), (r1 2, .inl (cI, 6, .inl f_449)), (r1 3, .inl (cI, 6, .inl f_450)), (r1 4, .inl (cJ, 4, .inr (.inl f_453))), (r1 5, .inl (cI, 4, .inl f_454)), (r1 6, .inl (cJ, 40, .inr (.inl f_456))), (r1 7, .inl (cI, 40, .inl f_457)), (r1 8, .inl (cI, 40, .inl f_459)), (r1 9, .inl (cI, 40, .inl f_460))]]) H ∧ va_D A (List.flatten [[(h0, .inr (2, [.ref pl0, .int fr_419, .int dr_422, .int rc_425, .ref (r0 0), .ref (r0 1), .int gn_431, .ref (r0 2), .ref (r0 3), .ref (r0 4), .ref (r0 5), .ref (r0 6), .long sc_437, .int jc_438, .ref (r0 7), .ref (r0 8)])), (r0 0, .inl (cI, 10, .inl f_428)), (r0 1, .inl (cI, 10, .inl f_430)), (r0 2, .inl (cI, 6, .inl f_432)), (r0 3, .inl (cJ, 6, .inr (.inl f_518))), (r0 4, .inl (cJ, 6, .inr (.inl f_434))), (r0 5, .inl (cJ, 6, .inr (.inl f_435))), (r0 6, .inl (cJ, 10, .inr (.inl f_436))), (r0 7, .inl (cI, 70, .inl f_441)), (r0 8, .inl (cI, 70, .inl f_443))], [(pl0, .inr (5, [.int fc1, .ref (r1 0), .ref (r1 1), .ref (r1 2), .ref (r1 3), .int dc1, .ref (r1 4), .ref (r1 5), .ref (r1 6), .ref (r1 7), .ref (r1 8), .ref (r1 9)])), (r1 0, .inl (cJ, 6, .inr (.inl f_447))), (r1 1, .inl (cI, 6, .inl f_448)), (r1 2, .inl (cI, 6, .inl f_449)), (r1 3, .inl (cI, 6, .inl f_450)), (r1 4, .inl (cJ, 4, .inr (.inl f_453))), (r1 5, .inl (cI, 4, .inl f_454)), (r1 6, .inl (cJ, 40, .inr (.inl f_456))), (r1 7, .inl (cI, 40, .inl f_457)), (r1 8, .inl (cI, 40, .inl f_459)), (r1 9, .inl (cI, 40, .inl f_460))]]) := ⟨_, hP, hD⟩
        obtain ⟨z_519, ez_519⟩ : ∃ y : Int32, y = g_370 + 1 := ⟨_, rfl⟩
        have hz_519 : z_519.toInt = g_370.toInt + 1 := by rw [ez_519]; exact t_add rfl tI_1 (by omega) (by omega)
        refine lv_iinc (v := z_519) (lv' := [(1, .int z_519), (0, .ref h0)]) hx hb dX3_loadNobody_33 hl (k := 0) rfl (by rw [ez_519]; rfl) (by decide) rfl (fun ls hl => ?_)
        refine lv_goto (tgt := 2) hx hb dX3_loadNobody_36 (by decide) ?_
        exact ih z_519 f_518 (by omega) (by omega) (by omega) (by omega) _ _ hP hD hS ls (lv_sub hl [0, 1] rfl)
  exact lp_513 _ 0 f_433 (by have := tI_0; omega) (by have := tI_0; omega) (by have := tI_0; omega) (Nat.lt_succ_self _) _ _ hP hD hS ls (lv_sub hl [0, 1] rfl)
set_option maxHeartbeats 4000000 in
set_option maxRecDepth 100000 in
theorem c_X3_loadOnlyOne (l : Launch) (dC : Nat → ClassId) (dI : Nat → Nat → Nat) (ad : Nat → Nat) (tN : Nat) (fN : Nat → Int64) (cB cI cJ cZ : ClassId) (h0 : Nat) (p1 : Int32) (p2 : Int32) (r0 : Nat → Nat) (pl0 : Nat) (w0 : va_W) (r1 : Nat → Nat) (fc1 : Int32) (dc1 : Int32) (w1 : va_W) (o0 : ok_frame ad cB cI cJ cZ h0 r0 pl0 w0) (o1 : ok_plan ad cB cI cJ cZ pl0 r1 fc1 dc1 w1) (sz : Nat) : Met l yX3_loadOnlyOne wsX3_loadOnlyOne ({ frames := 0, cells := 0, slots := 0, locals := 0 } : Room) (va_Pc [.ref h0, .int p1, .int p2] (fun U => U.heap.size = sz ∧ va_P (dC, dI) vwCl (List.flatten [w0, w1]) U.heap ∧ va_K (dC, dI) vwCl [(cB, .byte), (cI, .int), (cJ, .long), (cZ, .boolean)] U ∧ va_D (fun _ => True) (List.flatten [w0, w1]) ∧ ex_Y ad tN fN (va_A (List.flatten [w0, w1]) sz) U)) (va_Qv (fun _ : Unit => True) (fun (_ : Unit) (t : State) => ∃ (w09 : va_W), ok_frame ad cB cI cJ cZ h0 r0 pl0 w09 ∧ va_P (dC, dI) vwCl (List.flatten [w09, w1]) t.heap ∧ va_D (va_A (List.flatten [w0, w1]) sz) (List.flatten [w09, w1])) (va_A (List.flatten [w0, w1]) sz)) 0 0 (va_A (List.flatten [w0, w1]) sz) := by
  refine Met.ofW (cc := cX3_loadOnlyOne) (maxL := 4) (ret := none) (by decide) rfl ?_
  intro p e s m args below meth c s₁ B hml hv
  obtain ⟨rfl, hsz, hP, hK, hD0, hE⟩ := hv
  have hx := B.exec
  have hb := B.bytes
  have hr := B.returns
  have hts := atoms_spec (ws := wsX3_loadOnlyOne) B.pre
  have hown : s.vm.findClass RX3 = some m.cls := findClass_of_methodNamed B.named
  have hlocks := B.notSynchronized
  subst hsz
  have hD := hD0.self (sz := s.heap.size)
  generalize hAe : va_A (List.flatten [w0, w1]) s.heap.size = A at hD hE ⊢
  have hA : ∀ q : Nat, s.heap.size ≤ q → A q := fun q h => by rw [← hAe]; exact Or.inr h
  have hS : va_S A s.heap s.heap [] := va_S.rf
  have hl := lv_entry ([.ref h0, .int p1, .int p2]) (n := 4) (Nat.le_of_ble_eq_true rfl)
  rw [lg_entry_eq]
  generalize (lg_sl ([.ref h0, .int p1, .int p2]) ++ List.replicate (4 - (lg_sl ([.ref h0, .int p1, .int p2])).length) Slot.unset).toArray = ls at hl ⊢
  have hl : lv_has ls 4 [(0, .ref h0), (1, .int p1), (2, .int p2)] := hl
  clear hAe
  refine W_name (fun Q0 hQ0 => ?_)
  refine lv_iconst (v := 0) hx hb dX3_loadOnlyOne_0 (by decide) ?_
  refine lv_istore_n (lv' := [(3, .int 0), (0, .ref h0), (1, .int p1), (2, .int p2)]) hx hb dX3_loadOnlyOne_1 rfl hl (by decide) rfl (fun ls hl => ?_)
  obtain ⟨fr_571, dr_574, rc_577, f_580, f_582, gn_583, f_584, f_585, f_586, f_587, f_588, sc_589, jc_590, f_593, f_595, rfl, hl_572, hh_573, hl_575, hh_576, hl_578, hh_579, hr_581, hl_591, hh_592, hr_594, hr_596⟩ := o0
  obtain ⟨f_599, f_600, f_601, f_602, f_605, f_606, f_608, f_609, f_611, f_612, rfl, hl_597, hh_598, hl_603, hh_604, hr_607, hr_610⟩ := o1
  have lp_681 : ∀ (n : Nat) (g_520 : Int32) (gf_621 : Nat → Int64), 0 ≤ g_520.toInt → g_520.toInt ≤ 6 → g_520.toInt - fc1.toInt ≤ 0 → (6 - g_520.toInt).toNat < n → ∀ (H : Heap) (locs : List Loc), va_P (dC, dI) vwCl (List.flatten [[(h0, .inr (2, [.ref pl0, .int fr_571, .int dr_574, .int rc_577, .ref (r0 0), .ref (r0 1), .int gn_583, .ref (r0 2), .ref (r0 3), .ref (r0 4), .ref (r0 5), .ref (r0 6), .long sc_589, .int jc_590, .ref (r0 7), .ref (r0 8)])), (r0 0, .inl (cI, 10, .inl f_580)), (r0 1, .inl (cI, 10, .inl f_582)), (r0 2, .inl (cI, 6, .inl f_584)), (r0 3, .inl (cJ, 6, .inr (.inl gf_621))), (r0 4, .inl (cJ, 6, .inr (.inl f_586))), (r0 5, .inl (cJ, 6, .inr (.inl f_587))), (r0 6, .inl (cJ, 10, .inr (.inl f_588))), (r0 7, .inl (cI, 70, .inl f_593)), (r0 8, .inl (cI, 70, .inl f_595))], [(pl0, .inr (5, [.int fc1, .ref (r1 0), .ref (r1 1), .ref (r1 2), .ref (r1 3), .int dc1, .ref (r1 4), .ref (r1 5), .ref (r1 6), .ref (r1 7), .ref (r1 8), .ref (r1 9)])), (r1 0, .inl (cJ, 6, .inr (.inl f_599))), (r1 1, .inl (cI, 6, .inl f_600)), (r1 2, .inl (cI, 6, .inl f_601)), (r1 3, .inl (cI, 6, .inl f_602)), (r1 4, .inl (cJ, 4, .inr (.inl f_605))), (r1 5, .inl (cI, 4, .inl f_606)), (r1 6, .inl (cJ, 40, .inr (.inl f_608))), (r1 7, .inl (cI, 40, .inl f_609)), (r1 8, .inl (cI, 40, .inl f_611)), (r1 9, .inl (cI, 40, .inl f_612))]]) H → va_D A (List.flatten [[(h0, .inr (2, [.ref pl0, .int fr_571, .int dr_574, .int rc_577, .ref (r0 0), .ref (r0 1), .int gn_583, .ref (r0 2), .ref (r0 3), .ref (r0 4), .ref (r0 5), .ref (r0 6), .long sc_589, .int jc_590, .ref (r0 7), .ref (r0 8)])), (r0 0, .inl (cI, 10, .inl f_580)), (r0 1, .inl (cI, 10, .inl f_582)), (r0 2, .inl (cI, 6, .inl f_584)), (r0 3, .inl (cJ, 6, .inr (.inl gf_621))), (r0 4, .inl (cJ, 6, .inr (.inl f_586))), (r0 5, .inl (cJ, 6, .inr (.inl f_587))), (r0 6, .inl (cJ, 10, .inr (.inl f_588))), (r0 7, .inl (cI, 70, .inl f_593)), (r0 8, .inl (cI, 70, .inl f_595))], [(pl0, .inr (5, [.int fc1, .ref (r1 0), .ref (r1 1), .ref (r1 2), .ref (r1 3), .int dc1, .ref (r1 4), .ref (r1 5), .ref (r1 6), .ref (r1 7), .ref (r1 8), .ref (r1 9)])), (r1 0, .inl (cJ, 6, .inr (.inl f_599))), (r1 1, .inl (cI, 6, .inl f_600)), (r1 2, .inl (cI, 6, .inl f_601)), (r1 3, .inl (cI, 6, .inl f_602)), (r1 4, .inl (cJ, 4, .inr (.inl f_605))), (r1 5, .inl (cI, 4, .inl f_606)), (r1 6, .inl (cJ, 40, .inr (.inl f_608))), (r1 7, .inl (cI, 40, .inl f_609)), (r1 8, .inl (cI, 40, .inl f_611)), (r1 9, .inl (cI, 40, .inl f_612))]]) → va_S A s.heap H locs → ∀ (ls : Array Slot), lv_has ls 4 [(3, .int g_520), (0, .ref h0), (1, .int p1), (2, .int p2)] → W p l e (headSpec wsX3_loadOnlyOne ({ frames := 0, cells := 0, slots := 0, locals := 0 } : Room)).room s m ([.ref h0, .int p1, .int p2] : List Value).toArray below meth c H locs 0 0 Q0 (F0 m 2 ls []) := by
    intro n
    induction n with
    | zero => intro g_520 gf_621 iv_678 iv_679 iv_680 hm; exact absurd hm (Nat.not_lt_zero _)
    | succ n ih =>
      intro g_520 gf_621 iv_678 iv_679 iv_680 hm H locs hP hD hS ls hl
      refine lv_iload_n hx hb dX3_loadOnlyOne_2 rfl (lv_at hl 0 rfl) ?_
      refine lv_aload_n hx hb dX3_loadOnlyOne_3 rfl (lv_at hl 1 rfl) ?_
      refine va_get (D := (dC, dI)) (ci := 2) (v := .ref pl0) (C := RX3) (T := TX3) (N := 16) hx hb hts iw_X3_loadOnlyOne_X3 hown hK hP 0 rfl rfl 0 (by decide) (hts (.fieldLink RX3 12 "HungFloors$Frame" "plan" "LHungFloors$Plan;") (by decide +kernel)) (fun _ h9 => h9) rfl dX3_loadOnlyOne_4 ?_
      refine va_get (D := (dC, dI)) (ci := 5) (v := .int fc1) (C := RX7) (T := TX7) (N := 12) hx hb hts iw_X3_loadOnlyOne_X7 hown hK hP 10 rfl rfl 0 (by decide) (hts (.fieldLink RX3 79 "HungFloors$Plan" "floorCount" "I") (by decide +kernel)) (fun _ h9 => h9) rfl dX3_loadOnlyOne_7 ?_
      refine lv_icmp_ge (tgt := 39) hx hb dX3_loadOnlyOne_10 (by decide) (fun c_682 => ?_) (fun c_682 => ?_)
      · have c_682 : fc1.toInt ≤ g_520.toInt := f_le rfl rfl c_682
        rw [hQ0]
        exact W.vret hx hb hr (fun t ht hW => ⟨⟨(), rfl, trivial, ⟨_, ⟨fr_571, dr_574, rc_577, f_580, f_582, gn_583, f_584, gf_621, f_586, f_587, f_588, sc_589, jc_590, f_593, f_595, rfl, by omega, by omega, by omega, by omega, by omega, by omega, hr_581, by omega, by omega, hr_594, hr_596⟩, by rw [ht]; exact hP, hD⟩⟩, hS.F ht⟩) hS.2.2 dX3_loadOnlyOne_39
      · have c_682 : g_520.toInt < fc1.toInt := f_nle rfl rfl c_682
        refine lv_aload_n hx hb dX3_loadOnlyOne_13 rfl (lv_at hl 1 rfl) ?_
        refine va_get (D := (dC, dI)) (ci := 2) (v := .ref (r0 3)) (C := RX3) (T := TX3) (N := 16) hx hb hts iw_X3_loadOnlyOne_X3 hown hK hP 0 rfl rfl 8 (by decide) (hts (.fieldLink RX3 41 "HungFloors$Frame" "own" "[J") (by decide +kernel)) (fun _ h9 => h9) rfl dX3_loadOnlyOne_14 ?_
        refine lv_iload_n hx hb dX3_loadOnlyOne_17 rfl (lv_at hl 0 rfl) ?_
        refine lv_iload_n hx hb dX3_loadOnlyOne_18 rfl (lv_at hl 0 rfl) ?_
        refine lv_iload_n hx hb dX3_loadOnlyOne_19 rfl (lv_at hl 2 rfl) ?_
        refine lv_icmp_ne (tgt := 31) hx hb dX3_loadOnlyOne_20 (by decide) (fun c_683 => ?_) (fun c_683 => ?_)
        · have c_683 : ¬ g_520.toInt = p1.toInt := f_ne rfl rfl c_683
          refine lv_lconst (v := 0) hx hb dX3_loadOnlyOne_31 (by decide) ?_
          refine va_last hx hb hK hP hD hS 4 2 rfl rfl (v_in rfl (by omega) (by omega)) dX3_loadOnlyOne_32 (fun H locs hP hD hS => ?_)
          obtain ⟨f_684, hP, hD⟩ : ∃ f_684 : Nat → Int64, va_P (dC, dI) vwCl (List.flatten [[(h0, .inr (2, [.ref pl0, .int fr_571, .int dr_574, .int rc_577, .ref (r0 0), .ref (r0 1), .int gn_583, .ref (r0 2), .ref (r0 3), .ref (r0 4), .ref (r0 5), .ref (r0 6), .long sc_589, .int jc_590, .ref (r0 7), .ref (r0 8)])), (r0 0, .inl (cI, 10, .inl f_580)), (r0 1, .inl (cI, 10, .inl f_582)), (r0 2, .inl (cI, 6, .inl f_584)), (r0 3, .inl (cJ, 6, .inr (.inl f_684))), (r0 4, .inl (cJ, 6, .inr (.inl f_586))), (r0 5, .inl (cJ, 6, .inr (.inl f_587))), (r0 6, .inl (cJ, 10, .inr (.inl f_588))), (r0 7, .inl (cI, 70, .inl f_593)), (r0 8, .inl (cI, 70, .inl f_595))], [(pl0, .inr (5, [.int fc1, .ref (r1 0), .ref (r1 1), .ref (r1 2), .ref (r1 3), .int dc1, .ref (r1 4), .ref (r1 5), .ref (r1 6), .ref (r1 7), .ref (r1 8), .ref (r1 9)])), (r1 0, .inl (cJ, 6, .inr (.inl f_599))), (r1 1, .inl (cI, 6, .inl f_600)), (r1 2, .inl (cI, 6, .inl f_601)), (r1 3, .inl (cI, 6, .inl f_602)), (r1 4, .inl (cJ, 4, .inr (.inl f_605))), (r1 5, .inl (cI, 4, .inl f_606)), (r1 6, .inl (cJ, 40, .inr (.inl f_608))), (r1 7, .inl (cI, 40, .inl f_609)), (r1 8, .inl (cI, 40, .inl f_611)), (r1 9, .inl (cI, 40, .inl f_612))]]) H ∧ va_D A (List.flatten [[(h0, .inr (2, [.ref pl0, .int fr_571, .int dr_574, .int rc_577, .ref (r0 0), .ref (r0 1), .int gn_583, .ref (r0 2), .ref (r0 3), .ref (r0 4), .ref (r0 5), .ref (r0 6), .long sc_589, .int jc_590, .ref (r0 7), .ref (r0 8)])), (r0 0, .inl (cI, 10, .inl f_580)), (r0 1, .inl (cI, 10, .inl f_582)), (r0 2, .inl (cI, 6, .inl f_584)), (r0 3, .inl (cJ, 6, .inr (.inl f_684))), (r0 4, .inl (cJ, 6, .inr (.inl f_586))), (r0 5, .inl (cJ, 6, .inr (.inl f_587))), (r0 6, .inl (cJ, 10, .inr (.inl f_588))), (r0 7, .inl (cI, 70, .inl f_593)), (r0 8, .inl (cI, 70, .inl f_595))], [(pl0, .inr (5, [.int fc1, .ref (r1 0), .ref (r1 1), .ref (r1 2), .ref (r1 3), .int dc1, .ref (r1 4), .ref (r1 5), .ref (r1 6), .ref (r1 7), .ref (r1 8), .ref (r1 9)])), (r1 0, .inl (cJ, 6, .inr (.inl f_599))), (r1 1, .inl (cI, 6, .inl f_600)), (r1 2, .inl (cI, 6, .inl f_601)), (r1 3, .inl (cI, 6, .inl f_602)), (r1 4, .inl (cJ, 4, .inr (.inl f_605))), (r1 5, .inl (cI, 4, .inl f_606)), (r1 6, .inl (cJ, 40, .inr (.inl f_608))), (r1 7, .inl (cI, 40, .inl f_609)), (r1 8, .inl (cI, 40, .inl f_611)), (r1 9, .inl (cI, 40, .inl f_612))]]) := ⟨_, hP, hD⟩
          obtain ⟨z_685, ez_685⟩ : ∃ y : Int32, y = g_520 + 1 := ⟨_, rfl⟩
          have hz_685 : z_685.toInt = g_520.toInt + 1 := by rw [ez_685]; exact t_add rfl tI_1 (by omega) (by omega)
          refine lv_iinc (v := z_685) (lv' := [(3, .int z_685), (0, .ref h0), (1, .int p1), (2, .int p2)]) hx hb dX3_loadOnlyOne_33 hl (k := 0) rfl (by rw [ez_685]; rfl) (by decide) rfl (fun ls hl => ?_)
          refine lv_goto (tgt := 2) hx hb dX3_loadOnlyOne_36 (by decide) ?_
          exact ih z_685 f_684 (by omega) (by omega) (by omega) (by omega) _ _ hP hD hS ls (lv_sub hl [0, 1, 2, 3] rfl)
        · have c_683 : g_520.toInt = p1.toInt := f_eq rfl rfl c_683
          refine lv_bipush (v := 10) hx hb dX3_loadOnlyOne_23 (by decide) ?_
          refine lv_iload_n hx hb dX3_loadOnlyOne_25 rfl (lv_at hl 3 rfl) ?_
          refine lv_iadd hx hb dX3_loadOnlyOne_26 ?_
          refine lv_topi (fun z_686 ez_686 => ?_)
          obtain ⟨z_687, ez_687⟩ : ∃ y : Int64, (z_686 : Int32).toInt64 = y := ⟨_, rfl⟩
          refine lv_i2l (v := z_687) hx hb dX3_loadOnlyOne_27 ez_687 ?_
          refine lv_goto (tgt := 32) hx hb dX3_loadOnlyOne_28 (by decide) ?_
          refine va_last hx hb hK hP hD hS 4 2 rfl rfl (v_in rfl (by omega) (by omega)) dX3_loadOnlyOne_32 (fun H locs hP hD hS => ?_)
          obtain ⟨f_688, hP, hD⟩ : ∃ f_688 : Nat → Int64, va_P (dC, dI) vwCl (List.flatten [[(h0, .inr (2, [.ref pl0, .int fr_571, .int dr_574, .int rc_577, .ref (r0 0), .ref (r0 1), .int gn_583, .ref (r0 2), .ref (r0 3), .ref (r0 4), .ref (r0 5), .ref (r0 6), .long sc_589, .int jc_590, .ref (r0 7), .ref (r0 8)])), (r0 0, .inl (cI, 10, .inl f_580)), (r0 1, .inl (cI, 10, .inl f_582)), (r0 2, .inl (cI, 6, .inl f_584)), (r0 3, .inl (cJ, 6, .inr (.inl f_688))), (r0 4, .inl (cJ, 6, .inr (.inl f_586))), (r0 5, .inl (cJ, 6, .inr (.inl f_587))), (r0 6, .inl (cJ, 10, .inr (.inl f_588))), (r0 7, .inl (cI, 70, .inl f_593)), (r0 8, .inl (cI, 70, .inl f_595))], [(pl0, .inr (5, [.int fc1, .ref (r1 0), .ref (r1 1), .ref (r1 2), .ref (r1 3), .int dc1, .ref (r1 4), .ref (r1 5), .ref (r1 6), .ref (r1 7), .ref (r1 8), .ref (r1 9)])), (r1 0, .inl (cJ, 6, .inr (.inl f_599))), (r1 1, .inl (cI, 6, .inl f_600)), (r1 2, .inl (cI, 6, .inl f_601)), (r1 3, .inl (cI, 6, .inl f_602)), (r1 4, .inl (cJ, 4, .inr (.inl f_605))), (r1 5, .inl (cI, 4, .inl f_606)), (r1 6, .inl (cJ, 40, .inr (.inl f_608))), (r1 7, .inl (cI, 40, .inl f_609)), (r1 8, .inl (cI, 40, .inl f_611)), (r1 9, .inl (cI, 40, .inl f_612))]]) H ∧ va_D A (List.flatten [[(h0, .inr (2, [.ref pl0, .int fr_571, .int dr_574, .int rc_577, .ref (r0 0), .ref (r0 1), .int gn_583, .ref (r0 2), .ref (r0 3), .ref (r0 4), .ref (r0 5), .ref (r0 6), .long sc_589, .int jc_590, .ref (r0 7), .ref (r0 8)])), (r0 0, .inl (cI, 10, .inl f_580)), (r0 1, .inl (cI, 10, .inl f_582)), (r0 2, .inl (cI, 6, .inl f_584)), (r0 3, .inl (cJ, 6, .inr (.inl f_688))), (r0 4, .inl (cJ, 6, .inr (.inl f_586))), (r0 5, .inl (cJ, 6, .inr (.inl f_587))), (r0 6, .inl (cJ, 10, .inr (.inl f_588))), (r0 7, .inl (cI, 70, .inl f_593)), (r0 8, .inl (cI, 70, .inl f_595))], [(pl0, .inr (5, [.int fc1, .ref (r1 0), .ref (r1 1), .ref (r1 2), .ref (r1 3), .int dc1, .ref (r1 4), .ref (r1 5), .ref (r1 6), .ref (r1 7), .ref (r1 8), .ref (r1 9)])), (r1 0, .inl (cJ, 6, .inr (.inl f_599))), (r1 1, .inl (cI, 6, .inl f_600)), (r1 2, .inl (cI, 6, .inl f_601)), (r1 3, .inl (cI, 6, .inl f_602)), (r1 4, .inl (cJ, 4, .inr (.inl f_605))), (r1 5, .inl (cI, 4, .inl f_606)), (r1 6, .inl (cJ, 40, .inr (.inl f_608))), (r1 7, .inl (cI, 40, .inl f_609)), (r1 8, .inl (cI, 40, .inl f_611)), (r1 9, .inl (cI, 40, .inl f_612))]]) := ⟨_, hP, hD⟩
          obtain ⟨z_689, ez_689⟩ : ∃ y : Int32, y = g_520 + 1 := ⟨_, rfl⟩
          have hz_689 : z_689.toInt = g_520.toInt + 1 := by rw [ez_689]; exact t_add rfl tI_1 (by omega) (by omega)
          refine lv_iinc (v := z_689) (lv' := [(3, .int z_689), (0, .ref h0), (1, .int p1), (2, .int p2)]) hx hb dX3_loadOnlyOne_33 hl (k := 0) rfl (by rw [ez_689]; rfl) (by decide) rfl (fun ls hl => ?_)
          refine lv_goto (tgt := 2) hx hb dX3_loadOnlyOne_36 (by decide) ?_
          exact ih z_689 f_688 (by omega) (by omega) (by omega) (by omega) _ _ hP hD hS ls (lv_sub hl [0, 1, 2, 3] rfl)
  exact lp_681 _ 0 f_585 (by have := tI_0; omega) (by have := tI_0; omega) (by have := tI_0; omega) (Nat.lt_succ_self _) _ _ hP hD hS ls (lv_sub hl [0, 1, 2, 3] rfl)
set_option maxHeartbeats 4000000 in
set_option maxRecDepth 100000 in
theorem c_X3_rodsFromRoof (l : Launch) (dC : Nat → ClassId) (dI : Nat → Nat → Nat) (ad : Nat → Nat) (tN : Nat) (fN : Nat → Int64) (cB cI cJ cZ : ClassId) (h0 : Nat) (r0 : Nat → Nat) (pl0 : Nat) (w0 : va_W) (o0 : ok_frame ad cB cI cJ cZ h0 r0 pl0 w0) (sz : Nat) : Met l yX3_rodsFromRoof wsX3_rodsFromRoof ({ frames := 0, cells := 0, slots := 0, locals := 0 } : Room) (va_Pc [.ref h0] (fun U => U.heap.size = sz ∧ va_P (dC, dI) vwCl (List.flatten [w0]) U.heap ∧ va_K (dC, dI) vwCl [(cB, .byte), (cI, .int), (cJ, .long), (cZ, .boolean)] U ∧ va_D (fun _ => True) (List.flatten [w0]) ∧ ex_Y ad tN fN (va_A (List.flatten [w0]) sz) U)) (va_Qi (fun (r : Int32) (_ : Unit) => True) (fun (_ : Unit) (t : State) => va_P (dC, dI) vwCl (List.flatten [w0]) t.heap ∧ va_D (va_A (List.flatten [w0]) sz) (List.flatten [w0])) (va_A (List.flatten [w0]) sz)) 0 0 (va_A (List.flatten [w0]) sz) := by
  refine Met.ofW (cc := cX3_rodsFromRoof) (maxL := 3) (ret := (some .int)) (by decide) rfl ?_
  intro p e s m args below meth c s₁ B hml hv
  obtain ⟨rfl, hsz, hP, hK, hD0, hE⟩ := hv
  have hx := B.exec
  have hb := B.bytes
  have hr := B.returns
  have hts := atoms_spec (ws := wsX3_rodsFromRoof) B.pre
  have hown : s.vm.findClass RX3 = some m.cls := findClass_of_methodNamed B.named
  have hlocks := B.notSynchronized
  subst hsz
  have hD := hD0.self (sz := s.heap.size)
  generalize hAe : va_A (List.flatten [w0]) s.heap.size = A at hD hE ⊢
  have hA : ∀ q : Nat, s.heap.size ≤ q → A q := fun q h => by rw [← hAe]; exact Or.inr h
  have hS : va_S A s.heap s.heap [] := va_S.rf
  have hl := lv_entry ([.ref h0]) (n := 3) (Nat.le_of_ble_eq_true rfl)
  rw [lg_entry_eq]
  generalize (lg_sl ([.ref h0]) ++ List.replicate (3 - (lg_sl ([.ref h0])).length) Slot.unset).toArray = ls at hl ⊢
  have hl : lv_has ls 3 [(0, .ref h0)] := hl
  clear hAe
  refine W_name (fun Q0 hQ0 => ?_)
  refine lv_iconst (v := 0) hx hb dX3_rodsFromRoof_0 (by decide) ?_
  refine lv_istore_n (lv' := [(1, .int 0), (0, .ref h0)]) hx hb dX3_rodsFromRoof_1 rfl hl (by decide) rfl (fun ls hl => ?_)
  refine lv_iconst (v := 0) hx hb dX3_rodsFromRoof_2 (by decide) ?_
  refine lv_istore_n (lv' := [(2, .int 0), (1, .int 0), (0, .ref h0)]) hx hb dX3_rodsFromRoof_3 rfl hl (by decide) rfl (fun ls hl => ?_)
  obtain ⟨fr_726, dr_729, rc_732, f_735, f_737, gn_738, f_739, f_740, f_741, f_742, f_743, sc_744, jc_745, f_748, f_750, rfl, hl_727, hh_728, hl_730, hh_731, hl_733, hh_734, hr_736, hl_746, hh_747, hr_749, hr_751⟩ := o0
  have lp_843 : ∀ (n : Nat) (g_690 : Int32) (g_691 : Int32), 0 ≤ g_690.toInt → g_690.toInt ≤ 10 → g_690.toInt - rc_732.toInt ≤ 0 → (10 - g_690.toInt).toNat < n → ∀ (H : Heap) (locs : List Loc), va_P (dC, dI) vwCl (List.flatten [[(h0, .inr (2, [.ref pl0, .int fr_726, .int dr_729, .int rc_732, .ref (r0 0), .ref (r0 1), .int gn_738, .ref (r0 2), .ref (r0 3), .ref (r0 4), .ref (r0 5), .ref (r0 6), .long sc_744, .int jc_745, .ref (r0 7), .ref (r0 8)])), (r0 0, .inl (cI, 10, .inl f_735)), (r0 1, .inl (cI, 10, .inl f_737)), (r0 2, .inl (cI, 6, .inl f_739)), (r0 3, .inl (cJ, 6, .inr (.inl f_740))), (r0 4, .inl (cJ, 6, .inr (.inl f_741))), (r0 5, .inl (cJ, 6, .inr (.inl f_742))), (r0 6, .inl (cJ, 10, .inr (.inl f_743))), (r0 7, .inl (cI, 70, .inl f_748)), (r0 8, .inl (cI, 70, .inl f_750))]]) H → va_D A (List.flatten [[(h0, .inr (2, [.ref pl0, .int fr_726, .int dr_729, .int rc_732, .ref (r0 0), .ref (r0 1), .int gn_738, .ref (r0 2), .ref (r0 3), .ref (r0 4), .ref (r0 5), .ref (r0 6), .long sc_744, .int jc_745, .ref (r0 7), .ref (r0 8)])), (r0 0, .inl (cI, 10, .inl f_735)), (r0 1, .inl (cI, 10, .inl f_737)), (r0 2, .inl (cI, 6, .inl f_739)), (r0 3, .inl (cJ, 6, .inr (.inl f_740))), (r0 4, .inl (cJ, 6, .inr (.inl f_741))), (r0 5, .inl (cJ, 6, .inr (.inl f_742))), (r0 6, .inl (cJ, 10, .inr (.inl f_743))), (r0 7, .inl (cI, 70, .inl f_748)), (r0 8, .inl (cI, 70, .inl f_750))]]) → va_S A s.heap H locs → ∀ (ls : Array Slot), lv_has ls 3 [(2, .int g_690), (1, .int g_691), (0, .ref h0)] → W p l e (headSpec wsX3_rodsFromRoof ({ frames := 0, cells := 0, slots := 0, locals := 0 } : Room)).room s m ([.ref h0] : List Value).toArray below meth c H locs 0 0 Q0 (F0 m 4 ls []) := by
    intro n
    induction n with
    | zero => intro g_690 g_691 iv_840 iv_841 iv_842 hm; exact absurd hm (Nat.not_lt_zero _)
    | succ n ih =>
      intro g_690 g_691 iv_840 iv_841 iv_842 hm H locs hP hD hS ls hl
      refine lv_iload_n hx hb dX3_rodsFromRoof_4 rfl (lv_at hl 0 rfl) ?_
      refine lv_aload_n hx hb dX3_rodsFromRoof_5 rfl (lv_at hl 2 rfl) ?_
      refine va_get (D := (dC, dI)) (ci := 2) (v := .int rc_732) (C := RX3) (T := TX3) (N := 16) hx hb hts iw_X3_rodsFromRoof_X3 hown hK hP 0 rfl rfl 3 (by decide) (hts (.fieldLink RX3 25 "HungFloors$Frame" "rodCount" "I") (by decide +kernel)) (fun _ h9 => h9) rfl dX3_rodsFromRoof_6 ?_
      refine lv_icmp_ge (tgt := 37) hx hb dX3_rodsFromRoof_9 (by decide) (fun c_844 => ?_) (fun c_844 => ?_)
      · have c_844 : rc_732.toInt ≤ g_690.toInt := f_le rfl rfl c_844
        refine lv_iload_n hx hb dX3_rodsFromRoof_37 rfl (lv_at hl 1 rfl) ?_
        rw [hQ0]
        exact W.iret (v := g_691) hx hb hr (fun t ht hW => ⟨⟨g_691, (), rfl, trivial, ⟨by rw [ht]; exact hP, hD⟩⟩, hS.F ht⟩) hS.2.2 dX3_rodsFromRoof_38
      · have c_844 : g_690.toInt < rc_732.toInt := f_nle rfl rfl c_844
        refine lv_iload_n hx hb dX3_rodsFromRoof_12 rfl (lv_at hl 1 rfl) ?_
        refine lv_aload_n hx hb dX3_rodsFromRoof_13 rfl (lv_at hl 2 rfl) ?_
        refine va_get (D := (dC, dI)) (ci := 2) (v := .ref (r0 0)) (C := RX3) (T := TX3) (N := 16) hx hb hts iw_X3_rodsFromRoof_X3 hown hK hP 0 rfl rfl 4 (by decide) (hts (.fieldLink RX3 28 "HungFloors$Frame" "from" "[I") (by decide +kernel)) (fun _ h9 => h9) rfl dX3_rodsFromRoof_14 ?_
        refine lv_iload_n hx hb dX3_rodsFromRoof_17 rfl (lv_at hl 0 rfl) ?_
        refine va_iald hx hb hK hP 1 1 rfl rfl (v_in rfl (by omega) (by omega)) dX3_rodsFromRoof_18 ?_
        refine lv_topi (fun z_845 ez_845 => ?_)
        have gz_845 := rg_at hr_736 ez_845
        have g1z_845 := gz_845.1
        have g2z_845 := gz_845.2
        refine lv_if_ge (tgt := 28) hx hb dX3_rodsFromRoof_19 (by decide) (fun c_846 => ?_) (fun c_846 => ?_)
        · have c_846 : 0 ≤ z_845.toInt := f_le tI_0 rfl c_846
          refine lv_iconst (v := 0) hx hb dX3_rodsFromRoof_28 (by decide) ?_
          refine lv_ior hx hb dX3_rodsFromRoof_29 ?_
          refine lv_topi (fun z_847 ez_847 => ?_)
          refine lv_istore_n (lv' := [(1, .int z_847), (2, .int g_690), (0, .ref h0)]) hx hb dX3_rodsFromRoof_30 rfl hl (by decide) rfl (fun ls hl => ?_)
          obtain ⟨z_848, ez_848⟩ : ∃ y : Int32, y = g_690 + 1 := ⟨_, rfl⟩
          have hz_848 : z_848.toInt = g_690.toInt + 1 := by rw [ez_848]; exact t_add rfl tI_1 (by omega) (by omega)
          refine lv_iinc (v := z_848) (lv' := [(2, .int z_848), (1, .int z_847), (0, .ref h0)]) hx hb dX3_rodsFromRoof_31 hl (k := 1) rfl (by rw [ez_848]; rfl) (by decide) rfl (fun ls hl => ?_)
          refine lv_goto (tgt := 4) hx hb dX3_rodsFromRoof_34 (by decide) ?_
          exact ih z_848 z_847 (by omega) (by omega) (by omega) (by omega) _ _ hP hD hS ls (lv_sub hl [0, 1, 2] rfl)
        · have c_846 : z_845.toInt < 0 := f_nle tI_0 rfl c_846
          refine lv_iconst (v := 1) hx hb dX3_rodsFromRoof_22 (by decide) ?_
          refine lv_iload_n hx hb dX3_rodsFromRoof_23 rfl (lv_at hl 0 rfl) ?_
          refine lv_ishl hx hb dX3_rodsFromRoof_24 ?_
          refine lv_topi (fun z_849 ez_849 => ?_)
          have hz_849 := t_shl1 (by omega) (by omega) ez_849
          have h1z_849 := hz_849.1
          have h2z_849 := hz_849.2
          refine lv_goto (tgt := 29) hx hb dX3_rodsFromRoof_25 (by decide) ?_
          refine lv_ior hx hb dX3_rodsFromRoof_29 ?_
          refine lv_topi (fun z_850 ez_850 => ?_)
          refine lv_istore_n (lv' := [(1, .int z_850), (2, .int g_690), (0, .ref h0)]) hx hb dX3_rodsFromRoof_30 rfl hl (by decide) rfl (fun ls hl => ?_)
          obtain ⟨z_851, ez_851⟩ : ∃ y : Int32, y = g_690 + 1 := ⟨_, rfl⟩
          have hz_851 : z_851.toInt = g_690.toInt + 1 := by rw [ez_851]; exact t_add rfl tI_1 (by omega) (by omega)
          refine lv_iinc (v := z_851) (lv' := [(2, .int z_851), (1, .int z_850), (0, .ref h0)]) hx hb dX3_rodsFromRoof_31 hl (k := 1) rfl (by rw [ez_851]; rfl) (by decide) rfl (fun ls hl => ?_)
          refine lv_goto (tgt := 4) hx hb dX3_rodsFromRoof_34 (by decide) ?_
          exact ih z_851 z_850 (by omega) (by omega) (by omega) (by omega) _ _ hP hD hS ls (lv_sub hl [0, 1, 2] rfl)
  exact lp_843 _ 0 0 (by have := tI_0; omega) (by have := tI_0; omega) (by have := tI_0; omega) (Nat.lt_succ_self _) _ _ hP hD hS ls (lv_sub hl [0, 1, 2] rfl)
