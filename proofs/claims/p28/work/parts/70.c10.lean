theorem iw_X7_empty_X7 : ∀ w ∈ wsX70, w ∈ wsX7_empty := fun _ h => List.mem_cons_of_mem _ (List.mem_append_right _ h)
set_option maxHeartbeats 4000000 in
set_option maxRecDepth 100000 in
theorem c_X7_empty (l : Launch) (dC : Nat → ClassId) (dI : Nat → Nat → Nat) (ad : Nat → Nat) (tN : Nat) (fN : Nat → Int64) (cB cI cJ cZ : ClassId) (h0 : Nat) (r0 : Nat → Nat) (fc0 : Int32) (dc0 : Int32) (rk0 : Nat → Int32) (w0 : va_W) (o0 : ok_plan ad cB cI cJ cZ h0 r0 fc0 dc0 rk0 w0) (sz : Nat) : Met l yX7_empty wsX7_empty ({ frames := 0, cells := 0, slots := 0, locals := 0 } : Room) (va_Pc [.ref h0] (fun U => U.heap.size = sz ∧ va_P (dC, dI) vwCl (List.flatten [w0]) U.heap ∧ va_K (dC, dI) vwCl [(cB, .byte), (cI, .int), (cJ, .long), (cZ, .boolean)] U ∧ va_D (fun _ => True) (List.flatten [w0]) ∧ ex_Y ad tN fN (va_A (List.flatten [w0]) sz) U)) (va_Qv (fun _ : Unit => True) (fun (_ : Unit) (t : State) => ∃ (w09 : va_W), ok_plan ad cB cI cJ cZ h0 r0 0 0 rk0 w09 ∧ va_P (dC, dI) vwCl (List.flatten [w09]) t.heap ∧ va_D (va_A (List.flatten [w0]) sz) (List.flatten [w09])) (va_A (List.flatten [w0]) sz)) 0 0 (va_A (List.flatten [w0]) sz) := by
  refine Met.ofW (cc := cX7_empty) (maxL := 1) (ret := none) (by decide) rfl ?_
  intro p e s m args below meth c s₁ B hml hv
  obtain ⟨rfl, hsz, hP, hK, hD0, hE⟩ := hv
  have hx := B.exec
  have hb := B.bytes
  have hr := B.returns
  have hts := atoms_spec (ws := wsX7_empty) B.pre
  have hown : s.vm.findClass RX7 = some m.cls := findClass_of_methodNamed B.named
  have hlocks := B.notSynchronized
  subst hsz
  have hD := hD0.self (sz := s.heap.size)
  generalize hAe : va_A (List.flatten [w0]) s.heap.size = A at hD hE ⊢
  have hA : ∀ q : Nat, s.heap.size ≤ q → A q := fun q h => by rw [← hAe]; exact Or.inr h
  have hS : va_S A s.heap s.heap [] := va_S.rf
  have hl := lv_entry ([.ref h0]) (n := 1) (Nat.le_of_ble_eq_true rfl)
  rw [lg_entry_eq]
  generalize (lg_sl ([.ref h0]) ++ List.replicate (1 - (lg_sl ([.ref h0])).length) Slot.unset).toArray = ls at hl ⊢
  have hl : lv_has ls 1 [(0, .ref h0)] := hl
  clear hAe
  refine W_name (fun Q0 hQ0 => ?_)
  refine lv_aload_n hx hb dX7_empty_0 rfl (lv_at hl 0 rfl) ?_
  refine lv_iconst (v := 0) hx hb dX7_empty_1 (by decide) ?_
  obtain ⟨f_3, f_4, f_5, f_6, f_9, f_11, f_12, f_14, f_16, rfl, hl_1, hh_2, hl_7, hh_8, hr_10, hr_13, hr_15⟩ := o0
  refine va_put (D := (dC, dI)) (ci := 5) (v := .int 0) (ty := .int) (C := RX7) (T := TX7) (N := 12) hx hb hts iw_X7_empty_X7 tyX7 tyX7_ok nmX7 hown hK hP hD hS 0 rfl rfl 0 (by decide) (hts (.fieldLink RX7 9 "HungFloors$Plan" "floorCount" "I") (by decide +kernel)) (fun _ h9 => h9) rfl (by decide +kernel) rfl rfl (Nat.le_of_ble_eq_true rfl) dX7_empty_2 (fun H locs hP hD hS => ?_)
  have hP : va_P (dC, dI) vwCl (List.flatten [[(h0, .inr (5, [.int 0, .ref (r0 0), .ref (r0 1), .ref (r0 2), .ref (r0 3), .int dc0, .ref (r0 4), .ref (r0 5), .ref (r0 6), .ref (r0 7), .ref (r0 8), .ref (r0 9)])), (r0 0, .inl (cJ, 6, .inr (.inl f_3))), (r0 1, .inl (cI, 6, .inl f_4)), (r0 2, .inl (cI, 6, .inl f_5)), (r0 3, .inl (cI, 6, .inl f_6)), (r0 4, .inl (cJ, 4, .inr (.inl f_9))), (r0 5, .inl (cI, 4, .inl rk0)), (r0 6, .inl (cJ, 40, .inr (.inl f_11))), (r0 7, .inl (cI, 40, .inl f_12)), (r0 8, .inl (cI, 40, .inl f_14)), (r0 9, .inl (cI, 40, .inl f_16))]]) H := hP
  have hD : va_D A (List.flatten [[(h0, .inr (5, [.int 0, .ref (r0 0), .ref (r0 1), .ref (r0 2), .ref (r0 3), .int dc0, .ref (r0 4), .ref (r0 5), .ref (r0 6), .ref (r0 7), .ref (r0 8), .ref (r0 9)])), (r0 0, .inl (cJ, 6, .inr (.inl f_3))), (r0 1, .inl (cI, 6, .inl f_4)), (r0 2, .inl (cI, 6, .inl f_5)), (r0 3, .inl (cI, 6, .inl f_6)), (r0 4, .inl (cJ, 4, .inr (.inl f_9))), (r0 5, .inl (cI, 4, .inl rk0)), (r0 6, .inl (cJ, 40, .inr (.inl f_11))), (r0 7, .inl (cI, 40, .inl f_12)), (r0 8, .inl (cI, 40, .inl f_14)), (r0 9, .inl (cI, 40, .inl f_16))]]) := hD
  refine lv_aload_n hx hb dX7_empty_5 rfl (lv_at hl 0 rfl) ?_
  refine lv_iconst (v := 0) hx hb dX7_empty_6 (by decide) ?_
  refine va_put (D := (dC, dI)) (ci := 5) (v := .int 0) (ty := .int) (C := RX7) (T := TX7) (N := 12) hx hb hts iw_X7_empty_X7 tyX7 tyX7_ok nmX7 hown hK hP hD hS 0 rfl rfl 5 (by decide) (hts (.fieldLink RX7 29 "HungFloors$Plan" "drawingCount" "I") (by decide +kernel)) (fun _ h9 => h9) rfl (by decide +kernel) rfl rfl (Nat.le_of_ble_eq_true rfl) dX7_empty_7 (fun H locs hP hD hS => ?_)
  have hP : va_P (dC, dI) vwCl (List.flatten [[(h0, .inr (5, [.int 0, .ref (r0 0), .ref (r0 1), .ref (r0 2), .ref (r0 3), .int 0, .ref (r0 4), .ref (r0 5), .ref (r0 6), .ref (r0 7), .ref (r0 8), .ref (r0 9)])), (r0 0, .inl (cJ, 6, .inr (.inl f_3))), (r0 1, .inl (cI, 6, .inl f_4)), (r0 2, .inl (cI, 6, .inl f_5)), (r0 3, .inl (cI, 6, .inl f_6)), (r0 4, .inl (cJ, 4, .inr (.inl f_9))), (r0 5, .inl (cI, 4, .inl rk0)), (r0 6, .inl (cJ, 40, .inr (.inl f_11))), (r0 7, .inl (cI, 40, .inl f_12)), (r0 8, .inl (cI, 40, .inl f_14)), (r0 9, .inl (cI, 40, .inl f_16))]]) H := hP
  have hD : va_D A (List.flatten [[(h0, .inr (5, [.int 0, .ref (r0 0), .ref (r0 1), .ref (r0 2), .ref (r0 3), .int 0, .ref (r0 4), .ref (r0 5), .ref (r0 6), .ref (r0 7), .ref (r0 8), .ref (r0 9)])), (r0 0, .inl (cJ, 6, .inr (.inl f_3))), (r0 1, .inl (cI, 6, .inl f_4)), (r0 2, .inl (cI, 6, .inl f_5)), (r0 3, .inl (cI, 6, .inl f_6)), (r0 4, .inl (cJ, 4, .inr (.inl f_9))), (r0 5, .inl (cI, 4, .inl rk0)), (r0 6, .inl (cJ, 40, .inr (.inl f_11))), (r0 7, .inl (cI, 40, .inl f_12)), (r0 8, .inl (cI, 40, .inl f_14)), (r0 9, .inl (cI, 40, .inl f_16))]]) := hD
  rw [hQ0]
  exact W.vret hx hb hr (fun t ht hW => ⟨⟨(), rfl, trivial, ⟨_, ⟨f_3, f_4, f_5, f_6, f_9, f_11, f_12, f_14, f_16, rfl, by decide, by decide, by decide, by decide, hr_10, hr_13, hr_15⟩, by rw [ht]; exact hP, hD⟩⟩, hS.F ht⟩) hS.2.2 dX7_empty_10
theorem iw_X7_takesFloor_X7 : ∀ w ∈ wsX70, w ∈ wsX7_takesFloor := fun _ h => List.mem_cons_of_mem _ (List.mem_append_right _ h)
set_option maxHeartbeats 4000000 in
set_option maxRecDepth 100000 in
theorem c_X7_takesFloor (l : Launch) (dC : Nat → ClassId) (dI : Nat → Nat → Nat) (ad : Nat → Nat) (tN : Nat) (fN : Nat → Int64) (cB cI cJ cZ : ClassId) (h0 : Nat) (r0 : Nat → Nat) (fc0 : Int32) (dc0 : Int32) (rk0 : Nat → Int32) (w0 : va_W) (o0 : ok_plan ad cB cI cJ cZ h0 r0 fc0 dc0 rk0 w0) (sz : Nat) : Met l yX7_takesFloor wsX7_takesFloor ({ frames := 0, cells := 0, slots := 0, locals := 0 } : Room) (va_Pc [.ref h0] (fun U => U.heap.size = sz ∧ va_P (dC, dI) vwCl (List.flatten [w0]) U.heap ∧ va_K (dC, dI) vwCl [(cB, .byte), (cI, .int), (cJ, .long), (cZ, .boolean)] U ∧ va_D (fun _ => True) (List.flatten [w0]) ∧ ex_Y ad tN fN (va_A (List.flatten [w0]) sz) U)) (va_Qi (fun (r : Int32) (_ : Unit) => (r = 0 ∧ 6 ≤ fc0.toInt) ∨ (r = 0 ∧ fc0.toInt < 6 ∧ ¬ dc0.toInt = 0) ∨ (r = 1 ∧ fc0.toInt < 6 ∧ dc0.toInt = 0)) (fun (_ : Unit) (t : State) => va_P (dC, dI) vwCl (List.flatten [w0]) t.heap ∧ va_D (va_A (List.flatten [w0]) sz) (List.flatten [w0])) (va_A (List.flatten [w0]) sz)) 0 0 (va_A (List.flatten [w0]) sz) := by
  refine Met.ofW (cc := cX7_takesFloor) (maxL := 1) (ret := (some .boolean)) (by decide) rfl ?_
  intro p e s m args below meth c s₁ B hml hv
  obtain ⟨rfl, hsz, hP, hK, hD0, hE⟩ := hv
  have hx := B.exec
  have hb := B.bytes
  have hr := B.returns
  have hts := atoms_spec (ws := wsX7_takesFloor) B.pre
  have hown : s.vm.findClass RX7 = some m.cls := findClass_of_methodNamed B.named
  have hlocks := B.notSynchronized
  subst hsz
  have hD := hD0.self (sz := s.heap.size)
  generalize hAe : va_A (List.flatten [w0]) s.heap.size = A at hD hE ⊢
  have hA : ∀ q : Nat, s.heap.size ≤ q → A q := fun q h => by rw [← hAe]; exact Or.inr h
  have hS : va_S A s.heap s.heap [] := va_S.rf
  have hl := lv_entry ([.ref h0]) (n := 1) (Nat.le_of_ble_eq_true rfl)
  rw [lg_entry_eq]
  generalize (lg_sl ([.ref h0]) ++ List.replicate (1 - (lg_sl ([.ref h0])).length) Slot.unset).toArray = ls at hl ⊢
  have hl : lv_has ls 1 [(0, .ref h0)] := hl
  clear hAe
  refine W_name (fun Q0 hQ0 => ?_)
  refine lv_aload_n hx hb dX7_takesFloor_0 rfl (lv_at hl 0 rfl) ?_
  obtain ⟨f_3, f_4, f_5, f_6, f_9, f_11, f_12, f_14, f_16, rfl, hl_1, hh_2, hl_7, hh_8, hr_10, hr_13, hr_15⟩ := o0
  refine va_get (D := (dC, dI)) (ci := 5) (v := .int fc0) (C := RX7) (T := TX7) (N := 12) hx hb hts iw_X7_takesFloor_X7 hown hK hP 0 rfl rfl 0 (by decide) (hts (.fieldLink RX7 9 "HungFloors$Plan" "floorCount" "I") (by decide +kernel)) (fun _ h9 => h9) rfl dX7_takesFloor_1 ?_
  refine lv_bipush (v := 6) hx hb dX7_takesFloor_4 (by decide) ?_
  refine lv_icmp_ge (tgt := 20) hx hb dX7_takesFloor_6 (by decide) (fun c_17 => ?_) (fun c_17 => ?_)
  · have c_17 : 6 ≤ fc0.toInt := f_le tI_6 rfl c_17
    refine lv_iconst (v := 0) hx hb dX7_takesFloor_20 (by decide) ?_
    rw [hQ0]
    exact W.zret (v := 0) hx hb hr (by decide) (fun t ht hW => ⟨⟨0, (), rfl, Or.inl ⟨rfl, c_17⟩, ⟨by rw [ht]; exact hP, hD⟩⟩, hS.F ht⟩) hS.2.2 dX7_takesFloor_21
  · have c_17 : fc0.toInt < 6 := f_nle tI_6 rfl c_17
    refine lv_aload_n hx hb dX7_takesFloor_9 rfl (lv_at hl 0 rfl) ?_
    refine va_get (D := (dC, dI)) (ci := 5) (v := .int dc0) (C := RX7) (T := TX7) (N := 12) hx hb hts iw_X7_takesFloor_X7 hown hK hP 0 rfl rfl 5 (by decide) (hts (.fieldLink RX7 29 "HungFloors$Plan" "drawingCount" "I") (by decide +kernel)) (fun _ h9 => h9) rfl dX7_takesFloor_10 ?_
    refine lv_if_ne (tgt := 20) hx hb dX7_takesFloor_13 (by decide) (fun c_18 => ?_) (fun c_18 => ?_)
    · have c_18 : ¬ dc0.toInt = 0 := f_ne rfl tI_0 c_18
      refine lv_iconst (v := 0) hx hb dX7_takesFloor_20 (by decide) ?_
      rw [hQ0]
      exact W.zret (v := 0) hx hb hr (by decide) (fun t ht hW => ⟨⟨0, (), rfl, Or.inr (Or.inl ⟨rfl, c_17, c_18⟩), ⟨by rw [ht]; exact hP, hD⟩⟩, hS.F ht⟩) hS.2.2 dX7_takesFloor_21
    · have c_18 : dc0.toInt = 0 := f_eq rfl tI_0 c_18
      refine lv_iconst (v := 1) hx hb dX7_takesFloor_16 (by decide) ?_
      refine lv_goto (tgt := 21) hx hb dX7_takesFloor_17 (by decide) ?_
      rw [hQ0]
      exact W.zret (v := 1) hx hb hr (by decide) (fun t ht hW => ⟨⟨1, (), rfl, Or.inr (Or.inr (⟨rfl, c_17, c_18⟩)), ⟨by rw [ht]; exact hP, hD⟩⟩, hS.F ht⟩) hS.2.2 dX7_takesFloor_21
theorem iw_X7_takesDrawing_X7 : ∀ w ∈ wsX70, w ∈ wsX7_takesDrawing := fun _ h => List.mem_cons_of_mem _ (List.mem_append_right _ h)
set_option maxHeartbeats 4000000 in
set_option maxRecDepth 100000 in
theorem c_X7_takesDrawing (l : Launch) (dC : Nat → ClassId) (dI : Nat → Nat → Nat) (ad : Nat → Nat) (tN : Nat) (fN : Nat → Int64) (cB cI cJ cZ : ClassId) (h0 : Nat) (r0 : Nat → Nat) (fc0 : Int32) (dc0 : Int32) (rk0 : Nat → Int32) (w0 : va_W) (o0 : ok_plan ad cB cI cJ cZ h0 r0 fc0 dc0 rk0 w0) (sz : Nat) : Met l yX7_takesDrawing wsX7_takesDrawing ({ frames := 0, cells := 0, slots := 0, locals := 0 } : Room) (va_Pc [.ref h0] (fun U => U.heap.size = sz ∧ va_P (dC, dI) vwCl (List.flatten [w0]) U.heap ∧ va_K (dC, dI) vwCl [(cB, .byte), (cI, .int), (cJ, .long), (cZ, .boolean)] U ∧ va_D (fun _ => True) (List.flatten [w0]) ∧ ex_Y ad tN fN (va_A (List.flatten [w0]) sz) U)) (va_Qi (fun (r : Int32) (_ : Unit) => (r = 0 ∧ 4 ≤ dc0.toInt) ∨ (r = 1 ∧ dc0.toInt < 4)) (fun (_ : Unit) (t : State) => va_P (dC, dI) vwCl (List.flatten [w0]) t.heap ∧ va_D (va_A (List.flatten [w0]) sz) (List.flatten [w0])) (va_A (List.flatten [w0]) sz)) 0 0 (va_A (List.flatten [w0]) sz) := by
  refine Met.ofW (cc := cX7_takesDrawing) (maxL := 1) (ret := (some .boolean)) (by decide) rfl ?_
  intro p e s m args below meth c s₁ B hml hv
  obtain ⟨rfl, hsz, hP, hK, hD0, hE⟩ := hv
  have hx := B.exec
  have hb := B.bytes
  have hr := B.returns
  have hts := atoms_spec (ws := wsX7_takesDrawing) B.pre
  have hown : s.vm.findClass RX7 = some m.cls := findClass_of_methodNamed B.named
  have hlocks := B.notSynchronized
  subst hsz
  have hD := hD0.self (sz := s.heap.size)
  generalize hAe : va_A (List.flatten [w0]) s.heap.size = A at hD hE ⊢
  have hA : ∀ q : Nat, s.heap.size ≤ q → A q := fun q h => by rw [← hAe]; exact Or.inr h
  have hS : va_S A s.heap s.heap [] := va_S.rf
  have hl := lv_entry ([.ref h0]) (n := 1) (Nat.le_of_ble_eq_true rfl)
  rw [lg_entry_eq]
  generalize (lg_sl ([.ref h0]) ++ List.replicate (1 - (lg_sl ([.ref h0])).length) Slot.unset).toArray = ls at hl ⊢
  have hl : lv_has ls 1 [(0, .ref h0)] := hl
  clear hAe
  refine W_name (fun Q0 hQ0 => ?_)
  refine lv_aload_n hx hb dX7_takesDrawing_0 rfl (lv_at hl 0 rfl) ?_
  obtain ⟨f_3, f_4, f_5, f_6, f_9, f_11, f_12, f_14, f_16, rfl, hl_1, hh_2, hl_7, hh_8, hr_10, hr_13, hr_15⟩ := o0
  refine va_get (D := (dC, dI)) (ci := 5) (v := .int dc0) (C := RX7) (T := TX7) (N := 12) hx hb hts iw_X7_takesDrawing_X7 hown hK hP 0 rfl rfl 5 (by decide) (hts (.fieldLink RX7 29 "HungFloors$Plan" "drawingCount" "I") (by decide +kernel)) (fun _ h9 => h9) rfl dX7_takesDrawing_1 ?_
  refine lv_iconst (v := 4) hx hb dX7_takesDrawing_4 (by decide) ?_
  refine lv_icmp_ge (tgt := 12) hx hb dX7_takesDrawing_5 (by decide) (fun c_17 => ?_) (fun c_17 => ?_)
  · have c_17 : 4 ≤ dc0.toInt := f_le tI_4 rfl c_17
    refine lv_iconst (v := 0) hx hb dX7_takesDrawing_12 (by decide) ?_
    rw [hQ0]
    exact W.zret (v := 0) hx hb hr (by decide) (fun t ht hW => ⟨⟨0, (), rfl, Or.inl ⟨rfl, c_17⟩, ⟨by rw [ht]; exact hP, hD⟩⟩, hS.F ht⟩) hS.2.2 dX7_takesDrawing_13
  · have c_17 : dc0.toInt < 4 := f_nle tI_4 rfl c_17
    refine lv_iconst (v := 1) hx hb dX7_takesDrawing_8 (by decide) ?_
    refine lv_goto (tgt := 13) hx hb dX7_takesDrawing_9 (by decide) ?_
    rw [hQ0]
    exact W.zret (v := 1) hx hb hr (by decide) (fun t ht hW => ⟨⟨1, (), rfl, Or.inr (⟨rfl, c_17⟩), ⟨by rw [ht]; exact hP, hD⟩⟩, hS.F ht⟩) hS.2.2 dX7_takesDrawing_13
set_option maxHeartbeats 4000000 in
set_option maxRecDepth 100000 in
theorem c_J6_bitCount_0f7a4_nv63 (l : Launch) (dC : Nat → ClassId) (dI : Nat → Nat → Nat) (ad : Nat → Nat) (tN : Nat) (fN : Nat → Int64) (cB cI cJ cZ : ClassId) (p1 : Int32) (sz : Nat) (up11 : 0 ≤ p1.toInt) (up12 : p1.toInt ≤ 63) : Met l yJ6_bitCount_0f7a4 wsJ6_bitCount_0f7a4 ({ frames := 0, cells := 0, slots := 0, locals := 0 } : Room) (va_Pc [.int p1] (fun U => U.heap.size = sz ∧ va_P (dC, dI) vwCl (List.flatten []) U.heap ∧ va_K (dC, dI) vwCl [(cB, .byte), (cI, .int), (cJ, .long), (cZ, .boolean)] U ∧ va_D (fun _ => True) (List.flatten []) ∧ ex_Y ad tN fN (va_A (List.flatten []) sz) U)) (va_Qi (fun (r : Int32) (_ : Unit) => 0 ≤ r.toInt ∧ r.toInt ≤ 6) (fun (_ : Unit) (t : State) => va_P (dC, dI) vwCl (List.flatten []) t.heap ∧ va_D (va_A (List.flatten []) sz) (List.flatten [])) (va_A (List.flatten []) sz)) 0 0 (va_A (List.flatten []) sz) := by
  refine Met.ofW (cc := cJ6_bitCount_0f7a4) (maxL := 1) (ret := (some .int)) (by decide) rfl ?_
  intro p e s m args below meth c s₁ B hml hv
  obtain ⟨rfl, hsz, hP, hK, hD0, hE⟩ := hv
  have hx := B.exec
  have hb := B.bytes
  have hr := B.returns
  have hts := atoms_spec (ws := wsJ6_bitCount_0f7a4) B.pre
  have hown : s.vm.findClass RJ6 = some m.cls := findClass_of_methodNamed B.named
  have hlocks := B.notSynchronized
  subst hsz
  have hD := hD0.self (sz := s.heap.size)
  generalize hAe : va_A (List.flatten []) s.heap.size = A at hD hE ⊢
  have hA : ∀ q : Nat, s.heap.size ≤ q → A q := fun q h => by rw [← hAe]; exact Or.inr h
  have hS : va_S A s.heap s.heap [] := va_S.rf
  have hl := lv_entry ([.int p1]) (n := 1) (Nat.le_of_ble_eq_true rfl)
  rw [lg_entry_eq]
  generalize (lg_sl ([.int p1]) ++ List.replicate (1 - (lg_sl ([.int p1])).length) Slot.unset).toArray = ls at hl ⊢
  have hl : lv_has ls 1 [(0, .int p1)] := hl
  clear hAe
  refine W_name (fun Q0 hQ0 => ?_)
  refine lv_iload_n hx hb dJ6_bitCount_0f7a4_0 rfl (lv_at hl 0 rfl) ?_
  refine lv_iload_n hx hb dJ6_bitCount_0f7a4_1 rfl (lv_at hl 0 rfl) ?_
  refine lv_iconst (v := 1) hx hb dJ6_bitCount_0f7a4_2 (by decide) ?_
  refine lv_iushr hx hb dJ6_bitCount_0f7a4_3 rfl ?_
  refine lv_topi (fun z_1 ez_1 => ?_)
  refine lv_ldcw hx hb hown (hts (.constant RJ6 265 (1431655765)) (by decide +kernel)) dJ6_bitCount_0f7a4_4 ?_
  refine lv_iand hx hb dJ6_bitCount_0f7a4_7 ?_
  refine lv_topi (fun z_2 ez_2 => ?_)
  refine lv_isub hx hb dJ6_bitCount_0f7a4_8 ?_
  refine lv_topi (fun z_3 ez_3 => ?_)
  refine lv_istore_n (lv' := [(0, .int z_3)]) hx hb dJ6_bitCount_0f7a4_9 rfl hl (by decide) rfl (fun ls hl => ?_)
  refine lv_iload_n hx hb dJ6_bitCount_0f7a4_10 rfl (lv_at hl 0 rfl) ?_
  refine lv_ldcw hx hb hown (hts (.constant RJ6 266 (858993459)) (by decide +kernel)) dJ6_bitCount_0f7a4_11 ?_
  refine lv_iand hx hb dJ6_bitCount_0f7a4_14 ?_
  refine lv_topi (fun z_4 ez_4 => ?_)
  refine lv_iload_n hx hb dJ6_bitCount_0f7a4_15 rfl (lv_at hl 0 rfl) ?_
  refine lv_iconst (v := 2) hx hb dJ6_bitCount_0f7a4_16 (by decide) ?_
  refine lv_iushr hx hb dJ6_bitCount_0f7a4_17 rfl ?_
  refine lv_topi (fun z_5 ez_5 => ?_)
  refine lv_ldcw hx hb hown (hts (.constant RJ6 266 (858993459)) (by decide +kernel)) dJ6_bitCount_0f7a4_18 ?_
  refine lv_iand hx hb dJ6_bitCount_0f7a4_21 ?_
  refine lv_topi (fun z_6 ez_6 => ?_)
  refine lv_iadd hx hb dJ6_bitCount_0f7a4_22 ?_
  refine lv_topi (fun z_7 ez_7 => ?_)
  refine lv_istore_n (lv' := [(0, .int z_7)]) hx hb dJ6_bitCount_0f7a4_23 rfl hl (by decide) rfl (fun ls hl => ?_)
  refine lv_iload_n hx hb dJ6_bitCount_0f7a4_24 rfl (lv_at hl 0 rfl) ?_
  refine lv_iload_n hx hb dJ6_bitCount_0f7a4_25 rfl (lv_at hl 0 rfl) ?_
  refine lv_iconst (v := 4) hx hb dJ6_bitCount_0f7a4_26 (by decide) ?_
  refine lv_iushr hx hb dJ6_bitCount_0f7a4_27 rfl ?_
  refine lv_topi (fun z_8 ez_8 => ?_)
  refine lv_iadd hx hb dJ6_bitCount_0f7a4_28 ?_
  refine lv_topi (fun z_9 ez_9 => ?_)
  refine lv_ldcw hx hb hown (hts (.constant RJ6 267 (252645135)) (by decide +kernel)) dJ6_bitCount_0f7a4_29 ?_
  refine lv_iand hx hb dJ6_bitCount_0f7a4_32 ?_
  refine lv_topi (fun z_10 ez_10 => ?_)
  refine lv_istore_n (lv' := [(0, .int z_10)]) hx hb dJ6_bitCount_0f7a4_33 rfl hl (by decide) rfl (fun ls hl => ?_)
  refine lv_iload_n hx hb dJ6_bitCount_0f7a4_34 rfl (lv_at hl 0 rfl) ?_
  refine lv_iload_n hx hb dJ6_bitCount_0f7a4_35 rfl (lv_at hl 0 rfl) ?_
  refine lv_bipush (v := 8) hx hb dJ6_bitCount_0f7a4_36 (by decide) ?_
  refine lv_iushr hx hb dJ6_bitCount_0f7a4_38 rfl ?_
  refine lv_topi (fun z_11 ez_11 => ?_)
  refine lv_iadd hx hb dJ6_bitCount_0f7a4_39 ?_
  refine lv_topi (fun z_12 ez_12 => ?_)
  refine lv_istore_n (lv' := [(0, .int z_12)]) hx hb dJ6_bitCount_0f7a4_40 rfl hl (by decide) rfl (fun ls hl => ?_)
  refine lv_iload_n hx hb dJ6_bitCount_0f7a4_41 rfl (lv_at hl 0 rfl) ?_
  refine lv_iload_n hx hb dJ6_bitCount_0f7a4_42 rfl (lv_at hl 0 rfl) ?_
  refine lv_bipush (v := 16) hx hb dJ6_bitCount_0f7a4_43 (by decide) ?_
  refine lv_iushr hx hb dJ6_bitCount_0f7a4_45 rfl ?_
  refine lv_topi (fun z_13 ez_13 => ?_)
  refine lv_iadd hx hb dJ6_bitCount_0f7a4_46 ?_
  refine lv_topi (fun z_14 ez_14 => ?_)
  refine lv_istore_n (lv' := [(0, .int z_14)]) hx hb dJ6_bitCount_0f7a4_47 rfl hl (by decide) rfl (fun ls hl => ?_)
  refine lv_iload_n hx hb dJ6_bitCount_0f7a4_48 rfl (lv_at hl 0 rfl) ?_
  refine lv_bipush (v := 63) hx hb dJ6_bitCount_0f7a4_49 (by decide) ?_
  refine lv_iand hx hb dJ6_bitCount_0f7a4_51 ?_
  refine lv_topi (fun z_15 ez_15 => ?_)
  rw [hQ0]
  have hbc := bc63 up11 up12 ez_1 ez_2 ez_3 ez_4 ez_5 ez_6 ez_7 ez_8 ez_9 ez_10 ez_11 ez_12 ez_13 ez_14 ez_15
  exact W.iret (v := z_15) hx hb hr (fun t ht hW => ⟨⟨z_15, (), rfl, hbc, ⟨by rw [ht]; exact hP, hD⟩⟩, hS.F ht⟩) hS.2.2 dJ6_bitCount_0f7a4_52
theorem iw_X7_jointsOf_X7 : ∀ w ∈ wsX70, w ∈ wsX7_jointsOf := fun _ h => List.mem_cons_of_mem _ (List.mem_append_right _ h)
set_option maxHeartbeats 4000000 in
set_option maxRecDepth 100000 in
theorem c_X7_jointsOf (l : Launch) (dC : Nat → ClassId) (dI : Nat → Nat → Nat) (ad : Nat → Nat) (tN : Nat) (fN : Nat → Int64) (cB cI cJ cZ : ClassId) (h0 : Nat) (p1 : Int32) (r0 : Nat → Nat) (fc0 : Int32) (dc0 : Int32) (rk0 : Nat → Int32) (w0 : va_W) (o0 : ok_plan ad cB cI cJ cZ h0 r0 fc0 dc0 rk0 w0) (sz : Nat) : Met l yX7_jointsOf wsX7_jointsOf ({ frames := 1, cells := 0, slots := 0, locals := 20 } : Room) (va_Pc [.ref h0, .int p1] (fun U => U.heap.size = sz ∧ va_P (dC, dI) vwCl (List.flatten [w0]) U.heap ∧ va_K (dC, dI) vwCl [(cB, .byte), (cI, .int), (cJ, .long), (cZ, .boolean)] U ∧ va_D (fun _ => True) (List.flatten [w0]) ∧ ex_Y ad tN fN (va_A (List.flatten [w0]) sz) U)) (va_Qi (fun (r : Int32) (_ : Unit) => 0 ≤ r.toInt ∧ r.toInt ≤ 70) (fun (_ : Unit) (t : State) => va_P (dC, dI) vwCl (List.flatten [w0]) t.heap ∧ va_D (va_A (List.flatten [w0]) sz) (List.flatten [w0])) (va_A (List.flatten [w0]) sz)) 0 0 (va_A (List.flatten [w0]) sz) := by
  refine Met.ofW (cc := cX7_jointsOf) (maxL := 5) (ret := (some .int)) (by decide) rfl ?_
  intro p e s m args below meth c s₁ B hml hv
  obtain ⟨rfl, hsz, hP, hK, hD0, hE⟩ := hv
  have hx := B.exec
  have hb := B.bytes
  have hr := B.returns
  have hts := atoms_spec (ws := wsX7_jointsOf) B.pre
  have hown : s.vm.findClass RX7 = some m.cls := findClass_of_methodNamed B.named
  have hlocks := B.notSynchronized
  subst hsz
  have hD := hD0.self (sz := s.heap.size)
  generalize hAe : va_A (List.flatten [w0]) s.heap.size = A at hD hE ⊢
  have hA : ∀ q : Nat, s.heap.size ≤ q → A q := fun q h => by rw [← hAe]; exact Or.inr h
  have hS : va_S A s.heap s.heap [] := va_S.rf
  have hl := lv_entry ([.ref h0, .int p1]) (n := 5) (Nat.le_of_ble_eq_true rfl)
  rw [lg_entry_eq]
  generalize (lg_sl ([.ref h0, .int p1]) ++ List.replicate (5 - (lg_sl ([.ref h0, .int p1])).length) Slot.unset).toArray = ls at hl ⊢
  have hl : lv_has ls 5 [(0, .ref h0), (1, .int p1)] := hl
  clear hAe
  refine W_name (fun Q0 hQ0 => ?_)
  refine lv_iconst (v := 0) hx hb dX7_jointsOf_0 (by decide) ?_
  refine lv_istore_n (lv' := [(2, .int 0), (0, .ref h0), (1, .int p1)]) hx hb dX7_jointsOf_1 rfl hl (by decide) rfl (fun ls hl => ?_)
  refine lv_iload_n hx hb dX7_jointsOf_2 rfl (lv_at hl 2 rfl) ?_
  refine lv_if_lt (tgt := 56) hx hb dX7_jointsOf_3 (by decide) (fun c_1 => ?_) (fun c_1 => ?_)
  · have c_1 : p1.toInt < 0 := f_lt rfl tI_0 c_1
    refine lv_iload_n hx hb dX7_jointsOf_56 rfl (lv_at hl 0 rfl) ?_
    rw [hQ0]
    exact W.iret (v := 0) hx hb hr (fun t ht hW => ⟨⟨0, (), rfl, ⟨by decide, by decide⟩, ⟨by rw [ht]; exact hP, hD⟩⟩, hS.F ht⟩) hS.2.2 dX7_jointsOf_57
  · have c_1 : 0 ≤ p1.toInt := f_nlt rfl tI_0 c_1
    refine lv_iload_n hx hb dX7_jointsOf_6 rfl (lv_at hl 2 rfl) ?_
    refine lv_aload_n hx hb dX7_jointsOf_7 rfl (lv_at hl 1 rfl) ?_
    obtain ⟨f_4, f_5, f_6, f_7, f_10, f_12, f_13, f_15, f_17, rfl, hl_2, hh_3, hl_8, hh_9, hr_11, hr_14, hr_16⟩ := o0
    refine va_get (D := (dC, dI)) (ci := 5) (v := .int dc0) (C := RX7) (T := TX7) (N := 12) hx hb hts iw_X7_jointsOf_X7 hown hK hP 0 rfl rfl 5 (by decide) (hts (.fieldLink RX7 29 "HungFloors$Plan" "drawingCount" "I") (by decide +kernel)) (fun _ h9 => h9) rfl dX7_jointsOf_8 ?_
    refine lv_icmp_ge (tgt := 56) hx hb dX7_jointsOf_11 (by decide) (fun c_18 => ?_) (fun c_18 => ?_)
    · have c_18 : dc0.toInt ≤ p1.toInt := f_le rfl rfl c_18
      refine lv_iload_n hx hb dX7_jointsOf_56 rfl (lv_at hl 0 rfl) ?_
      rw [hQ0]
      exact W.iret (v := 0) hx hb hr (fun t ht hW => ⟨⟨0, (), rfl, ⟨by decide, by decide⟩, ⟨by rw [ht]; exact hP, hD⟩⟩, hS.F ht⟩) hS.2.2 dX7_jointsOf_57
    · have c_18 : p1.toInt < dc0.toInt := f_nle rfl rfl c_18
      refine lv_iload_n hx hb dX7_jointsOf_14 rfl (lv_at hl 2 rfl) ?_
      refine lv_bipush (v := 10) hx hb dX7_jointsOf_15 (by decide) ?_
      refine lv_imul hx hb dX7_jointsOf_17 ?_
      refine lv_topi (fun z_19 ez_19 => ?_)
      have hz_19 : z_19.toInt = p1.toInt * 10 := by rw [ez_19]; exact t_mul rfl tI_10 (by omega) (by omega)
      have fz_19 : z_19 = (p1 * 10) := by rw [ez_19]
      refine lv_istore_n (lv' := [(3, .int z_19), (2, .int 0), (0, .ref h0), (1, .int p1)]) hx hb dX7_jointsOf_18 rfl hl (by decide) rfl (fun ls hl => ?_)
      refine lv_iconst (v := 0) hx hb dX7_jointsOf_19 (by decide) ?_
      refine lv_istore (lv' := [(4, .int 0), (3, .int z_19), (2, .int 0), (0, .ref h0), (1, .int p1)]) hx hb dX7_jointsOf_20 hl (by decide) rfl (fun ls hl => ?_)
      have lp_115 : ∀ (n : Nat) (g_20 : Int32) (g_21 : Int32), 0 ≤ g_20.toInt → g_20.toInt ≤ 10 → 0 ≤ g_21.toInt → g_21.toInt ≤ 70 → g_21.toInt ≤ 7 * g_20.toInt → (10 - g_20.toInt).toNat < n → ∀ (H : Heap) (locs : List Loc), va_P (dC, dI) vwCl (List.flatten [[(h0, .inr (5, [.int fc0, .ref (r0 0), .ref (r0 1), .ref (r0 2), .ref (r0 3), .int dc0, .ref (r0 4), .ref (r0 5), .ref (r0 6), .ref (r0 7), .ref (r0 8), .ref (r0 9)])), (r0 0, .inl (cJ, 6, .inr (.inl f_4))), (r0 1, .inl (cI, 6, .inl f_5)), (r0 2, .inl (cI, 6, .inl f_6)), (r0 3, .inl (cI, 6, .inl f_7)), (r0 4, .inl (cJ, 4, .inr (.inl f_10))), (r0 5, .inl (cI, 4, .inl rk0)), (r0 6, .inl (cJ, 40, .inr (.inl f_12))), (r0 7, .inl (cI, 40, .inl f_13)), (r0 8, .inl (cI, 40, .inl f_15)), (r0 9, .inl (cI, 40, .inl f_17))]]) H → va_D A (List.flatten [[(h0, .inr (5, [.int fc0, .ref (r0 0), .ref (r0 1), .ref (r0 2), .ref (r0 3), .int dc0, .ref (r0 4), .ref (r0 5), .ref (r0 6), .ref (r0 7), .ref (r0 8), .ref (r0 9)])), (r0 0, .inl (cJ, 6, .inr (.inl f_4))), (r0 1, .inl (cI, 6, .inl f_5)), (r0 2, .inl (cI, 6, .inl f_6)), (r0 3, .inl (cI, 6, .inl f_7)), (r0 4, .inl (cJ, 4, .inr (.inl f_10))), (r0 5, .inl (cI, 4, .inl rk0)), (r0 6, .inl (cJ, 40, .inr (.inl f_12))), (r0 7, .inl (cI, 40, .inl f_13)), (r0 8, .inl (cI, 40, .inl f_15)), (r0 9, .inl (cI, 40, .inl f_17))]]) → va_S A s.heap H locs → ∀ (ls : Array Slot), lv_has ls 5 [(4, .int g_20), (3, .int z_19), (2, .int g_21), (0, .ref h0), (1, .int p1)] → W p l e (headSpec wsX7_jointsOf ({ frames := 1, cells := 0, slots := 0, locals := 20 } : Room)).room s m ([.ref h0, .int p1] : List Value).toArray below meth c H locs 0 0 Q0 (F0 m 22 ls []) := by
        intro n
        induction n with
        | zero => intro g_20 g_21 iv_110 iv_111 iv_112 iv_113 iv_114 hm; exact absurd hm (Nat.not_lt_zero _)
        | succ n ih_116 =>
          intro g_20 g_21 iv_110 iv_111 iv_112 iv_113 iv_114 hm H locs hP hD hS ls hl
          refine lv_iload hx hb dX7_jointsOf_22 (lv_at hl 0 rfl) ?_
          refine lv_aload_n hx hb dX7_jointsOf_24 rfl (lv_at hl 3 rfl) ?_
          refine va_get (D := (dC, dI)) (ci := 5) (v := .ref (r0 5)) (C := RX7) (T := TX7) (N := 12) hx hb hts iw_X7_jointsOf_X7 hown hK hP 0 rfl rfl 7 (by decide) (hts (.fieldLink RX7 35 "HungFloors$Plan" "rodCount" "[I") (by decide +kernel)) (fun _ h9 => h9) rfl dX7_jointsOf_25 ?_
          refine lv_iload_n hx hb dX7_jointsOf_28 rfl (lv_at hl 4 rfl) ?_
          refine va_iald hx hb hK hP 6 1 rfl rfl (v_in rfl (by omega) (by omega)) dX7_jointsOf_29 ?_
          refine lv_topi (fun z_117 ez_117 => ?_)
          have gz_117 := rg_at hr_11 ez_117
          have g1z_117 := gz_117.1
          have g2z_117 := gz_117.2
          have fz_117 : z_117 = (rk0 (p1 : Int32).toNatClampNeg) := by rw [ez_117]
          refine lv_icmp_ge (tgt := 56) hx hb dX7_jointsOf_30 (by decide) (fun c_118 => ?_) (fun c_118 => ?_)
          · have c_118 : z_117.toInt ≤ g_20.toInt := f_le rfl rfl c_118
            refine lv_iload_n hx hb dX7_jointsOf_56 rfl (lv_at hl 2 rfl) ?_
            rw [hQ0]
            exact W.iret (v := g_21) hx hb hr (fun t ht hW => ⟨⟨g_21, (), rfl, ⟨by omega, by omega⟩, ⟨by rw [ht]; exact hP, hD⟩⟩, hS.F ht⟩) hS.2.2 dX7_jointsOf_57
          · have c_118 : g_20.toInt < z_117.toInt := f_nle rfl rfl c_118
            refine lv_iload_n hx hb dX7_jointsOf_33 rfl (lv_at hl 2 rfl) ?_
            refine lv_iconst (v := 1) hx hb dX7_jointsOf_34 (by decide) ?_
            refine lv_aload_n hx hb dX7_jointsOf_35 rfl (lv_at hl 3 rfl) ?_
            refine va_get (D := (dC, dI)) (ci := 5) (v := .ref (r0 8)) (C := RX7) (T := TX7) (N := 12) hx hb hts iw_X7_jointsOf_X7 hown hK hP 0 rfl rfl 10 (by decide) (hts (.fieldLink RX7 44 "HungFloors$Plan" "rodHolds" "[I") (by decide +kernel)) (fun _ h9 => h9) rfl dX7_jointsOf_36 ?_
            refine lv_iload_n hx hb dX7_jointsOf_39 rfl (lv_at hl 1 rfl) ?_
            refine lv_iload hx hb dX7_jointsOf_40 (lv_at hl 0 rfl) ?_
            refine lv_iadd hx hb dX7_jointsOf_42 ?_
            refine lv_topi (fun z_119 ez_119 => ?_)
            have hz_119 : z_119.toInt = z_19.toInt + g_20.toInt := by rw [ez_119]; exact t_add rfl rfl (by omega) (by omega)
            refine va_iald hx hb hK hP 9 1 rfl rfl (v_in rfl (by omega) (by omega)) dX7_jointsOf_43 ?_
            refine lv_topi (fun z_120 ez_120 => ?_)
            have gz_120 := rg_at hr_16 ez_120
            have g1z_120 := gz_120.1
            have g2z_120 := gz_120.2
            have hpm : List.Perm ([[(h0, .inr (5, [.int fc0, .ref (r0 0), .ref (r0 1), .ref (r0 2), .ref (r0 3), .int dc0, .ref (r0 4), .ref (r0 5), .ref (r0 6), .ref (r0 7), .ref (r0 8), .ref (r0 9)])), (r0 0, .inl (cJ, 6, .inr (.inl f_4))), (r0 1, .inl (cI, 6, .inl f_5)), (r0 2, .inl (cI, 6, .inl f_6)), (r0 3, .inl (cI, 6, .inl f_7)), (r0 4, .inl (cJ, 4, .inr (.inl f_10))), (r0 5, .inl (cI, 4, .inl rk0)), (r0 6, .inl (cJ, 40, .inr (.inl f_12))), (r0 7, .inl (cI, 40, .inl f_13)), (r0 8, .inl (cI, 40, .inl f_15)), (r0 9, .inl (cI, 40, .inl f_17))]] : List va_W) (([] : List va_W) ++ ([[(h0, .inr (5, [.int fc0, .ref (r0 0), .ref (r0 1), .ref (r0 2), .ref (r0 3), .int dc0, .ref (r0 4), .ref (r0 5), .ref (r0 6), .ref (r0 7), .ref (r0 8), .ref (r0 9)])), (r0 0, .inl (cJ, 6, .inr (.inl f_4))), (r0 1, .inl (cI, 6, .inl f_5)), (r0 2, .inl (cI, 6, .inl f_6)), (r0 3, .inl (cI, 6, .inl f_7)), (r0 4, .inl (cJ, 4, .inr (.inl f_10))), (r0 5, .inl (cI, 4, .inl rk0)), (r0 6, .inl (cJ, 40, .inr (.inl f_12))), (r0 7, .inl (cI, 40, .inl f_13)), (r0 8, .inl (cI, 40, .inl f_15)), (r0 9, .inl (cI, 40, .inl f_17))]] : List va_W)) := pm_n 1 [0] (by decide) rfl rfl
            have hPc := bk_P hpm hP
            have hDc := bk_D hpm hD
            have hFc := bk_F hpm hD hS hA
            refine va_calli (va_runS (As := [.int z_120]) (rest := [.int 1, .int g_21]) ⟨hx, hb, hml, hown, hts⟩ (c_J6_bitCount_0f7a4_nv63 l dC dI ad tN fN cB cI cJ cZ z_120 H.size (by omega) (by omega)) (va_cwS 1 hts gX7_jointsOf_J6_bitCount_0f7a4 rfl rfl rfl (by decide +kernel) ⟨(Nat.le_of_ble_eq_true rfl), (Nat.le_of_ble_eq_true rfl)⟩) ⟨fun a U g mk q => by obtain ⟨q0, q1, qP, qK, qD, qE⟩ := q; exact ⟨q0, q1, qP, va_K.moved (u := U) (U := U.calling g mk a) (Vm.Alike.refl U.vm) qK, qD, ey_blind qE⟩, fun U hU hW => ⟨rfl, by rw [hU], by rw [hU]; exact hPc, va_K.moved hW.alike hK, hDc.weaken (fun _ _ _ _ => trivial), ey_call hE hS hFc hU hW⟩⟩ rfl rfl hl.1 rfl (lv_room (Nat.le_of_ble_eq_true rfl)) dX7_jointsOf_44 ⟨(Nat.le_of_ble_eq_true rfl), (Nat.le_of_ble_eq_true rfl)⟩) hS (fun q _ h => hFc q h) hFc (fun r_121 u t H locs ht hvm hw hB hz1 hk1 hS => ?_)
            obtain ⟨hP1, hD1⟩ := hB
            rw [ht] at hP1
            obtain ⟨hP, hD⟩ := bk_join hpm hP hD hk1 hFc (Cs1 := []) hP1 hD1
            have hpm2 : List.Perm (([] : List va_W) ++ ([[(h0, .inr (5, [.int fc0, .ref (r0 0), .ref (r0 1), .ref (r0 2), .ref (r0 3), .int dc0, .ref (r0 4), .ref (r0 5), .ref (r0 6), .ref (r0 7), .ref (r0 8), .ref (r0 9)])), (r0 0, .inl (cJ, 6, .inr (.inl f_4))), (r0 1, .inl (cI, 6, .inl f_5)), (r0 2, .inl (cI, 6, .inl f_6)), (r0 3, .inl (cI, 6, .inl f_7)), (r0 4, .inl (cJ, 4, .inr (.inl f_10))), (r0 5, .inl (cI, 4, .inl rk0)), (r0 6, .inl (cJ, 40, .inr (.inl f_12))), (r0 7, .inl (cI, 40, .inl f_13)), (r0 8, .inl (cI, 40, .inl f_15)), (r0 9, .inl (cI, 40, .inl f_17))]] : List va_W)) ([[(h0, .inr (5, [.int fc0, .ref (r0 0), .ref (r0 1), .ref (r0 2), .ref (r0 3), .int dc0, .ref (r0 4), .ref (r0 5), .ref (r0 6), .ref (r0 7), .ref (r0 8), .ref (r0 9)])), (r0 0, .inl (cJ, 6, .inr (.inl f_4))), (r0 1, .inl (cI, 6, .inl f_5)), (r0 2, .inl (cI, 6, .inl f_6)), (r0 3, .inl (cI, 6, .inl f_7)), (r0 4, .inl (cJ, 4, .inr (.inl f_10))), (r0 5, .inl (cI, 4, .inl rk0)), (r0 6, .inl (cJ, 40, .inr (.inl f_12))), (r0 7, .inl (cI, 40, .inl f_13)), (r0 8, .inl (cI, 40, .inl f_15)), (r0 9, .inl (cI, 40, .inl f_17))]] : List va_W) := pm_n 1 [0] (by decide) rfl rfl
            have hP := bk_reP hpm2 hP
            have hD := bk_reD hpm2 hD
            have hP : va_P (dC, dI) vwCl (List.flatten [[(h0, .inr (5, [.int fc0, .ref (r0 0), .ref (r0 1), .ref (r0 2), .ref (r0 3), .int dc0, .ref (r0 4), .ref (r0 5), .ref (r0 6), .ref (r0 7), .ref (r0 8), .ref (r0 9)])), (r0 0, .inl (cJ, 6, .inr (.inl f_4))), (r0 1, .inl (cI, 6, .inl f_5)), (r0 2, .inl (cI, 6, .inl f_6)), (r0 3, .inl (cI, 6, .inl f_7)), (r0 4, .inl (cJ, 4, .inr (.inl f_10))), (r0 5, .inl (cI, 4, .inl rk0)), (r0 6, .inl (cJ, 40, .inr (.inl f_12))), (r0 7, .inl (cI, 40, .inl f_13)), (r0 8, .inl (cI, 40, .inl f_15)), (r0 9, .inl (cI, 40, .inl f_17))]]) H := hP
            have hD : va_D A (List.flatten [[(h0, .inr (5, [.int fc0, .ref (r0 0), .ref (r0 1), .ref (r0 2), .ref (r0 3), .int dc0, .ref (r0 4), .ref (r0 5), .ref (r0 6), .ref (r0 7), .ref (r0 8), .ref (r0 9)])), (r0 0, .inl (cJ, 6, .inr (.inl f_4))), (r0 1, .inl (cI, 6, .inl f_5)), (r0 2, .inl (cI, 6, .inl f_6)), (r0 3, .inl (cI, 6, .inl f_7)), (r0 4, .inl (cJ, 4, .inr (.inl f_10))), (r0 5, .inl (cI, 4, .inl rk0)), (r0 6, .inl (cJ, 40, .inr (.inl f_12))), (r0 7, .inl (cI, 40, .inl f_13)), (r0 8, .inl (cI, 40, .inl f_15)), (r0 9, .inl (cI, 40, .inl f_17))]]) := hD
            obtain ⟨hlr_121, hhr_121⟩ := hw
            refine lv_iadd hx hb dX7_jointsOf_47 ?_
            refine lv_topi (fun z_122 ez_122 => ?_)
            have hz_122 : z_122.toInt = 1 + r_121.toInt := by rw [ez_122]; exact t_add tI_1 rfl (by omega) (by omega)
            refine lv_iadd hx hb dX7_jointsOf_48 ?_
            refine lv_topi (fun z_123 ez_123 => ?_)
            have hz_123 : z_123.toInt = g_21.toInt + z_122.toInt := by rw [ez_123]; exact t_add rfl rfl (by omega) (by omega)
            refine lv_istore_n (lv' := [(2, .int z_123), (4, .int g_20), (3, .int z_19), (0, .ref h0), (1, .int p1)]) hx hb dX7_jointsOf_49 rfl hl (by decide) rfl (fun ls hl => ?_)
            obtain ⟨z_124, ez_124⟩ : ∃ y : Int32, y = g_20 + 1 := ⟨_, rfl⟩
            have hz_124 : z_124.toInt = g_20.toInt + 1 := by rw [ez_124]; exact t_add rfl tI_1 (by omega) (by omega)
            refine lv_iinc (v := z_124) (lv' := [(4, .int z_124), (2, .int z_123), (3, .int z_19), (0, .ref h0), (1, .int p1)]) hx hb dX7_jointsOf_50 hl (k := 1) rfl (by rw [ez_124]; rfl) (by decide) rfl (fun ls hl => ?_)
            refine lv_goto (tgt := 22) hx hb dX7_jointsOf_53 (by decide) ?_
            exact ih_116 z_124 z_123 (by omega) (by omega) (by omega) (by omega) (by omega) (by omega) _ _ hP hD hS ls (lv_sub hl [0, 2, 1, 3, 4] rfl)
      exact lp_115 _ 0 0 (by have := tI_0; omega) (by have := tI_0; omega) (by have := tI_0; omega) (by have := tI_0; omega) (by have := tI_0; omega) (Nat.lt_succ_self _) _ _ hP hD hS ls (lv_sub hl [0, 1, 2, 3, 4] rfl)
theorem iw_X3_addJoint_X3 : ∀ w ∈ wsX30, w ∈ wsX3_addJoint := fun _ h => List.mem_cons_of_mem _ (List.mem_append_right _ h)
set_option maxHeartbeats 4000000 in
set_option maxRecDepth 100000 in
theorem c_X3_addJoint (l : Launch) (dC : Nat → ClassId) (dI : Nat → Nat → Nat) (ad : Nat → Nat) (tN : Nat) (fN : Nat → Int64) (cB cI cJ cZ : ClassId) (h0 : Nat) (p1 : Int32) (p2 : Int32) (r0 : Nat → Nat) (pl0 : Nat) (w0 : va_W) (o0 : ok_frame ad cB cI cJ cZ h0 r0 pl0 w0) (sz : Nat) (up11 : 0 ≤ p1.toInt) (up12 : p1.toInt ≤ 9) (up21 : -1 ≤ p2.toInt) (up22 : p2.toInt ≤ 5) : Met l yX3_addJoint wsX3_addJoint ({ frames := 0, cells := 0, slots := 0, locals := 0 } : Room) (va_Pc [.ref h0, .int p1, .int p2] (fun U => U.heap.size = sz ∧ va_P (dC, dI) vwCl (List.flatten [w0]) U.heap ∧ va_K (dC, dI) vwCl [(cB, .byte), (cI, .int), (cJ, .long), (cZ, .boolean)] U ∧ va_D (fun _ => True) (List.flatten [w0]) ∧ ex_Y ad tN fN (va_A (List.flatten [w0]) sz) U)) (va_Qv (fun _ : Unit => True) (fun (_ : Unit) (t : State) => ∃ (w09 : va_W), ok_frame ad cB cI cJ cZ h0 r0 pl0 w09 ∧ va_P (dC, dI) vwCl (List.flatten [w09]) t.heap ∧ va_D (va_A (List.flatten [w0]) sz) (List.flatten [w09])) (va_A (List.flatten [w0]) sz)) 0 0 (va_A (List.flatten [w0]) sz) := by
  refine Met.ofW (cc := cX3_addJoint) (maxL := 3) (ret := none) (by decide) rfl ?_
  intro p e s m args below meth c s₁ B hml hv
  obtain ⟨rfl, hsz, hP, hK, hD0, hE⟩ := hv
  have hx := B.exec
  have hb := B.bytes
  have hr := B.returns
  have hts := atoms_spec (ws := wsX3_addJoint) B.pre
  have hown : s.vm.findClass RX3 = some m.cls := findClass_of_methodNamed B.named
  have hlocks := B.notSynchronized
  subst hsz
  have hD := hD0.self (sz := s.heap.size)
  generalize hAe : va_A (List.flatten [w0]) s.heap.size = A at hD hE ⊢
  have hA : ∀ q : Nat, s.heap.size ≤ q → A q := fun q h => by rw [← hAe]; exact Or.inr h
  have hS : va_S A s.heap s.heap [] := va_S.rf
  have hl := lv_entry ([.ref h0, .int p1, .int p2]) (n := 3) (Nat.le_of_ble_eq_true rfl)
  rw [lg_entry_eq]
  generalize (lg_sl ([.ref h0, .int p1, .int p2]) ++ List.replicate (3 - (lg_sl ([.ref h0, .int p1, .int p2])).length) Slot.unset).toArray = ls at hl ⊢
  have hl : lv_has ls 3 [(0, .ref h0), (1, .int p1), (2, .int p2)] := hl
  clear hAe
  refine W_name (fun Q0 hQ0 => ?_)
  refine lv_aload_n hx hb dX3_addJoint_0 rfl (lv_at hl 0 rfl) ?_
  obtain ⟨fr_1, dr_4, rc_7, f_10, f_12, gn_13, f_14, f_15, f_16, f_17, f_18, sc_19, jc_20, f_23, f_25, rfl, hl_2, hh_3, hl_5, hh_6, hl_8, hh_9, hr_11, hl_21, hh_22, hr_24, hr_26⟩ := o0
  refine va_get (D := (dC, dI)) (ci := 2) (v := .int jc_20) (C := RX3) (T := TX3) (N := 16) hx hb hts iw_X3_addJoint_X3 hown hK hP 0 rfl rfl 13 (by decide) (hts (.fieldLink RX3 58 "HungFloors$Frame" "jointCount" "I") (by decide +kernel)) (fun _ h9 => h9) rfl dX3_addJoint_1 ?_
  refine lv_bipush (v := 70) hx hb dX3_addJoint_4 (by decide) ?_
  refine lv_icmp_ge (tgt := 39) hx hb dX3_addJoint_6 (by decide) (fun c_27 => ?_) (fun c_27 => ?_)
  · have c_27 : 70 ≤ jc_20.toInt := f_le tI_70 rfl c_27
    rw [hQ0]
    exact W.vret hx hb hr (fun t ht hW => ⟨⟨(), rfl, trivial, ⟨_, ⟨fr_1, dr_4, rc_7, f_10, f_12, gn_13, f_14, f_15, f_16, f_17, f_18, sc_19, jc_20, f_23, f_25, rfl, by omega, by omega, by omega, by omega, by omega, by omega, hr_11, by omega, by omega, hr_24, hr_26⟩, by rw [ht]; exact hP, hD⟩⟩, hS.F ht⟩) hS.2.2 dX3_addJoint_39
  · have c_27 : jc_20.toInt < 70 := f_nle tI_70 rfl c_27
    refine lv_aload_n hx hb dX3_addJoint_9 rfl (lv_at hl 0 rfl) ?_
    refine va_get (D := (dC, dI)) (ci := 2) (v := .ref (r0 7)) (C := RX3) (T := TX3) (N := 16) hx hb hts iw_X3_addJoint_X3 hown hK hP 0 rfl rfl 14 (by decide) (hts (.fieldLink RX3 61 "HungFloors$Frame" "jointRod" "[I") (by decide +kernel)) (fun _ h9 => h9) rfl dX3_addJoint_10 ?_
    refine lv_aload_n hx hb dX3_addJoint_13 rfl (lv_at hl 0 rfl) ?_
    refine va_get (D := (dC, dI)) (ci := 2) (v := .int jc_20) (C := RX3) (T := TX3) (N := 16) hx hb hts iw_X3_addJoint_X3 hown hK hP 0 rfl rfl 13 (by decide) (hts (.fieldLink RX3 58 "HungFloors$Frame" "jointCount" "I") (by decide +kernel)) (fun _ h9 => h9) rfl dX3_addJoint_14 ?_
    refine lv_iload_n hx hb dX3_addJoint_17 rfl (lv_at hl 1 rfl) ?_
    refine va_iast hx hb hK hP hD hS 8 1 rfl rfl (v_in rfl (by omega) (by omega)) dX3_addJoint_18 (fun H locs hP hD hS => ?_)
    obtain ⟨f_28, hr_29, hP, hD⟩ : ∃ f_28 : Nat → Int32, rg (0) 9 f_28 ∧ va_P (dC, dI) vwCl (List.flatten [[(h0, .inr (2, [.ref pl0, .int fr_1, .int dr_4, .int rc_7, .ref (r0 0), .ref (r0 1), .int gn_13, .ref (r0 2), .ref (r0 3), .ref (r0 4), .ref (r0 5), .ref (r0 6), .long sc_19, .int jc_20, .ref (r0 7), .ref (r0 8)])), (r0 0, .inl (cI, 10, .inl f_10)), (r0 1, .inl (cI, 10, .inl f_12)), (r0 2, .inl (cI, 6, .inl f_14)), (r0 3, .inl (cJ, 6, .inr (.inl f_15))), (r0 4, .inl (cJ, 6, .inr (.inl f_16))), (r0 5, .inl (cJ, 6, .inr (.inl f_17))), (r0 6, .inl (cJ, 10, .inr (.inl f_18))), (r0 7, .inl (cI, 70, .inl f_28)), (r0 8, .inl (cI, 70, .inl f_25))]]) H ∧ va_D A (List.flatten [[(h0, .inr (2, [.ref pl0, .int fr_1, .int dr_4, .int rc_7, .ref (r0 0), .ref (r0 1), .int gn_13, .ref (r0 2), .ref (r0 3), .ref (r0 4), .ref (r0 5), .ref (r0 6), .long sc_19, .int jc_20, .ref (r0 7), .ref (r0 8)])), (r0 0, .inl (cI, 10, .inl f_10)), (r0 1, .inl (cI, 10, .inl f_12)), (r0 2, .inl (cI, 6, .inl f_14)), (r0 3, .inl (cJ, 6, .inr (.inl f_15))), (r0 4, .inl (cJ, 6, .inr (.inl f_16))), (r0 5, .inl (cJ, 6, .inr (.inl f_17))), (r0 6, .inl (cJ, 10, .inr (.inl f_18))), (r0 7, .inl (cI, 70, .inl f_28)), (r0 8, .inl (cI, 70, .inl f_25))]]) := ⟨_, rg_upd hr_24 (by omega) (by omega), hP, hD⟩
    refine lv_aload_n hx hb dX3_addJoint_19 rfl (lv_at hl 0 rfl) ?_
    refine va_get (D := (dC, dI)) (ci := 2) (v := .ref (r0 8)) (C := RX3) (T := TX3) (N := 16) hx hb hts iw_X3_addJoint_X3 hown hK hP 0 rfl rfl 15 (by decide) (hts (.fieldLink RX3 64 "HungFloors$Frame" "jointFloor" "[I") (by decide +kernel)) (fun _ h9 => h9) rfl dX3_addJoint_20 ?_
    refine lv_aload_n hx hb dX3_addJoint_23 rfl (lv_at hl 0 rfl) ?_
    refine va_get (D := (dC, dI)) (ci := 2) (v := .int jc_20) (C := RX3) (T := TX3) (N := 16) hx hb hts iw_X3_addJoint_X3 hown hK hP 0 rfl rfl 13 (by decide) (hts (.fieldLink RX3 58 "HungFloors$Frame" "jointCount" "I") (by decide +kernel)) (fun _ h9 => h9) rfl dX3_addJoint_24 ?_
    refine lv_iload_n hx hb dX3_addJoint_27 rfl (lv_at hl 2 rfl) ?_
    refine va_iast hx hb hK hP hD hS 9 1 rfl rfl (v_in rfl (by omega) (by omega)) dX3_addJoint_28 (fun H locs hP hD hS => ?_)
    obtain ⟨f_30, hr_31, hP, hD⟩ : ∃ f_30 : Nat → Int32, rg (-1) 5 f_30 ∧ va_P (dC, dI) vwCl (List.flatten [[(h0, .inr (2, [.ref pl0, .int fr_1, .int dr_4, .int rc_7, .ref (r0 0), .ref (r0 1), .int gn_13, .ref (r0 2), .ref (r0 3), .ref (r0 4), .ref (r0 5), .ref (r0 6), .long sc_19, .int jc_20, .ref (r0 7), .ref (r0 8)])), (r0 0, .inl (cI, 10, .inl f_10)), (r0 1, .inl (cI, 10, .inl f_12)), (r0 2, .inl (cI, 6, .inl f_14)), (r0 3, .inl (cJ, 6, .inr (.inl f_15))), (r0 4, .inl (cJ, 6, .inr (.inl f_16))), (r0 5, .inl (cJ, 6, .inr (.inl f_17))), (r0 6, .inl (cJ, 10, .inr (.inl f_18))), (r0 7, .inl (cI, 70, .inl f_28)), (r0 8, .inl (cI, 70, .inl f_30))]]) H ∧ va_D A (List.flatten [[(h0, .inr (2, [.ref pl0, .int fr_1, .int dr_4, .int rc_7, .ref (r0 0), .ref (r0 1), .int gn_13, .ref (r0 2), .ref (r0 3), .ref (r0 4), .ref (r0 5), .ref (r0 6), .long sc_19, .int jc_20, .ref (r0 7), .ref (r0 8)])), (r0 0, .inl (cI, 10, .inl f_10)), (r0 1, .inl (cI, 10, .inl f_12)), (r0 2, .inl (cI, 6, .inl f_14)), (r0 3, .inl (cJ, 6, .inr (.inl f_15))), (r0 4, .inl (cJ, 6, .inr (.inl f_16))), (r0 5, .inl (cJ, 6, .inr (.inl f_17))), (r0 6, .inl (cJ, 10, .inr (.inl f_18))), (r0 7, .inl (cI, 70, .inl f_28)), (r0 8, .inl (cI, 70, .inl f_30))]]) := ⟨_, rg_upd hr_26 (by omega) (by omega), hP, hD⟩
    refine lv_aload_n hx hb dX3_addJoint_29 rfl (lv_at hl 0 rfl) ?_
    refine lv_dup hx hb dX3_addJoint_30 rfl ?_
    refine va_get (D := (dC, dI)) (ci := 2) (v := .int jc_20) (C := RX3) (T := TX3) (N := 16) hx hb hts iw_X3_addJoint_X3 hown hK hP 0 rfl rfl 13 (by decide) (hts (.fieldLink RX3 58 "HungFloors$Frame" "jointCount" "I") (by decide +kernel)) (fun _ h9 => h9) rfl dX3_addJoint_31 ?_
    refine lv_iconst (v := 1) hx hb dX3_addJoint_34 (by decide) ?_
    refine lv_iadd hx hb dX3_addJoint_35 ?_
    refine lv_topi (fun z_32 ez_32 => ?_)
    have hz_32 : z_32.toInt = jc_20.toInt + 1 := by rw [ez_32]; exact t_add rfl tI_1 (by omega) (by omega)
    refine va_put (D := (dC, dI)) (ci := 2) (v := .int z_32) (ty := .int) (C := RX3) (T := TX3) (N := 16) hx hb hts iw_X3_addJoint_X3 tyX3 tyX3_ok nmX3 hown hK hP hD hS 0 rfl rfl 13 (by decide) (hts (.fieldLink RX3 58 "HungFloors$Frame" "jointCount" "I") (by decide +kernel)) (fun _ h9 => h9) rfl (by decide +kernel) rfl rfl (Nat.le_of_ble_eq_true rfl) dX3_addJoint_36 (fun H locs hP hD hS => ?_)
    have hP : va_P (dC, dI) vwCl (List.flatten [[(h0, .inr (2, [.ref pl0, .int fr_1, .int dr_4, .int rc_7, .ref (r0 0), .ref (r0 1), .int gn_13, .ref (r0 2), .ref (r0 3), .ref (r0 4), .ref (r0 5), .ref (r0 6), .long sc_19, .int z_32, .ref (r0 7), .ref (r0 8)])), (r0 0, .inl (cI, 10, .inl f_10)), (r0 1, .inl (cI, 10, .inl f_12)), (r0 2, .inl (cI, 6, .inl f_14)), (r0 3, .inl (cJ, 6, .inr (.inl f_15))), (r0 4, .inl (cJ, 6, .inr (.inl f_16))), (r0 5, .inl (cJ, 6, .inr (.inl f_17))), (r0 6, .inl (cJ, 10, .inr (.inl f_18))), (r0 7, .inl (cI, 70, .inl f_28)), (r0 8, .inl (cI, 70, .inl f_30))]]) H := hP
    have hD : va_D A (List.flatten [[(h0, .inr (2, [.ref pl0, .int fr_1, .int dr_4, .int rc_7, .ref (r0 0), .ref (r0 1), .int gn_13, .ref (r0 2), .ref (r0 3), .ref (r0 4), .ref (r0 5), .ref (r0 6), .long sc_19, .int z_32, .ref (r0 7), .ref (r0 8)])), (r0 0, .inl (cI, 10, .inl f_10)), (r0 1, .inl (cI, 10, .inl f_12)), (r0 2, .inl (cI, 6, .inl f_14)), (r0 3, .inl (cJ, 6, .inr (.inl f_15))), (r0 4, .inl (cJ, 6, .inr (.inl f_16))), (r0 5, .inl (cJ, 6, .inr (.inl f_17))), (r0 6, .inl (cJ, 10, .inr (.inl f_18))), (r0 7, .inl (cI, 70, .inl f_28)), (r0 8, .inl (cI, 70, .inl f_30))]]) := hD
    rw [hQ0]
    exact W.vret hx hb hr (fun t ht hW => ⟨⟨(), rfl, trivial, ⟨_, ⟨fr_1, dr_4, rc_7, f_10, f_12, gn_13, f_14, f_15, f_16, f_17, f_18, sc_19, z_32, f_28, f_30, rfl, by omega, by omega, by omega, by omega, by omega, by omega, hr_11, by omega, by omega, hr_29, hr_31⟩, by rw [ht]; exact hP, hD⟩⟩, hS.F ht⟩) hS.2.2 dX3_addJoint_39
theorem iw_X3_unit_X3 : ∀ w ∈ wsX30, w ∈ wsX3_unit := fun _ h => List.mem_cons_of_mem _ (List.mem_append_right _ h)
set_option maxHeartbeats 4000000 in
set_option maxRecDepth 100000 in
theorem c_X3_unit (l : Launch) (dC : Nat → ClassId) (dI : Nat → Nat → Nat) (ad : Nat → Nat) (tN : Nat) (fN : Nat → Int64) (cB cI cJ cZ : ClassId) (h0 : Nat) (r0 : Nat → Nat) (pl0 : Nat) (w0 : va_W) (o0 : ok_frame ad cB cI cJ cZ h0 r0 pl0 w0) (sz : Nat) : Met l yX3_unit wsX3_unit ({ frames := 0, cells := 0, slots := 0, locals := 0 } : Room) (va_Pc [.ref h0] (fun U => U.heap.size = sz ∧ va_P (dC, dI) vwCl (List.flatten [w0]) U.heap ∧ va_K (dC, dI) vwCl [(cB, .byte), (cI, .int), (cJ, .long), (cZ, .boolean)] U ∧ va_D (fun _ => True) (List.flatten [w0]) ∧ ex_Y ad tN fN (va_A (List.flatten [w0]) sz) U)) (va_Ql (fun (r : Int64) (_ : Unit) => True) (fun (_ : Unit) (t : State) => va_P (dC, dI) vwCl (List.flatten [w0]) t.heap ∧ va_D (va_A (List.flatten [w0]) sz) (List.flatten [w0])) (va_A (List.flatten [w0]) sz)) 0 0 (va_A (List.flatten [w0]) sz) := by
  refine Met.ofW (cc := cX3_unit) (maxL := 1) (ret := (some .long)) (by decide) rfl ?_
  intro p e s m args below meth c s₁ B hml hv
  obtain ⟨rfl, hsz, hP, hK, hD0, hE⟩ := hv
  have hx := B.exec
  have hb := B.bytes
  have hr := B.returns
  have hts := atoms_spec (ws := wsX3_unit) B.pre
  have hown : s.vm.findClass RX3 = some m.cls := findClass_of_methodNamed B.named
  have hlocks := B.notSynchronized
  subst hsz
  have hD := hD0.self (sz := s.heap.size)
  generalize hAe : va_A (List.flatten [w0]) s.heap.size = A at hD hE ⊢
  have hA : ∀ q : Nat, s.heap.size ≤ q → A q := fun q h => by rw [← hAe]; exact Or.inr h
  have hS : va_S A s.heap s.heap [] := va_S.rf
  have hl := lv_entry ([.ref h0]) (n := 1) (Nat.le_of_ble_eq_true rfl)
  rw [lg_entry_eq]
  generalize (lg_sl ([.ref h0]) ++ List.replicate (1 - (lg_sl ([.ref h0])).length) Slot.unset).toArray = ls at hl ⊢
  have hl : lv_has ls 1 [(0, .ref h0)] := hl
  clear hAe
  refine W_name (fun Q0 hQ0 => ?_)
  refine lv_aload_n hx hb dX3_unit_0 rfl (lv_at hl 0 rfl) ?_
  obtain ⟨fr_1, dr_4, rc_7, f_10, f_12, gn_13, f_14, f_15, f_16, f_17, f_18, sc_19, jc_20, f_23, f_25, rfl, hl_2, hh_3, hl_5, hh_6, hl_8, hh_9, hr_11, hl_21, hh_22, hr_24, hr_26⟩ := o0
  refine va_get (D := (dC, dI)) (ci := 2) (v := .long sc_19) (C := RX3) (T := TX3) (N := 16) hx hb hts iw_X3_unit_X3 hown hK hP 0 rfl rfl 12 (by decide) (hts (.fieldLink RX3 54 "HungFloors$Frame" "scale" "J") (by decide +kernel)) (fun _ h9 => h9) rfl dX3_unit_1 ?_
  refine lv_ldc2 hx hb hown (hts (.constantLong RX3 86 (10)) (by decide +kernel)) dX3_unit_4 ?_
  refine lv_lmul hx hb dX3_unit_7 ?_
  refine lv_topl (fun z_27 ez_27 => ?_)
  rw [hQ0]
  exact W.lret (v := z_27) hx hb hr (fun t ht hW => ⟨⟨z_27, (), rfl, trivial, ⟨by rw [ht]; exact hP, hD⟩⟩, hS.F ht⟩) hS.2.2 dX3_unit_8
theorem iw_X3_isThere_X3 : ∀ w ∈ wsX30, w ∈ wsX3_isThere := fun _ h => List.mem_cons_of_mem _ (List.mem_append_right _ h)
set_option maxHeartbeats 4000000 in
set_option maxRecDepth 100000 in
theorem c_X3_isThere (l : Launch) (dC : Nat → ClassId) (dI : Nat → Nat → Nat) (ad : Nat → Nat) (tN : Nat) (fN : Nat → Int64) (cB cI cJ cZ : ClassId) (h0 : Nat) (p1 : Int32) (r0 : Nat → Nat) (pl0 : Nat) (w0 : va_W) (o0 : ok_frame ad cB cI cJ cZ h0 r0 pl0 w0) (sz : Nat) : Met l yX3_isThere wsX3_isThere ({ frames := 0, cells := 0, slots := 0, locals := 0 } : Room) (va_Pc [.ref h0, .int p1] (fun U => U.heap.size = sz ∧ va_P (dC, dI) vwCl (List.flatten [w0]) U.heap ∧ va_K (dC, dI) vwCl [(cB, .byte), (cI, .int), (cJ, .long), (cZ, .boolean)] U ∧ va_D (fun _ => True) (List.flatten [w0]) ∧ ex_Y ad tN fN (va_A (List.flatten [w0]) sz) U)) (va_Qi (fun (r : Int32) (_ : Unit) => 0 ≤ r.toInt ∧ r.toInt ≤ 1) (fun (_ : Unit) (t : State) => va_P (dC, dI) vwCl (List.flatten [w0]) t.heap ∧ va_D (va_A (List.flatten [w0]) sz) (List.flatten [w0])) (va_A (List.flatten [w0]) sz)) 0 0 (va_A (List.flatten [w0]) sz) := by
  refine Met.ofW (cc := cX3_isThere) (maxL := 2) (ret := (some .boolean)) (by decide) rfl ?_
  intro p e s m args below meth c s₁ B hml hv
  obtain ⟨rfl, hsz, hP, hK, hD0, hE⟩ := hv
  have hx := B.exec
  have hb := B.bytes
  have hr := B.returns
  have hts := atoms_spec (ws := wsX3_isThere) B.pre
  have hown : s.vm.findClass RX3 = some m.cls := findClass_of_methodNamed B.named
  have hlocks := B.notSynchronized
  subst hsz
  have hD := hD0.self (sz := s.heap.size)
  generalize hAe : va_A (List.flatten [w0]) s.heap.size = A at hD hE ⊢
  have hA : ∀ q : Nat, s.heap.size ≤ q → A q := fun q h => by rw [← hAe]; exact Or.inr h
  have hS : va_S A s.heap s.heap [] := va_S.rf
  have hl := lv_entry ([.ref h0, .int p1]) (n := 2) (Nat.le_of_ble_eq_true rfl)
  rw [lg_entry_eq]
  generalize (lg_sl ([.ref h0, .int p1]) ++ List.replicate (2 - (lg_sl ([.ref h0, .int p1])).length) Slot.unset).toArray = ls at hl ⊢
  have hl : lv_has ls 2 [(0, .ref h0), (1, .int p1)] := hl
  clear hAe
  refine W_name (fun Q0 hQ0 => ?_)
  refine lv_aload_n hx hb dX3_isThere_0 rfl (lv_at hl 0 rfl) ?_
  obtain ⟨fr_1, dr_4, rc_7, f_10, f_12, gn_13, f_14, f_15, f_16, f_17, f_18, sc_19, jc_20, f_23, f_25, rfl, hl_2, hh_3, hl_5, hh_6, hl_8, hh_9, hr_11, hl_21, hh_22, hr_24, hr_26⟩ := o0
  refine va_get (D := (dC, dI)) (ci := 2) (v := .int gn_13) (C := RX3) (T := TX3) (N := 16) hx hb hts iw_X3_isThere_X3 hown hK hP 0 rfl rfl 6 (by decide) (hts (.fieldLink RX3 35 "HungFloors$Frame" "gone" "I") (by decide +kernel)) (fun _ h9 => h9) rfl dX3_isThere_1 ?_
  refine lv_iload_n hx hb dX3_isThere_4 rfl (lv_at hl 1 rfl) ?_
  refine lv_ishr hx hb dX3_isThere_5 ?_
  refine lv_topi (fun z_27 ez_27 => ?_)
  refine lv_iconst (v := 1) hx hb dX3_isThere_6 (by decide) ?_
  refine lv_iand hx hb dX3_isThere_7 ?_
  refine lv_topi (fun z_28 ez_28 => ?_)
  refine lv_if_ne (tgt := 15) hx hb dX3_isThere_8 (by decide) (fun c_29 => ?_) (fun c_29 => ?_)
  · have c_29 : ¬ z_28.toInt = 0 := f_ne rfl tI_0 c_29
    refine lv_iconst (v := 0) hx hb dX3_isThere_15 (by decide) ?_
    rw [hQ0]
    exact W.zret (v := 0) hx hb hr (by decide) (fun t ht hW => ⟨⟨0, (), rfl, ⟨by decide, by decide⟩, ⟨by rw [ht]; exact hP, hD⟩⟩, hS.F ht⟩) hS.2.2 dX3_isThere_16
  · have c_29 : z_28.toInt = 0 := f_eq rfl tI_0 c_29
    refine lv_iconst (v := 1) hx hb dX3_isThere_11 (by decide) ?_
    refine lv_goto (tgt := 16) hx hb dX3_isThere_12 (by decide) ?_
    rw [hQ0]
    exact W.zret (v := 1) hx hb hr (by decide) (fun t ht hW => ⟨⟨1, (), rfl, ⟨by decide, by decide⟩, ⟨by rw [ht]; exact hP, hD⟩⟩, hS.F ht⟩) hS.2.2 dX3_isThere_16
theorem iw_X3_isHeldBy_X3 : ∀ w ∈ wsX30, w ∈ wsX3_isHeldBy := fun _ h => List.mem_cons_of_mem _ (List.mem_append_right _ h)
set_option maxHeartbeats 4000000 in
set_option maxRecDepth 100000 in
theorem c_X3_isHeldBy (l : Launch) (dC : Nat → ClassId) (dI : Nat → Nat → Nat) (ad : Nat → Nat) (tN : Nat) (fN : Nat → Int64) (cB cI cJ cZ : ClassId) (h0 : Nat) (p1 : Int32) (p2 : Int32) (r0 : Nat → Nat) (pl0 : Nat) (w0 : va_W) (o0 : ok_frame ad cB cI cJ cZ h0 r0 pl0 w0) (sz : Nat) (up11 : 0 ≤ p1.toInt) (up12 : p1.toInt ≤ 9) : Met l yX3_isHeldBy wsX3_isHeldBy ({ frames := 1, cells := 0, slots := 0, locals := 21 } : Room) (va_Pc [.ref h0, .int p1, .int p2] (fun U => U.heap.size = sz ∧ va_P (dC, dI) vwCl (List.flatten [w0]) U.heap ∧ va_K (dC, dI) vwCl [(cB, .byte), (cI, .int), (cJ, .long), (cZ, .boolean)] U ∧ va_D (fun _ => True) (List.flatten [w0]) ∧ ex_Y ad tN fN (va_A (List.flatten [w0]) sz) U)) (va_Qi (fun (r : Int32) (_ : Unit) => 0 ≤ r.toInt ∧ r.toInt ≤ 1) (fun (_ : Unit) (t : State) => va_P (dC, dI) vwCl (List.flatten [w0]) t.heap ∧ va_D (va_A (List.flatten [w0]) sz) (List.flatten [w0])) (va_A (List.flatten [w0]) sz)) 0 0 (va_A (List.flatten [w0]) sz) := by
  refine Met.ofW (cc := cX3_isHeldBy) (maxL := 3) (ret := (some .boolean)) (by decide) rfl ?_
  intro p e s m args below meth c s₁ B hml hv
  obtain ⟨rfl, hsz, hP, hK, hD0, hE⟩ := hv
  have hx := B.exec
  have hb := B.bytes
  have hr := B.returns
  have hts := atoms_spec (ws := wsX3_isHeldBy) B.pre
  have hown : s.vm.findClass RX3 = some m.cls := findClass_of_methodNamed B.named
  have hlocks := B.notSynchronized
  subst hsz
  have hD := hD0.self (sz := s.heap.size)
  generalize hAe : va_A (List.flatten [w0]) s.heap.size = A at hD hE ⊢
  have hA : ∀ q : Nat, s.heap.size ≤ q → A q := fun q h => by rw [← hAe]; exact Or.inr h
  have hS : va_S A s.heap s.heap [] := va_S.rf
  have hl := lv_entry ([.ref h0, .int p1, .int p2]) (n := 3) (Nat.le_of_ble_eq_true rfl)
  rw [lg_entry_eq]
  generalize (lg_sl ([.ref h0, .int p1, .int p2]) ++ List.replicate (3 - (lg_sl ([.ref h0, .int p1, .int p2])).length) Slot.unset).toArray = ls at hl ⊢
  have hl : lv_has ls 3 [(0, .ref h0), (1, .int p1), (2, .int p2)] := hl
  clear hAe
  refine W_name (fun Q0 hQ0 => ?_)
  refine lv_aload_n hx hb dX3_isHeldBy_0 rfl (lv_at hl 0 rfl) ?_
  refine lv_iload_n hx hb dX3_isHeldBy_1 rfl (lv_at hl 1 rfl) ?_
  obtain ⟨fr_1, dr_4, rc_7, f_10, f_12, gn_13, f_14, f_15, f_16, f_17, f_18, sc_19, jc_20, f_23, f_25, rfl, hl_2, hh_3, hl_5, hh_6, hl_8, hh_9, hr_11, hl_21, hh_22, hr_24, hr_26⟩ := o0
  have hpm : List.Perm ([[(h0, .inr (2, [.ref pl0, .int fr_1, .int dr_4, .int rc_7, .ref (r0 0), .ref (r0 1), .int gn_13, .ref (r0 2), .ref (r0 3), .ref (r0 4), .ref (r0 5), .ref (r0 6), .long sc_19, .int jc_20, .ref (r0 7), .ref (r0 8)])), (r0 0, .inl (cI, 10, .inl f_10)), (r0 1, .inl (cI, 10, .inl f_12)), (r0 2, .inl (cI, 6, .inl f_14)), (r0 3, .inl (cJ, 6, .inr (.inl f_15))), (r0 4, .inl (cJ, 6, .inr (.inl f_16))), (r0 5, .inl (cJ, 6, .inr (.inl f_17))), (r0 6, .inl (cJ, 10, .inr (.inl f_18))), (r0 7, .inl (cI, 70, .inl f_23)), (r0 8, .inl (cI, 70, .inl f_25))]] : List va_W) (([[(h0, .inr (2, [.ref pl0, .int fr_1, .int dr_4, .int rc_7, .ref (r0 0), .ref (r0 1), .int gn_13, .ref (r0 2), .ref (r0 3), .ref (r0 4), .ref (r0 5), .ref (r0 6), .long sc_19, .int jc_20, .ref (r0 7), .ref (r0 8)])), (r0 0, .inl (cI, 10, .inl f_10)), (r0 1, .inl (cI, 10, .inl f_12)), (r0 2, .inl (cI, 6, .inl f_14)), (r0 3, .inl (cJ, 6, .inr (.inl f_15))), (r0 4, .inl (cJ, 6, .inr (.inl f_16))), (r0 5, .inl (cJ, 6, .inr (.inl f_17))), (r0 6, .inl (cJ, 10, .inr (.inl f_18))), (r0 7, .inl (cI, 70, .inl f_23)), (r0 8, .inl (cI, 70, .inl f_25))]] : List va_W) ++ ([] : List va_W)) := pm_n 1 [0] (by decide) rfl rfl
  have hPc := bk_P hpm hP
  have hDc := bk_D hpm hD
  have hFc := bk_F hpm hD hS hA
  refine va_calli (va_runV (As := [.int p1]) (rest := []) ⟨hx, hb, hml, hown, hts⟩ (c_X3_isThere l dC dI ad tN fN cB cI cJ cZ h0 p1 r0 pl0 _ ⟨fr_1, dr_4, rc_7, f_10, f_12, gn_13, f_14, f_15, f_16, f_17, f_18, sc_19, jc_20, f_23, f_25, rfl, by omega, by omega, by omega, by omega, by omega, by omega, hr_11, by omega, by omega, hr_24, hr_26⟩ s.heap.size) (cwV 1 hts gX3_isHeldBy_X3_isThere rfl rfl rfl (by decide +kernel) ⟨(Nat.le_of_ble_eq_true rfl), (Nat.le_of_ble_eq_true rfl)⟩) ⟨fun a U g mk q => by obtain ⟨q0, q1, qP, qK, qD, qE⟩ := q; exact ⟨q0, q1, qP, va_K.moved (u := U) (U := U.calling g mk a) (Vm.Alike.refl U.vm) qK, qD, ey_blind qE⟩, va_recv hK hPc (ci := 2) (q0 := 0) rfl rfl, fun U hU hW => ⟨rfl, by rw [hU], by rw [hU]; exact hPc, va_K.moved hW.alike hK, hDc.weaken (fun _ _ _ _ => trivial), ey_call hE hS hFc hU hW⟩⟩ rfl rfl hl.1 rfl (lv_room (Nat.le_of_ble_eq_true rfl)) dX3_isHeldBy_2 ⟨(Nat.le_of_ble_eq_true rfl), (Nat.le_of_ble_eq_true rfl)⟩) hS (fun q _ h => hFc q h) hFc (fun r_27 u t H locs ht hvm hw hB hz1 hk1 hS => ?_)
  obtain ⟨hP1, hD1⟩ := hB
  rw [ht] at hP1
  obtain ⟨hP, hD⟩ := bk_join hpm hP hD hk1 hFc (Cs1 := [[(h0, .inr (2, [.ref pl0, .int fr_1, .int dr_4, .int rc_7, .ref (r0 0), .ref (r0 1), .int gn_13, .ref (r0 2), .ref (r0 3), .ref (r0 4), .ref (r0 5), .ref (r0 6), .long sc_19, .int jc_20, .ref (r0 7), .ref (r0 8)])), (r0 0, .inl (cI, 10, .inl f_10)), (r0 1, .inl (cI, 10, .inl f_12)), (r0 2, .inl (cI, 6, .inl f_14)), (r0 3, .inl (cJ, 6, .inr (.inl f_15))), (r0 4, .inl (cJ, 6, .inr (.inl f_16))), (r0 5, .inl (cJ, 6, .inr (.inl f_17))), (r0 6, .inl (cJ, 10, .inr (.inl f_18))), (r0 7, .inl (cI, 70, .inl f_23)), (r0 8, .inl (cI, 70, .inl f_25))]]) hP1 hD1
  have hpm2 : List.Perm (([[(h0, .inr (2, [.ref pl0, .int fr_1, .int dr_4, .int rc_7, .ref (r0 0), .ref (r0 1), .int gn_13, .ref (r0 2), .ref (r0 3), .ref (r0 4), .ref (r0 5), .ref (r0 6), .long sc_19, .int jc_20, .ref (r0 7), .ref (r0 8)])), (r0 0, .inl (cI, 10, .inl f_10)), (r0 1, .inl (cI, 10, .inl f_12)), (r0 2, .inl (cI, 6, .inl f_14)), (r0 3, .inl (cJ, 6, .inr (.inl f_15))), (r0 4, .inl (cJ, 6, .inr (.inl f_16))), (r0 5, .inl (cJ, 6, .inr (.inl f_17))), (r0 6, .inl (cJ, 10, .inr (.inl f_18))), (r0 7, .inl (cI, 70, .inl f_23)), (r0 8, .inl (cI, 70, .inl f_25))]] : List va_W) ++ ([] : List va_W)) ([[(h0, .inr (2, [.ref pl0, .int fr_1, .int dr_4, .int rc_7, .ref (r0 0), .ref (r0 1), .int gn_13, .ref (r0 2), .ref (r0 3), .ref (r0 4), .ref (r0 5), .ref (r0 6), .long sc_19, .int jc_20, .ref (r0 7), .ref (r0 8)])), (r0 0, .inl (cI, 10, .inl f_10)), (r0 1, .inl (cI, 10, .inl f_12)), (r0 2, .inl (cI, 6, .inl f_14)), (r0 3, .inl (cJ, 6, .inr (.inl f_15))), (r0 4, .inl (cJ, 6, .inr (.inl f_16))), (r0 5, .inl (cJ, 6, .inr (.inl f_17))), (r0 6, .inl (cJ, 10, .inr (.inl f_18))), (r0 7, .inl (cI, 70, .inl f_23)), (r0 8, .inl (cI, 70, .inl f_25))]] : List va_W) := pm_n 1 [0] (by decide) rfl rfl
  have hP := bk_reP hpm2 hP
  have hD := bk_reD hpm2 hD
  have hP : va_P (dC, dI) vwCl (List.flatten [[(h0, .inr (2, [.ref pl0, .int fr_1, .int dr_4, .int rc_7, .ref (r0 0), .ref (r0 1), .int gn_13, .ref (r0 2), .ref (r0 3), .ref (r0 4), .ref (r0 5), .ref (r0 6), .long sc_19, .int jc_20, .ref (r0 7), .ref (r0 8)])), (r0 0, .inl (cI, 10, .inl f_10)), (r0 1, .inl (cI, 10, .inl f_12)), (r0 2, .inl (cI, 6, .inl f_14)), (r0 3, .inl (cJ, 6, .inr (.inl f_15))), (r0 4, .inl (cJ, 6, .inr (.inl f_16))), (r0 5, .inl (cJ, 6, .inr (.inl f_17))), (r0 6, .inl (cJ, 10, .inr (.inl f_18))), (r0 7, .inl (cI, 70, .inl f_23)), (r0 8, .inl (cI, 70, .inl f_25))]]) H := hP
  have hD : va_D A (List.flatten [[(h0, .inr (2, [.ref pl0, .int fr_1, .int dr_4, .int rc_7, .ref (r0 0), .ref (r0 1), .int gn_13, .ref (r0 2), .ref (r0 3), .ref (r0 4), .ref (r0 5), .ref (r0 6), .long sc_19, .int jc_20, .ref (r0 7), .ref (r0 8)])), (r0 0, .inl (cI, 10, .inl f_10)), (r0 1, .inl (cI, 10, .inl f_12)), (r0 2, .inl (cI, 6, .inl f_14)), (r0 3, .inl (cJ, 6, .inr (.inl f_15))), (r0 4, .inl (cJ, 6, .inr (.inl f_16))), (r0 5, .inl (cJ, 6, .inr (.inl f_17))), (r0 6, .inl (cJ, 10, .inr (.inl f_18))), (r0 7, .inl (cI, 70, .inl f_23)), (r0 8, .inl (cI, 70, .inl f_25))]]) := hD
  obtain ⟨hlr_27, hhr_27⟩ := hw
  refine lv_if_eq (tgt := 25) hx hb dX3_isHeldBy_5 (by decide) (fun c_28 => ?_) (fun c_28 => ?_)
  · have c_28 : r_27.toInt = 0 := f_eq rfl tI_0 c_28
    refine lv_iconst (v := 0) hx hb dX3_isHeldBy_25 (by decide) ?_
    rw [hQ0]
    exact W.zret (v := 0) hx hb hr (by decide) (fun t ht hW => ⟨⟨0, (), rfl, ⟨by decide, by decide⟩, ⟨by rw [ht]; exact hP, hD⟩⟩, hS.F ht⟩) hS.2.2 dX3_isHeldBy_26
  · have c_28 : ¬ r_27.toInt = 0 := f_ne rfl tI_0 c_28
    refine lv_aload_n hx hb dX3_isHeldBy_8 rfl (lv_at hl 0 rfl) ?_
    refine va_get (D := (dC, dI)) (ci := 2) (v := .ref (r0 1)) (C := RX3) (T := TX3) (N := 16) hx hb hts iw_X3_isHeldBy_X3 hown hK hP 0 rfl rfl 5 (by decide) (hts (.fieldLink RX3 32 "HungFloors$Frame" "holds" "[I") (by decide +kernel)) (fun _ h9 => h9) rfl dX3_isHeldBy_9 ?_
    refine lv_iload_n hx hb dX3_isHeldBy_12 rfl (lv_at hl 1 rfl) ?_
    refine va_iald hx hb hK hP 2 1 rfl rfl (v_in rfl (by omega) (by omega)) dX3_isHeldBy_13 ?_
    refine lv_topi (fun z_29 ez_29 => ?_)
    refine lv_iload_n hx hb dX3_isHeldBy_14 rfl (lv_at hl 2 rfl) ?_
    refine lv_ishr hx hb dX3_isHeldBy_15 ?_
    refine lv_topi (fun z_30 ez_30 => ?_)
    refine lv_iconst (v := 1) hx hb dX3_isHeldBy_16 (by decide) ?_
    refine lv_iand hx hb dX3_isHeldBy_17 ?_
    refine lv_topi (fun z_31 ez_31 => ?_)
    refine lv_if_eq (tgt := 25) hx hb dX3_isHeldBy_18 (by decide) (fun c_32 => ?_) (fun c_32 => ?_)
    · have c_32 : z_31.toInt = 0 := f_eq rfl tI_0 c_32
      refine lv_iconst (v := 0) hx hb dX3_isHeldBy_25 (by decide) ?_
      rw [hQ0]
      exact W.zret (v := 0) hx hb hr (by decide) (fun t ht hW => ⟨⟨0, (), rfl, ⟨by decide, by decide⟩, ⟨by rw [ht]; exact hP, hD⟩⟩, hS.F ht⟩) hS.2.2 dX3_isHeldBy_26
    · have c_32 : ¬ z_31.toInt = 0 := f_ne rfl tI_0 c_32
      refine lv_iconst (v := 1) hx hb dX3_isHeldBy_21 (by decide) ?_
      refine lv_goto (tgt := 26) hx hb dX3_isHeldBy_22 (by decide) ?_
      rw [hQ0]
      exact W.zret (v := 1) hx hb hr (by decide) (fun t ht hW => ⟨⟨1, (), rfl, ⟨by decide, by decide⟩, ⟨by rw [ht]; exact hP, hD⟩⟩, hS.F ht⟩) hS.2.2 dX3_isHeldBy_26
theorem iw_X3_isJointThere_X3 : ∀ w ∈ wsX30, w ∈ wsX3_isJointThere := fun _ h => List.mem_cons_of_mem _ (List.mem_append_right _ h)
set_option maxHeartbeats 4000000 in
set_option maxRecDepth 100000 in
theorem c_X3_isJointThere (l : Launch) (dC : Nat → ClassId) (dI : Nat → Nat → Nat) (ad : Nat → Nat) (tN : Nat) (fN : Nat → Int64) (cB cI cJ cZ : ClassId) (h0 : Nat) (p1 : Int32) (r0 : Nat → Nat) (pl0 : Nat) (w0 : va_W) (o0 : ok_frame ad cB cI cJ cZ h0 r0 pl0 w0) (sz : Nat) (up11 : 0 ≤ p1.toInt) (up12 : p1.toInt ≤ 69) : Met l yX3_isJointThere wsX3_isJointThere ({ frames := 2, cells := 0, slots := 0, locals := 43 } : Room) (va_Pc [.ref h0, .int p1] (fun U => U.heap.size = sz ∧ va_P (dC, dI) vwCl (List.flatten [w0]) U.heap ∧ va_K (dC, dI) vwCl [(cB, .byte), (cI, .int), (cJ, .long), (cZ, .boolean)] U ∧ va_D (fun _ => True) (List.flatten [w0]) ∧ ex_Y ad tN fN (va_A (List.flatten [w0]) sz) U)) (va_Qi (fun (r : Int32) (_ : Unit) => 0 ≤ r.toInt ∧ r.toInt ≤ 1) (fun (_ : Unit) (t : State) => va_P (dC, dI) vwCl (List.flatten [w0]) t.heap ∧ va_D (va_A (List.flatten [w0]) sz) (List.flatten [w0])) (va_A (List.flatten [w0]) sz)) 0 0 (va_A (List.flatten [w0]) sz) := by
  refine Met.ofW (cc := cX3_isJointThere) (maxL := 3) (ret := (some .boolean)) (by decide) rfl ?_
  intro p e s m args below meth c s₁ B hml hv
  obtain ⟨rfl, hsz, hP, hK, hD0, hE⟩ := hv
  have hx := B.exec
  have hb := B.bytes
  have hr := B.returns
  have hts := atoms_spec (ws := wsX3_isJointThere) B.pre
  have hown : s.vm.findClass RX3 = some m.cls := findClass_of_methodNamed B.named
  have hlocks := B.notSynchronized
  subst hsz
  have hD := hD0.self (sz := s.heap.size)
  generalize hAe : va_A (List.flatten [w0]) s.heap.size = A at hD hE ⊢
  have hA : ∀ q : Nat, s.heap.size ≤ q → A q := fun q h => by rw [← hAe]; exact Or.inr h
  have hS : va_S A s.heap s.heap [] := va_S.rf
  have hl := lv_entry ([.ref h0, .int p1]) (n := 3) (Nat.le_of_ble_eq_true rfl)
  rw [lg_entry_eq]
  generalize (lg_sl ([.ref h0, .int p1]) ++ List.replicate (3 - (lg_sl ([.ref h0, .int p1])).length) Slot.unset).toArray = ls at hl ⊢
  have hl : lv_has ls 3 [(0, .ref h0), (1, .int p1)] := hl
  clear hAe
  refine W_name (fun Q0 hQ0 => ?_)
  refine lv_aload_n hx hb dX3_isJointThere_0 rfl (lv_at hl 0 rfl) ?_
  obtain ⟨fr_1, dr_4, rc_7, f_10, f_12, gn_13, f_14, f_15, f_16, f_17, f_18, sc_19, jc_20, f_23, f_25, rfl, hl_2, hh_3, hl_5, hh_6, hl_8, hh_9, hr_11, hl_21, hh_22, hr_24, hr_26⟩ := o0
  refine va_get (D := (dC, dI)) (ci := 2) (v := .ref (r0 8)) (C := RX3) (T := TX3) (N := 16) hx hb hts iw_X3_isJointThere_X3 hown hK hP 0 rfl rfl 15 (by decide) (hts (.fieldLink RX3 64 "HungFloors$Frame" "jointFloor" "[I") (by decide +kernel)) (fun _ h9 => h9) rfl dX3_isJointThere_1 ?_
  refine lv_iload_n hx hb dX3_isJointThere_4 rfl (lv_at hl 1 rfl) ?_
  refine va_iald hx hb hK hP 9 1 rfl rfl (v_in rfl (by omega) (by omega)) dX3_isJointThere_5 ?_
  refine lv_topi (fun z_27 ez_27 => ?_)
  have gz_27 := rg_at hr_26 ez_27
  have g1z_27 := gz_27.1
  have g2z_27 := gz_27.2
  refine lv_istore_n (lv' := [(2, .int z_27), (0, .ref h0), (1, .int p1)]) hx hb dX3_isJointThere_6 rfl hl (by decide) rfl (fun ls hl => ?_)
  refine lv_iload_n hx hb dX3_isJointThere_7 rfl (lv_at hl 0 rfl) ?_
  refine lv_if_ge (tgt := 24) hx hb dX3_isJointThere_8 (by decide) (fun c_28 => ?_) (fun c_28 => ?_)
  · have c_28 : 0 ≤ z_27.toInt := f_le tI_0 rfl c_28
    refine lv_aload_n hx hb dX3_isJointThere_24 rfl (lv_at hl 1 rfl) ?_
    refine lv_aload_n hx hb dX3_isJointThere_25 rfl (lv_at hl 1 rfl) ?_
    refine va_get (D := (dC, dI)) (ci := 2) (v := .ref (r0 7)) (C := RX3) (T := TX3) (N := 16) hx hb hts iw_X3_isJointThere_X3 hown hK hP 0 rfl rfl 14 (by decide) (hts (.fieldLink RX3 61 "HungFloors$Frame" "jointRod" "[I") (by decide +kernel)) (fun _ h9 => h9) rfl dX3_isJointThere_26 ?_
    refine lv_iload_n hx hb dX3_isJointThere_29 rfl (lv_at hl 2 rfl) ?_
    refine va_iald hx hb hK hP 8 1 rfl rfl (v_in rfl (by omega) (by omega)) dX3_isJointThere_30 ?_
    refine lv_topi (fun z_29 ez_29 => ?_)
    have gz_29 := rg_at hr_24 ez_29
    have g1z_29 := gz_29.1
    have g2z_29 := gz_29.2
    refine lv_iload_n hx hb dX3_isJointThere_31 rfl (lv_at hl 0 rfl) ?_
    have hpm : List.Perm ([[(h0, .inr (2, [.ref pl0, .int fr_1, .int dr_4, .int rc_7, .ref (r0 0), .ref (r0 1), .int gn_13, .ref (r0 2), .ref (r0 3), .ref (r0 4), .ref (r0 5), .ref (r0 6), .long sc_19, .int jc_20, .ref (r0 7), .ref (r0 8)])), (r0 0, .inl (cI, 10, .inl f_10)), (r0 1, .inl (cI, 10, .inl f_12)), (r0 2, .inl (cI, 6, .inl f_14)), (r0 3, .inl (cJ, 6, .inr (.inl f_15))), (r0 4, .inl (cJ, 6, .inr (.inl f_16))), (r0 5, .inl (cJ, 6, .inr (.inl f_17))), (r0 6, .inl (cJ, 10, .inr (.inl f_18))), (r0 7, .inl (cI, 70, .inl f_23)), (r0 8, .inl (cI, 70, .inl f_25))]] : List va_W) (([[(h0, .inr (2, [.ref pl0, .int fr_1, .int dr_4, .int rc_7, .ref (r0 0), .ref (r0 1), .int gn_13, .ref (r0 2), .ref (r0 3), .ref (r0 4), .ref (r0 5), .ref (r0 6), .long sc_19, .int jc_20, .ref (r0 7), .ref (r0 8)])), (r0 0, .inl (cI, 10, .inl f_10)), (r0 1, .inl (cI, 10, .inl f_12)), (r0 2, .inl (cI, 6, .inl f_14)), (r0 3, .inl (cJ, 6, .inr (.inl f_15))), (r0 4, .inl (cJ, 6, .inr (.inl f_16))), (r0 5, .inl (cJ, 6, .inr (.inl f_17))), (r0 6, .inl (cJ, 10, .inr (.inl f_18))), (r0 7, .inl (cI, 70, .inl f_23)), (r0 8, .inl (cI, 70, .inl f_25))]] : List va_W) ++ ([] : List va_W)) := pm_n 1 [0] (by decide) rfl rfl
    have hPc := bk_P hpm hP
    have hDc := bk_D hpm hD
    have hFc := bk_F hpm hD hS hA
    refine va_calli (va_runV (As := [.int z_29, .int z_27]) (rest := []) ⟨hx, hb, hml, hown, hts⟩ (c_X3_isHeldBy l dC dI ad tN fN cB cI cJ cZ h0 z_29 z_27 r0 pl0 _ ⟨fr_1, dr_4, rc_7, f_10, f_12, gn_13, f_14, f_15, f_16, f_17, f_18, sc_19, jc_20, f_23, f_25, rfl, by omega, by omega, by omega, by omega, by omega, by omega, hr_11, by omega, by omega, hr_24, hr_26⟩ s.heap.size (by omega) (by omega)) (cwV 2 hts gX3_isJointThere_X3_isHeldBy rfl rfl rfl (by decide +kernel) ⟨(Nat.le_of_ble_eq_true rfl), (Nat.le_of_ble_eq_true rfl)⟩) ⟨fun a U g mk q => by obtain ⟨q0, q1, qP, qK, qD, qE⟩ := q; exact ⟨q0, q1, qP, va_K.moved (u := U) (U := U.calling g mk a) (Vm.Alike.refl U.vm) qK, qD, ey_blind qE⟩, va_recv hK hPc (ci := 2) (q0 := 0) rfl rfl, fun U hU hW => ⟨rfl, by rw [hU], by rw [hU]; exact hPc, va_K.moved hW.alike hK, hDc.weaken (fun _ _ _ _ => trivial), ey_call hE hS hFc hU hW⟩⟩ rfl rfl hl.1 rfl (lv_room (Nat.le_of_ble_eq_true rfl)) dX3_isJointThere_32 ⟨(Nat.le_of_ble_eq_true rfl), (Nat.le_of_ble_eq_true rfl)⟩) hS (fun q _ h => hFc q h) hFc (fun r_30 u t H locs ht hvm hw hB hz1 hk1 hS => ?_)
    obtain ⟨hP1, hD1⟩ := hB
    rw [ht] at hP1
    obtain ⟨hP, hD⟩ := bk_join hpm hP hD hk1 hFc (Cs1 := [[(h0, .inr (2, [.ref pl0, .int fr_1, .int dr_4, .int rc_7, .ref (r0 0), .ref (r0 1), .int gn_13, .ref (r0 2), .ref (r0 3), .ref (r0 4), .ref (r0 5), .ref (r0 6), .long sc_19, .int jc_20, .ref (r0 7), .ref (r0 8)])), (r0 0, .inl (cI, 10, .inl f_10)), (r0 1, .inl (cI, 10, .inl f_12)), (r0 2, .inl (cI, 6, .inl f_14)), (r0 3, .inl (cJ, 6, .inr (.inl f_15))), (r0 4, .inl (cJ, 6, .inr (.inl f_16))), (r0 5, .inl (cJ, 6, .inr (.inl f_17))), (r0 6, .inl (cJ, 10, .inr (.inl f_18))), (r0 7, .inl (cI, 70, .inl f_23)), (r0 8, .inl (cI, 70, .inl f_25))]]) hP1 hD1
    have hpm2 : List.Perm (([[(h0, .inr (2, [.ref pl0, .int fr_1, .int dr_4, .int rc_7, .ref (r0 0), .ref (r0 1), .int gn_13, .ref (r0 2), .ref (r0 3), .ref (r0 4), .ref (r0 5), .ref (r0 6), .long sc_19, .int jc_20, .ref (r0 7), .ref (r0 8)])), (r0 0, .inl (cI, 10, .inl f_10)), (r0 1, .inl (cI, 10, .inl f_12)), (r0 2, .inl (cI, 6, .inl f_14)), (r0 3, .inl (cJ, 6, .inr (.inl f_15))), (r0 4, .inl (cJ, 6, .inr (.inl f_16))), (r0 5, .inl (cJ, 6, .inr (.inl f_17))), (r0 6, .inl (cJ, 10, .inr (.inl f_18))), (r0 7, .inl (cI, 70, .inl f_23)), (r0 8, .inl (cI, 70, .inl f_25))]] : List va_W) ++ ([] : List va_W)) ([[(h0, .inr (2, [.ref pl0, .int fr_1, .int dr_4, .int rc_7, .ref (r0 0), .ref (r0 1), .int gn_13, .ref (r0 2), .ref (r0 3), .ref (r0 4), .ref (r0 5), .ref (r0 6), .long sc_19, .int jc_20, .ref (r0 7), .ref (r0 8)])), (r0 0, .inl (cI, 10, .inl f_10)), (r0 1, .inl (cI, 10, .inl f_12)), (r0 2, .inl (cI, 6, .inl f_14)), (r0 3, .inl (cJ, 6, .inr (.inl f_15))), (r0 4, .inl (cJ, 6, .inr (.inl f_16))), (r0 5, .inl (cJ, 6, .inr (.inl f_17))), (r0 6, .inl (cJ, 10, .inr (.inl f_18))), (r0 7, .inl (cI, 70, .inl f_23)), (r0 8, .inl (cI, 70, .inl f_25))]] : List va_W) := pm_n 1 [0] (by decide) rfl rfl
    have hP := bk_reP hpm2 hP
    have hD := bk_reD hpm2 hD
    have hP : va_P (dC, dI) vwCl (List.flatten [[(h0, .inr (2, [.ref pl0, .int fr_1, .int dr_4, .int rc_7, .ref (r0 0), .ref (r0 1), .int gn_13, .ref (r0 2), .ref (r0 3), .ref (r0 4), .ref (r0 5), .ref (r0 6), .long sc_19, .int jc_20, .ref (r0 7), .ref (r0 8)])), (r0 0, .inl (cI, 10, .inl f_10)), (r0 1, .inl (cI, 10, .inl f_12)), (r0 2, .inl (cI, 6, .inl f_14)), (r0 3, .inl (cJ, 6, .inr (.inl f_15))), (r0 4, .inl (cJ, 6, .inr (.inl f_16))), (r0 5, .inl (cJ, 6, .inr (.inl f_17))), (r0 6, .inl (cJ, 10, .inr (.inl f_18))), (r0 7, .inl (cI, 70, .inl f_23)), (r0 8, .inl (cI, 70, .inl f_25))]]) H := hP
    have hD : va_D A (List.flatten [[(h0, .inr (2, [.ref pl0, .int fr_1, .int dr_4, .int rc_7, .ref (r0 0), .ref (r0 1), .int gn_13, .ref (r0 2), .ref (r0 3), .ref (r0 4), .ref (r0 5), .ref (r0 6), .long sc_19, .int jc_20, .ref (r0 7), .ref (r0 8)])), (r0 0, .inl (cI, 10, .inl f_10)), (r0 1, .inl (cI, 10, .inl f_12)), (r0 2, .inl (cI, 6, .inl f_14)), (r0 3, .inl (cJ, 6, .inr (.inl f_15))), (r0 4, .inl (cJ, 6, .inr (.inl f_16))), (r0 5, .inl (cJ, 6, .inr (.inl f_17))), (r0 6, .inl (cJ, 10, .inr (.inl f_18))), (r0 7, .inl (cI, 70, .inl f_23)), (r0 8, .inl (cI, 70, .inl f_25))]]) := hD
    obtain ⟨hlr_30, hhr_30⟩ := hw
    rw [hQ0]
    exact W.zret (v := r_30) hx hb hr (z_nar (by omega) (by omega)) (fun t ht hW => ⟨⟨r_30, (), rfl, ⟨by omega, by omega⟩, ⟨by rw [ht]; exact hP, hD⟩⟩, hS.F ht⟩) hS.2.2 dX3_isJointThere_35
  · have c_28 : z_27.toInt < 0 := f_nle tI_0 rfl c_28
    refine lv_aload_n hx hb dX3_isJointThere_11 rfl (lv_at hl 1 rfl) ?_
    refine lv_aload_n hx hb dX3_isJointThere_12 rfl (lv_at hl 1 rfl) ?_
    refine va_get (D := (dC, dI)) (ci := 2) (v := .ref (r0 7)) (C := RX3) (T := TX3) (N := 16) hx hb hts iw_X3_isJointThere_X3 hown hK hP 0 rfl rfl 14 (by decide) (hts (.fieldLink RX3 61 "HungFloors$Frame" "jointRod" "[I") (by decide +kernel)) (fun _ h9 => h9) rfl dX3_isJointThere_13 ?_
    refine lv_iload_n hx hb dX3_isJointThere_16 rfl (lv_at hl 2 rfl) ?_
    refine va_iald hx hb hK hP 8 1 rfl rfl (v_in rfl (by omega) (by omega)) dX3_isJointThere_17 ?_
    refine lv_topi (fun z_31 ez_31 => ?_)
    have gz_31 := rg_at hr_24 ez_31
    have g1z_31 := gz_31.1
    have g2z_31 := gz_31.2
    have hpm : List.Perm ([[(h0, .inr (2, [.ref pl0, .int fr_1, .int dr_4, .int rc_7, .ref (r0 0), .ref (r0 1), .int gn_13, .ref (r0 2), .ref (r0 3), .ref (r0 4), .ref (r0 5), .ref (r0 6), .long sc_19, .int jc_20, .ref (r0 7), .ref (r0 8)])), (r0 0, .inl (cI, 10, .inl f_10)), (r0 1, .inl (cI, 10, .inl f_12)), (r0 2, .inl (cI, 6, .inl f_14)), (r0 3, .inl (cJ, 6, .inr (.inl f_15))), (r0 4, .inl (cJ, 6, .inr (.inl f_16))), (r0 5, .inl (cJ, 6, .inr (.inl f_17))), (r0 6, .inl (cJ, 10, .inr (.inl f_18))), (r0 7, .inl (cI, 70, .inl f_23)), (r0 8, .inl (cI, 70, .inl f_25))]] : List va_W) (([[(h0, .inr (2, [.ref pl0, .int fr_1, .int dr_4, .int rc_7, .ref (r0 0), .ref (r0 1), .int gn_13, .ref (r0 2), .ref (r0 3), .ref (r0 4), .ref (r0 5), .ref (r0 6), .long sc_19, .int jc_20, .ref (r0 7), .ref (r0 8)])), (r0 0, .inl (cI, 10, .inl f_10)), (r0 1, .inl (cI, 10, .inl f_12)), (r0 2, .inl (cI, 6, .inl f_14)), (r0 3, .inl (cJ, 6, .inr (.inl f_15))), (r0 4, .inl (cJ, 6, .inr (.inl f_16))), (r0 5, .inl (cJ, 6, .inr (.inl f_17))), (r0 6, .inl (cJ, 10, .inr (.inl f_18))), (r0 7, .inl (cI, 70, .inl f_23)), (r0 8, .inl (cI, 70, .inl f_25))]] : List va_W) ++ ([] : List va_W)) := pm_n 1 [0] (by decide) rfl rfl
    have hPc := bk_P hpm hP
    have hDc := bk_D hpm hD
    have hFc := bk_F hpm hD hS hA
    refine va_calli (va_runV (As := [.int z_31]) (rest := []) ⟨hx, hb, hml, hown, hts⟩ (c_X3_isThere l dC dI ad tN fN cB cI cJ cZ h0 z_31 r0 pl0 _ ⟨fr_1, dr_4, rc_7, f_10, f_12, gn_13, f_14, f_15, f_16, f_17, f_18, sc_19, jc_20, f_23, f_25, rfl, by omega, by omega, by omega, by omega, by omega, by omega, hr_11, by omega, by omega, hr_24, hr_26⟩ s.heap.size) (cwV 1 hts gX3_isJointThere_X3_isThere rfl rfl rfl (by decide +kernel) ⟨(Nat.le_of_ble_eq_true rfl), (Nat.le_of_ble_eq_true rfl)⟩) ⟨fun a U g mk q => by obtain ⟨q0, q1, qP, qK, qD, qE⟩ := q; exact ⟨q0, q1, qP, va_K.moved (u := U) (U := U.calling g mk a) (Vm.Alike.refl U.vm) qK, qD, ey_blind qE⟩, va_recv hK hPc (ci := 2) (q0 := 0) rfl rfl, fun U hU hW => ⟨rfl, by rw [hU], by rw [hU]; exact hPc, va_K.moved hW.alike hK, hDc.weaken (fun _ _ _ _ => trivial), ey_call hE hS hFc hU hW⟩⟩ rfl rfl hl.1 rfl (lv_room (Nat.le_of_ble_eq_true rfl)) dX3_isJointThere_18 ⟨(Nat.le_of_ble_eq_true rfl), (Nat.le_of_ble_eq_true rfl)⟩) hS (fun q _ h => hFc q h) hFc (fun r_32 u t H locs ht hvm hw hB hz1 hk1 hS => ?_)
    obtain ⟨hP1, hD1⟩ := hB
    rw [ht] at hP1
    obtain ⟨hP, hD⟩ := bk_join hpm hP hD hk1 hFc (Cs1 := [[(h0, .inr (2, [.ref pl0, .int fr_1, .int dr_4, .int rc_7, .ref (r0 0), .ref (r0 1), .int gn_13, .ref (r0 2), .ref (r0 3), .ref (r0 4), .ref (r0 5), .ref (r0 6), .long sc_19, .int jc_20, .ref (r0 7), .ref (r0 8)])), (r0 0, .inl (cI, 10, .inl f_10)), (r0 1, .inl (cI, 10, .inl f_12)), (r0 2, .inl (cI, 6, .inl f_14)), (r0 3, .inl (cJ, 6, .inr (.inl f_15))), (r0 4, .inl (cJ, 6, .inr (.inl f_16))), (r0 5, .inl (cJ, 6, .inr (.inl f_17))), (r0 6, .inl (cJ, 10, .inr (.inl f_18))), (r0 7, .inl (cI, 70, .inl f_23)), (r0 8, .inl (cI, 70, .inl f_25))]]) hP1 hD1
    have hpm2 : List.Perm (([[(h0, .inr (2, [.ref pl0, .int fr_1, .int dr_4, .int rc_7, .ref (r0 0), .ref (r0 1), .int gn_13, .ref (r0 2), .ref (r0 3), .ref (r0 4), .ref (r0 5), .ref (r0 6), .long sc_19, .int jc_20, .ref (r0 7), .ref (r0 8)])), (r0 0, .inl (cI, 10, .inl f_10)), (r0 1, .inl (cI, 10, .inl f_12)), (r0 2, .inl (cI, 6, .inl f_14)), (r0 3, .inl (cJ, 6, .inr (.inl f_15))), (r0 4, .inl (cJ, 6, .inr (.inl f_16))), (r0 5, .inl (cJ, 6, .inr (.inl f_17))), (r0 6, .inl (cJ, 10, .inr (.inl f_18))), (r0 7, .inl (cI, 70, .inl f_23)), (r0 8, .inl (cI, 70, .inl f_25))]] : List va_W) ++ ([] : List va_W)) ([[(h0, .inr (2, [.ref pl0, .int fr_1, .int dr_4, .int rc_7, .ref (r0 0), .ref (r0 1), .int gn_13, .ref (r0 2), .ref (r0 3), .ref (r0 4), .ref (r0 5), .ref (r0 6), .long sc_19, .int jc_20, .ref (r0 7), .ref (r0 8)])), (r0 0, .inl (cI, 10, .inl f_10)), (r0 1, .inl (cI, 10, .inl f_12)), (r0 2, .inl (cI, 6, .inl f_14)), (r0 3, .inl (cJ, 6, .inr (.inl f_15))), (r0 4, .inl (cJ, 6, .inr (.inl f_16))), (r0 5, .inl (cJ, 6, .inr (.inl f_17))), (r0 6, .inl (cJ, 10, .inr (.inl f_18))), (r0 7, .inl (cI, 70, .inl f_23)), (r0 8, .inl (cI, 70, .inl f_25))]] : List va_W) := pm_n 1 [0] (by decide) rfl rfl
    have hP := bk_reP hpm2 hP
    have hD := bk_reD hpm2 hD
    have hP : va_P (dC, dI) vwCl (List.flatten [[(h0, .inr (2, [.ref pl0, .int fr_1, .int dr_4, .int rc_7, .ref (r0 0), .ref (r0 1), .int gn_13, .ref (r0 2), .ref (r0 3), .ref (r0 4), .ref (r0 5), .ref (r0 6), .long sc_19, .int jc_20, .ref (r0 7), .ref (r0 8)])), (r0 0, .inl (cI, 10, .inl f_10)), (r0 1, .inl (cI, 10, .inl f_12)), (r0 2, .inl (cI, 6, .inl f_14)), (r0 3, .inl (cJ, 6, .inr (.inl f_15))), (r0 4, .inl (cJ, 6, .inr (.inl f_16))), (r0 5, .inl (cJ, 6, .inr (.inl f_17))), (r0 6, .inl (cJ, 10, .inr (.inl f_18))), (r0 7, .inl (cI, 70, .inl f_23)), (r0 8, .inl (cI, 70, .inl f_25))]]) H := hP
    have hD : va_D A (List.flatten [[(h0, .inr (2, [.ref pl0, .int fr_1, .int dr_4, .int rc_7, .ref (r0 0), .ref (r0 1), .int gn_13, .ref (r0 2), .ref (r0 3), .ref (r0 4), .ref (r0 5), .ref (r0 6), .long sc_19, .int jc_20, .ref (r0 7), .ref (r0 8)])), (r0 0, .inl (cI, 10, .inl f_10)), (r0 1, .inl (cI, 10, .inl f_12)), (r0 2, .inl (cI, 6, .inl f_14)), (r0 3, .inl (cJ, 6, .inr (.inl f_15))), (r0 4, .inl (cJ, 6, .inr (.inl f_16))), (r0 5, .inl (cJ, 6, .inr (.inl f_17))), (r0 6, .inl (cJ, 10, .inr (.inl f_18))), (r0 7, .inl (cI, 70, .inl f_23)), (r0 8, .inl (cI, 70, .inl f_25))]]) := hD
    obtain ⟨hlr_32, hhr_32⟩ := hw
    refine lv_goto (tgt := 35) hx hb dX3_isJointThere_21 (by decide) ?_
    rw [hQ0]
    exact W.zret (v := r_32) hx hb hr (z_nar (by omega) (by omega)) (fun t ht hW => ⟨⟨r_32, (), rfl, ⟨by omega, by omega⟩, ⟨by rw [ht]; exact hP, hD⟩⟩, hS.F ht⟩) hS.2.2 dX3_isJointThere_35
theorem iw_X3_bornBy_X3 : ∀ w ∈ wsX30, w ∈ wsX3_bornBy := fun _ h => List.mem_cons_of_mem _ (List.mem_append_right _ h)
set_option maxHeartbeats 4000000 in
set_option maxRecDepth 100000 in
theorem c_X3_bornBy (l : Launch) (dC : Nat → ClassId) (dI : Nat → Nat → Nat) (ad : Nat → Nat) (tN : Nat) (fN : Nat → Int64) (cB cI cJ cZ : ClassId) (h0 : Nat) (p1 : Int32) (r0 : Nat → Nat) (pl0 : Nat) (w0 : va_W) (o0 : ok_frame ad cB cI cJ cZ h0 r0 pl0 w0) (sz : Nat) (up11 : 0 ≤ p1.toInt) (up12 : p1.toInt ≤ 69) : Met l yX3_bornBy wsX3_bornBy ({ frames := 0, cells := 0, slots := 0, locals := 0 } : Room) (va_Pc [.ref h0, .int p1] (fun U => U.heap.size = sz ∧ va_P (dC, dI) vwCl (List.flatten [w0]) U.heap ∧ va_K (dC, dI) vwCl [(cB, .byte), (cI, .int), (cJ, .long), (cZ, .boolean)] U ∧ va_D (fun _ => True) (List.flatten [w0]) ∧ ex_Y ad tN fN (va_A (List.flatten [w0]) sz) U)) (va_Ql (fun (r : Int64) (_ : Unit) => True) (fun (_ : Unit) (t : State) => va_P (dC, dI) vwCl (List.flatten [w0]) t.heap ∧ va_D (va_A (List.flatten [w0]) sz) (List.flatten [w0])) (va_A (List.flatten [w0]) sz)) 0 0 (va_A (List.flatten [w0]) sz) := by
  refine Met.ofW (cc := cX3_bornBy) (maxL := 3) (ret := (some .long)) (by decide) rfl ?_
  intro p e s m args below meth c s₁ B hml hv
  obtain ⟨rfl, hsz, hP, hK, hD0, hE⟩ := hv
  have hx := B.exec
  have hb := B.bytes
  have hr := B.returns
  have hts := atoms_spec (ws := wsX3_bornBy) B.pre
  have hown : s.vm.findClass RX3 = some m.cls := findClass_of_methodNamed B.named
  have hlocks := B.notSynchronized
  subst hsz
  have hD := hD0.self (sz := s.heap.size)
  generalize hAe : va_A (List.flatten [w0]) s.heap.size = A at hD hE ⊢
  have hA : ∀ q : Nat, s.heap.size ≤ q → A q := fun q h => by rw [← hAe]; exact Or.inr h
  have hS : va_S A s.heap s.heap [] := va_S.rf
  have hl := lv_entry ([.ref h0, .int p1]) (n := 3) (Nat.le_of_ble_eq_true rfl)
  rw [lg_entry_eq]
  generalize (lg_sl ([.ref h0, .int p1]) ++ List.replicate (3 - (lg_sl ([.ref h0, .int p1])).length) Slot.unset).toArray = ls at hl ⊢
  have hl : lv_has ls 3 [(0, .ref h0), (1, .int p1)] := hl
  clear hAe
  refine W_name (fun Q0 hQ0 => ?_)
  refine lv_aload_n hx hb dX3_bornBy_0 rfl (lv_at hl 0 rfl) ?_
  obtain ⟨fr_1, dr_4, rc_7, f_10, f_12, gn_13, f_14, f_15, f_16, f_17, f_18, sc_19, jc_20, f_23, f_25, rfl, hl_2, hh_3, hl_5, hh_6, hl_8, hh_9, hr_11, hl_21, hh_22, hr_24, hr_26⟩ := o0
  refine va_get (D := (dC, dI)) (ci := 2) (v := .ref (r0 8)) (C := RX3) (T := TX3) (N := 16) hx hb hts iw_X3_bornBy_X3 hown hK hP 0 rfl rfl 15 (by decide) (hts (.fieldLink RX3 64 "HungFloors$Frame" "jointFloor" "[I") (by decide +kernel)) (fun _ h9 => h9) rfl dX3_bornBy_1 ?_
  refine lv_iload_n hx hb dX3_bornBy_4 rfl (lv_at hl 1 rfl) ?_
  refine va_iald hx hb hK hP 9 1 rfl rfl (v_in rfl (by omega) (by omega)) dX3_bornBy_5 ?_
  refine lv_topi (fun z_27 ez_27 => ?_)
  have gz_27 := rg_at hr_26 ez_27
  have g1z_27 := gz_27.1
  have g2z_27 := gz_27.2
  refine lv_istore_n (lv' := [(2, .int z_27), (0, .ref h0), (1, .int p1)]) hx hb dX3_bornBy_6 rfl hl (by decide) rfl (fun ls hl => ?_)
  refine lv_iload_n hx hb dX3_bornBy_7 rfl (lv_at hl 0 rfl) ?_
  refine lv_if_ge (tgt := 25) hx hb dX3_bornBy_8 (by decide) (fun c_28 => ?_) (fun c_28 => ?_)
  · have c_28 : 0 ≤ z_27.toInt := f_le tI_0 rfl c_28
    refine lv_aload_n hx hb dX3_bornBy_25 rfl (lv_at hl 1 rfl) ?_
    refine va_get (D := (dC, dI)) (ci := 2) (v := .ref (r0 5)) (C := RX3) (T := TX3) (N := 16) hx hb hts iw_X3_bornBy_X3 hown hK hP 0 rfl rfl 10 (by decide) (hts (.fieldLink RX3 48 "HungFloors$Frame" "shareOf" "[J") (by decide +kernel)) (fun _ h9 => h9) rfl dX3_bornBy_26 ?_
    refine lv_iload_n hx hb dX3_bornBy_29 rfl (lv_at hl 0 rfl) ?_
    refine va_lald hx hb hK hP 6 2 rfl rfl (v_in rfl (by omega) (by omega)) dX3_bornBy_30 ?_
    refine lv_topl (fun z_29 ez_29 => ?_)
    rw [hQ0]
    exact W.lret (v := z_29) hx hb hr (fun t ht hW => ⟨⟨z_29, (), rfl, trivial, ⟨by rw [ht]; exact hP, hD⟩⟩, hS.F ht⟩) hS.2.2 dX3_bornBy_31
  · have c_28 : z_27.toInt < 0 := f_nle tI_0 rfl c_28
    refine lv_aload_n hx hb dX3_bornBy_11 rfl (lv_at hl 1 rfl) ?_
    refine va_get (D := (dC, dI)) (ci := 2) (v := .ref (r0 6)) (C := RX3) (T := TX3) (N := 16) hx hb hts iw_X3_bornBy_X3 hown hK hP 0 rfl rfl 11 (by decide) (hts (.fieldLink RX3 51 "HungFloors$Frame" "bornByRod" "[J") (by decide +kernel)) (fun _ h9 => h9) rfl dX3_bornBy_12 ?_
    refine lv_aload_n hx hb dX3_bornBy_15 rfl (lv_at hl 1 rfl) ?_
    refine va_get (D := (dC, dI)) (ci := 2) (v := .ref (r0 7)) (C := RX3) (T := TX3) (N := 16) hx hb hts iw_X3_bornBy_X3 hown hK hP 0 rfl rfl 14 (by decide) (hts (.fieldLink RX3 61 "HungFloors$Frame" "jointRod" "[I") (by decide +kernel)) (fun _ h9 => h9) rfl dX3_bornBy_16 ?_
    refine lv_iload_n hx hb dX3_bornBy_19 rfl (lv_at hl 2 rfl) ?_
    refine va_iald hx hb hK hP 8 1 rfl rfl (v_in rfl (by omega) (by omega)) dX3_bornBy_20 ?_
    refine lv_topi (fun z_30 ez_30 => ?_)
    have gz_30 := rg_at hr_24 ez_30
    have g1z_30 := gz_30.1
    have g2z_30 := gz_30.2
    refine va_lald hx hb hK hP 7 2 rfl rfl (v_in rfl (by omega) (by omega)) dX3_bornBy_21 ?_
    refine lv_topl (fun z_31 ez_31 => ?_)
    refine lv_goto (tgt := 31) hx hb dX3_bornBy_22 (by decide) ?_
    rw [hQ0]
    exact W.lret (v := z_31) hx hb hr (fun t ht hW => ⟨⟨z_31, (), rfl, trivial, ⟨by rw [ht]; exact hP, hD⟩⟩, hS.F ht⟩) hS.2.2 dX3_bornBy_31
theorem iw_X3_loadNobody_X3 : ∀ w ∈ wsX30, w ∈ wsX3_loadNobody := fun _ h => List.mem_cons_of_mem _ (List.mem_append_left _ (List.mem_append_right _ h))
theorem iw_X3_loadNobody_X7 : ∀ w ∈ wsX70, w ∈ wsX3_loadNobody := fun _ h => List.mem_cons_of_mem _ (List.mem_append_right _ h)
set_option maxHeartbeats 4000000 in
set_option maxRecDepth 100000 in
theorem c_X3_loadNobody (l : Launch) (dC : Nat → ClassId) (dI : Nat → Nat → Nat) (ad : Nat → Nat) (tN : Nat) (fN : Nat → Int64) (cB cI cJ cZ : ClassId) (h0 : Nat) (r0 : Nat → Nat) (pl0 : Nat) (w0 : va_W) (r1 : Nat → Nat) (fc1 : Int32) (dc1 : Int32) (rk1 : Nat → Int32) (w1 : va_W) (o0 : ok_frame ad cB cI cJ cZ h0 r0 pl0 w0) (o1 : ok_plan ad cB cI cJ cZ pl0 r1 fc1 dc1 rk1 w1) (sz : Nat) : Met l yX3_loadNobody wsX3_loadNobody ({ frames := 0, cells := 0, slots := 0, locals := 0 } : Room) (va_Pc [.ref h0] (fun U => U.heap.size = sz ∧ va_P (dC, dI) vwCl (List.flatten [w0, w1]) U.heap ∧ va_K (dC, dI) vwCl [(cB, .byte), (cI, .int), (cJ, .long), (cZ, .boolean)] U ∧ va_D (fun _ => True) (List.flatten [w0, w1]) ∧ ex_Y ad tN fN (va_A (List.flatten [w0, w1]) sz) U)) (va_Qv (fun _ : Unit => True) (fun (_ : Unit) (t : State) => ∃ (w09 : va_W), ok_frame ad cB cI cJ cZ h0 r0 pl0 w09 ∧ va_P (dC, dI) vwCl (List.flatten [w09, w1]) t.heap ∧ va_D (va_A (List.flatten [w0, w1]) sz) (List.flatten [w09, w1])) (va_A (List.flatten [w0, w1]) sz)) 0 0 (va_A (List.flatten [w0, w1]) sz) := by
  refine Met.ofW (cc := cX3_loadNobody) (maxL := 2) (ret := none) (by decide) rfl ?_
  intro p e s m args below meth c s₁ B hml hv
  obtain ⟨rfl, hsz, hP, hK, hD0, hE⟩ := hv
  have hx := B.exec
  have hb := B.bytes
  have hr := B.returns
  have hts := atoms_spec (ws := wsX3_loadNobody) B.pre
  have hown : s.vm.findClass RX3 = some m.cls := findClass_of_methodNamed B.named
  have hlocks := B.notSynchronized
  subst hsz
  have hD := hD0.self (sz := s.heap.size)
  generalize hAe : va_A (List.flatten [w0, w1]) s.heap.size = A at hD hE ⊢
  have hA : ∀ q : Nat, s.heap.size ≤ q → A q := fun q h => by rw [← hAe]; exact Or.inr h
  have hS : va_S A s.heap s.heap [] := va_S.rf
  have hl := lv_entry ([.ref h0]) (n := 2) (Nat.le_of_ble_eq_true rfl)
  rw [lg_entry_eq]
  generalize (lg_sl ([.ref h0]) ++ List.replicate (2 - (lg_sl ([.ref h0])).length) Slot.unset).toArray = ls at hl ⊢
  have hl : lv_has ls 2 [(0, .ref h0)] := hl
  clear hAe
  refine W_name (fun Q0 hQ0 => ?_)
  refine lv_iconst (v := 0) hx hb dX3_loadNobody_0 (by decide) ?_
  refine lv_istore_n (lv' := [(1, .int 0), (0, .ref h0)]) hx hb dX3_loadNobody_1 rfl hl (by decide) rfl (fun ls hl => ?_)
  obtain ⟨fr_50, dr_53, rc_56, f_59, f_61, gn_62, f_63, f_64, f_65, f_66, f_67, sc_68, jc_69, f_72, f_74, rfl, hl_51, hh_52, hl_54, hh_55, hl_57, hh_58, hr_60, hl_70, hh_71, hr_73, hr_75⟩ := o0
  obtain ⟨f_78, f_79, f_80, f_81, f_84, f_86, f_87, f_89, f_91, rfl, hl_76, hh_77, hl_82, hh_83, hr_85, hr_88, hr_90⟩ := o1
  have lp_144 : ∀ (n : Nat) (g_1 : Int32) (gf_98 : Nat → Int64), 0 ≤ g_1.toInt → g_1.toInt ≤ 6 → g_1.toInt - fc1.toInt ≤ 0 → (6 - g_1.toInt).toNat < n → ∀ (H : Heap) (locs : List Loc), va_P (dC, dI) vwCl (List.flatten [[(h0, .inr (2, [.ref pl0, .int fr_50, .int dr_53, .int rc_56, .ref (r0 0), .ref (r0 1), .int gn_62, .ref (r0 2), .ref (r0 3), .ref (r0 4), .ref (r0 5), .ref (r0 6), .long sc_68, .int jc_69, .ref (r0 7), .ref (r0 8)])), (r0 0, .inl (cI, 10, .inl f_59)), (r0 1, .inl (cI, 10, .inl f_61)), (r0 2, .inl (cI, 6, .inl f_63)), (r0 3, .inl (cJ, 6, .inr (.inl gf_98))), (r0 4, .inl (cJ, 6, .inr (.inl f_65))), (r0 5, .inl (cJ, 6, .inr (.inl f_66))), (r0 6, .inl (cJ, 10, .inr (.inl f_67))), (r0 7, .inl (cI, 70, .inl f_72)), (r0 8, .inl (cI, 70, .inl f_74))], [(pl0, .inr (5, [.int fc1, .ref (r1 0), .ref (r1 1), .ref (r1 2), .ref (r1 3), .int dc1, .ref (r1 4), .ref (r1 5), .ref (r1 6), .ref (r1 7), .ref (r1 8), .ref (r1 9)])), (r1 0, .inl (cJ, 6, .inr (.inl f_78))), (r1 1, .inl (cI, 6, .inl f_79)), (r1 2, .inl (cI, 6, .inl f_80)), (r1 3, .inl (cI, 6, .inl f_81)), (r1 4, .inl (cJ, 4, .inr (.inl f_84))), (r1 5, .inl (cI, 4, .inl rk1)), (r1 6, .inl (cJ, 40, .inr (.inl f_86))), (r1 7, .inl (cI, 40, .inl f_87)), (r1 8, .inl (cI, 40, .inl f_89)), (r1 9, .inl (cI, 40, .inl f_91))]]) H → va_D A (List.flatten [[(h0, .inr (2, [.ref pl0, .int fr_50, .int dr_53, .int rc_56, .ref (r0 0), .ref (r0 1), .int gn_62, .ref (r0 2), .ref (r0 3), .ref (r0 4), .ref (r0 5), .ref (r0 6), .long sc_68, .int jc_69, .ref (r0 7), .ref (r0 8)])), (r0 0, .inl (cI, 10, .inl f_59)), (r0 1, .inl (cI, 10, .inl f_61)), (r0 2, .inl (cI, 6, .inl f_63)), (r0 3, .inl (cJ, 6, .inr (.inl gf_98))), (r0 4, .inl (cJ, 6, .inr (.inl f_65))), (r0 5, .inl (cJ, 6, .inr (.inl f_66))), (r0 6, .inl (cJ, 10, .inr (.inl f_67))), (r0 7, .inl (cI, 70, .inl f_72)), (r0 8, .inl (cI, 70, .inl f_74))], [(pl0, .inr (5, [.int fc1, .ref (r1 0), .ref (r1 1), .ref (r1 2), .ref (r1 3), .int dc1, .ref (r1 4), .ref (r1 5), .ref (r1 6), .ref (r1 7), .ref (r1 8), .ref (r1 9)])), (r1 0, .inl (cJ, 6, .inr (.inl f_78))), (r1 1, .inl (cI, 6, .inl f_79)), (r1 2, .inl (cI, 6, .inl f_80)), (r1 3, .inl (cI, 6, .inl f_81)), (r1 4, .inl (cJ, 4, .inr (.inl f_84))), (r1 5, .inl (cI, 4, .inl rk1)), (r1 6, .inl (cJ, 40, .inr (.inl f_86))), (r1 7, .inl (cI, 40, .inl f_87)), (r1 8, .inl (cI, 40, .inl f_89)), (r1 9, .inl (cI, 40, .inl f_91))]]) → va_S A s.heap H locs → ∀ (ls : Array Slot), lv_has ls 2 [(1, .int g_1), (0, .ref h0)] → W p l e (headSpec wsX3_loadNobody ({ frames := 0, cells := 0, slots := 0, locals := 0 } : Room)).room s m ([.ref h0] : List Value).toArray below meth c H locs 0 0 Q0 (F0 m 2 ls []) := by
    intro n
    induction n with
    | zero => intro g_1 gf_98 iv_141 iv_142 iv_143 hm; exact absurd hm (Nat.not_lt_zero _)
    | succ n ih_145 =>
      intro g_1 gf_98 iv_141 iv_142 iv_143 hm H locs hP hD hS ls hl
      refine lv_iload_n hx hb dX3_loadNobody_2 rfl (lv_at hl 0 rfl) ?_
      refine lv_aload_n hx hb dX3_loadNobody_3 rfl (lv_at hl 1 rfl) ?_
      refine va_get (D := (dC, dI)) (ci := 2) (v := .ref pl0) (C := RX3) (T := TX3) (N := 16) hx hb hts iw_X3_loadNobody_X3 hown hK hP 0 rfl rfl 0 (by decide) (hts (.fieldLink RX3 12 "HungFloors$Frame" "plan" "LHungFloors$Plan;") (by decide +kernel)) (fun _ h9 => h9) rfl dX3_loadNobody_4 ?_
      refine va_get (D := (dC, dI)) (ci := 5) (v := .int fc1) (C := RX7) (T := TX7) (N := 12) hx hb hts iw_X3_loadNobody_X7 hown hK hP 10 rfl rfl 0 (by decide) (hts (.fieldLink RX3 79 "HungFloors$Plan" "floorCount" "I") (by decide +kernel)) (fun _ h9 => h9) rfl dX3_loadNobody_7 ?_
      refine lv_icmp_ge (tgt := 39) hx hb dX3_loadNobody_10 (by decide) (fun c_146 => ?_) (fun c_146 => ?_)
      · have c_146 : fc1.toInt ≤ g_1.toInt := f_le rfl rfl c_146
        rw [hQ0]
        exact W.vret hx hb hr (fun t ht hW => ⟨⟨(), rfl, trivial, ⟨_, ⟨fr_50, dr_53, rc_56, f_59, f_61, gn_62, f_63, gf_98, f_65, f_66, f_67, sc_68, jc_69, f_72, f_74, rfl, by omega, by omega, by omega, by omega, by omega, by omega, hr_60, by omega, by omega, hr_73, hr_75⟩, by rw [ht]; exact hP, hD⟩⟩, hS.F ht⟩) hS.2.2 dX3_loadNobody_39
      · have c_146 : g_1.toInt < fc1.toInt := f_nle rfl rfl c_146
        refine lv_aload_n hx hb dX3_loadNobody_13 rfl (lv_at hl 1 rfl) ?_
        refine va_get (D := (dC, dI)) (ci := 2) (v := .ref (r0 3)) (C := RX3) (T := TX3) (N := 16) hx hb hts iw_X3_loadNobody_X3 hown hK hP 0 rfl rfl 8 (by decide) (hts (.fieldLink RX3 41 "HungFloors$Frame" "own" "[J") (by decide +kernel)) (fun _ h9 => h9) rfl dX3_loadNobody_14 ?_
        refine lv_iload_n hx hb dX3_loadNobody_17 rfl (lv_at hl 0 rfl) ?_
        refine lv_ldc2 hx hb hown (hts (.constantLong RX3 86 (10)) (by decide +kernel)) dX3_loadNobody_18 ?_
        refine lv_aload_n hx hb dX3_loadNobody_21 rfl (lv_at hl 1 rfl) ?_
        refine va_get (D := (dC, dI)) (ci := 2) (v := .ref pl0) (C := RX3) (T := TX3) (N := 16) hx hb hts iw_X3_loadNobody_X3 hown hK hP 0 rfl rfl 0 (by decide) (hts (.fieldLink RX3 12 "HungFloors$Frame" "plan" "LHungFloors$Plan;") (by decide +kernel)) (fun _ h9 => h9) rfl dX3_loadNobody_22 ?_
        refine va_get (D := (dC, dI)) (ci := 5) (v := .ref (r1 1)) (C := RX7) (T := TX7) (N := 12) hx hb hts iw_X3_loadNobody_X7 hown hK hP 10 rfl rfl 2 (by decide) (hts (.fieldLink RX3 88 "HungFloors$Plan" "weighs" "[I") (by decide +kernel)) (fun _ h9 => h9) rfl dX3_loadNobody_25 ?_
        refine lv_iload_n hx hb dX3_loadNobody_28 rfl (lv_at hl 0 rfl) ?_
        refine va_iald hx hb hK hP 12 1 rfl rfl (v_in rfl (by omega) (by omega)) dX3_loadNobody_29 ?_
        refine lv_topi (fun z_147 ez_147 => ?_)
        obtain ⟨z_148, ez_148⟩ : ∃ y : Int64, (z_147 : Int32).toInt64 = y := ⟨_, rfl⟩
        refine lv_i2l (v := z_148) hx hb dX3_loadNobody_30 ez_148 ?_
        refine lv_lmul hx hb dX3_loadNobody_31 ?_
        refine lv_topl (fun z_149 ez_149 => ?_)
        refine va_last hx hb hK hP hD hS 4 2 rfl rfl (v_in rfl (by omega) (by omega)) dX3_loadNobody_32 (fun H locs hP hD hS => ?_)
        obtain ⟨f_150, hP, hD⟩ : ∃ f_150 : Nat → Int64, va_P (dC, dI) vwCl (List.flatten [[(h0, .inr (2, [.ref pl0, .int fr_50, .int dr_53, .int rc_56, .ref (r0 0), .ref (r0 1), .int gn_62, .ref (r0 2), .ref (r0 3), .ref (r0 4), .ref (r0 5), .ref (r0 6), .long sc_68, .int jc_69, .ref (r0 7), .ref (r0 8)])), (r0 0, .inl (cI, 10, .inl f_59)), (r0 1, .inl (cI, 10, .inl f_61)), (r0 2, .inl (cI, 6, .inl f_63)), (r0 3, .inl (cJ, 6, .inr (.inl f_150))), (r0 4, .inl (cJ, 6, .inr (.inl f_65))), (r0 5, .inl (cJ, 6, .inr (.inl f_66))), (r0 6, .inl (cJ, 10, .inr (.inl f_67))), (r0 7, .inl (cI, 70, .inl f_72)), (r0 8, .inl (cI, 70, .inl f_74))], [(pl0, .inr (5, [.int fc1, .ref (r1 0), .ref (r1 1), .ref (r1 2), .ref (r1 3), .int dc1, .ref (r1 4), .ref (r1 5), .ref (r1 6), .ref (r1 7), .ref (r1 8), .ref (r1 9)])), (r1 0, .inl (cJ, 6, .inr (.inl f_78))), (r1 1, .inl (cI, 6, .inl f_79)), (r1 2, .inl (cI, 6, .inl f_80)), (r1 3, .inl (cI, 6, .inl f_81)), (r1 4, .inl (cJ, 4, .inr (.inl f_84))), (r1 5, .inl (cI, 4, .inl rk1)), (r1 6, .inl (cJ, 40, .inr (.inl f_86))), (r1 7, .inl (cI, 40, .inl f_87)), (r1 8, .inl (cI, 40, .inl f_89)), (r1 9, .inl (cI, 40, .inl f_91))]]) H ∧ va_D A (List.flatten [[(h0, .inr (2, [.ref pl0, .int fr_50, .int dr_53, .int rc_56, .ref (r0 0), .ref (r0 1), .int gn_62, .ref (r0 2), .ref (r0 3), .ref (r0 4), .ref (r0 5), .ref (r0 6), .long sc_68, .int jc_69, .ref (r0 7), .ref (r0 8)])), (r0 0, .inl (cI, 10, .inl f_59)), (r0 1, .inl (cI, 10, .inl f_61)), (r0 2, .inl (cI, 6, .inl f_63)), (r0 3, .inl (cJ, 6, .inr (.inl f_150))), (r0 4, .inl (cJ, 6, .inr (.inl f_65))), (r0 5, .inl (cJ, 6, .inr (.inl f_66))), (r0 6, .inl (cJ, 10, .inr (.inl f_67))), (r0 7, .inl (cI, 70, .inl f_72)), (r0 8, .inl (cI, 70, .inl f_74))], [(pl0, .inr (5, [.int fc1, .ref (r1 0), .ref (r1 1), .ref (r1 2), .ref (r1 3), .int dc1, .ref (r1 4), .ref (r1 5), .ref (r1 6), .ref (r1 7), .ref (r1 8), .ref (r1 9)])), (r1 0, .inl (cJ, 6, .inr (.inl f_78))), (r1 1, .inl (cI, 6, .inl f_79)), (r1 2, .inl (cI, 6, .inl f_80)), (r1 3, .inl (cI, 6, .inl f_81)), (r1 4, .inl (cJ, 4, .inr (.inl f_84))), (r1 5, .inl (cI, 4, .inl rk1)), (r1 6, .inl (cJ, 40, .inr (.inl f_86))), (r1 7, .inl (cI, 40, .inl f_87)), (r1 8, .inl (cI, 40, .inl f_89)), (r1 9, .inl (cI, 40, .inl f_91))]]) := ⟨_, hP, hD⟩
        obtain ⟨z_151, ez_151⟩ : ∃ y : Int32, y = g_1 + 1 := ⟨_, rfl⟩
        have hz_151 : z_151.toInt = g_1.toInt + 1 := by rw [ez_151]; exact t_add rfl tI_1 (by omega) (by omega)
        refine lv_iinc (v := z_151) (lv' := [(1, .int z_151), (0, .ref h0)]) hx hb dX3_loadNobody_33 hl (k := 0) rfl (by rw [ez_151]; rfl) (by decide) rfl (fun ls hl => ?_)
        refine lv_goto (tgt := 2) hx hb dX3_loadNobody_36 (by decide) ?_
        exact ih_145 z_151 f_150 (by omega) (by omega) (by omega) (by omega) _ _ hP hD hS ls (lv_sub hl [0, 1] rfl)
  exact lp_144 _ 0 f_64 (by have := tI_0; omega) (by have := tI_0; omega) (by have := tI_0; omega) (Nat.lt_succ_self _) _ _ hP hD hS ls (lv_sub hl [0, 1] rfl)
theorem iw_X3_loadOnlyOne_X3 : ∀ w ∈ wsX30, w ∈ wsX3_loadOnlyOne := fun _ h => List.mem_cons_of_mem _ (List.mem_append_left _ (List.mem_append_right _ h))
theorem iw_X3_loadOnlyOne_X7 : ∀ w ∈ wsX70, w ∈ wsX3_loadOnlyOne := fun _ h => List.mem_cons_of_mem _ (List.mem_append_right _ h)
set_option maxHeartbeats 4000000 in
set_option maxRecDepth 100000 in
theorem c_X3_loadOnlyOne (l : Launch) (dC : Nat → ClassId) (dI : Nat → Nat → Nat) (ad : Nat → Nat) (tN : Nat) (fN : Nat → Int64) (cB cI cJ cZ : ClassId) (h0 : Nat) (p1 : Int32) (p2 : Int32) (r0 : Nat → Nat) (pl0 : Nat) (w0 : va_W) (r1 : Nat → Nat) (fc1 : Int32) (dc1 : Int32) (rk1 : Nat → Int32) (w1 : va_W) (o0 : ok_frame ad cB cI cJ cZ h0 r0 pl0 w0) (o1 : ok_plan ad cB cI cJ cZ pl0 r1 fc1 dc1 rk1 w1) (sz : Nat) : Met l yX3_loadOnlyOne wsX3_loadOnlyOne ({ frames := 0, cells := 0, slots := 0, locals := 0 } : Room) (va_Pc [.ref h0, .int p1, .int p2] (fun U => U.heap.size = sz ∧ va_P (dC, dI) vwCl (List.flatten [w0, w1]) U.heap ∧ va_K (dC, dI) vwCl [(cB, .byte), (cI, .int), (cJ, .long), (cZ, .boolean)] U ∧ va_D (fun _ => True) (List.flatten [w0, w1]) ∧ ex_Y ad tN fN (va_A (List.flatten [w0, w1]) sz) U)) (va_Qv (fun _ : Unit => True) (fun (_ : Unit) (t : State) => ∃ (w09 : va_W), ok_frame ad cB cI cJ cZ h0 r0 pl0 w09 ∧ va_P (dC, dI) vwCl (List.flatten [w09, w1]) t.heap ∧ va_D (va_A (List.flatten [w0, w1]) sz) (List.flatten [w09, w1])) (va_A (List.flatten [w0, w1]) sz)) 0 0 (va_A (List.flatten [w0, w1]) sz) := by
  refine Met.ofW (cc := cX3_loadOnlyOne) (maxL := 4) (ret := none) (by decide) rfl ?_
  intro p e s m args below meth c s₁ B hml hv
  obtain ⟨rfl, hsz, hP, hK, hD0, hE⟩ := hv
  have hx := B.exec
  have hb := B.bytes
  have hr := B.returns
  have hts := atoms_spec (ws := wsX3_loadOnlyOne) B.pre
  have hown : s.vm.findClass RX3 = some m.cls := findClass_of_methodNamed B.named
  have hlocks := B.notSynchronized
  subst hsz
  have hD := hD0.self (sz := s.heap.size)
  generalize hAe : va_A (List.flatten [w0, w1]) s.heap.size = A at hD hE ⊢
  have hA : ∀ q : Nat, s.heap.size ≤ q → A q := fun q h => by rw [← hAe]; exact Or.inr h
  have hS : va_S A s.heap s.heap [] := va_S.rf
  have hl := lv_entry ([.ref h0, .int p1, .int p2]) (n := 4) (Nat.le_of_ble_eq_true rfl)
  rw [lg_entry_eq]
  generalize (lg_sl ([.ref h0, .int p1, .int p2]) ++ List.replicate (4 - (lg_sl ([.ref h0, .int p1, .int p2])).length) Slot.unset).toArray = ls at hl ⊢
  have hl : lv_has ls 4 [(0, .ref h0), (1, .int p1), (2, .int p2)] := hl
  clear hAe
  refine W_name (fun Q0 hQ0 => ?_)
  refine lv_iconst (v := 0) hx hb dX3_loadOnlyOne_0 (by decide) ?_
  refine lv_istore_n (lv' := [(3, .int 0), (0, .ref h0), (1, .int p1), (2, .int p2)]) hx hb dX3_loadOnlyOne_1 rfl hl (by decide) rfl (fun ls hl => ?_)
  obtain ⟨fr_52, dr_55, rc_58, f_61, f_63, gn_64, f_65, f_66, f_67, f_68, f_69, sc_70, jc_71, f_74, f_76, rfl, hl_53, hh_54, hl_56, hh_57, hl_59, hh_60, hr_62, hl_72, hh_73, hr_75, hr_77⟩ := o0
  obtain ⟨f_80, f_81, f_82, f_83, f_86, f_88, f_89, f_91, f_93, rfl, hl_78, hh_79, hl_84, hh_85, hr_87, hr_90, hr_92⟩ := o1
  have lp_162 : ∀ (n : Nat) (g_1 : Int32) (gf_102 : Nat → Int64), 0 ≤ g_1.toInt → g_1.toInt ≤ 6 → g_1.toInt - fc1.toInt ≤ 0 → (6 - g_1.toInt).toNat < n → ∀ (H : Heap) (locs : List Loc), va_P (dC, dI) vwCl (List.flatten [[(h0, .inr (2, [.ref pl0, .int fr_52, .int dr_55, .int rc_58, .ref (r0 0), .ref (r0 1), .int gn_64, .ref (r0 2), .ref (r0 3), .ref (r0 4), .ref (r0 5), .ref (r0 6), .long sc_70, .int jc_71, .ref (r0 7), .ref (r0 8)])), (r0 0, .inl (cI, 10, .inl f_61)), (r0 1, .inl (cI, 10, .inl f_63)), (r0 2, .inl (cI, 6, .inl f_65)), (r0 3, .inl (cJ, 6, .inr (.inl gf_102))), (r0 4, .inl (cJ, 6, .inr (.inl f_67))), (r0 5, .inl (cJ, 6, .inr (.inl f_68))), (r0 6, .inl (cJ, 10, .inr (.inl f_69))), (r0 7, .inl (cI, 70, .inl f_74)), (r0 8, .inl (cI, 70, .inl f_76))], [(pl0, .inr (5, [.int fc1, .ref (r1 0), .ref (r1 1), .ref (r1 2), .ref (r1 3), .int dc1, .ref (r1 4), .ref (r1 5), .ref (r1 6), .ref (r1 7), .ref (r1 8), .ref (r1 9)])), (r1 0, .inl (cJ, 6, .inr (.inl f_80))), (r1 1, .inl (cI, 6, .inl f_81)), (r1 2, .inl (cI, 6, .inl f_82)), (r1 3, .inl (cI, 6, .inl f_83)), (r1 4, .inl (cJ, 4, .inr (.inl f_86))), (r1 5, .inl (cI, 4, .inl rk1)), (r1 6, .inl (cJ, 40, .inr (.inl f_88))), (r1 7, .inl (cI, 40, .inl f_89)), (r1 8, .inl (cI, 40, .inl f_91)), (r1 9, .inl (cI, 40, .inl f_93))]]) H → va_D A (List.flatten [[(h0, .inr (2, [.ref pl0, .int fr_52, .int dr_55, .int rc_58, .ref (r0 0), .ref (r0 1), .int gn_64, .ref (r0 2), .ref (r0 3), .ref (r0 4), .ref (r0 5), .ref (r0 6), .long sc_70, .int jc_71, .ref (r0 7), .ref (r0 8)])), (r0 0, .inl (cI, 10, .inl f_61)), (r0 1, .inl (cI, 10, .inl f_63)), (r0 2, .inl (cI, 6, .inl f_65)), (r0 3, .inl (cJ, 6, .inr (.inl gf_102))), (r0 4, .inl (cJ, 6, .inr (.inl f_67))), (r0 5, .inl (cJ, 6, .inr (.inl f_68))), (r0 6, .inl (cJ, 10, .inr (.inl f_69))), (r0 7, .inl (cI, 70, .inl f_74)), (r0 8, .inl (cI, 70, .inl f_76))], [(pl0, .inr (5, [.int fc1, .ref (r1 0), .ref (r1 1), .ref (r1 2), .ref (r1 3), .int dc1, .ref (r1 4), .ref (r1 5), .ref (r1 6), .ref (r1 7), .ref (r1 8), .ref (r1 9)])), (r1 0, .inl (cJ, 6, .inr (.inl f_80))), (r1 1, .inl (cI, 6, .inl f_81)), (r1 2, .inl (cI, 6, .inl f_82)), (r1 3, .inl (cI, 6, .inl f_83)), (r1 4, .inl (cJ, 4, .inr (.inl f_86))), (r1 5, .inl (cI, 4, .inl rk1)), (r1 6, .inl (cJ, 40, .inr (.inl f_88))), (r1 7, .inl (cI, 40, .inl f_89)), (r1 8, .inl (cI, 40, .inl f_91)), (r1 9, .inl (cI, 40, .inl f_93))]]) → va_S A s.heap H locs → ∀ (ls : Array Slot), lv_has ls 4 [(3, .int g_1), (0, .ref h0), (1, .int p1), (2, .int p2)] → W p l e (headSpec wsX3_loadOnlyOne ({ frames := 0, cells := 0, slots := 0, locals := 0 } : Room)).room s m ([.ref h0, .int p1, .int p2] : List Value).toArray below meth c H locs 0 0 Q0 (F0 m 2 ls []) := by
    intro n
    induction n with
    | zero => intro g_1 gf_102 iv_159 iv_160 iv_161 hm; exact absurd hm (Nat.not_lt_zero _)
    | succ n ih_163 =>
      intro g_1 gf_102 iv_159 iv_160 iv_161 hm H locs hP hD hS ls hl
      refine lv_iload_n hx hb dX3_loadOnlyOne_2 rfl (lv_at hl 0 rfl) ?_
      refine lv_aload_n hx hb dX3_loadOnlyOne_3 rfl (lv_at hl 1 rfl) ?_
      refine va_get (D := (dC, dI)) (ci := 2) (v := .ref pl0) (C := RX3) (T := TX3) (N := 16) hx hb hts iw_X3_loadOnlyOne_X3 hown hK hP 0 rfl rfl 0 (by decide) (hts (.fieldLink RX3 12 "HungFloors$Frame" "plan" "LHungFloors$Plan;") (by decide +kernel)) (fun _ h9 => h9) rfl dX3_loadOnlyOne_4 ?_
      refine va_get (D := (dC, dI)) (ci := 5) (v := .int fc1) (C := RX7) (T := TX7) (N := 12) hx hb hts iw_X3_loadOnlyOne_X7 hown hK hP 10 rfl rfl 0 (by decide) (hts (.fieldLink RX3 79 "HungFloors$Plan" "floorCount" "I") (by decide +kernel)) (fun _ h9 => h9) rfl dX3_loadOnlyOne_7 ?_
      refine lv_icmp_ge (tgt := 39) hx hb dX3_loadOnlyOne_10 (by decide) (fun c_164 => ?_) (fun c_164 => ?_)
      · have c_164 : fc1.toInt ≤ g_1.toInt := f_le rfl rfl c_164
        rw [hQ0]
        exact W.vret hx hb hr (fun t ht hW => ⟨⟨(), rfl, trivial, ⟨_, ⟨fr_52, dr_55, rc_58, f_61, f_63, gn_64, f_65, gf_102, f_67, f_68, f_69, sc_70, jc_71, f_74, f_76, rfl, by omega, by omega, by omega, by omega, by omega, by omega, hr_62, by omega, by omega, hr_75, hr_77⟩, by rw [ht]; exact hP, hD⟩⟩, hS.F ht⟩) hS.2.2 dX3_loadOnlyOne_39
      · have c_164 : g_1.toInt < fc1.toInt := f_nle rfl rfl c_164
        refine lv_aload_n hx hb dX3_loadOnlyOne_13 rfl (lv_at hl 1 rfl) ?_
        refine va_get (D := (dC, dI)) (ci := 2) (v := .ref (r0 3)) (C := RX3) (T := TX3) (N := 16) hx hb hts iw_X3_loadOnlyOne_X3 hown hK hP 0 rfl rfl 8 (by decide) (hts (.fieldLink RX3 41 "HungFloors$Frame" "own" "[J") (by decide +kernel)) (fun _ h9 => h9) rfl dX3_loadOnlyOne_14 ?_
        refine lv_iload_n hx hb dX3_loadOnlyOne_17 rfl (lv_at hl 0 rfl) ?_
        refine lv_iload_n hx hb dX3_loadOnlyOne_18 rfl (lv_at hl 0 rfl) ?_
        refine lv_iload_n hx hb dX3_loadOnlyOne_19 rfl (lv_at hl 2 rfl) ?_
        refine lv_icmp_ne (tgt := 31) hx hb dX3_loadOnlyOne_20 (by decide) (fun c_165 => ?_) (fun c_165 => ?_)
        · have c_165 : ¬ g_1.toInt = p1.toInt := f_ne rfl rfl c_165
          refine lv_lconst (v := 0) hx hb dX3_loadOnlyOne_31 (by decide) ?_
          refine va_last hx hb hK hP hD hS 4 2 rfl rfl (v_in rfl (by omega) (by omega)) dX3_loadOnlyOne_32 (fun H locs hP hD hS => ?_)
          obtain ⟨f_166, hP, hD⟩ : ∃ f_166 : Nat → Int64, va_P (dC, dI) vwCl (List.flatten [[(h0, .inr (2, [.ref pl0, .int fr_52, .int dr_55, .int rc_58, .ref (r0 0), .ref (r0 1), .int gn_64, .ref (r0 2), .ref (r0 3), .ref (r0 4), .ref (r0 5), .ref (r0 6), .long sc_70, .int jc_71, .ref (r0 7), .ref (r0 8)])), (r0 0, .inl (cI, 10, .inl f_61)), (r0 1, .inl (cI, 10, .inl f_63)), (r0 2, .inl (cI, 6, .inl f_65)), (r0 3, .inl (cJ, 6, .inr (.inl f_166))), (r0 4, .inl (cJ, 6, .inr (.inl f_67))), (r0 5, .inl (cJ, 6, .inr (.inl f_68))), (r0 6, .inl (cJ, 10, .inr (.inl f_69))), (r0 7, .inl (cI, 70, .inl f_74)), (r0 8, .inl (cI, 70, .inl f_76))], [(pl0, .inr (5, [.int fc1, .ref (r1 0), .ref (r1 1), .ref (r1 2), .ref (r1 3), .int dc1, .ref (r1 4), .ref (r1 5), .ref (r1 6), .ref (r1 7), .ref (r1 8), .ref (r1 9)])), (r1 0, .inl (cJ, 6, .inr (.inl f_80))), (r1 1, .inl (cI, 6, .inl f_81)), (r1 2, .inl (cI, 6, .inl f_82)), (r1 3, .inl (cI, 6, .inl f_83)), (r1 4, .inl (cJ, 4, .inr (.inl f_86))), (r1 5, .inl (cI, 4, .inl rk1)), (r1 6, .inl (cJ, 40, .inr (.inl f_88))), (r1 7, .inl (cI, 40, .inl f_89)), (r1 8, .inl (cI, 40, .inl f_91)), (r1 9, .inl (cI, 40, .inl f_93))]]) H ∧ va_D A (List.flatten [[(h0, .inr (2, [.ref pl0, .int fr_52, .int dr_55, .int rc_58, .ref (r0 0), .ref (r0 1), .int gn_64, .ref (r0 2), .ref (r0 3), .ref (r0 4), .ref (r0 5), .ref (r0 6), .long sc_70, .int jc_71, .ref (r0 7), .ref (r0 8)])), (r0 0, .inl (cI, 10, .inl f_61)), (r0 1, .inl (cI, 10, .inl f_63)), (r0 2, .inl (cI, 6, .inl f_65)), (r0 3, .inl (cJ, 6, .inr (.inl f_166))), (r0 4, .inl (cJ, 6, .inr (.inl f_67))), (r0 5, .inl (cJ, 6, .inr (.inl f_68))), (r0 6, .inl (cJ, 10, .inr (.inl f_69))), (r0 7, .inl (cI, 70, .inl f_74)), (r0 8, .inl (cI, 70, .inl f_76))], [(pl0, .inr (5, [.int fc1, .ref (r1 0), .ref (r1 1), .ref (r1 2), .ref (r1 3), .int dc1, .ref (r1 4), .ref (r1 5), .ref (r1 6), .ref (r1 7), .ref (r1 8), .ref (r1 9)])), (r1 0, .inl (cJ, 6, .inr (.inl f_80))), (r1 1, .inl (cI, 6, .inl f_81)), (r1 2, .inl (cI, 6, .inl f_82)), (r1 3, .inl (cI, 6, .inl f_83)), (r1 4, .inl (cJ, 4, .inr (.inl f_86))), (r1 5, .inl (cI, 4, .inl rk1)), (r1 6, .inl (cJ, 40, .inr (.inl f_88))), (r1 7, .inl (cI, 40, .inl f_89)), (r1 8, .inl (cI, 40, .inl f_91)), (r1 9, .inl (cI, 40, .inl f_93))]]) := ⟨_, hP, hD⟩
          obtain ⟨z_167, ez_167⟩ : ∃ y : Int32, y = g_1 + 1 := ⟨_, rfl⟩
          have hz_167 : z_167.toInt = g_1.toInt + 1 := by rw [ez_167]; exact t_add rfl tI_1 (by omega) (by omega)
          refine lv_iinc (v := z_167) (lv' := [(3, .int z_167), (0, .ref h0), (1, .int p1), (2, .int p2)]) hx hb dX3_loadOnlyOne_33 hl (k := 0) rfl (by rw [ez_167]; rfl) (by decide) rfl (fun ls hl => ?_)
          refine lv_goto (tgt := 2) hx hb dX3_loadOnlyOne_36 (by decide) ?_
          exact ih_163 z_167 f_166 (by omega) (by omega) (by omega) (by omega) _ _ hP hD hS ls (lv_sub hl [0, 1, 2, 3] rfl)
        · have c_165 : g_1.toInt = p1.toInt := f_eq rfl rfl c_165
          refine lv_bipush (v := 10) hx hb dX3_loadOnlyOne_23 (by decide) ?_
          refine lv_iload_n hx hb dX3_loadOnlyOne_25 rfl (lv_at hl 3 rfl) ?_
          refine lv_iadd hx hb dX3_loadOnlyOne_26 ?_
          refine lv_topi (fun z_168 ez_168 => ?_)
          have fz_168 : z_168 = (10 + p2) := by rw [ez_168]
          obtain ⟨z_169, ez_169⟩ : ∃ y : Int64, (z_168 : Int32).toInt64 = y := ⟨_, rfl⟩
          refine lv_i2l (v := z_169) hx hb dX3_loadOnlyOne_27 ez_169 ?_
          refine lv_goto (tgt := 32) hx hb dX3_loadOnlyOne_28 (by decide) ?_
          refine va_last hx hb hK hP hD hS 4 2 rfl rfl (v_in rfl (by omega) (by omega)) dX3_loadOnlyOne_32 (fun H locs hP hD hS => ?_)
          obtain ⟨f_170, hP, hD⟩ : ∃ f_170 : Nat → Int64, va_P (dC, dI) vwCl (List.flatten [[(h0, .inr (2, [.ref pl0, .int fr_52, .int dr_55, .int rc_58, .ref (r0 0), .ref (r0 1), .int gn_64, .ref (r0 2), .ref (r0 3), .ref (r0 4), .ref (r0 5), .ref (r0 6), .long sc_70, .int jc_71, .ref (r0 7), .ref (r0 8)])), (r0 0, .inl (cI, 10, .inl f_61)), (r0 1, .inl (cI, 10, .inl f_63)), (r0 2, .inl (cI, 6, .inl f_65)), (r0 3, .inl (cJ, 6, .inr (.inl f_170))), (r0 4, .inl (cJ, 6, .inr (.inl f_67))), (r0 5, .inl (cJ, 6, .inr (.inl f_68))), (r0 6, .inl (cJ, 10, .inr (.inl f_69))), (r0 7, .inl (cI, 70, .inl f_74)), (r0 8, .inl (cI, 70, .inl f_76))], [(pl0, .inr (5, [.int fc1, .ref (r1 0), .ref (r1 1), .ref (r1 2), .ref (r1 3), .int dc1, .ref (r1 4), .ref (r1 5), .ref (r1 6), .ref (r1 7), .ref (r1 8), .ref (r1 9)])), (r1 0, .inl (cJ, 6, .inr (.inl f_80))), (r1 1, .inl (cI, 6, .inl f_81)), (r1 2, .inl (cI, 6, .inl f_82)), (r1 3, .inl (cI, 6, .inl f_83)), (r1 4, .inl (cJ, 4, .inr (.inl f_86))), (r1 5, .inl (cI, 4, .inl rk1)), (r1 6, .inl (cJ, 40, .inr (.inl f_88))), (r1 7, .inl (cI, 40, .inl f_89)), (r1 8, .inl (cI, 40, .inl f_91)), (r1 9, .inl (cI, 40, .inl f_93))]]) H ∧ va_D A (List.flatten [[(h0, .inr (2, [.ref pl0, .int fr_52, .int dr_55, .int rc_58, .ref (r0 0), .ref (r0 1), .int gn_64, .ref (r0 2), .ref (r0 3), .ref (r0 4), .ref (r0 5), .ref (r0 6), .long sc_70, .int jc_71, .ref (r0 7), .ref (r0 8)])), (r0 0, .inl (cI, 10, .inl f_61)), (r0 1, .inl (cI, 10, .inl f_63)), (r0 2, .inl (cI, 6, .inl f_65)), (r0 3, .inl (cJ, 6, .inr (.inl f_170))), (r0 4, .inl (cJ, 6, .inr (.inl f_67))), (r0 5, .inl (cJ, 6, .inr (.inl f_68))), (r0 6, .inl (cJ, 10, .inr (.inl f_69))), (r0 7, .inl (cI, 70, .inl f_74)), (r0 8, .inl (cI, 70, .inl f_76))], [(pl0, .inr (5, [.int fc1, .ref (r1 0), .ref (r1 1), .ref (r1 2), .ref (r1 3), .int dc1, .ref (r1 4), .ref (r1 5), .ref (r1 6), .ref (r1 7), .ref (r1 8), .ref (r1 9)])), (r1 0, .inl (cJ, 6, .inr (.inl f_80))), (r1 1, .inl (cI, 6, .inl f_81)), (r1 2, .inl (cI, 6, .inl f_82)), (r1 3, .inl (cI, 6, .inl f_83)), (r1 4, .inl (cJ, 4, .inr (.inl f_86))), (r1 5, .inl (cI, 4, .inl rk1)), (r1 6, .inl (cJ, 40, .inr (.inl f_88))), (r1 7, .inl (cI, 40, .inl f_89)), (r1 8, .inl (cI, 40, .inl f_91)), (r1 9, .inl (cI, 40, .inl f_93))]]) := ⟨_, hP, hD⟩
          obtain ⟨z_171, ez_171⟩ : ∃ y : Int32, y = g_1 + 1 := ⟨_, rfl⟩
          have hz_171 : z_171.toInt = g_1.toInt + 1 := by rw [ez_171]; exact t_add rfl tI_1 (by omega) (by omega)
          refine lv_iinc (v := z_171) (lv' := [(3, .int z_171), (0, .ref h0), (1, .int p1), (2, .int p2)]) hx hb dX3_loadOnlyOne_33 hl (k := 0) rfl (by rw [ez_171]; rfl) (by decide) rfl (fun ls hl => ?_)
          refine lv_goto (tgt := 2) hx hb dX3_loadOnlyOne_36 (by decide) ?_
          exact ih_163 z_171 f_170 (by omega) (by omega) (by omega) (by omega) _ _ hP hD hS ls (lv_sub hl [0, 1, 2, 3] rfl)
  exact lp_162 _ 0 f_66 (by have := tI_0; omega) (by have := tI_0; omega) (by have := tI_0; omega) (Nat.lt_succ_self _) _ _ hP hD hS ls (lv_sub hl [0, 1, 2, 3] rfl)
theorem iw_X3_rodsFromRoof_X3 : ∀ w ∈ wsX30, w ∈ wsX3_rodsFromRoof := fun _ h => List.mem_cons_of_mem _ (List.mem_append_right _ h)
set_option maxHeartbeats 4000000 in
set_option maxRecDepth 100000 in
theorem c_X3_rodsFromRoof (l : Launch) (dC : Nat → ClassId) (dI : Nat → Nat → Nat) (ad : Nat → Nat) (tN : Nat) (fN : Nat → Int64) (cB cI cJ cZ : ClassId) (h0 : Nat) (r0 : Nat → Nat) (pl0 : Nat) (w0 : va_W) (o0 : ok_frame ad cB cI cJ cZ h0 r0 pl0 w0) (sz : Nat) : Met l yX3_rodsFromRoof wsX3_rodsFromRoof ({ frames := 0, cells := 0, slots := 0, locals := 0 } : Room) (va_Pc [.ref h0] (fun U => U.heap.size = sz ∧ va_P (dC, dI) vwCl (List.flatten [w0]) U.heap ∧ va_K (dC, dI) vwCl [(cB, .byte), (cI, .int), (cJ, .long), (cZ, .boolean)] U ∧ va_D (fun _ => True) (List.flatten [w0]) ∧ ex_Y ad tN fN (va_A (List.flatten [w0]) sz) U)) (va_Qi (fun (r : Int32) (_ : Unit) => True) (fun (_ : Unit) (t : State) => va_P (dC, dI) vwCl (List.flatten [w0]) t.heap ∧ va_D (va_A (List.flatten [w0]) sz) (List.flatten [w0])) (va_A (List.flatten [w0]) sz)) 0 0 (va_A (List.flatten [w0]) sz) := by
  refine Met.ofW (cc := cX3_rodsFromRoof) (maxL := 3) (ret := (some .int)) (by decide) rfl ?_
  intro p e s m args below meth c s₁ B hml hv
  obtain ⟨rfl, hsz, hP, hK, hD0, hE⟩ := hv
  have hx := B.exec
  have hb := B.bytes
  have hr := B.returns
  have hts := atoms_spec (ws := wsX3_rodsFromRoof) B.pre
  have hown : s.vm.findClass RX3 = some m.cls := findClass_of_methodNamed B.named
  have hlocks := B.notSynchronized
  subst hsz
  have hD := hD0.self (sz := s.heap.size)
  generalize hAe : va_A (List.flatten [w0]) s.heap.size = A at hD hE ⊢
  have hA : ∀ q : Nat, s.heap.size ≤ q → A q := fun q h => by rw [← hAe]; exact Or.inr h
  have hS : va_S A s.heap s.heap [] := va_S.rf
  have hl := lv_entry ([.ref h0]) (n := 3) (Nat.le_of_ble_eq_true rfl)
  rw [lg_entry_eq]
  generalize (lg_sl ([.ref h0]) ++ List.replicate (3 - (lg_sl ([.ref h0])).length) Slot.unset).toArray = ls at hl ⊢
  have hl : lv_has ls 3 [(0, .ref h0)] := hl
  clear hAe
  refine W_name (fun Q0 hQ0 => ?_)
  refine lv_iconst (v := 0) hx hb dX3_rodsFromRoof_0 (by decide) ?_
  refine lv_istore_n (lv' := [(1, .int 0), (0, .ref h0)]) hx hb dX3_rodsFromRoof_1 rfl hl (by decide) rfl (fun ls hl => ?_)
  refine lv_iconst (v := 0) hx hb dX3_rodsFromRoof_2 (by decide) ?_
  refine lv_istore_n (lv' := [(2, .int 0), (1, .int 0), (0, .ref h0)]) hx hb dX3_rodsFromRoof_3 rfl hl (by decide) rfl (fun ls hl => ?_)
  obtain ⟨fr_37, dr_40, rc_43, f_46, f_48, gn_49, f_50, f_51, f_52, f_53, f_54, sc_55, jc_56, f_59, f_61, rfl, hl_38, hh_39, hl_41, hh_42, hl_44, hh_45, hr_47, hl_57, hh_58, hr_60, hr_62⟩ := o0
  have lp_154 : ∀ (n : Nat) (g_1 : Int32) (g_2 : Int32), 0 ≤ g_1.toInt → g_1.toInt ≤ 10 → g_1.toInt - rc_43.toInt ≤ 0 → (10 - g_1.toInt).toNat < n → ∀ (H : Heap) (locs : List Loc), va_P (dC, dI) vwCl (List.flatten [[(h0, .inr (2, [.ref pl0, .int fr_37, .int dr_40, .int rc_43, .ref (r0 0), .ref (r0 1), .int gn_49, .ref (r0 2), .ref (r0 3), .ref (r0 4), .ref (r0 5), .ref (r0 6), .long sc_55, .int jc_56, .ref (r0 7), .ref (r0 8)])), (r0 0, .inl (cI, 10, .inl f_46)), (r0 1, .inl (cI, 10, .inl f_48)), (r0 2, .inl (cI, 6, .inl f_50)), (r0 3, .inl (cJ, 6, .inr (.inl f_51))), (r0 4, .inl (cJ, 6, .inr (.inl f_52))), (r0 5, .inl (cJ, 6, .inr (.inl f_53))), (r0 6, .inl (cJ, 10, .inr (.inl f_54))), (r0 7, .inl (cI, 70, .inl f_59)), (r0 8, .inl (cI, 70, .inl f_61))]]) H → va_D A (List.flatten [[(h0, .inr (2, [.ref pl0, .int fr_37, .int dr_40, .int rc_43, .ref (r0 0), .ref (r0 1), .int gn_49, .ref (r0 2), .ref (r0 3), .ref (r0 4), .ref (r0 5), .ref (r0 6), .long sc_55, .int jc_56, .ref (r0 7), .ref (r0 8)])), (r0 0, .inl (cI, 10, .inl f_46)), (r0 1, .inl (cI, 10, .inl f_48)), (r0 2, .inl (cI, 6, .inl f_50)), (r0 3, .inl (cJ, 6, .inr (.inl f_51))), (r0 4, .inl (cJ, 6, .inr (.inl f_52))), (r0 5, .inl (cJ, 6, .inr (.inl f_53))), (r0 6, .inl (cJ, 10, .inr (.inl f_54))), (r0 7, .inl (cI, 70, .inl f_59)), (r0 8, .inl (cI, 70, .inl f_61))]]) → va_S A s.heap H locs → ∀ (ls : Array Slot), lv_has ls 3 [(2, .int g_1), (1, .int g_2), (0, .ref h0)] → W p l e (headSpec wsX3_rodsFromRoof ({ frames := 0, cells := 0, slots := 0, locals := 0 } : Room)).room s m ([.ref h0] : List Value).toArray below meth c H locs 0 0 Q0 (F0 m 4 ls []) := by
    intro n
    induction n with
    | zero => intro g_1 g_2 iv_151 iv_152 iv_153 hm; exact absurd hm (Nat.not_lt_zero _)
    | succ n ih_155 =>
      intro g_1 g_2 iv_151 iv_152 iv_153 hm H locs hP hD hS ls hl
      refine lv_iload_n hx hb dX3_rodsFromRoof_4 rfl (lv_at hl 0 rfl) ?_
      refine lv_aload_n hx hb dX3_rodsFromRoof_5 rfl (lv_at hl 2 rfl) ?_
      refine va_get (D := (dC, dI)) (ci := 2) (v := .int rc_43) (C := RX3) (T := TX3) (N := 16) hx hb hts iw_X3_rodsFromRoof_X3 hown hK hP 0 rfl rfl 3 (by decide) (hts (.fieldLink RX3 25 "HungFloors$Frame" "rodCount" "I") (by decide +kernel)) (fun _ h9 => h9) rfl dX3_rodsFromRoof_6 ?_
      refine lv_icmp_ge (tgt := 37) hx hb dX3_rodsFromRoof_9 (by decide) (fun c_156 => ?_) (fun c_156 => ?_)
      · have c_156 : rc_43.toInt ≤ g_1.toInt := f_le rfl rfl c_156
        refine lv_iload_n hx hb dX3_rodsFromRoof_37 rfl (lv_at hl 1 rfl) ?_
        rw [hQ0]
        exact W.iret (v := g_2) hx hb hr (fun t ht hW => ⟨⟨g_2, (), rfl, trivial, ⟨by rw [ht]; exact hP, hD⟩⟩, hS.F ht⟩) hS.2.2 dX3_rodsFromRoof_38
      · have c_156 : g_1.toInt < rc_43.toInt := f_nle rfl rfl c_156
        refine lv_iload_n hx hb dX3_rodsFromRoof_12 rfl (lv_at hl 1 rfl) ?_
        refine lv_aload_n hx hb dX3_rodsFromRoof_13 rfl (lv_at hl 2 rfl) ?_
        refine va_get (D := (dC, dI)) (ci := 2) (v := .ref (r0 0)) (C := RX3) (T := TX3) (N := 16) hx hb hts iw_X3_rodsFromRoof_X3 hown hK hP 0 rfl rfl 4 (by decide) (hts (.fieldLink RX3 28 "HungFloors$Frame" "from" "[I") (by decide +kernel)) (fun _ h9 => h9) rfl dX3_rodsFromRoof_14 ?_
        refine lv_iload_n hx hb dX3_rodsFromRoof_17 rfl (lv_at hl 0 rfl) ?_
        refine va_iald hx hb hK hP 1 1 rfl rfl (v_in rfl (by omega) (by omega)) dX3_rodsFromRoof_18 ?_
        refine lv_topi (fun z_157 ez_157 => ?_)
        have gz_157 := rg_at hr_47 ez_157
        have g1z_157 := gz_157.1
        have g2z_157 := gz_157.2
        refine lv_if_ge (tgt := 28) hx hb dX3_rodsFromRoof_19 (by decide) (fun c_158 => ?_) (fun c_158 => ?_)
        · have c_158 : 0 ≤ z_157.toInt := f_le tI_0 rfl c_158
          refine lv_iconst (v := 0) hx hb dX3_rodsFromRoof_28 (by decide) ?_
          refine lv_ior hx hb dX3_rodsFromRoof_29 ?_
          refine lv_topi (fun z_159 ez_159 => ?_)
          refine lv_istore_n (lv' := [(1, .int z_159), (2, .int g_1), (0, .ref h0)]) hx hb dX3_rodsFromRoof_30 rfl hl (by decide) rfl (fun ls hl => ?_)
          obtain ⟨z_160, ez_160⟩ : ∃ y : Int32, y = g_1 + 1 := ⟨_, rfl⟩
          have hz_160 : z_160.toInt = g_1.toInt + 1 := by rw [ez_160]; exact t_add rfl tI_1 (by omega) (by omega)
          refine lv_iinc (v := z_160) (lv' := [(2, .int z_160), (1, .int z_159), (0, .ref h0)]) hx hb dX3_rodsFromRoof_31 hl (k := 1) rfl (by rw [ez_160]; rfl) (by decide) rfl (fun ls hl => ?_)
          refine lv_goto (tgt := 4) hx hb dX3_rodsFromRoof_34 (by decide) ?_
          exact ih_155 z_160 z_159 (by omega) (by omega) (by omega) (by omega) _ _ hP hD hS ls (lv_sub hl [0, 1, 2] rfl)
        · have c_158 : z_157.toInt < 0 := f_nle tI_0 rfl c_158
          refine lv_iconst (v := 1) hx hb dX3_rodsFromRoof_22 (by decide) ?_
          refine lv_iload_n hx hb dX3_rodsFromRoof_23 rfl (lv_at hl 0 rfl) ?_
          refine lv_ishl hx hb dX3_rodsFromRoof_24 ?_
          refine lv_topi (fun z_161 ez_161 => ?_)
          have hz_161 := t_shl1 (by omega) (by omega) ez_161
          have h1z_161 := hz_161.1
          have h2z_161 := hz_161.2
          refine lv_goto (tgt := 29) hx hb dX3_rodsFromRoof_25 (by decide) ?_
          refine lv_ior hx hb dX3_rodsFromRoof_29 ?_
          refine lv_topi (fun z_162 ez_162 => ?_)
          refine lv_istore_n (lv' := [(1, .int z_162), (2, .int g_1), (0, .ref h0)]) hx hb dX3_rodsFromRoof_30 rfl hl (by decide) rfl (fun ls hl => ?_)
          obtain ⟨z_163, ez_163⟩ : ∃ y : Int32, y = g_1 + 1 := ⟨_, rfl⟩
          have hz_163 : z_163.toInt = g_1.toInt + 1 := by rw [ez_163]; exact t_add rfl tI_1 (by omega) (by omega)
          refine lv_iinc (v := z_163) (lv' := [(2, .int z_163), (1, .int z_162), (0, .ref h0)]) hx hb dX3_rodsFromRoof_31 hl (k := 1) rfl (by rw [ez_163]; rfl) (by decide) rfl (fun ls hl => ?_)
          refine lv_goto (tgt := 4) hx hb dX3_rodsFromRoof_34 (by decide) ?_
          exact ih_155 z_163 z_162 (by omega) (by omega) (by omega) (by omega) _ _ hP hD hS ls (lv_sub hl [0, 1, 2] rfl)
  exact lp_154 _ 0 0 (by have := tI_0; omega) (by have := tI_0; omega) (by have := tI_0; omega) (Nat.lt_succ_self _) _ _ hP hD hS ls (lv_sub hl [0, 1, 2] rfl)
theorem iw_X3_canWhereHung_X3 : ∀ w ∈ wsX30, w ∈ wsX3_canWhereHung := fun _ h => List.mem_cons_of_mem _ (List.mem_append_left _ (List.mem_append_right _ h))
theorem iw_X3_canWhereHung_X7 : ∀ w ∈ wsX70, w ∈ wsX3_canWhereHung := fun _ h => List.mem_cons_of_mem _ (List.mem_append_right _ h)
set_option maxHeartbeats 4000000 in
set_option maxRecDepth 100000 in
theorem c_X3_canWhereHung (l : Launch) (dC : Nat → ClassId) (dI : Nat → Nat → Nat) (ad : Nat → Nat) (tN : Nat) (fN : Nat → Int64) (cB cI cJ cZ : ClassId) (h0 : Nat) (p1 : Int32) (r0 : Nat → Nat) (pl0 : Nat) (w0 : va_W) (r1 : Nat → Nat) (fc1 : Int32) (dc1 : Int32) (rk1 : Nat → Int32) (w1 : va_W) (o0 : ok_frame ad cB cI cJ cZ h0 r0 pl0 w0) (o1 : ok_plan ad cB cI cJ cZ pl0 r1 fc1 dc1 rk1 w1) (sz : Nat) (up11 : 0 ≤ p1.toInt) (up12 : p1.toInt ≤ 9) : Met l yX3_canWhereHung wsX3_canWhereHung ({ frames := 0, cells := 0, slots := 0, locals := 0 } : Room) (va_Pc [.ref h0, .int p1] (fun U => U.heap.size = sz ∧ va_P (dC, dI) vwCl (List.flatten [w0, w1]) U.heap ∧ va_K (dC, dI) vwCl [(cB, .byte), (cI, .int), (cJ, .long), (cZ, .boolean)] U ∧ va_D (fun _ => True) (List.flatten [w0, w1]) ∧ ex_Y ad tN fN (va_A (List.flatten [w0, w1]) sz) U)) (va_Qi (fun (r : Int32) (_ : Unit) => True) (fun (_ : Unit) (t : State) => va_P (dC, dI) vwCl (List.flatten [w0, w1]) t.heap ∧ va_D (va_A (List.flatten [w0, w1]) sz) (List.flatten [w0, w1])) (va_A (List.flatten [w0, w1]) sz)) 0 0 (va_A (List.flatten [w0, w1]) sz) := by
  refine Met.ofW (cc := cX3_canWhereHung) (maxL := 2) (ret := (some .int)) (by decide) rfl ?_
  intro p e s m args below meth c s₁ B hml hv
  obtain ⟨rfl, hsz, hP, hK, hD0, hE⟩ := hv
  have hx := B.exec
  have hb := B.bytes
  have hr := B.returns
  have hts := atoms_spec (ws := wsX3_canWhereHung) B.pre
  have hown : s.vm.findClass RX3 = some m.cls := findClass_of_methodNamed B.named
  have hlocks := B.notSynchronized
  subst hsz
  have hD := hD0.self (sz := s.heap.size)
  generalize hAe : va_A (List.flatten [w0, w1]) s.heap.size = A at hD hE ⊢
  have hA : ∀ q : Nat, s.heap.size ≤ q → A q := fun q h => by rw [← hAe]; exact Or.inr h
  have hS : va_S A s.heap s.heap [] := va_S.rf
  have hl := lv_entry ([.ref h0, .int p1]) (n := 2) (Nat.le_of_ble_eq_true rfl)
  rw [lg_entry_eq]
  generalize (lg_sl ([.ref h0, .int p1]) ++ List.replicate (2 - (lg_sl ([.ref h0, .int p1])).length) Slot.unset).toArray = ls at hl ⊢
  have hl : lv_has ls 2 [(0, .ref h0), (1, .int p1)] := hl
  clear hAe
  refine W_name (fun Q0 hQ0 => ?_)
  refine lv_aload_n hx hb dX3_canWhereHung_0 rfl (lv_at hl 0 rfl) ?_
  obtain ⟨fr_1, dr_4, rc_7, f_10, f_12, gn_13, f_14, f_15, f_16, f_17, f_18, sc_19, jc_20, f_23, f_25, rfl, hl_2, hh_3, hl_5, hh_6, hl_8, hh_9, hr_11, hl_21, hh_22, hr_24, hr_26⟩ := o0
  refine va_get (D := (dC, dI)) (ci := 2) (v := .ref (r0 0)) (C := RX3) (T := TX3) (N := 16) hx hb hts iw_X3_canWhereHung_X3 hown hK hP 0 rfl rfl 4 (by decide) (hts (.fieldLink RX3 28 "HungFloors$Frame" "from" "[I") (by decide +kernel)) (fun _ h9 => h9) rfl dX3_canWhereHung_1 ?_
  refine lv_iload_n hx hb dX3_canWhereHung_4 rfl (lv_at hl 1 rfl) ?_
  refine va_iald hx hb hK hP 1 1 rfl rfl (v_in rfl (by omega) (by omega)) dX3_canWhereHung_5 ?_
  refine lv_topi (fun z_27 ez_27 => ?_)
  have gz_27 := rg_at hr_11 ez_27
  have g1z_27 := gz_27.1
  have g2z_27 := gz_27.2
  refine lv_if_ge (tgt := 26) hx hb dX3_canWhereHung_6 (by decide) (fun c_28 => ?_) (fun c_28 => ?_)
  · have c_28 : 0 ≤ z_27.toInt := f_le tI_0 rfl c_28
    refine lv_aload_n hx hb dX3_canWhereHung_26 rfl (lv_at hl 0 rfl) ?_
    refine va_get (D := (dC, dI)) (ci := 2) (v := .ref pl0) (C := RX3) (T := TX3) (N := 16) hx hb hts iw_X3_canWhereHung_X3 hown hK hP 0 rfl rfl 0 (by decide) (hts (.fieldLink RX3 12 "HungFloors$Frame" "plan" "LHungFloors$Plan;") (by decide +kernel)) (fun _ h9 => h9) rfl dX3_canWhereHung_27 ?_
    obtain ⟨f_31, f_32, f_33, f_34, f_37, f_39, f_40, f_42, f_44, rfl, hl_29, hh_30, hl_35, hh_36, hr_38, hr_41, hr_43⟩ := o1
    refine va_get (D := (dC, dI)) (ci := 5) (v := .ref (r1 2)) (C := RX7) (T := TX7) (N := 12) hx hb hts iw_X3_canWhereHung_X7 hown hK hP 10 rfl rfl 3 (by decide) (hts (.fieldLink RX3 118 "HungFloors$Plan" "can" "[I") (by decide +kernel)) (fun _ h9 => h9) rfl dX3_canWhereHung_30 ?_
    refine lv_aload_n hx hb dX3_canWhereHung_33 rfl (lv_at hl 0 rfl) ?_
    refine va_get (D := (dC, dI)) (ci := 2) (v := .ref (r0 0)) (C := RX3) (T := TX3) (N := 16) hx hb hts iw_X3_canWhereHung_X3 hown hK hP 0 rfl rfl 4 (by decide) (hts (.fieldLink RX3 28 "HungFloors$Frame" "from" "[I") (by decide +kernel)) (fun _ h9 => h9) rfl dX3_canWhereHung_34 ?_
    refine lv_iload_n hx hb dX3_canWhereHung_37 rfl (lv_at hl 1 rfl) ?_
    refine va_iald hx hb hK hP 1 1 rfl rfl (v_in rfl (by omega) (by omega)) dX3_canWhereHung_38 ?_
    refine lv_topi (fun z_45 ez_45 => ?_)
    have gz_45 := rg_at hr_11 ez_45
    have g1z_45 := gz_45.1
    have g2z_45 := gz_45.2
    have qz_45 : z_45.toInt = z_27.toInt := by rw [ez_45, ez_27]
    refine va_iald hx hb hK hP 13 1 rfl rfl (v_in rfl (by omega) (by omega)) dX3_canWhereHung_39 ?_
    refine lv_topi (fun z_46 ez_46 => ?_)
    rw [hQ0]
    exact W.iret (v := z_46) hx hb hr (fun t ht hW => ⟨⟨z_46, (), rfl, trivial, ⟨by rw [ht]; exact hP, hD⟩⟩, hS.F ht⟩) hS.2.2 dX3_canWhereHung_40
  · have c_28 : z_27.toInt < 0 := f_nle tI_0 rfl c_28
    refine lv_aload_n hx hb dX3_canWhereHung_9 rfl (lv_at hl 0 rfl) ?_
    refine va_get (D := (dC, dI)) (ci := 2) (v := .ref pl0) (C := RX3) (T := TX3) (N := 16) hx hb hts iw_X3_canWhereHung_X3 hown hK hP 0 rfl rfl 0 (by decide) (hts (.fieldLink RX3 12 "HungFloors$Frame" "plan" "LHungFloors$Plan;") (by decide +kernel)) (fun _ h9 => h9) rfl dX3_canWhereHung_10 ?_
    obtain ⟨f_49, f_50, f_51, f_52, f_55, f_57, f_58, f_60, f_62, rfl, hl_47, hh_48, hl_53, hh_54, hr_56, hr_59, hr_61⟩ := o1
    refine va_get (D := (dC, dI)) (ci := 5) (v := .ref (r1 9)) (C := RX7) (T := TX7) (N := 12) hx hb hts iw_X3_canWhereHung_X7 hown hK hP 10 rfl rfl 11 (by decide) (hts (.fieldLink RX3 121 "HungFloors$Plan" "rodCan" "[I") (by decide +kernel)) (fun _ h9 => h9) rfl dX3_canWhereHung_13 ?_
    refine lv_aload_n hx hb dX3_canWhereHung_16 rfl (lv_at hl 0 rfl) ?_
    refine va_get (D := (dC, dI)) (ci := 2) (v := .int fr_1) (C := RX3) (T := TX3) (N := 16) hx hb hts iw_X3_canWhereHung_X3 hown hK hP 0 rfl rfl 1 (by decide) (hts (.fieldLink RX3 18 "HungFloors$Frame" "firstRod" "I") (by decide +kernel)) (fun _ h9 => h9) rfl dX3_canWhereHung_17 ?_
    refine lv_iload_n hx hb dX3_canWhereHung_20 rfl (lv_at hl 1 rfl) ?_
    refine lv_iadd hx hb dX3_canWhereHung_21 ?_
    refine lv_topi (fun z_63 ez_63 => ?_)
    have hz_63 : z_63.toInt = fr_1.toInt + p1.toInt := by rw [ez_63]; exact t_add rfl rfl (by omega) (by omega)
    refine va_iald hx hb hK hP 20 1 rfl rfl (v_in rfl (by omega) (by omega)) dX3_canWhereHung_22 ?_
    refine lv_topi (fun z_64 ez_64 => ?_)
    refine lv_goto (tgt := 40) hx hb dX3_canWhereHung_23 (by decide) ?_
    rw [hQ0]
    exact W.iret (v := z_64) hx hb hr (fun t ht hW => ⟨⟨z_64, (), rfl, trivial, ⟨by rw [ht]; exact hP, hD⟩⟩, hS.F ht⟩) hS.2.2 dX3_canWhereHung_40
theorem iw_X3_canOf_X3 : ∀ w ∈ wsX30, w ∈ wsX3_canOf := fun _ h => List.mem_cons_of_mem _ (List.mem_append_left _ (List.mem_append_right _ h))
theorem iw_X3_canOf_X7 : ∀ w ∈ wsX70, w ∈ wsX3_canOf := fun _ h => List.mem_cons_of_mem _ (List.mem_append_right _ h)
set_option maxHeartbeats 4000000 in
set_option maxRecDepth 100000 in
theorem c_X3_canOf (l : Launch) (dC : Nat → ClassId) (dI : Nat → Nat → Nat) (ad : Nat → Nat) (tN : Nat) (fN : Nat → Int64) (cB cI cJ cZ : ClassId) (h0 : Nat) (p1 : Int32) (r0 : Nat → Nat) (pl0 : Nat) (w0 : va_W) (r1 : Nat → Nat) (fc1 : Int32) (dc1 : Int32) (rk1 : Nat → Int32) (w1 : va_W) (o0 : ok_frame ad cB cI cJ cZ h0 r0 pl0 w0) (o1 : ok_plan ad cB cI cJ cZ pl0 r1 fc1 dc1 rk1 w1) (sz : Nat) (up11 : 0 ≤ p1.toInt) (up12 : p1.toInt ≤ 69) : Met l yX3_canOf wsX3_canOf ({ frames := 1, cells := 0, slots := 0, locals := 21 } : Room) (va_Pc [.ref h0, .int p1] (fun U => U.heap.size = sz ∧ va_P (dC, dI) vwCl (List.flatten [w0, w1]) U.heap ∧ va_K (dC, dI) vwCl [(cB, .byte), (cI, .int), (cJ, .long), (cZ, .boolean)] U ∧ va_D (fun _ => True) (List.flatten [w0, w1]) ∧ ex_Y ad tN fN (va_A (List.flatten [w0, w1]) sz) U)) (va_Qi (fun (r : Int32) (_ : Unit) => True) (fun (_ : Unit) (t : State) => va_P (dC, dI) vwCl (List.flatten [w0, w1]) t.heap ∧ va_D (va_A (List.flatten [w0, w1]) sz) (List.flatten [w0, w1])) (va_A (List.flatten [w0, w1]) sz)) 0 0 (va_A (List.flatten [w0, w1]) sz) := by
  refine Met.ofW (cc := cX3_canOf) (maxL := 3) (ret := (some .int)) (by decide) rfl ?_
  intro p e s m args below meth c s₁ B hml hv
  obtain ⟨rfl, hsz, hP, hK, hD0, hE⟩ := hv
  have hx := B.exec
  have hb := B.bytes
  have hr := B.returns
  have hts := atoms_spec (ws := wsX3_canOf) B.pre
  have hown : s.vm.findClass RX3 = some m.cls := findClass_of_methodNamed B.named
  have hlocks := B.notSynchronized
  subst hsz
  have hD := hD0.self (sz := s.heap.size)
  generalize hAe : va_A (List.flatten [w0, w1]) s.heap.size = A at hD hE ⊢
  have hA : ∀ q : Nat, s.heap.size ≤ q → A q := fun q h => by rw [← hAe]; exact Or.inr h
  have hS : va_S A s.heap s.heap [] := va_S.rf
  have hl := lv_entry ([.ref h0, .int p1]) (n := 3) (Nat.le_of_ble_eq_true rfl)
  rw [lg_entry_eq]
  generalize (lg_sl ([.ref h0, .int p1]) ++ List.replicate (3 - (lg_sl ([.ref h0, .int p1])).length) Slot.unset).toArray = ls at hl ⊢
  have hl : lv_has ls 3 [(0, .ref h0), (1, .int p1)] := hl
  clear hAe
  refine W_name (fun Q0 hQ0 => ?_)
  refine lv_aload_n hx hb dX3_canOf_0 rfl (lv_at hl 0 rfl) ?_
  obtain ⟨fr_1, dr_4, rc_7, f_10, f_12, gn_13, f_14, f_15, f_16, f_17, f_18, sc_19, jc_20, f_23, f_25, rfl, hl_2, hh_3, hl_5, hh_6, hl_8, hh_9, hr_11, hl_21, hh_22, hr_24, hr_26⟩ := o0
  refine va_get (D := (dC, dI)) (ci := 2) (v := .ref (r0 8)) (C := RX3) (T := TX3) (N := 16) hx hb hts iw_X3_canOf_X3 hown hK hP 0 rfl rfl 15 (by decide) (hts (.fieldLink RX3 64 "HungFloors$Frame" "jointFloor" "[I") (by decide +kernel)) (fun _ h9 => h9) rfl dX3_canOf_1 ?_
  refine lv_iload_n hx hb dX3_canOf_4 rfl (lv_at hl 1 rfl) ?_
  refine va_iald hx hb hK hP 9 1 rfl rfl (v_in rfl (by omega) (by omega)) dX3_canOf_5 ?_
  refine lv_topi (fun z_27 ez_27 => ?_)
  have gz_27 := rg_at hr_26 ez_27
  have g1z_27 := gz_27.1
  have g2z_27 := gz_27.2
  refine lv_istore_n (lv' := [(2, .int z_27), (0, .ref h0), (1, .int p1)]) hx hb dX3_canOf_6 rfl hl (by decide) rfl (fun ls hl => ?_)
  refine lv_iload_n hx hb dX3_canOf_7 rfl (lv_at hl 0 rfl) ?_
  refine lv_if_ge (tgt := 24) hx hb dX3_canOf_8 (by decide) (fun c_28 => ?_) (fun c_28 => ?_)
  · have c_28 : 0 ≤ z_27.toInt := f_le tI_0 rfl c_28
    refine lv_aload_n hx hb dX3_canOf_24 rfl (lv_at hl 1 rfl) ?_
    refine va_get (D := (dC, dI)) (ci := 2) (v := .ref pl0) (C := RX3) (T := TX3) (N := 16) hx hb hts iw_X3_canOf_X3 hown hK hP 0 rfl rfl 0 (by decide) (hts (.fieldLink RX3 12 "HungFloors$Frame" "plan" "LHungFloors$Plan;") (by decide +kernel)) (fun _ h9 => h9) rfl dX3_canOf_25 ?_
    obtain ⟨f_31, f_32, f_33, f_34, f_37, f_39, f_40, f_42, f_44, rfl, hl_29, hh_30, hl_35, hh_36, hr_38, hr_41, hr_43⟩ := o1
    refine va_get (D := (dC, dI)) (ci := 5) (v := .ref (r1 2)) (C := RX7) (T := TX7) (N := 12) hx hb hts iw_X3_canOf_X7 hown hK hP 10 rfl rfl 3 (by decide) (hts (.fieldLink RX3 118 "HungFloors$Plan" "can" "[I") (by decide +kernel)) (fun _ h9 => h9) rfl dX3_canOf_28 ?_
    refine lv_iload_n hx hb dX3_canOf_31 rfl (lv_at hl 0 rfl) ?_
    refine va_iald hx hb hK hP 13 1 rfl rfl (v_in rfl (by omega) (by omega)) dX3_canOf_32 ?_
    refine lv_topi (fun z_45 ez_45 => ?_)
    rw [hQ0]
    exact W.iret (v := z_45) hx hb hr (fun t ht hW => ⟨⟨z_45, (), rfl, trivial, ⟨by rw [ht]; exact hP, hD⟩⟩, hS.F ht⟩) hS.2.2 dX3_canOf_33
  · have c_28 : z_27.toInt < 0 := f_nle tI_0 rfl c_28
    refine lv_aload_n hx hb dX3_canOf_11 rfl (lv_at hl 1 rfl) ?_
    refine lv_aload_n hx hb dX3_canOf_12 rfl (lv_at hl 1 rfl) ?_
    refine va_get (D := (dC, dI)) (ci := 2) (v := .ref (r0 7)) (C := RX3) (T := TX3) (N := 16) hx hb hts iw_X3_canOf_X3 hown hK hP 0 rfl rfl 14 (by decide) (hts (.fieldLink RX3 61 "HungFloors$Frame" "jointRod" "[I") (by decide +kernel)) (fun _ h9 => h9) rfl dX3_canOf_13 ?_
    refine lv_iload_n hx hb dX3_canOf_16 rfl (lv_at hl 2 rfl) ?_
    refine va_iald hx hb hK hP 8 1 rfl rfl (v_in rfl (by omega) (by omega)) dX3_canOf_17 ?_
    refine lv_topi (fun z_46 ez_46 => ?_)
    have gz_46 := rg_at hr_24 ez_46
    have g1z_46 := gz_46.1
    have g2z_46 := gz_46.2
    have hpm : List.Perm ([[(h0, .inr (2, [.ref pl0, .int fr_1, .int dr_4, .int rc_7, .ref (r0 0), .ref (r0 1), .int gn_13, .ref (r0 2), .ref (r0 3), .ref (r0 4), .ref (r0 5), .ref (r0 6), .long sc_19, .int jc_20, .ref (r0 7), .ref (r0 8)])), (r0 0, .inl (cI, 10, .inl f_10)), (r0 1, .inl (cI, 10, .inl f_12)), (r0 2, .inl (cI, 6, .inl f_14)), (r0 3, .inl (cJ, 6, .inr (.inl f_15))), (r0 4, .inl (cJ, 6, .inr (.inl f_16))), (r0 5, .inl (cJ, 6, .inr (.inl f_17))), (r0 6, .inl (cJ, 10, .inr (.inl f_18))), (r0 7, .inl (cI, 70, .inl f_23)), (r0 8, .inl (cI, 70, .inl f_25))], w1] : List va_W) (([[(h0, .inr (2, [.ref pl0, .int fr_1, .int dr_4, .int rc_7, .ref (r0 0), .ref (r0 1), .int gn_13, .ref (r0 2), .ref (r0 3), .ref (r0 4), .ref (r0 5), .ref (r0 6), .long sc_19, .int jc_20, .ref (r0 7), .ref (r0 8)])), (r0 0, .inl (cI, 10, .inl f_10)), (r0 1, .inl (cI, 10, .inl f_12)), (r0 2, .inl (cI, 6, .inl f_14)), (r0 3, .inl (cJ, 6, .inr (.inl f_15))), (r0 4, .inl (cJ, 6, .inr (.inl f_16))), (r0 5, .inl (cJ, 6, .inr (.inl f_17))), (r0 6, .inl (cJ, 10, .inr (.inl f_18))), (r0 7, .inl (cI, 70, .inl f_23)), (r0 8, .inl (cI, 70, .inl f_25))], w1] : List va_W) ++ ([] : List va_W)) := pm_n 2 [0, 1] (by decide) rfl rfl
    have hPc := bk_P hpm hP
    have hDc := bk_D hpm hD
    have hFc := bk_F hpm hD hS hA
    refine va_calli (va_runV (As := [.int z_46]) (rest := []) ⟨hx, hb, hml, hown, hts⟩ (c_X3_canWhereHung l dC dI ad tN fN cB cI cJ cZ h0 z_46 r0 pl0 _ r1 fc1 dc1 rk1 _ ⟨fr_1, dr_4, rc_7, f_10, f_12, gn_13, f_14, f_15, f_16, f_17, f_18, sc_19, jc_20, f_23, f_25, rfl, by omega, by omega, by omega, by omega, by omega, by omega, hr_11, by omega, by omega, hr_24, hr_26⟩ o1 s.heap.size (by omega) (by omega)) (cwV 1 hts gX3_canOf_X3_canWhereHung rfl rfl rfl (by decide +kernel) ⟨(Nat.le_of_ble_eq_true rfl), (Nat.le_of_ble_eq_true rfl)⟩) ⟨fun a U g mk q => by obtain ⟨q0, q1, qP, qK, qD, qE⟩ := q; exact ⟨q0, q1, qP, va_K.moved (u := U) (U := U.calling g mk a) (Vm.Alike.refl U.vm) qK, qD, ey_blind qE⟩, va_recv hK hPc (ci := 2) (q0 := 0) rfl rfl, fun U hU hW => ⟨rfl, by rw [hU], by rw [hU]; exact hPc, va_K.moved hW.alike hK, hDc.weaken (fun _ _ _ _ => trivial), ey_call hE hS hFc hU hW⟩⟩ rfl rfl hl.1 rfl (lv_room (Nat.le_of_ble_eq_true rfl)) dX3_canOf_18 ⟨(Nat.le_of_ble_eq_true rfl), (Nat.le_of_ble_eq_true rfl)⟩) hS (fun q _ h => hFc q h) hFc (fun r_47 u t H locs ht hvm hw hB hz1 hk1 hS => ?_)
    obtain ⟨hP1, hD1⟩ := hB
    rw [ht] at hP1
    obtain ⟨hP, hD⟩ := bk_join hpm hP hD hk1 hFc (Cs1 := [[(h0, .inr (2, [.ref pl0, .int fr_1, .int dr_4, .int rc_7, .ref (r0 0), .ref (r0 1), .int gn_13, .ref (r0 2), .ref (r0 3), .ref (r0 4), .ref (r0 5), .ref (r0 6), .long sc_19, .int jc_20, .ref (r0 7), .ref (r0 8)])), (r0 0, .inl (cI, 10, .inl f_10)), (r0 1, .inl (cI, 10, .inl f_12)), (r0 2, .inl (cI, 6, .inl f_14)), (r0 3, .inl (cJ, 6, .inr (.inl f_15))), (r0 4, .inl (cJ, 6, .inr (.inl f_16))), (r0 5, .inl (cJ, 6, .inr (.inl f_17))), (r0 6, .inl (cJ, 10, .inr (.inl f_18))), (r0 7, .inl (cI, 70, .inl f_23)), (r0 8, .inl (cI, 70, .inl f_25))], w1]) hP1 hD1
    have hpm2 : List.Perm (([[(h0, .inr (2, [.ref pl0, .int fr_1, .int dr_4, .int rc_7, .ref (r0 0), .ref (r0 1), .int gn_13, .ref (r0 2), .ref (r0 3), .ref (r0 4), .ref (r0 5), .ref (r0 6), .long sc_19, .int jc_20, .ref (r0 7), .ref (r0 8)])), (r0 0, .inl (cI, 10, .inl f_10)), (r0 1, .inl (cI, 10, .inl f_12)), (r0 2, .inl (cI, 6, .inl f_14)), (r0 3, .inl (cJ, 6, .inr (.inl f_15))), (r0 4, .inl (cJ, 6, .inr (.inl f_16))), (r0 5, .inl (cJ, 6, .inr (.inl f_17))), (r0 6, .inl (cJ, 10, .inr (.inl f_18))), (r0 7, .inl (cI, 70, .inl f_23)), (r0 8, .inl (cI, 70, .inl f_25))], w1] : List va_W) ++ ([] : List va_W)) ([[(h0, .inr (2, [.ref pl0, .int fr_1, .int dr_4, .int rc_7, .ref (r0 0), .ref (r0 1), .int gn_13, .ref (r0 2), .ref (r0 3), .ref (r0 4), .ref (r0 5), .ref (r0 6), .long sc_19, .int jc_20, .ref (r0 7), .ref (r0 8)])), (r0 0, .inl (cI, 10, .inl f_10)), (r0 1, .inl (cI, 10, .inl f_12)), (r0 2, .inl (cI, 6, .inl f_14)), (r0 3, .inl (cJ, 6, .inr (.inl f_15))), (r0 4, .inl (cJ, 6, .inr (.inl f_16))), (r0 5, .inl (cJ, 6, .inr (.inl f_17))), (r0 6, .inl (cJ, 10, .inr (.inl f_18))), (r0 7, .inl (cI, 70, .inl f_23)), (r0 8, .inl (cI, 70, .inl f_25))], w1] : List va_W) := pm_n 2 [0, 1] (by decide) rfl rfl
    have hP := bk_reP hpm2 hP
    have hD := bk_reD hpm2 hD
    have hP : va_P (dC, dI) vwCl (List.flatten [[(h0, .inr (2, [.ref pl0, .int fr_1, .int dr_4, .int rc_7, .ref (r0 0), .ref (r0 1), .int gn_13, .ref (r0 2), .ref (r0 3), .ref (r0 4), .ref (r0 5), .ref (r0 6), .long sc_19, .int jc_20, .ref (r0 7), .ref (r0 8)])), (r0 0, .inl (cI, 10, .inl f_10)), (r0 1, .inl (cI, 10, .inl f_12)), (r0 2, .inl (cI, 6, .inl f_14)), (r0 3, .inl (cJ, 6, .inr (.inl f_15))), (r0 4, .inl (cJ, 6, .inr (.inl f_16))), (r0 5, .inl (cJ, 6, .inr (.inl f_17))), (r0 6, .inl (cJ, 10, .inr (.inl f_18))), (r0 7, .inl (cI, 70, .inl f_23)), (r0 8, .inl (cI, 70, .inl f_25))], w1]) H := hP
    have hD : va_D A (List.flatten [[(h0, .inr (2, [.ref pl0, .int fr_1, .int dr_4, .int rc_7, .ref (r0 0), .ref (r0 1), .int gn_13, .ref (r0 2), .ref (r0 3), .ref (r0 4), .ref (r0 5), .ref (r0 6), .long sc_19, .int jc_20, .ref (r0 7), .ref (r0 8)])), (r0 0, .inl (cI, 10, .inl f_10)), (r0 1, .inl (cI, 10, .inl f_12)), (r0 2, .inl (cI, 6, .inl f_14)), (r0 3, .inl (cJ, 6, .inr (.inl f_15))), (r0 4, .inl (cJ, 6, .inr (.inl f_16))), (r0 5, .inl (cJ, 6, .inr (.inl f_17))), (r0 6, .inl (cJ, 10, .inr (.inl f_18))), (r0 7, .inl (cI, 70, .inl f_23)), (r0 8, .inl (cI, 70, .inl f_25))], w1]) := hD
    refine lv_goto (tgt := 33) hx hb dX3_canOf_21 (by decide) ?_
    rw [hQ0]
    exact W.iret (v := r_47) hx hb hr (fun t ht hW => ⟨⟨r_47, (), rfl, trivial, ⟨by rw [ht]; exact hP, hD⟩⟩, hS.F ht⟩) hS.2.2 dX3_canOf_33
