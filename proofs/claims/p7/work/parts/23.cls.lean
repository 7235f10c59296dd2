theorem iw_X7_addFloor_X7 : ∀ w ∈ wsX70, w ∈ wsX7_addFloor := fun _ h => List.mem_cons_of_mem _ (List.mem_append_right _ h)
set_option maxHeartbeats 4000000 in
set_option maxRecDepth 100000 in
theorem c_X7_addFloor (l : Launch) (dC : Nat → ClassId) (dI : Nat → Nat → Nat) (ad : Nat → Nat) (tN : Nat) (fN : Nat → Int64) (cB cI cJ cZ : ClassId) (h0 : Nat) (q1 : Int64) (p2 : Int32) (p3 : Int32) (p4 : Int32) (r0 : Nat → Nat) (fc0 : Int32) (dc0 : Int32) (rk0 : Nat → Int32) (w0 : va_W) (o0 : ok_plan ad cB cI cJ cZ h0 r0 fc0 dc0 rk0 w0) (sz : Nat) : Met l yX7_addFloor wsX7_addFloor ({ frames := 1, cells := 0, slots := 0, locals := 20 } : Room) (va_Pc [.ref h0, .long q1, .int p2, .int p3, .int p4] (fun U => U.heap.size = sz ∧ va_P (dC, dI) vwCl (List.flatten [w0]) U.heap ∧ va_K (dC, dI) vwCl [(cB, .byte), (cI, .int), (cJ, .long), (cZ, .boolean)] U ∧ va_D (fun _ => True) (List.flatten [w0]) ∧ ex_Y ad tN fN (va_A (List.flatten [w0]) sz) U)) (va_Qv (fun _ : Unit => True) (fun (_ : Unit) (t : State) => ∃ (fc09 : Int32) (w09 : va_W), ok_plan ad cB cI cJ cZ h0 r0 fc09 dc0 rk0 w09 ∧ va_P (dC, dI) vwCl (List.flatten [w09]) t.heap ∧ va_D (va_A (List.flatten [w0]) sz) (List.flatten [w09])) (va_A (List.flatten [w0]) sz)) 0 0 (va_A (List.flatten [w0]) sz) := by
  refine Met.ofW (cc := cX7_addFloor) (maxL := 6) (ret := none) (by decide) rfl ?_
  intro p e s m args below meth c s₁ B hml hv
  obtain ⟨rfl, hsz, hP, hK, hD0, hE⟩ := hv
  have hx := B.exec
  have hb := B.bytes
  have hr := B.returns
  have hts := atoms_spec (ws := wsX7_addFloor) B.pre
  have hown : s.vm.findClass RX7 = some m.cls := findClass_of_methodNamed B.named
  have hlocks := B.notSynchronized
  subst hsz
  have hD := hD0.self (sz := s.heap.size)
  generalize hAe : va_A (List.flatten [w0]) s.heap.size = A at hD hE ⊢
  have hA : ∀ q : Nat, s.heap.size ≤ q → A q := fun q h => by rw [← hAe]; exact Or.inr h
  have hS : va_S A s.heap s.heap [] := va_S.rf
  have hl := lv_entry ([.ref h0, .long q1, .int p2, .int p3, .int p4]) (n := 6) (Nat.le_of_ble_eq_true rfl)
  rw [lg_entry_eq]
  generalize (lg_sl ([.ref h0, .long q1, .int p2, .int p3, .int p4]) ++ List.replicate (6 - (lg_sl ([.ref h0, .long q1, .int p2, .int p3, .int p4])).length) Slot.unset).toArray = ls at hl ⊢
  have hl : lv_has ls 6 [(0, .ref h0), (1, .long q1), (3, .int p2), (4, .int p3), (5, .int p4)] := hl
  clear hAe
  refine W_name (fun Q0 hQ0 => ?_)
  refine lv_aload_n hx hb dX7_addFloor_0 rfl (lv_at hl 0 rfl) ?_
  obtain ⟨f_3, f_4, f_5, f_6, f_9, f_11, f_12, f_14, f_15, rfl, hl_1, hh_2, hl_7, hh_8, hr_10, hr_13⟩ := o0
  have hpm : List.Perm ([[(h0, .inr (5, [.int fc0, .ref (r0 0), .ref (r0 1), .ref (r0 2), .ref (r0 3), .int dc0, .ref (r0 4), .ref (r0 5), .ref (r0 6), .ref (r0 7), .ref (r0 8), .ref (r0 9)])), (r0 0, .inl (cJ, 6, .inr (.inl f_3))), (r0 1, .inl (cI, 6, .inl f_4)), (r0 2, .inl (cI, 6, .inl f_5)), (r0 3, .inl (cI, 6, .inl f_6)), (r0 4, .inl (cJ, 4, .inr (.inl f_9))), (r0 5, .inl (cI, 4, .inl rk0)), (r0 6, .inl (cJ, 40, .inr (.inl f_11))), (r0 7, .inl (cI, 40, .inl f_12)), (r0 8, .inl (cI, 40, .inl f_14)), (r0 9, .inl (cI, 40, .inl f_15))]] : List va_W) (([[(h0, .inr (5, [.int fc0, .ref (r0 0), .ref (r0 1), .ref (r0 2), .ref (r0 3), .int dc0, .ref (r0 4), .ref (r0 5), .ref (r0 6), .ref (r0 7), .ref (r0 8), .ref (r0 9)])), (r0 0, .inl (cJ, 6, .inr (.inl f_3))), (r0 1, .inl (cI, 6, .inl f_4)), (r0 2, .inl (cI, 6, .inl f_5)), (r0 3, .inl (cI, 6, .inl f_6)), (r0 4, .inl (cJ, 4, .inr (.inl f_9))), (r0 5, .inl (cI, 4, .inl rk0)), (r0 6, .inl (cJ, 40, .inr (.inl f_11))), (r0 7, .inl (cI, 40, .inl f_12)), (r0 8, .inl (cI, 40, .inl f_14)), (r0 9, .inl (cI, 40, .inl f_15))]] : List va_W) ++ ([] : List va_W)) := pm_n 1 [0] (by decide) rfl rfl
  have hPc := bk_P hpm hP
  have hDc := bk_D hpm hD
  have hFc := bk_F hpm hD hS hA
  refine va_calli (va_runV (As := []) (rest := []) ⟨hx, hb, hml, hown, hts⟩ (c_X7_takesFloor l dC dI ad tN fN cB cI cJ cZ h0 r0 fc0 dc0 rk0 _ ⟨f_3, f_4, f_5, f_6, f_9, f_11, f_12, f_14, f_15, rfl, by omega, by omega, by omega, by omega, hr_10, hr_13⟩ s.heap.size) (cwV 0 hts gX7_addFloor_X7_takesFloor rfl rfl rfl (by decide +kernel) ⟨(Nat.le_of_ble_eq_true rfl), (Nat.le_of_ble_eq_true rfl)⟩) ⟨fun a U g mk q => by obtain ⟨q0, q1, qP, qK, qD, qE⟩ := q; exact ⟨q0, q1, qP, va_K.moved (u := U) (U := U.calling g mk a) (Vm.Alike.refl U.vm) qK, qD, ey_blind qE⟩, va_recv hK hPc (ci := 5) (q0 := 0) rfl rfl, fun U hU hW => ⟨rfl, by rw [hU], by rw [hU]; exact hPc, va_K.moved hW.alike hK, hDc.weaken (fun _ _ _ _ => trivial), ey_call hE hS hFc hU hW⟩⟩ rfl rfl hl.1 rfl (lv_room (Nat.le_of_ble_eq_true rfl)) dX7_addFloor_1 ⟨(Nat.le_of_ble_eq_true rfl), (Nat.le_of_ble_eq_true rfl)⟩) hS (fun q _ h => hFc q h) hFc (fun r_16 u t H locs ht hvm hw hB hz1 hk1 hS => ?_)
  obtain ⟨hP1, hD1⟩ := hB
  rw [ht] at hP1
  obtain ⟨hP, hD⟩ := bk_join hpm hP hD hk1 hFc (Cs1 := [[(h0, .inr (5, [.int fc0, .ref (r0 0), .ref (r0 1), .ref (r0 2), .ref (r0 3), .int dc0, .ref (r0 4), .ref (r0 5), .ref (r0 6), .ref (r0 7), .ref (r0 8), .ref (r0 9)])), (r0 0, .inl (cJ, 6, .inr (.inl f_3))), (r0 1, .inl (cI, 6, .inl f_4)), (r0 2, .inl (cI, 6, .inl f_5)), (r0 3, .inl (cI, 6, .inl f_6)), (r0 4, .inl (cJ, 4, .inr (.inl f_9))), (r0 5, .inl (cI, 4, .inl rk0)), (r0 6, .inl (cJ, 40, .inr (.inl f_11))), (r0 7, .inl (cI, 40, .inl f_12)), (r0 8, .inl (cI, 40, .inl f_14)), (r0 9, .inl (cI, 40, .inl f_15))]]) hP1 hD1
  have hpm2 : List.Perm (([[(h0, .inr (5, [.int fc0, .ref (r0 0), .ref (r0 1), .ref (r0 2), .ref (r0 3), .int dc0, .ref (r0 4), .ref (r0 5), .ref (r0 6), .ref (r0 7), .ref (r0 8), .ref (r0 9)])), (r0 0, .inl (cJ, 6, .inr (.inl f_3))), (r0 1, .inl (cI, 6, .inl f_4)), (r0 2, .inl (cI, 6, .inl f_5)), (r0 3, .inl (cI, 6, .inl f_6)), (r0 4, .inl (cJ, 4, .inr (.inl f_9))), (r0 5, .inl (cI, 4, .inl rk0)), (r0 6, .inl (cJ, 40, .inr (.inl f_11))), (r0 7, .inl (cI, 40, .inl f_12)), (r0 8, .inl (cI, 40, .inl f_14)), (r0 9, .inl (cI, 40, .inl f_15))]] : List va_W) ++ ([] : List va_W)) ([[(h0, .inr (5, [.int fc0, .ref (r0 0), .ref (r0 1), .ref (r0 2), .ref (r0 3), .int dc0, .ref (r0 4), .ref (r0 5), .ref (r0 6), .ref (r0 7), .ref (r0 8), .ref (r0 9)])), (r0 0, .inl (cJ, 6, .inr (.inl f_3))), (r0 1, .inl (cI, 6, .inl f_4)), (r0 2, .inl (cI, 6, .inl f_5)), (r0 3, .inl (cI, 6, .inl f_6)), (r0 4, .inl (cJ, 4, .inr (.inl f_9))), (r0 5, .inl (cI, 4, .inl rk0)), (r0 6, .inl (cJ, 40, .inr (.inl f_11))), (r0 7, .inl (cI, 40, .inl f_12)), (r0 8, .inl (cI, 40, .inl f_14)), (r0 9, .inl (cI, 40, .inl f_15))]] : List va_W) := pm_n 1 [0] (by decide) rfl rfl
  have hP := bk_reP hpm2 hP
  have hD := bk_reD hpm2 hD
  have hP : va_P (dC, dI) vwCl (List.flatten [[(h0, .inr (5, [.int fc0, .ref (r0 0), .ref (r0 1), .ref (r0 2), .ref (r0 3), .int dc0, .ref (r0 4), .ref (r0 5), .ref (r0 6), .ref (r0 7), .ref (r0 8), .ref (r0 9)])), (r0 0, .inl (cJ, 6, .inr (.inl f_3))), (r0 1, .inl (cI, 6, .inl f_4)), (r0 2, .inl (cI, 6, .inl f_5)), (r0 3, .inl (cI, 6, .inl f_6)), (r0 4, .inl (cJ, 4, .inr (.inl f_9))), (r0 5, .inl (cI, 4, .inl rk0)), (r0 6, .inl (cJ, 40, .inr (.inl f_11))), (r0 7, .inl (cI, 40, .inl f_12)), (r0 8, .inl (cI, 40, .inl f_14)), (r0 9, .inl (cI, 40, .inl f_15))]]) H := hP
  have hD : va_D A (List.flatten [[(h0, .inr (5, [.int fc0, .ref (r0 0), .ref (r0 1), .ref (r0 2), .ref (r0 3), .int dc0, .ref (r0 4), .ref (r0 5), .ref (r0 6), .ref (r0 7), .ref (r0 8), .ref (r0 9)])), (r0 0, .inl (cJ, 6, .inr (.inl f_3))), (r0 1, .inl (cI, 6, .inl f_4)), (r0 2, .inl (cI, 6, .inl f_5)), (r0 3, .inl (cI, 6, .inl f_6)), (r0 4, .inl (cJ, 4, .inr (.inl f_9))), (r0 5, .inl (cI, 4, .inl rk0)), (r0 6, .inl (cJ, 40, .inr (.inl f_11))), (r0 7, .inl (cI, 40, .inl f_12)), (r0 8, .inl (cI, 40, .inl f_14)), (r0 9, .inl (cI, 40, .inl f_15))]]) := hD
  rcases hw with ⟨rfl, c_17⟩ | ⟨rfl, c_18, c_19⟩ | ⟨rfl, c_20, c_21⟩
  · refine lv_if_eq (tgt := 59) hx hb dX7_addFloor_4 (by decide) (fun c_22 => ?_) (fun c_22 => absurd c_22 (by decide))
    rw [hQ0]
    exact W.vret hx hb hr (fun t ht hW => ⟨⟨(), rfl, trivial, ⟨fc0, _, ⟨f_3, f_4, f_5, f_6, f_9, f_11, f_12, f_14, f_15, rfl, by omega, by omega, by omega, by omega, hr_10, hr_13⟩, by rw [ht]; exact hP, hD⟩⟩, hS.F ht⟩) hS.2.2 dX7_addFloor_59
  · refine lv_if_eq (tgt := 59) hx hb dX7_addFloor_4 (by decide) (fun c_23 => ?_) (fun c_23 => absurd c_23 (by decide))
    rw [hQ0]
    exact W.vret hx hb hr (fun t ht hW => ⟨⟨(), rfl, trivial, ⟨fc0, _, ⟨f_3, f_4, f_5, f_6, f_9, f_11, f_12, f_14, f_15, rfl, by omega, by omega, by omega, by omega, hr_10, hr_13⟩, by rw [ht]; exact hP, hD⟩⟩, hS.F ht⟩) hS.2.2 dX7_addFloor_59
  · refine lv_if_eq (tgt := 59) hx hb dX7_addFloor_4 (by decide) (fun c_24 => absurd c_24 (by decide)) (fun c_24 => ?_)
    refine lv_aload_n hx hb dX7_addFloor_7 rfl (lv_at hl 0 rfl) ?_
    refine va_get (D := (dC, dI)) (ci := 5) (v := .ref (r0 0)) (C := RX7) (T := TX7) (N := 12) hx hb hts iw_X7_addFloor_X7 hown hK hP 0 rfl rfl 1 (by decide) (hts (.fieldLink RX7 15 "HungFloors$Plan" "floorName" "[J") (by decide +kernel)) (fun _ h9 => h9) rfl dX7_addFloor_8 ?_
    refine lv_aload_n hx hb dX7_addFloor_11 rfl (lv_at hl 0 rfl) ?_
    refine va_get (D := (dC, dI)) (ci := 5) (v := .int fc0) (C := RX7) (T := TX7) (N := 12) hx hb hts iw_X7_addFloor_X7 hown hK hP 0 rfl rfl 0 (by decide) (hts (.fieldLink RX7 9 "HungFloors$Plan" "floorCount" "I") (by decide +kernel)) (fun _ h9 => h9) rfl dX7_addFloor_12 ?_
    refine lv_lload_n hx hb dX7_addFloor_15 rfl (lv_at hl 1 rfl) ?_
    refine va_last hx hb hK hP hD hS 1 2 rfl rfl (v_in rfl (by omega) (by omega)) dX7_addFloor_16 (fun H locs hP hD hS => ?_)
    obtain ⟨f_25, hP, hD⟩ : ∃ f_25 : Nat → Int64, va_P (dC, dI) vwCl (List.flatten [[(h0, .inr (5, [.int fc0, .ref (r0 0), .ref (r0 1), .ref (r0 2), .ref (r0 3), .int dc0, .ref (r0 4), .ref (r0 5), .ref (r0 6), .ref (r0 7), .ref (r0 8), .ref (r0 9)])), (r0 0, .inl (cJ, 6, .inr (.inl f_25))), (r0 1, .inl (cI, 6, .inl f_4)), (r0 2, .inl (cI, 6, .inl f_5)), (r0 3, .inl (cI, 6, .inl f_6)), (r0 4, .inl (cJ, 4, .inr (.inl f_9))), (r0 5, .inl (cI, 4, .inl rk0)), (r0 6, .inl (cJ, 40, .inr (.inl f_11))), (r0 7, .inl (cI, 40, .inl f_12)), (r0 8, .inl (cI, 40, .inl f_14)), (r0 9, .inl (cI, 40, .inl f_15))]]) H ∧ va_D A (List.flatten [[(h0, .inr (5, [.int fc0, .ref (r0 0), .ref (r0 1), .ref (r0 2), .ref (r0 3), .int dc0, .ref (r0 4), .ref (r0 5), .ref (r0 6), .ref (r0 7), .ref (r0 8), .ref (r0 9)])), (r0 0, .inl (cJ, 6, .inr (.inl f_25))), (r0 1, .inl (cI, 6, .inl f_4)), (r0 2, .inl (cI, 6, .inl f_5)), (r0 3, .inl (cI, 6, .inl f_6)), (r0 4, .inl (cJ, 4, .inr (.inl f_9))), (r0 5, .inl (cI, 4, .inl rk0)), (r0 6, .inl (cJ, 40, .inr (.inl f_11))), (r0 7, .inl (cI, 40, .inl f_12)), (r0 8, .inl (cI, 40, .inl f_14)), (r0 9, .inl (cI, 40, .inl f_15))]]) := ⟨_, hP, hD⟩
    refine lv_aload_n hx hb dX7_addFloor_17 rfl (lv_at hl 0 rfl) ?_
    refine va_get (D := (dC, dI)) (ci := 5) (v := .ref (r0 1)) (C := RX7) (T := TX7) (N := 12) hx hb hts iw_X7_addFloor_X7 hown hK hP 0 rfl rfl 2 (by decide) (hts (.fieldLink RX7 19 "HungFloors$Plan" "weighs" "[I") (by decide +kernel)) (fun _ h9 => h9) rfl dX7_addFloor_18 ?_
    refine lv_aload_n hx hb dX7_addFloor_21 rfl (lv_at hl 0 rfl) ?_
    refine va_get (D := (dC, dI)) (ci := 5) (v := .int fc0) (C := RX7) (T := TX7) (N := 12) hx hb hts iw_X7_addFloor_X7 hown hK hP 0 rfl rfl 0 (by decide) (hts (.fieldLink RX7 9 "HungFloors$Plan" "floorCount" "I") (by decide +kernel)) (fun _ h9 => h9) rfl dX7_addFloor_22 ?_
    refine lv_iload_n hx hb dX7_addFloor_25 rfl (lv_at hl 2 rfl) ?_
    refine va_iast hx hb hK hP hD hS 2 1 rfl rfl (v_in rfl (by omega) (by omega)) dX7_addFloor_26 (fun H locs hP hD hS => ?_)
    obtain ⟨f_26, hP, hD⟩ : ∃ f_26 : Nat → Int32, va_P (dC, dI) vwCl (List.flatten [[(h0, .inr (5, [.int fc0, .ref (r0 0), .ref (r0 1), .ref (r0 2), .ref (r0 3), .int dc0, .ref (r0 4), .ref (r0 5), .ref (r0 6), .ref (r0 7), .ref (r0 8), .ref (r0 9)])), (r0 0, .inl (cJ, 6, .inr (.inl f_25))), (r0 1, .inl (cI, 6, .inl f_26)), (r0 2, .inl (cI, 6, .inl f_5)), (r0 3, .inl (cI, 6, .inl f_6)), (r0 4, .inl (cJ, 4, .inr (.inl f_9))), (r0 5, .inl (cI, 4, .inl rk0)), (r0 6, .inl (cJ, 40, .inr (.inl f_11))), (r0 7, .inl (cI, 40, .inl f_12)), (r0 8, .inl (cI, 40, .inl f_14)), (r0 9, .inl (cI, 40, .inl f_15))]]) H ∧ va_D A (List.flatten [[(h0, .inr (5, [.int fc0, .ref (r0 0), .ref (r0 1), .ref (r0 2), .ref (r0 3), .int dc0, .ref (r0 4), .ref (r0 5), .ref (r0 6), .ref (r0 7), .ref (r0 8), .ref (r0 9)])), (r0 0, .inl (cJ, 6, .inr (.inl f_25))), (r0 1, .inl (cI, 6, .inl f_26)), (r0 2, .inl (cI, 6, .inl f_5)), (r0 3, .inl (cI, 6, .inl f_6)), (r0 4, .inl (cJ, 4, .inr (.inl f_9))), (r0 5, .inl (cI, 4, .inl rk0)), (r0 6, .inl (cJ, 40, .inr (.inl f_11))), (r0 7, .inl (cI, 40, .inl f_12)), (r0 8, .inl (cI, 40, .inl f_14)), (r0 9, .inl (cI, 40, .inl f_15))]]) := ⟨_, hP, hD⟩
    refine lv_aload_n hx hb dX7_addFloor_27 rfl (lv_at hl 0 rfl) ?_
    refine va_get (D := (dC, dI)) (ci := 5) (v := .ref (r0 2)) (C := RX7) (T := TX7) (N := 12) hx hb hts iw_X7_addFloor_X7 hown hK hP 0 rfl rfl 3 (by decide) (hts (.fieldLink RX7 23 "HungFloors$Plan" "can" "[I") (by decide +kernel)) (fun _ h9 => h9) rfl dX7_addFloor_28 ?_
    refine lv_aload_n hx hb dX7_addFloor_31 rfl (lv_at hl 0 rfl) ?_
    refine va_get (D := (dC, dI)) (ci := 5) (v := .int fc0) (C := RX7) (T := TX7) (N := 12) hx hb hts iw_X7_addFloor_X7 hown hK hP 0 rfl rfl 0 (by decide) (hts (.fieldLink RX7 9 "HungFloors$Plan" "floorCount" "I") (by decide +kernel)) (fun _ h9 => h9) rfl dX7_addFloor_32 ?_
    refine lv_iload hx hb dX7_addFloor_35 (lv_at hl 3 rfl) ?_
    refine va_iast hx hb hK hP hD hS 3 1 rfl rfl (v_in rfl (by omega) (by omega)) dX7_addFloor_37 (fun H locs hP hD hS => ?_)
    obtain ⟨f_27, hP, hD⟩ : ∃ f_27 : Nat → Int32, va_P (dC, dI) vwCl (List.flatten [[(h0, .inr (5, [.int fc0, .ref (r0 0), .ref (r0 1), .ref (r0 2), .ref (r0 3), .int dc0, .ref (r0 4), .ref (r0 5), .ref (r0 6), .ref (r0 7), .ref (r0 8), .ref (r0 9)])), (r0 0, .inl (cJ, 6, .inr (.inl f_25))), (r0 1, .inl (cI, 6, .inl f_26)), (r0 2, .inl (cI, 6, .inl f_27)), (r0 3, .inl (cI, 6, .inl f_6)), (r0 4, .inl (cJ, 4, .inr (.inl f_9))), (r0 5, .inl (cI, 4, .inl rk0)), (r0 6, .inl (cJ, 40, .inr (.inl f_11))), (r0 7, .inl (cI, 40, .inl f_12)), (r0 8, .inl (cI, 40, .inl f_14)), (r0 9, .inl (cI, 40, .inl f_15))]]) H ∧ va_D A (List.flatten [[(h0, .inr (5, [.int fc0, .ref (r0 0), .ref (r0 1), .ref (r0 2), .ref (r0 3), .int dc0, .ref (r0 4), .ref (r0 5), .ref (r0 6), .ref (r0 7), .ref (r0 8), .ref (r0 9)])), (r0 0, .inl (cJ, 6, .inr (.inl f_25))), (r0 1, .inl (cI, 6, .inl f_26)), (r0 2, .inl (cI, 6, .inl f_27)), (r0 3, .inl (cI, 6, .inl f_6)), (r0 4, .inl (cJ, 4, .inr (.inl f_9))), (r0 5, .inl (cI, 4, .inl rk0)), (r0 6, .inl (cJ, 40, .inr (.inl f_11))), (r0 7, .inl (cI, 40, .inl f_12)), (r0 8, .inl (cI, 40, .inl f_14)), (r0 9, .inl (cI, 40, .inl f_15))]]) := ⟨_, hP, hD⟩
    refine lv_aload_n hx hb dX7_addFloor_38 rfl (lv_at hl 0 rfl) ?_
    refine va_get (D := (dC, dI)) (ci := 5) (v := .ref (r0 3)) (C := RX7) (T := TX7) (N := 12) hx hb hts iw_X7_addFloor_X7 hown hK hP 0 rfl rfl 4 (by decide) (hts (.fieldLink RX7 26 "HungFloors$Plan" "stands" "[I") (by decide +kernel)) (fun _ h9 => h9) rfl dX7_addFloor_39 ?_
    refine lv_aload_n hx hb dX7_addFloor_42 rfl (lv_at hl 0 rfl) ?_
    refine va_get (D := (dC, dI)) (ci := 5) (v := .int fc0) (C := RX7) (T := TX7) (N := 12) hx hb hts iw_X7_addFloor_X7 hown hK hP 0 rfl rfl 0 (by decide) (hts (.fieldLink RX7 9 "HungFloors$Plan" "floorCount" "I") (by decide +kernel)) (fun _ h9 => h9) rfl dX7_addFloor_43 ?_
    refine lv_iload hx hb dX7_addFloor_46 (lv_at hl 4 rfl) ?_
    refine va_iast hx hb hK hP hD hS 4 1 rfl rfl (v_in rfl (by omega) (by omega)) dX7_addFloor_48 (fun H locs hP hD hS => ?_)
    obtain ⟨f_28, hP, hD⟩ : ∃ f_28 : Nat → Int32, va_P (dC, dI) vwCl (List.flatten [[(h0, .inr (5, [.int fc0, .ref (r0 0), .ref (r0 1), .ref (r0 2), .ref (r0 3), .int dc0, .ref (r0 4), .ref (r0 5), .ref (r0 6), .ref (r0 7), .ref (r0 8), .ref (r0 9)])), (r0 0, .inl (cJ, 6, .inr (.inl f_25))), (r0 1, .inl (cI, 6, .inl f_26)), (r0 2, .inl (cI, 6, .inl f_27)), (r0 3, .inl (cI, 6, .inl f_28)), (r0 4, .inl (cJ, 4, .inr (.inl f_9))), (r0 5, .inl (cI, 4, .inl rk0)), (r0 6, .inl (cJ, 40, .inr (.inl f_11))), (r0 7, .inl (cI, 40, .inl f_12)), (r0 8, .inl (cI, 40, .inl f_14)), (r0 9, .inl (cI, 40, .inl f_15))]]) H ∧ va_D A (List.flatten [[(h0, .inr (5, [.int fc0, .ref (r0 0), .ref (r0 1), .ref (r0 2), .ref (r0 3), .int dc0, .ref (r0 4), .ref (r0 5), .ref (r0 6), .ref (r0 7), .ref (r0 8), .ref (r0 9)])), (r0 0, .inl (cJ, 6, .inr (.inl f_25))), (r0 1, .inl (cI, 6, .inl f_26)), (r0 2, .inl (cI, 6, .inl f_27)), (r0 3, .inl (cI, 6, .inl f_28)), (r0 4, .inl (cJ, 4, .inr (.inl f_9))), (r0 5, .inl (cI, 4, .inl rk0)), (r0 6, .inl (cJ, 40, .inr (.inl f_11))), (r0 7, .inl (cI, 40, .inl f_12)), (r0 8, .inl (cI, 40, .inl f_14)), (r0 9, .inl (cI, 40, .inl f_15))]]) := ⟨_, hP, hD⟩
    refine lv_aload_n hx hb dX7_addFloor_49 rfl (lv_at hl 0 rfl) ?_
    refine lv_dup hx hb dX7_addFloor_50 rfl ?_
    refine va_get (D := (dC, dI)) (ci := 5) (v := .int fc0) (C := RX7) (T := TX7) (N := 12) hx hb hts iw_X7_addFloor_X7 hown hK hP 0 rfl rfl 0 (by decide) (hts (.fieldLink RX7 9 "HungFloors$Plan" "floorCount" "I") (by decide +kernel)) (fun _ h9 => h9) rfl dX7_addFloor_51 ?_
    refine lv_iconst (v := 1) hx hb dX7_addFloor_54 (by decide) ?_
    refine lv_iadd hx hb dX7_addFloor_55 ?_
    refine lv_topi (fun z_29 ez_29 => ?_)
    have hz_29 : z_29.toInt = fc0.toInt + 1 := by rw [ez_29]; exact t_add rfl tI_1 (by omega) (by omega)
    have fz_29 : z_29 = (fc0 + 1) := by rw [ez_29]
    refine va_put (D := (dC, dI)) (ci := 5) (v := .int z_29) (ty := .int) (C := RX7) (T := TX7) (N := 12) hx hb hts iw_X7_addFloor_X7 tyX7 tyX7_ok nmX7 hown hK hP hD hS 0 rfl rfl 0 (by decide) (hts (.fieldLink RX7 9 "HungFloors$Plan" "floorCount" "I") (by decide +kernel)) (fun _ h9 => h9) rfl (by decide +kernel) rfl rfl (Nat.le_of_ble_eq_true rfl) dX7_addFloor_56 (fun H locs hP hD hS => ?_)
    have hP : va_P (dC, dI) vwCl (List.flatten [[(h0, .inr (5, [.int z_29, .ref (r0 0), .ref (r0 1), .ref (r0 2), .ref (r0 3), .int dc0, .ref (r0 4), .ref (r0 5), .ref (r0 6), .ref (r0 7), .ref (r0 8), .ref (r0 9)])), (r0 0, .inl (cJ, 6, .inr (.inl f_25))), (r0 1, .inl (cI, 6, .inl f_26)), (r0 2, .inl (cI, 6, .inl f_27)), (r0 3, .inl (cI, 6, .inl f_28)), (r0 4, .inl (cJ, 4, .inr (.inl f_9))), (r0 5, .inl (cI, 4, .inl rk0)), (r0 6, .inl (cJ, 40, .inr (.inl f_11))), (r0 7, .inl (cI, 40, .inl f_12)), (r0 8, .inl (cI, 40, .inl f_14)), (r0 9, .inl (cI, 40, .inl f_15))]]) H := hP
    have hD : va_D A (List.flatten [[(h0, .inr (5, [.int z_29, .ref (r0 0), .ref (r0 1), .ref (r0 2), .ref (r0 3), .int dc0, .ref (r0 4), .ref (r0 5), .ref (r0 6), .ref (r0 7), .ref (r0 8), .ref (r0 9)])), (r0 0, .inl (cJ, 6, .inr (.inl f_25))), (r0 1, .inl (cI, 6, .inl f_26)), (r0 2, .inl (cI, 6, .inl f_27)), (r0 3, .inl (cI, 6, .inl f_28)), (r0 4, .inl (cJ, 4, .inr (.inl f_9))), (r0 5, .inl (cI, 4, .inl rk0)), (r0 6, .inl (cJ, 40, .inr (.inl f_11))), (r0 7, .inl (cI, 40, .inl f_12)), (r0 8, .inl (cI, 40, .inl f_14)), (r0 9, .inl (cI, 40, .inl f_15))]]) := hD
    rw [hQ0]
    exact W.vret hx hb hr (fun t ht hW => ⟨⟨(), rfl, trivial, ⟨z_29, _, ⟨f_25, f_26, f_27, f_28, f_9, f_11, f_12, f_14, f_15, rfl, by omega, by omega, by omega, by omega, hr_10, hr_13⟩, by rw [ht]; exact hP, hD⟩⟩, hS.F ht⟩) hS.2.2 dX7_addFloor_59
theorem iw_X7_addDrawing_X7 : ∀ w ∈ wsX70, w ∈ wsX7_addDrawing := fun _ h => List.mem_cons_of_mem _ (List.mem_append_right _ h)
set_option maxHeartbeats 4000000 in
set_option maxRecDepth 100000 in
theorem c_X7_addDrawing (l : Launch) (dC : Nat → ClassId) (dI : Nat → Nat → Nat) (ad : Nat → Nat) (tN : Nat) (fN : Nat → Int64) (cB cI cJ cZ : ClassId) (h0 : Nat) (q1 : Int64) (r0 : Nat → Nat) (fc0 : Int32) (dc0 : Int32) (rk0 : Nat → Int32) (w0 : va_W) (o0 : ok_plan ad cB cI cJ cZ h0 r0 fc0 dc0 rk0 w0) (sz : Nat) : Met l yX7_addDrawing wsX7_addDrawing ({ frames := 1, cells := 0, slots := 0, locals := 20 } : Room) (va_Pc [.ref h0, .long q1] (fun U => U.heap.size = sz ∧ va_P (dC, dI) vwCl (List.flatten [w0]) U.heap ∧ va_K (dC, dI) vwCl [(cB, .byte), (cI, .int), (cJ, .long), (cZ, .boolean)] U ∧ va_D (fun _ => True) (List.flatten [w0]) ∧ ex_Y ad tN fN (va_A (List.flatten [w0]) sz) U)) (va_Qv (fun _ : Unit => True) (fun (_ : Unit) (t : State) => ∃ (dc09 : Int32) (rk09 : Nat → Int32) (w09 : va_W), ok_plan ad cB cI cJ cZ h0 r0 fc0 dc09 rk09 w09 ∧ va_P (dC, dI) vwCl (List.flatten [w09]) t.heap ∧ va_D (va_A (List.flatten [w0]) sz) (List.flatten [w09])) (va_A (List.flatten [w0]) sz)) 0 0 (va_A (List.flatten [w0]) sz) := by
  refine Met.ofW (cc := cX7_addDrawing) (maxL := 3) (ret := none) (by decide) rfl ?_
  intro p e s m args below meth c s₁ B hml hv
  obtain ⟨rfl, hsz, hP, hK, hD0, hE⟩ := hv
  have hx := B.exec
  have hb := B.bytes
  have hr := B.returns
  have hts := atoms_spec (ws := wsX7_addDrawing) B.pre
  have hown : s.vm.findClass RX7 = some m.cls := findClass_of_methodNamed B.named
  have hlocks := B.notSynchronized
  subst hsz
  have hD := hD0.self (sz := s.heap.size)
  generalize hAe : va_A (List.flatten [w0]) s.heap.size = A at hD hE ⊢
  have hA : ∀ q : Nat, s.heap.size ≤ q → A q := fun q h => by rw [← hAe]; exact Or.inr h
  have hS : va_S A s.heap s.heap [] := va_S.rf
  have hl := lv_entry ([.ref h0, .long q1]) (n := 3) (Nat.le_of_ble_eq_true rfl)
  rw [lg_entry_eq]
  generalize (lg_sl ([.ref h0, .long q1]) ++ List.replicate (3 - (lg_sl ([.ref h0, .long q1])).length) Slot.unset).toArray = ls at hl ⊢
  have hl : lv_has ls 3 [(0, .ref h0), (1, .long q1)] := hl
  clear hAe
  refine W_name (fun Q0 hQ0 => ?_)
  refine lv_aload_n hx hb dX7_addDrawing_0 rfl (lv_at hl 0 rfl) ?_
  obtain ⟨f_3, f_4, f_5, f_6, f_9, f_11, f_12, f_14, f_15, rfl, hl_1, hh_2, hl_7, hh_8, hr_10, hr_13⟩ := o0
  have hpm : List.Perm ([[(h0, .inr (5, [.int fc0, .ref (r0 0), .ref (r0 1), .ref (r0 2), .ref (r0 3), .int dc0, .ref (r0 4), .ref (r0 5), .ref (r0 6), .ref (r0 7), .ref (r0 8), .ref (r0 9)])), (r0 0, .inl (cJ, 6, .inr (.inl f_3))), (r0 1, .inl (cI, 6, .inl f_4)), (r0 2, .inl (cI, 6, .inl f_5)), (r0 3, .inl (cI, 6, .inl f_6)), (r0 4, .inl (cJ, 4, .inr (.inl f_9))), (r0 5, .inl (cI, 4, .inl rk0)), (r0 6, .inl (cJ, 40, .inr (.inl f_11))), (r0 7, .inl (cI, 40, .inl f_12)), (r0 8, .inl (cI, 40, .inl f_14)), (r0 9, .inl (cI, 40, .inl f_15))]] : List va_W) (([[(h0, .inr (5, [.int fc0, .ref (r0 0), .ref (r0 1), .ref (r0 2), .ref (r0 3), .int dc0, .ref (r0 4), .ref (r0 5), .ref (r0 6), .ref (r0 7), .ref (r0 8), .ref (r0 9)])), (r0 0, .inl (cJ, 6, .inr (.inl f_3))), (r0 1, .inl (cI, 6, .inl f_4)), (r0 2, .inl (cI, 6, .inl f_5)), (r0 3, .inl (cI, 6, .inl f_6)), (r0 4, .inl (cJ, 4, .inr (.inl f_9))), (r0 5, .inl (cI, 4, .inl rk0)), (r0 6, .inl (cJ, 40, .inr (.inl f_11))), (r0 7, .inl (cI, 40, .inl f_12)), (r0 8, .inl (cI, 40, .inl f_14)), (r0 9, .inl (cI, 40, .inl f_15))]] : List va_W) ++ ([] : List va_W)) := pm_n 1 [0] (by decide) rfl rfl
  have hPc := bk_P hpm hP
  have hDc := bk_D hpm hD
  have hFc := bk_F hpm hD hS hA
  refine va_calli (va_runV (As := []) (rest := []) ⟨hx, hb, hml, hown, hts⟩ (c_X7_takesDrawing l dC dI ad tN fN cB cI cJ cZ h0 r0 fc0 dc0 rk0 _ ⟨f_3, f_4, f_5, f_6, f_9, f_11, f_12, f_14, f_15, rfl, by omega, by omega, by omega, by omega, hr_10, hr_13⟩ s.heap.size) (cwV 0 hts gX7_addDrawing_X7_takesDrawing rfl rfl rfl (by decide +kernel) ⟨(Nat.le_of_ble_eq_true rfl), (Nat.le_of_ble_eq_true rfl)⟩) ⟨fun a U g mk q => by obtain ⟨q0, q1, qP, qK, qD, qE⟩ := q; exact ⟨q0, q1, qP, va_K.moved (u := U) (U := U.calling g mk a) (Vm.Alike.refl U.vm) qK, qD, ey_blind qE⟩, va_recv hK hPc (ci := 5) (q0 := 0) rfl rfl, fun U hU hW => ⟨rfl, by rw [hU], by rw [hU]; exact hPc, va_K.moved hW.alike hK, hDc.weaken (fun _ _ _ _ => trivial), ey_call hE hS hFc hU hW⟩⟩ rfl rfl hl.1 rfl (lv_room (Nat.le_of_ble_eq_true rfl)) dX7_addDrawing_1 ⟨(Nat.le_of_ble_eq_true rfl), (Nat.le_of_ble_eq_true rfl)⟩) hS (fun q _ h => hFc q h) hFc (fun r_16 u t H locs ht hvm hw hB hz1 hk1 hS => ?_)
  obtain ⟨hP1, hD1⟩ := hB
  rw [ht] at hP1
  obtain ⟨hP, hD⟩ := bk_join hpm hP hD hk1 hFc (Cs1 := [[(h0, .inr (5, [.int fc0, .ref (r0 0), .ref (r0 1), .ref (r0 2), .ref (r0 3), .int dc0, .ref (r0 4), .ref (r0 5), .ref (r0 6), .ref (r0 7), .ref (r0 8), .ref (r0 9)])), (r0 0, .inl (cJ, 6, .inr (.inl f_3))), (r0 1, .inl (cI, 6, .inl f_4)), (r0 2, .inl (cI, 6, .inl f_5)), (r0 3, .inl (cI, 6, .inl f_6)), (r0 4, .inl (cJ, 4, .inr (.inl f_9))), (r0 5, .inl (cI, 4, .inl rk0)), (r0 6, .inl (cJ, 40, .inr (.inl f_11))), (r0 7, .inl (cI, 40, .inl f_12)), (r0 8, .inl (cI, 40, .inl f_14)), (r0 9, .inl (cI, 40, .inl f_15))]]) hP1 hD1
  have hpm2 : List.Perm (([[(h0, .inr (5, [.int fc0, .ref (r0 0), .ref (r0 1), .ref (r0 2), .ref (r0 3), .int dc0, .ref (r0 4), .ref (r0 5), .ref (r0 6), .ref (r0 7), .ref (r0 8), .ref (r0 9)])), (r0 0, .inl (cJ, 6, .inr (.inl f_3))), (r0 1, .inl (cI, 6, .inl f_4)), (r0 2, .inl (cI, 6, .inl f_5)), (r0 3, .inl (cI, 6, .inl f_6)), (r0 4, .inl (cJ, 4, .inr (.inl f_9))), (r0 5, .inl (cI, 4, .inl rk0)), (r0 6, .inl (cJ, 40, .inr (.inl f_11))), (r0 7, .inl (cI, 40, .inl f_12)), (r0 8, .inl (cI, 40, .inl f_14)), (r0 9, .inl (cI, 40, .inl f_15))]] : List va_W) ++ ([] : List va_W)) ([[(h0, .inr (5, [.int fc0, .ref (r0 0), .ref (r0 1), .ref (r0 2), .ref (r0 3), .int dc0, .ref (r0 4), .ref (r0 5), .ref (r0 6), .ref (r0 7), .ref (r0 8), .ref (r0 9)])), (r0 0, .inl (cJ, 6, .inr (.inl f_3))), (r0 1, .inl (cI, 6, .inl f_4)), (r0 2, .inl (cI, 6, .inl f_5)), (r0 3, .inl (cI, 6, .inl f_6)), (r0 4, .inl (cJ, 4, .inr (.inl f_9))), (r0 5, .inl (cI, 4, .inl rk0)), (r0 6, .inl (cJ, 40, .inr (.inl f_11))), (r0 7, .inl (cI, 40, .inl f_12)), (r0 8, .inl (cI, 40, .inl f_14)), (r0 9, .inl (cI, 40, .inl f_15))]] : List va_W) := pm_n 1 [0] (by decide) rfl rfl
  have hP := bk_reP hpm2 hP
  have hD := bk_reD hpm2 hD
  have hP : va_P (dC, dI) vwCl (List.flatten [[(h0, .inr (5, [.int fc0, .ref (r0 0), .ref (r0 1), .ref (r0 2), .ref (r0 3), .int dc0, .ref (r0 4), .ref (r0 5), .ref (r0 6), .ref (r0 7), .ref (r0 8), .ref (r0 9)])), (r0 0, .inl (cJ, 6, .inr (.inl f_3))), (r0 1, .inl (cI, 6, .inl f_4)), (r0 2, .inl (cI, 6, .inl f_5)), (r0 3, .inl (cI, 6, .inl f_6)), (r0 4, .inl (cJ, 4, .inr (.inl f_9))), (r0 5, .inl (cI, 4, .inl rk0)), (r0 6, .inl (cJ, 40, .inr (.inl f_11))), (r0 7, .inl (cI, 40, .inl f_12)), (r0 8, .inl (cI, 40, .inl f_14)), (r0 9, .inl (cI, 40, .inl f_15))]]) H := hP
  have hD : va_D A (List.flatten [[(h0, .inr (5, [.int fc0, .ref (r0 0), .ref (r0 1), .ref (r0 2), .ref (r0 3), .int dc0, .ref (r0 4), .ref (r0 5), .ref (r0 6), .ref (r0 7), .ref (r0 8), .ref (r0 9)])), (r0 0, .inl (cJ, 6, .inr (.inl f_3))), (r0 1, .inl (cI, 6, .inl f_4)), (r0 2, .inl (cI, 6, .inl f_5)), (r0 3, .inl (cI, 6, .inl f_6)), (r0 4, .inl (cJ, 4, .inr (.inl f_9))), (r0 5, .inl (cI, 4, .inl rk0)), (r0 6, .inl (cJ, 40, .inr (.inl f_11))), (r0 7, .inl (cI, 40, .inl f_12)), (r0 8, .inl (cI, 40, .inl f_14)), (r0 9, .inl (cI, 40, .inl f_15))]]) := hD
  rcases hw with ⟨rfl, c_17⟩ | ⟨rfl, c_18⟩
  · refine lv_if_eq (tgt := 37) hx hb dX7_addDrawing_4 (by decide) (fun c_19 => ?_) (fun c_19 => absurd c_19 (by decide))
    rw [hQ0]
    exact W.vret hx hb hr (fun t ht hW => ⟨⟨(), rfl, trivial, ⟨dc0, rk0, _, ⟨f_3, f_4, f_5, f_6, f_9, f_11, f_12, f_14, f_15, rfl, by omega, by omega, by omega, by omega, hr_10, hr_13⟩, by rw [ht]; exact hP, hD⟩⟩, hS.F ht⟩) hS.2.2 dX7_addDrawing_37
  · refine lv_if_eq (tgt := 37) hx hb dX7_addDrawing_4 (by decide) (fun c_20 => absurd c_20 (by decide)) (fun c_20 => ?_)
    refine lv_aload_n hx hb dX7_addDrawing_7 rfl (lv_at hl 0 rfl) ?_
    refine va_get (D := (dC, dI)) (ci := 5) (v := .ref (r0 4)) (C := RX7) (T := TX7) (N := 12) hx hb hts iw_X7_addDrawing_X7 hown hK hP 0 rfl rfl 6 (by decide) (hts (.fieldLink RX7 32 "HungFloors$Plan" "drawingName" "[J") (by decide +kernel)) (fun _ h9 => h9) rfl dX7_addDrawing_8 ?_
    refine lv_aload_n hx hb dX7_addDrawing_11 rfl (lv_at hl 0 rfl) ?_
    refine va_get (D := (dC, dI)) (ci := 5) (v := .int dc0) (C := RX7) (T := TX7) (N := 12) hx hb hts iw_X7_addDrawing_X7 hown hK hP 0 rfl rfl 5 (by decide) (hts (.fieldLink RX7 29 "HungFloors$Plan" "drawingCount" "I") (by decide +kernel)) (fun _ h9 => h9) rfl dX7_addDrawing_12 ?_
    refine lv_lload_n hx hb dX7_addDrawing_15 rfl (lv_at hl 1 rfl) ?_
    refine va_last hx hb hK hP hD hS 5 2 rfl rfl (v_in rfl (by omega) (by omega)) dX7_addDrawing_16 (fun H locs hP hD hS => ?_)
    obtain ⟨f_21, hP, hD⟩ : ∃ f_21 : Nat → Int64, va_P (dC, dI) vwCl (List.flatten [[(h0, .inr (5, [.int fc0, .ref (r0 0), .ref (r0 1), .ref (r0 2), .ref (r0 3), .int dc0, .ref (r0 4), .ref (r0 5), .ref (r0 6), .ref (r0 7), .ref (r0 8), .ref (r0 9)])), (r0 0, .inl (cJ, 6, .inr (.inl f_3))), (r0 1, .inl (cI, 6, .inl f_4)), (r0 2, .inl (cI, 6, .inl f_5)), (r0 3, .inl (cI, 6, .inl f_6)), (r0 4, .inl (cJ, 4, .inr (.inl f_21))), (r0 5, .inl (cI, 4, .inl rk0)), (r0 6, .inl (cJ, 40, .inr (.inl f_11))), (r0 7, .inl (cI, 40, .inl f_12)), (r0 8, .inl (cI, 40, .inl f_14)), (r0 9, .inl (cI, 40, .inl f_15))]]) H ∧ va_D A (List.flatten [[(h0, .inr (5, [.int fc0, .ref (r0 0), .ref (r0 1), .ref (r0 2), .ref (r0 3), .int dc0, .ref (r0 4), .ref (r0 5), .ref (r0 6), .ref (r0 7), .ref (r0 8), .ref (r0 9)])), (r0 0, .inl (cJ, 6, .inr (.inl f_3))), (r0 1, .inl (cI, 6, .inl f_4)), (r0 2, .inl (cI, 6, .inl f_5)), (r0 3, .inl (cI, 6, .inl f_6)), (r0 4, .inl (cJ, 4, .inr (.inl f_21))), (r0 5, .inl (cI, 4, .inl rk0)), (r0 6, .inl (cJ, 40, .inr (.inl f_11))), (r0 7, .inl (cI, 40, .inl f_12)), (r0 8, .inl (cI, 40, .inl f_14)), (r0 9, .inl (cI, 40, .inl f_15))]]) := ⟨_, hP, hD⟩
    refine lv_aload_n hx hb dX7_addDrawing_17 rfl (lv_at hl 0 rfl) ?_
    refine va_get (D := (dC, dI)) (ci := 5) (v := .ref (r0 5)) (C := RX7) (T := TX7) (N := 12) hx hb hts iw_X7_addDrawing_X7 hown hK hP 0 rfl rfl 7 (by decide) (hts (.fieldLink RX7 35 "HungFloors$Plan" "rodCount" "[I") (by decide +kernel)) (fun _ h9 => h9) rfl dX7_addDrawing_18 ?_
    refine lv_aload_n hx hb dX7_addDrawing_21 rfl (lv_at hl 0 rfl) ?_
    refine va_get (D := (dC, dI)) (ci := 5) (v := .int dc0) (C := RX7) (T := TX7) (N := 12) hx hb hts iw_X7_addDrawing_X7 hown hK hP 0 rfl rfl 5 (by decide) (hts (.fieldLink RX7 29 "HungFloors$Plan" "drawingCount" "I") (by decide +kernel)) (fun _ h9 => h9) rfl dX7_addDrawing_22 ?_
    refine lv_iconst (v := 0) hx hb dX7_addDrawing_25 (by decide) ?_
    refine va_iast hx hb hK hP hD hS 6 1 rfl rfl (v_in rfl (by omega) (by omega)) dX7_addDrawing_26 (fun H locs hP hD hS => ?_)
    obtain ⟨f_22, hr_23, hP, hD⟩ : ∃ f_22 : Nat → Int32, rg (0) 10 f_22 ∧ va_P (dC, dI) vwCl (List.flatten [[(h0, .inr (5, [.int fc0, .ref (r0 0), .ref (r0 1), .ref (r0 2), .ref (r0 3), .int dc0, .ref (r0 4), .ref (r0 5), .ref (r0 6), .ref (r0 7), .ref (r0 8), .ref (r0 9)])), (r0 0, .inl (cJ, 6, .inr (.inl f_3))), (r0 1, .inl (cI, 6, .inl f_4)), (r0 2, .inl (cI, 6, .inl f_5)), (r0 3, .inl (cI, 6, .inl f_6)), (r0 4, .inl (cJ, 4, .inr (.inl f_21))), (r0 5, .inl (cI, 4, .inl f_22)), (r0 6, .inl (cJ, 40, .inr (.inl f_11))), (r0 7, .inl (cI, 40, .inl f_12)), (r0 8, .inl (cI, 40, .inl f_14)), (r0 9, .inl (cI, 40, .inl f_15))]]) H ∧ va_D A (List.flatten [[(h0, .inr (5, [.int fc0, .ref (r0 0), .ref (r0 1), .ref (r0 2), .ref (r0 3), .int dc0, .ref (r0 4), .ref (r0 5), .ref (r0 6), .ref (r0 7), .ref (r0 8), .ref (r0 9)])), (r0 0, .inl (cJ, 6, .inr (.inl f_3))), (r0 1, .inl (cI, 6, .inl f_4)), (r0 2, .inl (cI, 6, .inl f_5)), (r0 3, .inl (cI, 6, .inl f_6)), (r0 4, .inl (cJ, 4, .inr (.inl f_21))), (r0 5, .inl (cI, 4, .inl f_22)), (r0 6, .inl (cJ, 40, .inr (.inl f_11))), (r0 7, .inl (cI, 40, .inl f_12)), (r0 8, .inl (cI, 40, .inl f_14)), (r0 9, .inl (cI, 40, .inl f_15))]]) := ⟨_, rg_upd hr_10 (by decide) (by decide), hP, hD⟩
    refine lv_aload_n hx hb dX7_addDrawing_27 rfl (lv_at hl 0 rfl) ?_
    refine lv_dup hx hb dX7_addDrawing_28 rfl ?_
    refine va_get (D := (dC, dI)) (ci := 5) (v := .int dc0) (C := RX7) (T := TX7) (N := 12) hx hb hts iw_X7_addDrawing_X7 hown hK hP 0 rfl rfl 5 (by decide) (hts (.fieldLink RX7 29 "HungFloors$Plan" "drawingCount" "I") (by decide +kernel)) (fun _ h9 => h9) rfl dX7_addDrawing_29 ?_
    refine lv_iconst (v := 1) hx hb dX7_addDrawing_32 (by decide) ?_
    refine lv_iadd hx hb dX7_addDrawing_33 ?_
    refine lv_topi (fun z_24 ez_24 => ?_)
    have hz_24 : z_24.toInt = dc0.toInt + 1 := by rw [ez_24]; exact t_add rfl tI_1 (by omega) (by omega)
    have fz_24 : z_24 = (dc0 + 1) := by rw [ez_24]
    refine va_put (D := (dC, dI)) (ci := 5) (v := .int z_24) (ty := .int) (C := RX7) (T := TX7) (N := 12) hx hb hts iw_X7_addDrawing_X7 tyX7 tyX7_ok nmX7 hown hK hP hD hS 0 rfl rfl 5 (by decide) (hts (.fieldLink RX7 29 "HungFloors$Plan" "drawingCount" "I") (by decide +kernel)) (fun _ h9 => h9) rfl (by decide +kernel) rfl rfl (Nat.le_of_ble_eq_true rfl) dX7_addDrawing_34 (fun H locs hP hD hS => ?_)
    have hP : va_P (dC, dI) vwCl (List.flatten [[(h0, .inr (5, [.int fc0, .ref (r0 0), .ref (r0 1), .ref (r0 2), .ref (r0 3), .int z_24, .ref (r0 4), .ref (r0 5), .ref (r0 6), .ref (r0 7), .ref (r0 8), .ref (r0 9)])), (r0 0, .inl (cJ, 6, .inr (.inl f_3))), (r0 1, .inl (cI, 6, .inl f_4)), (r0 2, .inl (cI, 6, .inl f_5)), (r0 3, .inl (cI, 6, .inl f_6)), (r0 4, .inl (cJ, 4, .inr (.inl f_21))), (r0 5, .inl (cI, 4, .inl f_22)), (r0 6, .inl (cJ, 40, .inr (.inl f_11))), (r0 7, .inl (cI, 40, .inl f_12)), (r0 8, .inl (cI, 40, .inl f_14)), (r0 9, .inl (cI, 40, .inl f_15))]]) H := hP
    have hD : va_D A (List.flatten [[(h0, .inr (5, [.int fc0, .ref (r0 0), .ref (r0 1), .ref (r0 2), .ref (r0 3), .int z_24, .ref (r0 4), .ref (r0 5), .ref (r0 6), .ref (r0 7), .ref (r0 8), .ref (r0 9)])), (r0 0, .inl (cJ, 6, .inr (.inl f_3))), (r0 1, .inl (cI, 6, .inl f_4)), (r0 2, .inl (cI, 6, .inl f_5)), (r0 3, .inl (cI, 6, .inl f_6)), (r0 4, .inl (cJ, 4, .inr (.inl f_21))), (r0 5, .inl (cI, 4, .inl f_22)), (r0 6, .inl (cJ, 40, .inr (.inl f_11))), (r0 7, .inl (cI, 40, .inl f_12)), (r0 8, .inl (cI, 40, .inl f_14)), (r0 9, .inl (cI, 40, .inl f_15))]]) := hD
    rw [hQ0]
    exact W.vret hx hb hr (fun t ht hW => ⟨⟨(), rfl, trivial, ⟨z_24, f_22, _, ⟨f_3, f_4, f_5, f_6, f_21, f_11, f_12, f_14, f_15, rfl, by omega, by omega, by omega, by omega, hr_23, hr_13⟩, by rw [ht]; exact hP, hD⟩⟩, hS.F ht⟩) hS.2.2 dX7_addDrawing_37
theorem iw_X7_takesRod_X7 : ∀ w ∈ wsX70, w ∈ wsX7_takesRod := fun _ h => List.mem_cons_of_mem _ (List.mem_append_right _ h)
set_option maxHeartbeats 4000000 in
set_option maxRecDepth 100000 in
theorem c_X7_takesRod (l : Launch) (dC : Nat → ClassId) (dI : Nat → Nat → Nat) (ad : Nat → Nat) (tN : Nat) (fN : Nat → Int64) (cB cI cJ cZ : ClassId) (h0 : Nat) (r0 : Nat → Nat) (fc0 : Int32) (dc0 : Int32) (rk0 : Nat → Int32) (w0 : va_W) (o0 : ok_plan ad cB cI cJ cZ h0 r0 fc0 dc0 rk0 w0) (sz : Nat) : Met l yX7_takesRod wsX7_takesRod ({ frames := 0, cells := 0, slots := 0, locals := 0 } : Room) (va_Pc [.ref h0] (fun U => U.heap.size = sz ∧ va_P (dC, dI) vwCl (List.flatten [w0]) U.heap ∧ va_K (dC, dI) vwCl [(cB, .byte), (cI, .int), (cJ, .long), (cZ, .boolean)] U ∧ va_D (fun _ => True) (List.flatten [w0]) ∧ ex_Y ad tN fN (va_A (List.flatten [w0]) sz) U)) (va_Qi (fun (r : Int32) (_ : Unit) => (r = 0 ∧ dc0.toInt ≤ 0) ∨ (r = 0 ∧ 0 < dc0.toInt ∧ 10 ≤ (rk0 ((dc0 - 1) : Int32).toNatClampNeg).toInt) ∨ (r = 1 ∧ 0 < dc0.toInt ∧ (rk0 ((dc0 - 1) : Int32).toNatClampNeg).toInt < 10)) (fun (_ : Unit) (t : State) => va_P (dC, dI) vwCl (List.flatten [w0]) t.heap ∧ va_D (va_A (List.flatten [w0]) sz) (List.flatten [w0])) (va_A (List.flatten [w0]) sz)) 0 0 (va_A (List.flatten [w0]) sz) := by
  refine Met.ofW (cc := cX7_takesRod) (maxL := 1) (ret := (some .boolean)) (by decide) rfl ?_
  intro p e s m args below meth c s₁ B hml hv
  obtain ⟨rfl, hsz, hP, hK, hD0, hE⟩ := hv
  have hx := B.exec
  have hb := B.bytes
  have hr := B.returns
  have hts := atoms_spec (ws := wsX7_takesRod) B.pre
  have hown : s.vm.findClass RX7 = some m.cls := findClass_of_methodNamed B.named
  have hlocks := B.notSynchronized
  subst hsz
  have hD := hD0.self (sz := s.heap.size)
  generalize hAe : va_A (List.flatten [w0]) s.heap.size = A at hD hE ⊢
  have hA : ∀ q : Nat, s.heap.size ≤ q → A q := fun q h => by rw [← hAe]; exact Or.inr h
  have hS : va_S A s.heap s.heap [] := va_S.rf
  have hl := lv_entry ([.ref h0]) (n := 1) (Nat.le_of_ble_eq_true rfl)
  rw [lg_entry_eq]
  generalize (lg_sl ([.ref h0]) ++ List.replicate (1 - (lg_sl ([.ref h0])).length) Slot.unset).toArray = ls at hl ⊢
  have hl : lv_has ls 1 [(0, .ref h0)] := hl
  clear hAe
  refine W_name (fun Q0 hQ0 => ?_)
  refine lv_aload_n hx hb dX7_takesRod_0 rfl (lv_at hl 0 rfl) ?_
  obtain ⟨f_3, f_4, f_5, f_6, f_9, f_11, f_12, f_14, f_15, rfl, hl_1, hh_2, hl_7, hh_8, hr_10, hr_13⟩ := o0
  refine va_get (D := (dC, dI)) (ci := 5) (v := .int dc0) (C := RX7) (T := TX7) (N := 12) hx hb hts iw_X7_takesRod_X7 hown hK hP 0 rfl rfl 5 (by decide) (hts (.fieldLink RX7 29 "HungFloors$Plan" "drawingCount" "I") (by decide +kernel)) (fun _ h9 => h9) rfl dX7_takesRod_1 ?_
  refine lv_if_le (tgt := 27) hx hb dX7_takesRod_4 (by decide) (fun c_16 => ?_) (fun c_16 => ?_)
  · have c_16 : dc0.toInt ≤ 0 := f_le rfl tI_0 c_16
    refine lv_iconst (v := 0) hx hb dX7_takesRod_27 (by decide) ?_
    rw [hQ0]
    exact W.zret (v := 0) hx hb hr (by decide) (fun t ht hW => ⟨⟨0, (), rfl, Or.inl ⟨rfl, c_16⟩, ⟨by rw [ht]; exact hP, hD⟩⟩, hS.F ht⟩) hS.2.2 dX7_takesRod_28
  · have c_16 : 0 < dc0.toInt := f_nle rfl tI_0 c_16
    refine lv_aload_n hx hb dX7_takesRod_7 rfl (lv_at hl 0 rfl) ?_
    refine va_get (D := (dC, dI)) (ci := 5) (v := .ref (r0 5)) (C := RX7) (T := TX7) (N := 12) hx hb hts iw_X7_takesRod_X7 hown hK hP 0 rfl rfl 7 (by decide) (hts (.fieldLink RX7 35 "HungFloors$Plan" "rodCount" "[I") (by decide +kernel)) (fun _ h9 => h9) rfl dX7_takesRod_8 ?_
    refine lv_aload_n hx hb dX7_takesRod_11 rfl (lv_at hl 0 rfl) ?_
    refine va_get (D := (dC, dI)) (ci := 5) (v := .int dc0) (C := RX7) (T := TX7) (N := 12) hx hb hts iw_X7_takesRod_X7 hown hK hP 0 rfl rfl 5 (by decide) (hts (.fieldLink RX7 29 "HungFloors$Plan" "drawingCount" "I") (by decide +kernel)) (fun _ h9 => h9) rfl dX7_takesRod_12 ?_
    refine lv_iconst (v := 1) hx hb dX7_takesRod_15 (by decide) ?_
    refine lv_isub hx hb dX7_takesRod_16 ?_
    refine lv_topi (fun z_17 ez_17 => ?_)
    have hz_17 : z_17.toInt = dc0.toInt - 1 := by rw [ez_17]; exact t_sub rfl tI_1 (by omega) (by omega)
    have fz_17 : z_17 = (dc0 - 1) := by rw [ez_17]
    refine va_iald hx hb hK hP 6 1 rfl rfl (v_in rfl (by omega) (by omega)) dX7_takesRod_17 ?_
    refine lv_topi (fun z_18 ez_18 => ?_)
    have gz_18 := rg_at hr_10 ez_18
    have g1z_18 := gz_18.1
    have g2z_18 := gz_18.2
    have fz_18 : z_18 = (rk0 ((dc0 - 1) : Int32).toNatClampNeg) := by rw [ez_18, fz_17]
    refine lv_bipush (v := 10) hx hb dX7_takesRod_18 (by decide) ?_
    refine lv_icmp_ge (tgt := 27) hx hb dX7_takesRod_20 (by decide) (fun c_19 => ?_) (fun c_19 => ?_)
    · have c_19 : 10 ≤ z_18.toInt := f_le tI_10 rfl c_19
      refine lv_iconst (v := 0) hx hb dX7_takesRod_27 (by decide) ?_
      rw [hQ0]
      exact W.zret (v := 0) hx hb hr (by decide) (fun t ht hW => ⟨⟨0, (), rfl, Or.inr (Or.inl ⟨rfl, c_16, (by rw [← fz_18]; exact c_19)⟩), ⟨by rw [ht]; exact hP, hD⟩⟩, hS.F ht⟩) hS.2.2 dX7_takesRod_28
    · have c_19 : z_18.toInt < 10 := f_nle tI_10 rfl c_19
      refine lv_iconst (v := 1) hx hb dX7_takesRod_23 (by decide) ?_
      refine lv_goto (tgt := 28) hx hb dX7_takesRod_24 (by decide) ?_
      rw [hQ0]
      exact W.zret (v := 1) hx hb hr (by decide) (fun t ht hW => ⟨⟨1, (), rfl, Or.inr (Or.inr (⟨rfl, c_16, (by rw [← fz_18]; exact c_19)⟩)), ⟨by rw [ht]; exact hP, hD⟩⟩, hS.F ht⟩) hS.2.2 dX7_takesRod_28
theorem iw_X7_addRod_X7 : ∀ w ∈ wsX70, w ∈ wsX7_addRod := fun _ h => List.mem_cons_of_mem _ (List.mem_append_right _ h)
set_option maxHeartbeats 4000000 in
set_option maxRecDepth 100000 in
theorem c_X7_addRod (l : Launch) (dC : Nat → ClassId) (dI : Nat → Nat → Nat) (ad : Nat → Nat) (tN : Nat) (fN : Nat → Int64) (cB cI cJ cZ : ClassId) (h0 : Nat) (q1 : Int64) (p2 : Int32) (p3 : Int32) (p4 : Int32) (r0 : Nat → Nat) (fc0 : Int32) (dc0 : Int32) (rk0 : Nat → Int32) (w0 : va_W) (o0 : ok_plan ad cB cI cJ cZ h0 r0 fc0 dc0 rk0 w0) (sz : Nat) (up21 : -1 ≤ p2.toInt) (up22 : p2.toInt ≤ 5) : Met l yX7_addRod wsX7_addRod ({ frames := 1, cells := 0, slots := 0, locals := 20 } : Room) (va_Pc [.ref h0, .long q1, .int p2, .int p3, .int p4] (fun U => U.heap.size = sz ∧ va_P (dC, dI) vwCl (List.flatten [w0]) U.heap ∧ va_K (dC, dI) vwCl [(cB, .byte), (cI, .int), (cJ, .long), (cZ, .boolean)] U ∧ va_D (fun _ => True) (List.flatten [w0]) ∧ ex_Y ad tN fN (va_A (List.flatten [w0]) sz) U)) (va_Qv (fun _ : Unit => True) (fun (_ : Unit) (t : State) => ∃ (rk09 : Nat → Int32) (w09 : va_W), ok_plan ad cB cI cJ cZ h0 r0 fc0 dc0 rk09 w09 ∧ va_P (dC, dI) vwCl (List.flatten [w09]) t.heap ∧ va_D (va_A (List.flatten [w0]) sz) (List.flatten [w09])) (va_A (List.flatten [w0]) sz)) 0 0 (va_A (List.flatten [w0]) sz) := by
  refine Met.ofW (cc := cX7_addRod) (maxL := 8) (ret := none) (by decide) rfl ?_
  intro p e s m args below meth c s₁ B hml hv
  obtain ⟨rfl, hsz, hP, hK, hD0, hE⟩ := hv
  have hx := B.exec
  have hb := B.bytes
  have hr := B.returns
  have hts := atoms_spec (ws := wsX7_addRod) B.pre
  have hown : s.vm.findClass RX7 = some m.cls := findClass_of_methodNamed B.named
  have hlocks := B.notSynchronized
  subst hsz
  have hD := hD0.self (sz := s.heap.size)
  generalize hAe : va_A (List.flatten [w0]) s.heap.size = A at hD hE ⊢
  have hA : ∀ q : Nat, s.heap.size ≤ q → A q := fun q h => by rw [← hAe]; exact Or.inr h
  have hS : va_S A s.heap s.heap [] := va_S.rf
  have hl := lv_entry ([.ref h0, .long q1, .int p2, .int p3, .int p4]) (n := 8) (Nat.le_of_ble_eq_true rfl)
  rw [lg_entry_eq]
  generalize (lg_sl ([.ref h0, .long q1, .int p2, .int p3, .int p4]) ++ List.replicate (8 - (lg_sl ([.ref h0, .long q1, .int p2, .int p3, .int p4])).length) Slot.unset).toArray = ls at hl ⊢
  have hl : lv_has ls 8 [(0, .ref h0), (1, .long q1), (3, .int p2), (4, .int p3), (5, .int p4)] := hl
  clear hAe
  refine W_name (fun Q0 hQ0 => ?_)
  refine lv_aload_n hx hb dX7_addRod_0 rfl (lv_at hl 0 rfl) ?_
  obtain ⟨f_3, f_4, f_5, f_6, f_9, f_11, f_12, f_14, f_15, rfl, hl_1, hh_2, hl_7, hh_8, hr_10, hr_13⟩ := o0
  have hpm : List.Perm ([[(h0, .inr (5, [.int fc0, .ref (r0 0), .ref (r0 1), .ref (r0 2), .ref (r0 3), .int dc0, .ref (r0 4), .ref (r0 5), .ref (r0 6), .ref (r0 7), .ref (r0 8), .ref (r0 9)])), (r0 0, .inl (cJ, 6, .inr (.inl f_3))), (r0 1, .inl (cI, 6, .inl f_4)), (r0 2, .inl (cI, 6, .inl f_5)), (r0 3, .inl (cI, 6, .inl f_6)), (r0 4, .inl (cJ, 4, .inr (.inl f_9))), (r0 5, .inl (cI, 4, .inl rk0)), (r0 6, .inl (cJ, 40, .inr (.inl f_11))), (r0 7, .inl (cI, 40, .inl f_12)), (r0 8, .inl (cI, 40, .inl f_14)), (r0 9, .inl (cI, 40, .inl f_15))]] : List va_W) (([[(h0, .inr (5, [.int fc0, .ref (r0 0), .ref (r0 1), .ref (r0 2), .ref (r0 3), .int dc0, .ref (r0 4), .ref (r0 5), .ref (r0 6), .ref (r0 7), .ref (r0 8), .ref (r0 9)])), (r0 0, .inl (cJ, 6, .inr (.inl f_3))), (r0 1, .inl (cI, 6, .inl f_4)), (r0 2, .inl (cI, 6, .inl f_5)), (r0 3, .inl (cI, 6, .inl f_6)), (r0 4, .inl (cJ, 4, .inr (.inl f_9))), (r0 5, .inl (cI, 4, .inl rk0)), (r0 6, .inl (cJ, 40, .inr (.inl f_11))), (r0 7, .inl (cI, 40, .inl f_12)), (r0 8, .inl (cI, 40, .inl f_14)), (r0 9, .inl (cI, 40, .inl f_15))]] : List va_W) ++ ([] : List va_W)) := pm_n 1 [0] (by decide) rfl rfl
  have hPc := bk_P hpm hP
  have hDc := bk_D hpm hD
  have hFc := bk_F hpm hD hS hA
  refine va_calli (va_runV (As := []) (rest := []) ⟨hx, hb, hml, hown, hts⟩ (c_X7_takesRod l dC dI ad tN fN cB cI cJ cZ h0 r0 fc0 dc0 rk0 _ ⟨f_3, f_4, f_5, f_6, f_9, f_11, f_12, f_14, f_15, rfl, by omega, by omega, by omega, by omega, hr_10, hr_13⟩ s.heap.size) (cwV 0 hts gX7_addRod_X7_takesRod rfl rfl rfl (by decide +kernel) ⟨(Nat.le_of_ble_eq_true rfl), (Nat.le_of_ble_eq_true rfl)⟩) ⟨fun a U g mk q => by obtain ⟨q0, q1, qP, qK, qD, qE⟩ := q; exact ⟨q0, q1, qP, va_K.moved (u := U) (U := U.calling g mk a) (Vm.Alike.refl U.vm) qK, qD, ey_blind qE⟩, va_recv hK hPc (ci := 5) (q0 := 0) rfl rfl, fun U hU hW => ⟨rfl, by rw [hU], by rw [hU]; exact hPc, va_K.moved hW.alike hK, hDc.weaken (fun _ _ _ _ => trivial), ey_call hE hS hFc hU hW⟩⟩ rfl rfl hl.1 rfl (lv_room (Nat.le_of_ble_eq_true rfl)) dX7_addRod_1 ⟨(Nat.le_of_ble_eq_true rfl), (Nat.le_of_ble_eq_true rfl)⟩) hS (fun q _ h => hFc q h) hFc (fun r_16 u t H locs ht hvm hw hB hz1 hk1 hS => ?_)
  obtain ⟨hP1, hD1⟩ := hB
  rw [ht] at hP1
  obtain ⟨hP, hD⟩ := bk_join hpm hP hD hk1 hFc (Cs1 := [[(h0, .inr (5, [.int fc0, .ref (r0 0), .ref (r0 1), .ref (r0 2), .ref (r0 3), .int dc0, .ref (r0 4), .ref (r0 5), .ref (r0 6), .ref (r0 7), .ref (r0 8), .ref (r0 9)])), (r0 0, .inl (cJ, 6, .inr (.inl f_3))), (r0 1, .inl (cI, 6, .inl f_4)), (r0 2, .inl (cI, 6, .inl f_5)), (r0 3, .inl (cI, 6, .inl f_6)), (r0 4, .inl (cJ, 4, .inr (.inl f_9))), (r0 5, .inl (cI, 4, .inl rk0)), (r0 6, .inl (cJ, 40, .inr (.inl f_11))), (r0 7, .inl (cI, 40, .inl f_12)), (r0 8, .inl (cI, 40, .inl f_14)), (r0 9, .inl (cI, 40, .inl f_15))]]) hP1 hD1
  have hpm2 : List.Perm (([[(h0, .inr (5, [.int fc0, .ref (r0 0), .ref (r0 1), .ref (r0 2), .ref (r0 3), .int dc0, .ref (r0 4), .ref (r0 5), .ref (r0 6), .ref (r0 7), .ref (r0 8), .ref (r0 9)])), (r0 0, .inl (cJ, 6, .inr (.inl f_3))), (r0 1, .inl (cI, 6, .inl f_4)), (r0 2, .inl (cI, 6, .inl f_5)), (r0 3, .inl (cI, 6, .inl f_6)), (r0 4, .inl (cJ, 4, .inr (.inl f_9))), (r0 5, .inl (cI, 4, .inl rk0)), (r0 6, .inl (cJ, 40, .inr (.inl f_11))), (r0 7, .inl (cI, 40, .inl f_12)), (r0 8, .inl (cI, 40, .inl f_14)), (r0 9, .inl (cI, 40, .inl f_15))]] : List va_W) ++ ([] : List va_W)) ([[(h0, .inr (5, [.int fc0, .ref (r0 0), .ref (r0 1), .ref (r0 2), .ref (r0 3), .int dc0, .ref (r0 4), .ref (r0 5), .ref (r0 6), .ref (r0 7), .ref (r0 8), .ref (r0 9)])), (r0 0, .inl (cJ, 6, .inr (.inl f_3))), (r0 1, .inl (cI, 6, .inl f_4)), (r0 2, .inl (cI, 6, .inl f_5)), (r0 3, .inl (cI, 6, .inl f_6)), (r0 4, .inl (cJ, 4, .inr (.inl f_9))), (r0 5, .inl (cI, 4, .inl rk0)), (r0 6, .inl (cJ, 40, .inr (.inl f_11))), (r0 7, .inl (cI, 40, .inl f_12)), (r0 8, .inl (cI, 40, .inl f_14)), (r0 9, .inl (cI, 40, .inl f_15))]] : List va_W) := pm_n 1 [0] (by decide) rfl rfl
  have hP := bk_reP hpm2 hP
  have hD := bk_reD hpm2 hD
  have hP : va_P (dC, dI) vwCl (List.flatten [[(h0, .inr (5, [.int fc0, .ref (r0 0), .ref (r0 1), .ref (r0 2), .ref (r0 3), .int dc0, .ref (r0 4), .ref (r0 5), .ref (r0 6), .ref (r0 7), .ref (r0 8), .ref (r0 9)])), (r0 0, .inl (cJ, 6, .inr (.inl f_3))), (r0 1, .inl (cI, 6, .inl f_4)), (r0 2, .inl (cI, 6, .inl f_5)), (r0 3, .inl (cI, 6, .inl f_6)), (r0 4, .inl (cJ, 4, .inr (.inl f_9))), (r0 5, .inl (cI, 4, .inl rk0)), (r0 6, .inl (cJ, 40, .inr (.inl f_11))), (r0 7, .inl (cI, 40, .inl f_12)), (r0 8, .inl (cI, 40, .inl f_14)), (r0 9, .inl (cI, 40, .inl f_15))]]) H := hP
  have hD : va_D A (List.flatten [[(h0, .inr (5, [.int fc0, .ref (r0 0), .ref (r0 1), .ref (r0 2), .ref (r0 3), .int dc0, .ref (r0 4), .ref (r0 5), .ref (r0 6), .ref (r0 7), .ref (r0 8), .ref (r0 9)])), (r0 0, .inl (cJ, 6, .inr (.inl f_3))), (r0 1, .inl (cI, 6, .inl f_4)), (r0 2, .inl (cI, 6, .inl f_5)), (r0 3, .inl (cI, 6, .inl f_6)), (r0 4, .inl (cJ, 4, .inr (.inl f_9))), (r0 5, .inl (cI, 4, .inl rk0)), (r0 6, .inl (cJ, 40, .inr (.inl f_11))), (r0 7, .inl (cI, 40, .inl f_12)), (r0 8, .inl (cI, 40, .inl f_14)), (r0 9, .inl (cI, 40, .inl f_15))]]) := hD
  rcases hw with ⟨rfl, c_17⟩ | ⟨rfl, c_18, c_19⟩ | ⟨rfl, c_20, c_21⟩
  · refine lv_if_eq (tgt := 75) hx hb dX7_addRod_4 (by decide) (fun c_22 => ?_) (fun c_22 => absurd c_22 (by decide))
    rw [hQ0]
    exact W.vret hx hb hr (fun t ht hW => ⟨⟨(), rfl, trivial, ⟨rk0, _, ⟨f_3, f_4, f_5, f_6, f_9, f_11, f_12, f_14, f_15, rfl, by omega, by omega, by omega, by omega, hr_10, hr_13⟩, by rw [ht]; exact hP, hD⟩⟩, hS.F ht⟩) hS.2.2 dX7_addRod_75
  · obtain ⟨y_23, fy_23⟩ : ∃ y : Int32, y = (rk0 ((dc0 - 1) : Int32).toNatClampNeg) := ⟨_, rfl⟩
    rw [← fy_23] at c_19
    refine lv_if_eq (tgt := 75) hx hb dX7_addRod_4 (by decide) (fun c_24 => ?_) (fun c_24 => absurd c_24 (by decide))
    rw [hQ0]
    exact W.vret hx hb hr (fun t ht hW => ⟨⟨(), rfl, trivial, ⟨rk0, _, ⟨f_3, f_4, f_5, f_6, f_9, f_11, f_12, f_14, f_15, rfl, by omega, by omega, by omega, by omega, hr_10, hr_13⟩, by rw [ht]; exact hP, hD⟩⟩, hS.F ht⟩) hS.2.2 dX7_addRod_75
  · obtain ⟨y_25, fy_25⟩ : ∃ y : Int32, y = (rk0 ((dc0 - 1) : Int32).toNatClampNeg) := ⟨_, rfl⟩
    rw [← fy_25] at c_21
    refine lv_if_eq (tgt := 75) hx hb dX7_addRod_4 (by decide) (fun c_26 => absurd c_26 (by decide)) (fun c_26 => ?_)
    refine lv_aload_n hx hb dX7_addRod_7 rfl (lv_at hl 0 rfl) ?_
    refine va_get (D := (dC, dI)) (ci := 5) (v := .int dc0) (C := RX7) (T := TX7) (N := 12) hx hb hts iw_X7_addRod_X7 hown hK hP 0 rfl rfl 5 (by decide) (hts (.fieldLink RX7 29 "HungFloors$Plan" "drawingCount" "I") (by decide +kernel)) (fun _ h9 => h9) rfl dX7_addRod_8 ?_
    refine lv_iconst (v := 1) hx hb dX7_addRod_11 (by decide) ?_
    refine lv_isub hx hb dX7_addRod_12 ?_
    refine lv_topi (fun z_27 ez_27 => ?_)
    have hz_27 : z_27.toInt = dc0.toInt - 1 := by rw [ez_27]; exact t_sub rfl tI_1 (by omega) (by omega)
    have fz_27 : z_27 = (dc0 - 1) := by rw [ez_27]
    refine lv_istore (lv' := [(6, .int z_27), (0, .ref h0), (1, .long q1), (3, .int p2), (4, .int p3), (5, .int p4)]) hx hb dX7_addRod_13 hl (by decide) rfl (fun ls hl => ?_)
    refine lv_iload hx hb dX7_addRod_15 (lv_at hl 0 rfl) ?_
    refine lv_bipush (v := 10) hx hb dX7_addRod_17 (by decide) ?_
    refine lv_imul hx hb dX7_addRod_19 ?_
    refine lv_topi (fun z_28 ez_28 => ?_)
    have hz_28 : z_28.toInt = z_27.toInt * 10 := by rw [ez_28]; exact t_mul rfl tI_10 (by omega) (by omega)
    have fz_28 : z_28 = ((dc0 - 1) * 10) := by rw [ez_28, fz_27]
    refine lv_aload_n hx hb dX7_addRod_20 rfl (lv_at hl 1 rfl) ?_
    refine va_get (D := (dC, dI)) (ci := 5) (v := .ref (r0 5)) (C := RX7) (T := TX7) (N := 12) hx hb hts iw_X7_addRod_X7 hown hK hP 0 rfl rfl 7 (by decide) (hts (.fieldLink RX7 35 "HungFloors$Plan" "rodCount" "[I") (by decide +kernel)) (fun _ h9 => h9) rfl dX7_addRod_21 ?_
    refine lv_iload hx hb dX7_addRod_24 (lv_at hl 0 rfl) ?_
    refine va_iald hx hb hK hP 6 1 rfl rfl (v_in rfl (by omega) (by omega)) dX7_addRod_26 ?_
    refine lv_topi (fun z_29 ez_29 => ?_)
    have gz_29 := rg_at hr_10 ez_29
    have g1z_29 := gz_29.1
    have g2z_29 := gz_29.2
    have fz_29 : z_29 = (rk0 ((dc0 - 1) : Int32).toNatClampNeg) := by rw [ez_29, fz_27]
    have qz_29 : z_29.toInt = y_25.toInt := by rw [fz_29, fy_25]
    refine lv_iadd hx hb dX7_addRod_27 ?_
    refine lv_topi (fun z_30 ez_30 => ?_)
    have hz_30 : z_30.toInt = z_28.toInt + z_29.toInt := by rw [ez_30]; exact t_add rfl rfl (by omega) (by omega)
    have fz_30 : z_30 = (((dc0 - 1) * 10) + (rk0 ((dc0 - 1) : Int32).toNatClampNeg)) := by rw [ez_30, fz_28, fz_29]
    refine lv_istore (lv' := [(7, .int z_30), (6, .int z_27), (0, .ref h0), (1, .long q1), (3, .int p2), (4, .int p3), (5, .int p4)]) hx hb dX7_addRod_28 hl (by decide) rfl (fun ls hl => ?_)
    refine lv_aload_n hx hb dX7_addRod_30 rfl (lv_at hl 2 rfl) ?_
    refine va_get (D := (dC, dI)) (ci := 5) (v := .ref (r0 6)) (C := RX7) (T := TX7) (N := 12) hx hb hts iw_X7_addRod_X7 hown hK hP 0 rfl rfl 8 (by decide) (hts (.fieldLink RX7 38 "HungFloors$Plan" "rodName" "[J") (by decide +kernel)) (fun _ h9 => h9) rfl dX7_addRod_31 ?_
    refine lv_iload hx hb dX7_addRod_34 (lv_at hl 0 rfl) ?_
    refine lv_lload_n hx hb dX7_addRod_36 rfl (lv_at hl 3 rfl) ?_
    refine va_last hx hb hK hP hD hS 7 2 rfl rfl (v_in rfl (by omega) (by omega)) dX7_addRod_37 (fun H locs hP hD hS => ?_)
    obtain ⟨f_31, hP, hD⟩ : ∃ f_31 : Nat → Int64, va_P (dC, dI) vwCl (List.flatten [[(h0, .inr (5, [.int fc0, .ref (r0 0), .ref (r0 1), .ref (r0 2), .ref (r0 3), .int dc0, .ref (r0 4), .ref (r0 5), .ref (r0 6), .ref (r0 7), .ref (r0 8), .ref (r0 9)])), (r0 0, .inl (cJ, 6, .inr (.inl f_3))), (r0 1, .inl (cI, 6, .inl f_4)), (r0 2, .inl (cI, 6, .inl f_5)), (r0 3, .inl (cI, 6, .inl f_6)), (r0 4, .inl (cJ, 4, .inr (.inl f_9))), (r0 5, .inl (cI, 4, .inl rk0)), (r0 6, .inl (cJ, 40, .inr (.inl f_31))), (r0 7, .inl (cI, 40, .inl f_12)), (r0 8, .inl (cI, 40, .inl f_14)), (r0 9, .inl (cI, 40, .inl f_15))]]) H ∧ va_D A (List.flatten [[(h0, .inr (5, [.int fc0, .ref (r0 0), .ref (r0 1), .ref (r0 2), .ref (r0 3), .int dc0, .ref (r0 4), .ref (r0 5), .ref (r0 6), .ref (r0 7), .ref (r0 8), .ref (r0 9)])), (r0 0, .inl (cJ, 6, .inr (.inl f_3))), (r0 1, .inl (cI, 6, .inl f_4)), (r0 2, .inl (cI, 6, .inl f_5)), (r0 3, .inl (cI, 6, .inl f_6)), (r0 4, .inl (cJ, 4, .inr (.inl f_9))), (r0 5, .inl (cI, 4, .inl rk0)), (r0 6, .inl (cJ, 40, .inr (.inl f_31))), (r0 7, .inl (cI, 40, .inl f_12)), (r0 8, .inl (cI, 40, .inl f_14)), (r0 9, .inl (cI, 40, .inl f_15))]]) := ⟨_, hP, hD⟩
    refine lv_aload_n hx hb dX7_addRod_38 rfl (lv_at hl 2 rfl) ?_
    refine va_get (D := (dC, dI)) (ci := 5) (v := .ref (r0 7)) (C := RX7) (T := TX7) (N := 12) hx hb hts iw_X7_addRod_X7 hown hK hP 0 rfl rfl 9 (by decide) (hts (.fieldLink RX7 41 "HungFloors$Plan" "rodFrom" "[I") (by decide +kernel)) (fun _ h9 => h9) rfl dX7_addRod_39 ?_
    refine lv_iload hx hb dX7_addRod_42 (lv_at hl 0 rfl) ?_
    refine lv_iload_n hx hb dX7_addRod_44 rfl (lv_at hl 4 rfl) ?_
    refine va_iast hx hb hK hP hD hS 8 1 rfl rfl (v_in rfl (by omega) (by omega)) dX7_addRod_45 (fun H locs hP hD hS => ?_)
    obtain ⟨f_32, hr_33, hP, hD⟩ : ∃ f_32 : Nat → Int32, rg (-1) 5 f_32 ∧ va_P (dC, dI) vwCl (List.flatten [[(h0, .inr (5, [.int fc0, .ref (r0 0), .ref (r0 1), .ref (r0 2), .ref (r0 3), .int dc0, .ref (r0 4), .ref (r0 5), .ref (r0 6), .ref (r0 7), .ref (r0 8), .ref (r0 9)])), (r0 0, .inl (cJ, 6, .inr (.inl f_3))), (r0 1, .inl (cI, 6, .inl f_4)), (r0 2, .inl (cI, 6, .inl f_5)), (r0 3, .inl (cI, 6, .inl f_6)), (r0 4, .inl (cJ, 4, .inr (.inl f_9))), (r0 5, .inl (cI, 4, .inl rk0)), (r0 6, .inl (cJ, 40, .inr (.inl f_31))), (r0 7, .inl (cI, 40, .inl f_32)), (r0 8, .inl (cI, 40, .inl f_14)), (r0 9, .inl (cI, 40, .inl f_15))]]) H ∧ va_D A (List.flatten [[(h0, .inr (5, [.int fc0, .ref (r0 0), .ref (r0 1), .ref (r0 2), .ref (r0 3), .int dc0, .ref (r0 4), .ref (r0 5), .ref (r0 6), .ref (r0 7), .ref (r0 8), .ref (r0 9)])), (r0 0, .inl (cJ, 6, .inr (.inl f_3))), (r0 1, .inl (cI, 6, .inl f_4)), (r0 2, .inl (cI, 6, .inl f_5)), (r0 3, .inl (cI, 6, .inl f_6)), (r0 4, .inl (cJ, 4, .inr (.inl f_9))), (r0 5, .inl (cI, 4, .inl rk0)), (r0 6, .inl (cJ, 40, .inr (.inl f_31))), (r0 7, .inl (cI, 40, .inl f_32)), (r0 8, .inl (cI, 40, .inl f_14)), (r0 9, .inl (cI, 40, .inl f_15))]]) := ⟨_, rg_upd hr_13 (by omega) (by omega), hP, hD⟩
    refine lv_aload_n hx hb dX7_addRod_46 rfl (lv_at hl 2 rfl) ?_
    refine va_get (D := (dC, dI)) (ci := 5) (v := .ref (r0 8)) (C := RX7) (T := TX7) (N := 12) hx hb hts iw_X7_addRod_X7 hown hK hP 0 rfl rfl 10 (by decide) (hts (.fieldLink RX7 44 "HungFloors$Plan" "rodHolds" "[I") (by decide +kernel)) (fun _ h9 => h9) rfl dX7_addRod_47 ?_
    refine lv_iload hx hb dX7_addRod_50 (lv_at hl 0 rfl) ?_
    refine lv_iload hx hb dX7_addRod_52 (lv_at hl 5 rfl) ?_
    refine va_iast hx hb hK hP hD hS 9 1 rfl rfl (v_in rfl (by omega) (by omega)) dX7_addRod_54 (fun H locs hP hD hS => ?_)
    obtain ⟨f_34, hP, hD⟩ : ∃ f_34 : Nat → Int32, va_P (dC, dI) vwCl (List.flatten [[(h0, .inr (5, [.int fc0, .ref (r0 0), .ref (r0 1), .ref (r0 2), .ref (r0 3), .int dc0, .ref (r0 4), .ref (r0 5), .ref (r0 6), .ref (r0 7), .ref (r0 8), .ref (r0 9)])), (r0 0, .inl (cJ, 6, .inr (.inl f_3))), (r0 1, .inl (cI, 6, .inl f_4)), (r0 2, .inl (cI, 6, .inl f_5)), (r0 3, .inl (cI, 6, .inl f_6)), (r0 4, .inl (cJ, 4, .inr (.inl f_9))), (r0 5, .inl (cI, 4, .inl rk0)), (r0 6, .inl (cJ, 40, .inr (.inl f_31))), (r0 7, .inl (cI, 40, .inl f_32)), (r0 8, .inl (cI, 40, .inl f_34)), (r0 9, .inl (cI, 40, .inl f_15))]]) H ∧ va_D A (List.flatten [[(h0, .inr (5, [.int fc0, .ref (r0 0), .ref (r0 1), .ref (r0 2), .ref (r0 3), .int dc0, .ref (r0 4), .ref (r0 5), .ref (r0 6), .ref (r0 7), .ref (r0 8), .ref (r0 9)])), (r0 0, .inl (cJ, 6, .inr (.inl f_3))), (r0 1, .inl (cI, 6, .inl f_4)), (r0 2, .inl (cI, 6, .inl f_5)), (r0 3, .inl (cI, 6, .inl f_6)), (r0 4, .inl (cJ, 4, .inr (.inl f_9))), (r0 5, .inl (cI, 4, .inl rk0)), (r0 6, .inl (cJ, 40, .inr (.inl f_31))), (r0 7, .inl (cI, 40, .inl f_32)), (r0 8, .inl (cI, 40, .inl f_34)), (r0 9, .inl (cI, 40, .inl f_15))]]) := ⟨_, hP, hD⟩
    refine lv_aload_n hx hb dX7_addRod_55 rfl (lv_at hl 2 rfl) ?_
    refine va_get (D := (dC, dI)) (ci := 5) (v := .ref (r0 9)) (C := RX7) (T := TX7) (N := 12) hx hb hts iw_X7_addRod_X7 hown hK hP 0 rfl rfl 11 (by decide) (hts (.fieldLink RX7 47 "HungFloors$Plan" "rodCan" "[I") (by decide +kernel)) (fun _ h9 => h9) rfl dX7_addRod_56 ?_
    refine lv_iload hx hb dX7_addRod_59 (lv_at hl 0 rfl) ?_
    refine lv_iload hx hb dX7_addRod_61 (lv_at hl 6 rfl) ?_
    refine va_iast hx hb hK hP hD hS 10 1 rfl rfl (v_in rfl (by omega) (by omega)) dX7_addRod_63 (fun H locs hP hD hS => ?_)
    obtain ⟨f_35, hP, hD⟩ : ∃ f_35 : Nat → Int32, va_P (dC, dI) vwCl (List.flatten [[(h0, .inr (5, [.int fc0, .ref (r0 0), .ref (r0 1), .ref (r0 2), .ref (r0 3), .int dc0, .ref (r0 4), .ref (r0 5), .ref (r0 6), .ref (r0 7), .ref (r0 8), .ref (r0 9)])), (r0 0, .inl (cJ, 6, .inr (.inl f_3))), (r0 1, .inl (cI, 6, .inl f_4)), (r0 2, .inl (cI, 6, .inl f_5)), (r0 3, .inl (cI, 6, .inl f_6)), (r0 4, .inl (cJ, 4, .inr (.inl f_9))), (r0 5, .inl (cI, 4, .inl rk0)), (r0 6, .inl (cJ, 40, .inr (.inl f_31))), (r0 7, .inl (cI, 40, .inl f_32)), (r0 8, .inl (cI, 40, .inl f_34)), (r0 9, .inl (cI, 40, .inl f_35))]]) H ∧ va_D A (List.flatten [[(h0, .inr (5, [.int fc0, .ref (r0 0), .ref (r0 1), .ref (r0 2), .ref (r0 3), .int dc0, .ref (r0 4), .ref (r0 5), .ref (r0 6), .ref (r0 7), .ref (r0 8), .ref (r0 9)])), (r0 0, .inl (cJ, 6, .inr (.inl f_3))), (r0 1, .inl (cI, 6, .inl f_4)), (r0 2, .inl (cI, 6, .inl f_5)), (r0 3, .inl (cI, 6, .inl f_6)), (r0 4, .inl (cJ, 4, .inr (.inl f_9))), (r0 5, .inl (cI, 4, .inl rk0)), (r0 6, .inl (cJ, 40, .inr (.inl f_31))), (r0 7, .inl (cI, 40, .inl f_32)), (r0 8, .inl (cI, 40, .inl f_34)), (r0 9, .inl (cI, 40, .inl f_35))]]) := ⟨_, hP, hD⟩
    refine lv_aload_n hx hb dX7_addRod_64 rfl (lv_at hl 2 rfl) ?_
    refine va_get (D := (dC, dI)) (ci := 5) (v := .ref (r0 5)) (C := RX7) (T := TX7) (N := 12) hx hb hts iw_X7_addRod_X7 hown hK hP 0 rfl rfl 7 (by decide) (hts (.fieldLink RX7 35 "HungFloors$Plan" "rodCount" "[I") (by decide +kernel)) (fun _ h9 => h9) rfl dX7_addRod_65 ?_
    refine lv_iload hx hb dX7_addRod_68 (lv_at hl 1 rfl) ?_
    refine lv_dup2_11 hx hb dX7_addRod_70 rfl rfl ?_
    refine va_iald hx hb hK hP 6 1 rfl rfl (v_in rfl (by omega) (by omega)) dX7_addRod_71 ?_
    refine lv_topi (fun z_36 ez_36 => ?_)
    have gz_36 := rg_at hr_10 ez_36
    have g1z_36 := gz_36.1
    have g2z_36 := gz_36.2
    have fz_36 : z_36 = (rk0 ((dc0 - 1) : Int32).toNatClampNeg) := by rw [ez_36, fz_27]
    have qz_36 : z_36.toInt = y_25.toInt := by rw [fz_36, fy_25]
    refine lv_iconst (v := 1) hx hb dX7_addRod_72 (by decide) ?_
    refine lv_iadd hx hb dX7_addRod_73 ?_
    refine lv_topi (fun z_37 ez_37 => ?_)
    have hz_37 : z_37.toInt = z_36.toInt + 1 := by rw [ez_37]; exact t_add rfl tI_1 (by omega) (by omega)
    have fz_37 : z_37 = ((rk0 ((dc0 - 1) : Int32).toNatClampNeg) + 1) := by rw [ez_37, fz_36]
    refine va_iast hx hb hK hP hD hS 6 1 rfl rfl (v_in rfl (by omega) (by omega)) dX7_addRod_74 (fun H locs hP hD hS => ?_)
    obtain ⟨f_38, hr_39, hP, hD⟩ : ∃ f_38 : Nat → Int32, rg (0) 10 f_38 ∧ va_P (dC, dI) vwCl (List.flatten [[(h0, .inr (5, [.int fc0, .ref (r0 0), .ref (r0 1), .ref (r0 2), .ref (r0 3), .int dc0, .ref (r0 4), .ref (r0 5), .ref (r0 6), .ref (r0 7), .ref (r0 8), .ref (r0 9)])), (r0 0, .inl (cJ, 6, .inr (.inl f_3))), (r0 1, .inl (cI, 6, .inl f_4)), (r0 2, .inl (cI, 6, .inl f_5)), (r0 3, .inl (cI, 6, .inl f_6)), (r0 4, .inl (cJ, 4, .inr (.inl f_9))), (r0 5, .inl (cI, 4, .inl f_38)), (r0 6, .inl (cJ, 40, .inr (.inl f_31))), (r0 7, .inl (cI, 40, .inl f_32)), (r0 8, .inl (cI, 40, .inl f_34)), (r0 9, .inl (cI, 40, .inl f_35))]]) H ∧ va_D A (List.flatten [[(h0, .inr (5, [.int fc0, .ref (r0 0), .ref (r0 1), .ref (r0 2), .ref (r0 3), .int dc0, .ref (r0 4), .ref (r0 5), .ref (r0 6), .ref (r0 7), .ref (r0 8), .ref (r0 9)])), (r0 0, .inl (cJ, 6, .inr (.inl f_3))), (r0 1, .inl (cI, 6, .inl f_4)), (r0 2, .inl (cI, 6, .inl f_5)), (r0 3, .inl (cI, 6, .inl f_6)), (r0 4, .inl (cJ, 4, .inr (.inl f_9))), (r0 5, .inl (cI, 4, .inl f_38)), (r0 6, .inl (cJ, 40, .inr (.inl f_31))), (r0 7, .inl (cI, 40, .inl f_32)), (r0 8, .inl (cI, 40, .inl f_34)), (r0 9, .inl (cI, 40, .inl f_35))]]) := ⟨_, rg_upd hr_10 (by omega) (by omega), hP, hD⟩
    rw [hQ0]
    exact W.vret hx hb hr (fun t ht hW => ⟨⟨(), rfl, trivial, ⟨f_38, _, ⟨f_3, f_4, f_5, f_6, f_9, f_31, f_32, f_34, f_35, rfl, by omega, by omega, by omega, by omega, hr_39, hr_33⟩, by rw [ht]; exact hP, hD⟩⟩, hS.F ht⟩) hS.2.2 dX7_addRod_75
theorem iw_X9_takeLetters_X9 : ∀ w ∈ wsX90, w ∈ wsX9_takeLetters := fun _ h => List.mem_cons_of_mem _ (List.mem_append_right _ h)
set_option maxHeartbeats 4000000 in
set_option maxRecDepth 100000 in
theorem c_X9_takeLetters (l : Launch) (dC : Nat → ClassId) (dI : Nat → Nat → Nat) (ad : Nat → Nat) (tN : Nat) (fN : Nat → Int64) (cB cI cJ cZ : ClassId) (h0 : Nat) (r0 : Nat → Nat) (tx0 : Nat) (w0 : va_W) (f1 : Nat → Int32) (o0 : ok_tok ad cB cI cJ cZ h0 r0 tx0 w0) (sz : Nat) : Met l yX9_takeLetters wsX9_takeLetters ({ frames := 0, cells := 0, slots := 0, locals := 0 } : Room) (va_Pc [.ref h0] (fun U => U.heap.size = sz ∧ va_P (dC, dI) vwCl (List.flatten [w0, [(tx0, .inl (cB, 1600, .inl f1))]]) U.heap ∧ va_K (dC, dI) vwCl [(cB, .byte), (cI, .int), (cJ, .long), (cZ, .boolean)] U ∧ va_D (fun _ => True) (List.flatten [w0, [(tx0, .inl (cB, 1600, .inl f1))]]) ∧ ex_Y ad tN fN (va_A (List.flatten [w0, [(tx0, .inl (cB, 1600, .inl f1))]]) sz) U)) (va_Qv (fun _ : Unit => True) (fun (_ : Unit) (t : State) => ∃ (w09 : va_W), ok_tok ad cB cI cJ cZ h0 r0 tx0 w09 ∧ va_P (dC, dI) vwCl (List.flatten [w09, [(tx0, .inl (cB, 1600, .inl f1))]]) t.heap ∧ va_D (va_A (List.flatten [w0, [(tx0, .inl (cB, 1600, .inl f1))]]) sz) (List.flatten [w09, [(tx0, .inl (cB, 1600, .inl f1))]])) (va_A (List.flatten [w0, [(tx0, .inl (cB, 1600, .inl f1))]]) sz)) 0 0 (va_A (List.flatten [w0, [(tx0, .inl (cB, 1600, .inl f1))]]) sz) := by
  refine Met.ofW (cc := cX9_takeLetters) (maxL := 1) (ret := none) (by decide) rfl ?_
  intro p e s m args below meth c s₁ B hml hv
  obtain ⟨rfl, hsz, hP, hK, hD0, hE⟩ := hv
  have hx := B.exec
  have hb := B.bytes
  have hr := B.returns
  have hts := atoms_spec (ws := wsX9_takeLetters) B.pre
  have hown : s.vm.findClass RX9 = some m.cls := findClass_of_methodNamed B.named
  have hlocks := B.notSynchronized
  subst hsz
  have hD := hD0.self (sz := s.heap.size)
  generalize hAe : va_A (List.flatten [w0, [(tx0, .inl (cB, 1600, .inl f1))]]) s.heap.size = A at hD hE ⊢
  have hA : ∀ q : Nat, s.heap.size ≤ q → A q := fun q h => by rw [← hAe]; exact Or.inr h
  have hS : va_S A s.heap s.heap [] := va_S.rf
  have hl := lv_entry ([.ref h0]) (n := 1) (Nat.le_of_ble_eq_true rfl)
  rw [lg_entry_eq]
  generalize (lg_sl ([.ref h0]) ++ List.replicate (1 - (lg_sl ([.ref h0])).length) Slot.unset).toArray = ls at hl ⊢
  have hl : lv_has ls 1 [(0, .ref h0)] := hl
  clear hAe
  refine W_name (fun Q0 hQ0 => ?_)
  refine lv_aload_n hx hb dX9_takeLetters_0 rfl (lv_at hl 0 rfl) ?_
  refine lv_lconst (v := 0) hx hb dX9_takeLetters_1 (by decide) ?_
  obtain ⟨ln_1, ap_4, kd_7, sa_8, wd_9, nu_10, rfl, hl_2, hh_3, hl_5, hh_6⟩ := o0
  refine va_put (D := (dC, dI)) (ci := 7) (v := .long 0) (ty := .long) (C := RX9) (T := TX9) (N := 7) hx hb hts iw_X9_takeLetters_X9 tyX9 tyX9_ok nmX9 hown hK hP hD hS 0 rfl rfl 5 (by decide) (hts (.fieldLink RX9 32 "HungFloors$Tokens" "word" "J") (by decide +kernel)) (fun _ h9 => h9) rfl (by decide +kernel) rfl rfl (Nat.le_of_ble_eq_true rfl) dX9_takeLetters_2 (fun H locs hP hD hS => ?_)
  have hP : va_P (dC, dI) vwCl (List.flatten [[(h0, .inr (7, [.ref tx0, .int ln_1, .int ap_4, .ref (ad kd_7), .int sa_8, .long 0, .int nu_10]))], [(tx0, .inl (cB, 1600, .inl f1))]]) H := hP
  have hD : va_D A (List.flatten [[(h0, .inr (7, [.ref tx0, .int ln_1, .int ap_4, .ref (ad kd_7), .int sa_8, .long 0, .int nu_10]))], [(tx0, .inl (cB, 1600, .inl f1))]]) := hD
  have lp_112 : ∀ (n : Nat) (g_27 : Int32) (g_28 : Int64), 0 ≤ g_27.toInt → g_27.toInt ≤ 1600 → ap_4.toInt - g_27.toInt ≤ 0 → (1600 - g_27.toInt).toNat < n → ∀ (H : Heap) (locs : List Loc), va_P (dC, dI) vwCl (List.flatten [[(h0, .inr (7, [.ref tx0, .int ln_1, .int g_27, .ref (ad kd_7), .int sa_8, .long g_28, .int nu_10]))], [(tx0, .inl (cB, 1600, .inl f1))]]) H → va_D A (List.flatten [[(h0, .inr (7, [.ref tx0, .int ln_1, .int g_27, .ref (ad kd_7), .int sa_8, .long g_28, .int nu_10]))], [(tx0, .inl (cB, 1600, .inl f1))]]) → va_S A s.heap H locs → ∀ (ls : Array Slot), lv_has ls 1 [(0, .ref h0)] → W p l e (headSpec wsX9_takeLetters ({ frames := 0, cells := 0, slots := 0, locals := 0 } : Room)).room s m ([.ref h0] : List Value).toArray below meth c H locs 0 0 Q0 (F0 m 5 ls []) := by
    intro n
    induction n with
    | zero => intro g_27 g_28 iv_109 iv_110 iv_111 hm; exact absurd hm (Nat.not_lt_zero _)
    | succ n ih_113 =>
      intro g_27 g_28 iv_109 iv_110 iv_111 hm H locs hP hD hS ls hl
      refine lv_aload_n hx hb dX9_takeLetters_5 rfl (lv_at hl 0 rfl) ?_
      refine va_get (D := (dC, dI)) (ci := 7) (v := .int g_27) (C := RX9) (T := TX9) (N := 7) hx hb hts iw_X9_takeLetters_X9 hown hK hP 0 rfl rfl 2 (by decide) (hts (.fieldLink RX9 17 "HungFloors$Tokens" "at" "I") (by decide +kernel)) (fun _ h9 => h9) rfl dX9_takeLetters_6 ?_
      refine lv_aload_n hx hb dX9_takeLetters_9 rfl (lv_at hl 0 rfl) ?_
      refine va_get (D := (dC, dI)) (ci := 7) (v := .int ln_1) (C := RX9) (T := TX9) (N := 7) hx hb hts iw_X9_takeLetters_X9 hown hK hP 0 rfl rfl 1 (by decide) (hts (.fieldLink RX9 13 "HungFloors$Tokens" "length" "I") (by decide +kernel)) (fun _ h9 => h9) rfl dX9_takeLetters_10 ?_
      refine lv_icmp_ge (tgt := 79) hx hb dX9_takeLetters_13 (by decide) (fun c_114 => ?_) (fun c_114 => ?_)
      · have c_114 : ln_1.toInt ≤ g_27.toInt := f_le rfl rfl c_114
        refine lv_aload_n hx hb dX9_takeLetters_79 rfl (lv_at hl 0 rfl) ?_
        refine lv_aload_n hx hb dX9_takeLetters_80 rfl (lv_at hl 0 rfl) ?_
        refine va_get (D := (dC, dI)) (ci := 7) (v := .int g_27) (C := RX9) (T := TX9) (N := 7) hx hb hts iw_X9_takeLetters_X9 hown hK hP 0 rfl rfl 2 (by decide) (hts (.fieldLink RX9 17 "HungFloors$Tokens" "at" "I") (by decide +kernel)) (fun _ h9 => h9) rfl dX9_takeLetters_81 ?_
        refine lv_aload_n hx hb dX9_takeLetters_84 rfl (lv_at hl 0 rfl) ?_
        refine va_get (D := (dC, dI)) (ci := 7) (v := .int sa_8) (C := RX9) (T := TX9) (N := 7) hx hb hts iw_X9_takeLetters_X9 hown hK hP 0 rfl rfl 4 (by decide) (hts (.fieldLink RX9 29 "HungFloors$Tokens" "start" "I") (by decide +kernel)) (fun _ h9 => h9) rfl dX9_takeLetters_85 ?_
        refine lv_isub hx hb dX9_takeLetters_88 ?_
        refine lv_topi (fun z_115 ez_115 => ?_)
        refine lv_bipush (v := 8) hx hb dX9_takeLetters_89 (by decide) ?_
        refine lv_icmp_gt (tgt := 100) hx hb dX9_takeLetters_91 (by decide) (fun c_116 => ?_) (fun c_116 => ?_)
        · have c_116 : 8 < z_115.toInt := f_lt tI_8 rfl c_116
          refine va_gets hx hb (hE.2.1.1 4 (by decide)).1 hS hown (hts (.fieldLink RX9 57 "HungFloors$Kind" "NOTHING" "LHungFloors$Kind;") (by decide +kernel)) (fun _ h9 => h9) dX9_takeLetters_100 ?_
          refine va_put (D := (dC, dI)) (ci := 7) (v := .ref (ad 4)) (ty := .object "HungFloors$Kind") (C := RX9) (T := TX9) (N := 7) hx hb hts iw_X9_takeLetters_X9 tyX9 tyX9_ok nmX9 hown hK hP hD hS 0 rfl rfl 3 (by decide) (hts (.fieldLink RX9 26 "HungFloors$Tokens" "kind" "LHungFloors$Kind;") (by decide +kernel)) (fun _ h9 => h9) rfl (by decide +kernel) rfl rfl (Nat.le_of_ble_eq_true rfl) dX9_takeLetters_103 (fun H locs hP hD hS => ?_)
          have hP : va_P (dC, dI) vwCl (List.flatten [[(h0, .inr (7, [.ref tx0, .int ln_1, .int g_27, .ref (ad 4), .int sa_8, .long g_28, .int nu_10]))], [(tx0, .inl (cB, 1600, .inl f1))]]) H := hP
          have hD : va_D A (List.flatten [[(h0, .inr (7, [.ref tx0, .int ln_1, .int g_27, .ref (ad 4), .int sa_8, .long g_28, .int nu_10]))], [(tx0, .inl (cB, 1600, .inl f1))]]) := hD
          rw [hQ0]
          exact W.vret hx hb hr (fun t ht hW => ⟨⟨(), rfl, trivial, ⟨_, ⟨ln_1, g_27, 4, sa_8, g_28, nu_10, rfl, by omega, by omega, by omega, by omega⟩, by rw [ht]; exact hP, hD⟩⟩, hS.F ht⟩) hS.2.2 dX9_takeLetters_106
        · have c_116 : z_115.toInt ≤ 8 := f_nlt tI_8 rfl c_116
          refine va_gets hx hb (hE.2.1.1 0 (by decide)).1 hS hown (hts (.fieldLink RX9 60 "HungFloors$Kind" "WORD" "LHungFloors$Kind;") (by decide +kernel)) (fun _ h9 => h9) dX9_takeLetters_94 ?_
          refine lv_goto (tgt := 103) hx hb dX9_takeLetters_97 (by decide) ?_
          refine va_put (D := (dC, dI)) (ci := 7) (v := .ref (ad 0)) (ty := .object "HungFloors$Kind") (C := RX9) (T := TX9) (N := 7) hx hb hts iw_X9_takeLetters_X9 tyX9 tyX9_ok nmX9 hown hK hP hD hS 0 rfl rfl 3 (by decide) (hts (.fieldLink RX9 26 "HungFloors$Tokens" "kind" "LHungFloors$Kind;") (by decide +kernel)) (fun _ h9 => h9) rfl (by decide +kernel) rfl rfl (Nat.le_of_ble_eq_true rfl) dX9_takeLetters_103 (fun H locs hP hD hS => ?_)
          have hP : va_P (dC, dI) vwCl (List.flatten [[(h0, .inr (7, [.ref tx0, .int ln_1, .int g_27, .ref (ad 0), .int sa_8, .long g_28, .int nu_10]))], [(tx0, .inl (cB, 1600, .inl f1))]]) H := hP
          have hD : va_D A (List.flatten [[(h0, .inr (7, [.ref tx0, .int ln_1, .int g_27, .ref (ad 0), .int sa_8, .long g_28, .int nu_10]))], [(tx0, .inl (cB, 1600, .inl f1))]]) := hD
          rw [hQ0]
          exact W.vret hx hb hr (fun t ht hW => ⟨⟨(), rfl, trivial, ⟨_, ⟨ln_1, g_27, 0, sa_8, g_28, nu_10, rfl, by omega, by omega, by omega, by omega⟩, by rw [ht]; exact hP, hD⟩⟩, hS.F ht⟩) hS.2.2 dX9_takeLetters_106
      · have c_114 : g_27.toInt < ln_1.toInt := f_nle rfl rfl c_114
        refine lv_aload_n hx hb dX9_takeLetters_16 rfl (lv_at hl 0 rfl) ?_
        refine va_get (D := (dC, dI)) (ci := 7) (v := .ref tx0) (C := RX9) (T := TX9) (N := 7) hx hb hts iw_X9_takeLetters_X9 hown hK hP 0 rfl rfl 0 (by decide) (hts (.fieldLink RX9 7 "HungFloors$Tokens" "text" "[B") (by decide +kernel)) (fun _ h9 => h9) rfl dX9_takeLetters_17 ?_
        refine lv_aload_n hx hb dX9_takeLetters_20 rfl (lv_at hl 0 rfl) ?_
        refine va_get (D := (dC, dI)) (ci := 7) (v := .int g_27) (C := RX9) (T := TX9) (N := 7) hx hb hts iw_X9_takeLetters_X9 hown hK hP 0 rfl rfl 2 (by decide) (hts (.fieldLink RX9 17 "HungFloors$Tokens" "at" "I") (by decide +kernel)) (fun _ h9 => h9) rfl dX9_takeLetters_21 ?_
        refine va_bald hx hb hK hP 1 0 rfl rfl (v_in rfl (by omega) (by omega)) dX9_takeLetters_24 ?_
        refine lv_topi (fun z_117 ez_117 => ?_)
        refine lv_bipush (v := 97) hx hb dX9_takeLetters_25 (by decide) ?_
        refine lv_icmp_lt (tgt := 79) hx hb dX9_takeLetters_27 (by decide) (fun c_118 => ?_) (fun c_118 => ?_)
        · have c_118 : z_117.toInt < 97 := f_lt rfl tI_97 c_118
          refine lv_aload_n hx hb dX9_takeLetters_79 rfl (lv_at hl 0 rfl) ?_
          refine lv_aload_n hx hb dX9_takeLetters_80 rfl (lv_at hl 0 rfl) ?_
          refine va_get (D := (dC, dI)) (ci := 7) (v := .int g_27) (C := RX9) (T := TX9) (N := 7) hx hb hts iw_X9_takeLetters_X9 hown hK hP 0 rfl rfl 2 (by decide) (hts (.fieldLink RX9 17 "HungFloors$Tokens" "at" "I") (by decide +kernel)) (fun _ h9 => h9) rfl dX9_takeLetters_81 ?_
          refine lv_aload_n hx hb dX9_takeLetters_84 rfl (lv_at hl 0 rfl) ?_
          refine va_get (D := (dC, dI)) (ci := 7) (v := .int sa_8) (C := RX9) (T := TX9) (N := 7) hx hb hts iw_X9_takeLetters_X9 hown hK hP 0 rfl rfl 4 (by decide) (hts (.fieldLink RX9 29 "HungFloors$Tokens" "start" "I") (by decide +kernel)) (fun _ h9 => h9) rfl dX9_takeLetters_85 ?_
          refine lv_isub hx hb dX9_takeLetters_88 ?_
          refine lv_topi (fun z_119 ez_119 => ?_)
          refine lv_bipush (v := 8) hx hb dX9_takeLetters_89 (by decide) ?_
          refine lv_icmp_gt (tgt := 100) hx hb dX9_takeLetters_91 (by decide) (fun c_120 => ?_) (fun c_120 => ?_)
          · have c_120 : 8 < z_119.toInt := f_lt tI_8 rfl c_120
            refine va_gets hx hb (hE.2.1.1 4 (by decide)).1 hS hown (hts (.fieldLink RX9 57 "HungFloors$Kind" "NOTHING" "LHungFloors$Kind;") (by decide +kernel)) (fun _ h9 => h9) dX9_takeLetters_100 ?_
            refine va_put (D := (dC, dI)) (ci := 7) (v := .ref (ad 4)) (ty := .object "HungFloors$Kind") (C := RX9) (T := TX9) (N := 7) hx hb hts iw_X9_takeLetters_X9 tyX9 tyX9_ok nmX9 hown hK hP hD hS 0 rfl rfl 3 (by decide) (hts (.fieldLink RX9 26 "HungFloors$Tokens" "kind" "LHungFloors$Kind;") (by decide +kernel)) (fun _ h9 => h9) rfl (by decide +kernel) rfl rfl (Nat.le_of_ble_eq_true rfl) dX9_takeLetters_103 (fun H locs hP hD hS => ?_)
            have hP : va_P (dC, dI) vwCl (List.flatten [[(h0, .inr (7, [.ref tx0, .int ln_1, .int g_27, .ref (ad 4), .int sa_8, .long g_28, .int nu_10]))], [(tx0, .inl (cB, 1600, .inl f1))]]) H := hP
            have hD : va_D A (List.flatten [[(h0, .inr (7, [.ref tx0, .int ln_1, .int g_27, .ref (ad 4), .int sa_8, .long g_28, .int nu_10]))], [(tx0, .inl (cB, 1600, .inl f1))]]) := hD
            rw [hQ0]
            exact W.vret hx hb hr (fun t ht hW => ⟨⟨(), rfl, trivial, ⟨_, ⟨ln_1, g_27, 4, sa_8, g_28, nu_10, rfl, by omega, by omega, by omega, by omega⟩, by rw [ht]; exact hP, hD⟩⟩, hS.F ht⟩) hS.2.2 dX9_takeLetters_106
          · have c_120 : z_119.toInt ≤ 8 := f_nlt tI_8 rfl c_120
            refine va_gets hx hb (hE.2.1.1 0 (by decide)).1 hS hown (hts (.fieldLink RX9 60 "HungFloors$Kind" "WORD" "LHungFloors$Kind;") (by decide +kernel)) (fun _ h9 => h9) dX9_takeLetters_94 ?_
            refine lv_goto (tgt := 103) hx hb dX9_takeLetters_97 (by decide) ?_
            refine va_put (D := (dC, dI)) (ci := 7) (v := .ref (ad 0)) (ty := .object "HungFloors$Kind") (C := RX9) (T := TX9) (N := 7) hx hb hts iw_X9_takeLetters_X9 tyX9 tyX9_ok nmX9 hown hK hP hD hS 0 rfl rfl 3 (by decide) (hts (.fieldLink RX9 26 "HungFloors$Tokens" "kind" "LHungFloors$Kind;") (by decide +kernel)) (fun _ h9 => h9) rfl (by decide +kernel) rfl rfl (Nat.le_of_ble_eq_true rfl) dX9_takeLetters_103 (fun H locs hP hD hS => ?_)
            have hP : va_P (dC, dI) vwCl (List.flatten [[(h0, .inr (7, [.ref tx0, .int ln_1, .int g_27, .ref (ad 0), .int sa_8, .long g_28, .int nu_10]))], [(tx0, .inl (cB, 1600, .inl f1))]]) H := hP
            have hD : va_D A (List.flatten [[(h0, .inr (7, [.ref tx0, .int ln_1, .int g_27, .ref (ad 0), .int sa_8, .long g_28, .int nu_10]))], [(tx0, .inl (cB, 1600, .inl f1))]]) := hD
            rw [hQ0]
            exact W.vret hx hb hr (fun t ht hW => ⟨⟨(), rfl, trivial, ⟨_, ⟨ln_1, g_27, 0, sa_8, g_28, nu_10, rfl, by omega, by omega, by omega, by omega⟩, by rw [ht]; exact hP, hD⟩⟩, hS.F ht⟩) hS.2.2 dX9_takeLetters_106
        · have c_118 : 97 ≤ z_117.toInt := f_nlt rfl tI_97 c_118
          refine lv_aload_n hx hb dX9_takeLetters_30 rfl (lv_at hl 0 rfl) ?_
          refine va_get (D := (dC, dI)) (ci := 7) (v := .ref tx0) (C := RX9) (T := TX9) (N := 7) hx hb hts iw_X9_takeLetters_X9 hown hK hP 0 rfl rfl 0 (by decide) (hts (.fieldLink RX9 7 "HungFloors$Tokens" "text" "[B") (by decide +kernel)) (fun _ h9 => h9) rfl dX9_takeLetters_31 ?_
          refine lv_aload_n hx hb dX9_takeLetters_34 rfl (lv_at hl 0 rfl) ?_
          refine va_get (D := (dC, dI)) (ci := 7) (v := .int g_27) (C := RX9) (T := TX9) (N := 7) hx hb hts iw_X9_takeLetters_X9 hown hK hP 0 rfl rfl 2 (by decide) (hts (.fieldLink RX9 17 "HungFloors$Tokens" "at" "I") (by decide +kernel)) (fun _ h9 => h9) rfl dX9_takeLetters_35 ?_
          refine va_bald hx hb hK hP 1 0 rfl rfl (v_in rfl (by omega) (by omega)) dX9_takeLetters_38 ?_
          refine lv_topi (fun z_121 ez_121 => ?_)
          have qz_121 : z_121.toInt = z_117.toInt := by rw [ez_121, ez_117]
          refine lv_bipush (v := 122) hx hb dX9_takeLetters_39 (by decide) ?_
          refine lv_icmp_gt (tgt := 79) hx hb dX9_takeLetters_41 (by decide) (fun c_122 => ?_) (fun c_122 => ?_)
          · have c_122 : 122 < z_121.toInt := f_lt tI_122 rfl c_122
            refine lv_aload_n hx hb dX9_takeLetters_79 rfl (lv_at hl 0 rfl) ?_
            refine lv_aload_n hx hb dX9_takeLetters_80 rfl (lv_at hl 0 rfl) ?_
            refine va_get (D := (dC, dI)) (ci := 7) (v := .int g_27) (C := RX9) (T := TX9) (N := 7) hx hb hts iw_X9_takeLetters_X9 hown hK hP 0 rfl rfl 2 (by decide) (hts (.fieldLink RX9 17 "HungFloors$Tokens" "at" "I") (by decide +kernel)) (fun _ h9 => h9) rfl dX9_takeLetters_81 ?_
            refine lv_aload_n hx hb dX9_takeLetters_84 rfl (lv_at hl 0 rfl) ?_
            refine va_get (D := (dC, dI)) (ci := 7) (v := .int sa_8) (C := RX9) (T := TX9) (N := 7) hx hb hts iw_X9_takeLetters_X9 hown hK hP 0 rfl rfl 4 (by decide) (hts (.fieldLink RX9 29 "HungFloors$Tokens" "start" "I") (by decide +kernel)) (fun _ h9 => h9) rfl dX9_takeLetters_85 ?_
            refine lv_isub hx hb dX9_takeLetters_88 ?_
            refine lv_topi (fun z_123 ez_123 => ?_)
            refine lv_bipush (v := 8) hx hb dX9_takeLetters_89 (by decide) ?_
            refine lv_icmp_gt (tgt := 100) hx hb dX9_takeLetters_91 (by decide) (fun c_124 => ?_) (fun c_124 => ?_)
            · have c_124 : 8 < z_123.toInt := f_lt tI_8 rfl c_124
              refine va_gets hx hb (hE.2.1.1 4 (by decide)).1 hS hown (hts (.fieldLink RX9 57 "HungFloors$Kind" "NOTHING" "LHungFloors$Kind;") (by decide +kernel)) (fun _ h9 => h9) dX9_takeLetters_100 ?_
              refine va_put (D := (dC, dI)) (ci := 7) (v := .ref (ad 4)) (ty := .object "HungFloors$Kind") (C := RX9) (T := TX9) (N := 7) hx hb hts iw_X9_takeLetters_X9 tyX9 tyX9_ok nmX9 hown hK hP hD hS 0 rfl rfl 3 (by decide) (hts (.fieldLink RX9 26 "HungFloors$Tokens" "kind" "LHungFloors$Kind;") (by decide +kernel)) (fun _ h9 => h9) rfl (by decide +kernel) rfl rfl (Nat.le_of_ble_eq_true rfl) dX9_takeLetters_103 (fun H locs hP hD hS => ?_)
              have hP : va_P (dC, dI) vwCl (List.flatten [[(h0, .inr (7, [.ref tx0, .int ln_1, .int g_27, .ref (ad 4), .int sa_8, .long g_28, .int nu_10]))], [(tx0, .inl (cB, 1600, .inl f1))]]) H := hP
              have hD : va_D A (List.flatten [[(h0, .inr (7, [.ref tx0, .int ln_1, .int g_27, .ref (ad 4), .int sa_8, .long g_28, .int nu_10]))], [(tx0, .inl (cB, 1600, .inl f1))]]) := hD
              rw [hQ0]
              exact W.vret hx hb hr (fun t ht hW => ⟨⟨(), rfl, trivial, ⟨_, ⟨ln_1, g_27, 4, sa_8, g_28, nu_10, rfl, by omega, by omega, by omega, by omega⟩, by rw [ht]; exact hP, hD⟩⟩, hS.F ht⟩) hS.2.2 dX9_takeLetters_106
            · have c_124 : z_123.toInt ≤ 8 := f_nlt tI_8 rfl c_124
              refine va_gets hx hb (hE.2.1.1 0 (by decide)).1 hS hown (hts (.fieldLink RX9 60 "HungFloors$Kind" "WORD" "LHungFloors$Kind;") (by decide +kernel)) (fun _ h9 => h9) dX9_takeLetters_94 ?_
              refine lv_goto (tgt := 103) hx hb dX9_takeLetters_97 (by decide) ?_
              refine va_put (D := (dC, dI)) (ci := 7) (v := .ref (ad 0)) (ty := .object "HungFloors$Kind") (C := RX9) (T := TX9) (N := 7) hx hb hts iw_X9_takeLetters_X9 tyX9 tyX9_ok nmX9 hown hK hP hD hS 0 rfl rfl 3 (by decide) (hts (.fieldLink RX9 26 "HungFloors$Tokens" "kind" "LHungFloors$Kind;") (by decide +kernel)) (fun _ h9 => h9) rfl (by decide +kernel) rfl rfl (Nat.le_of_ble_eq_true rfl) dX9_takeLetters_103 (fun H locs hP hD hS => ?_)
              have hP : va_P (dC, dI) vwCl (List.flatten [[(h0, .inr (7, [.ref tx0, .int ln_1, .int g_27, .ref (ad 0), .int sa_8, .long g_28, .int nu_10]))], [(tx0, .inl (cB, 1600, .inl f1))]]) H := hP
              have hD : va_D A (List.flatten [[(h0, .inr (7, [.ref tx0, .int ln_1, .int g_27, .ref (ad 0), .int sa_8, .long g_28, .int nu_10]))], [(tx0, .inl (cB, 1600, .inl f1))]]) := hD
              rw [hQ0]
              exact W.vret hx hb hr (fun t ht hW => ⟨⟨(), rfl, trivial, ⟨_, ⟨ln_1, g_27, 0, sa_8, g_28, nu_10, rfl, by omega, by omega, by omega, by omega⟩, by rw [ht]; exact hP, hD⟩⟩, hS.F ht⟩) hS.2.2 dX9_takeLetters_106
          · have c_122 : z_121.toInt ≤ 122 := f_nlt tI_122 rfl c_122
            refine lv_aload_n hx hb dX9_takeLetters_44 rfl (lv_at hl 0 rfl) ?_
            refine lv_aload_n hx hb dX9_takeLetters_45 rfl (lv_at hl 0 rfl) ?_
            refine va_get (D := (dC, dI)) (ci := 7) (v := .long g_28) (C := RX9) (T := TX9) (N := 7) hx hb hts iw_X9_takeLetters_X9 hown hK hP 0 rfl rfl 5 (by decide) (hts (.fieldLink RX9 32 "HungFloors$Tokens" "word" "J") (by decide +kernel)) (fun _ h9 => h9) rfl dX9_takeLetters_46 ?_
            refine lv_bipush (v := 8) hx hb dX9_takeLetters_49 (by decide) ?_
            refine lv_lshl hx hb dX9_takeLetters_51 rfl ?_
            refine lv_topl (fun z_125 ez_125 => ?_)
            refine lv_aload_n hx hb dX9_takeLetters_52 rfl (lv_at hl 0 rfl) ?_
            refine va_get (D := (dC, dI)) (ci := 7) (v := .ref tx0) (C := RX9) (T := TX9) (N := 7) hx hb hts iw_X9_takeLetters_X9 hown hK hP 0 rfl rfl 0 (by decide) (hts (.fieldLink RX9 7 "HungFloors$Tokens" "text" "[B") (by decide +kernel)) (fun _ h9 => h9) rfl dX9_takeLetters_53 ?_
            refine lv_aload_n hx hb dX9_takeLetters_56 rfl (lv_at hl 0 rfl) ?_
            refine va_get (D := (dC, dI)) (ci := 7) (v := .int g_27) (C := RX9) (T := TX9) (N := 7) hx hb hts iw_X9_takeLetters_X9 hown hK hP 0 rfl rfl 2 (by decide) (hts (.fieldLink RX9 17 "HungFloors$Tokens" "at" "I") (by decide +kernel)) (fun _ h9 => h9) rfl dX9_takeLetters_57 ?_
            refine va_bald hx hb hK hP 1 0 rfl rfl (v_in rfl (by omega) (by omega)) dX9_takeLetters_60 ?_
            refine lv_topi (fun z_126 ez_126 => ?_)
            have qz_126 : z_126.toInt = z_117.toInt := by rw [ez_126, ez_117]
            obtain ⟨z_127, ez_127⟩ : ∃ y : Int64, (z_126 : Int32).toInt64 = y := ⟨_, rfl⟩
            refine lv_i2l (v := z_127) hx hb dX9_takeLetters_61 ez_127 ?_
            have nz_127 : ¬ z_127 = 0 := i2l_ne ez_127 (by omega)
            refine lv_lor hx hb dX9_takeLetters_62 ?_
            refine lv_topl (fun z_128 ez_128 => ?_)
            refine va_put (D := (dC, dI)) (ci := 7) (v := .long z_128) (ty := .long) (C := RX9) (T := TX9) (N := 7) hx hb hts iw_X9_takeLetters_X9 tyX9 tyX9_ok nmX9 hown hK hP hD hS 0 rfl rfl 5 (by decide) (hts (.fieldLink RX9 32 "HungFloors$Tokens" "word" "J") (by decide +kernel)) (fun _ h9 => h9) rfl (by decide +kernel) rfl rfl (Nat.le_of_ble_eq_true rfl) dX9_takeLetters_63 (fun H locs hP hD hS => ?_)
            have hP : va_P (dC, dI) vwCl (List.flatten [[(h0, .inr (7, [.ref tx0, .int ln_1, .int g_27, .ref (ad kd_7), .int sa_8, .long z_128, .int nu_10]))], [(tx0, .inl (cB, 1600, .inl f1))]]) H := hP
            have hD : va_D A (List.flatten [[(h0, .inr (7, [.ref tx0, .int ln_1, .int g_27, .ref (ad kd_7), .int sa_8, .long z_128, .int nu_10]))], [(tx0, .inl (cB, 1600, .inl f1))]]) := hD
            refine lv_aload_n hx hb dX9_takeLetters_66 rfl (lv_at hl 0 rfl) ?_
            refine lv_dup hx hb dX9_takeLetters_67 rfl ?_
            refine va_get (D := (dC, dI)) (ci := 7) (v := .int g_27) (C := RX9) (T := TX9) (N := 7) hx hb hts iw_X9_takeLetters_X9 hown hK hP 0 rfl rfl 2 (by decide) (hts (.fieldLink RX9 17 "HungFloors$Tokens" "at" "I") (by decide +kernel)) (fun _ h9 => h9) rfl dX9_takeLetters_68 ?_
            refine lv_iconst (v := 1) hx hb dX9_takeLetters_71 (by decide) ?_
            refine lv_iadd hx hb dX9_takeLetters_72 ?_
            refine lv_topi (fun z_129 ez_129 => ?_)
            have hz_129 : z_129.toInt = g_27.toInt + 1 := by rw [ez_129]; exact t_add rfl tI_1 (by omega) (by omega)
            refine va_put (D := (dC, dI)) (ci := 7) (v := .int z_129) (ty := .int) (C := RX9) (T := TX9) (N := 7) hx hb hts iw_X9_takeLetters_X9 tyX9 tyX9_ok nmX9 hown hK hP hD hS 0 rfl rfl 2 (by decide) (hts (.fieldLink RX9 17 "HungFloors$Tokens" "at" "I") (by decide +kernel)) (fun _ h9 => h9) rfl (by decide +kernel) rfl rfl (Nat.le_of_ble_eq_true rfl) dX9_takeLetters_73 (fun H locs hP hD hS => ?_)
            have hP : va_P (dC, dI) vwCl (List.flatten [[(h0, .inr (7, [.ref tx0, .int ln_1, .int z_129, .ref (ad kd_7), .int sa_8, .long z_128, .int nu_10]))], [(tx0, .inl (cB, 1600, .inl f1))]]) H := hP
            have hD : va_D A (List.flatten [[(h0, .inr (7, [.ref tx0, .int ln_1, .int z_129, .ref (ad kd_7), .int sa_8, .long z_128, .int nu_10]))], [(tx0, .inl (cB, 1600, .inl f1))]]) := hD
            refine lv_goto (tgt := 5) hx hb dX9_takeLetters_76 (by decide) ?_
            exact ih_113 z_129 z_128 (by omega) (by omega) (by omega) (by omega) _ _ hP hD hS ls (lv_sub hl [0] rfl)
  exact lp_112 _ ap_4 0 (by omega) (by omega) (by omega) (Nat.lt_succ_self _) _ _ hP hD hS ls (lv_sub hl [0] rfl)
