theorem iw_X7_addRod_X7 : ∀ w ∈ wsX70, w ∈ wsX7_addRod := fun _ h => List.mem_cons_of_mem _ (List.mem_append_right _ h)
set_option maxHeartbeats 4000000 in
set_option maxRecDepth 100000 in
theorem c_X7_addRod (l : Launch) (dC : Nat → ClassId) (dI : Nat → Nat → Nat) (ad : Nat → Nat) (tN : Nat) (fN : Nat → Int64) (cB cI cJ cZ : ClassId) (h0 : Nat) (q1 : Int64) (p2 : Int32) (p3 : Int32) (p4 : Int32) (r0 : Nat → Nat) (fc0 : Int32) (dc0 : Int32) (rk0 : Nat → Int32) (w0 : va_W) (o0 : ok_plan ad cB cI cJ cZ h0 r0 fc0 dc0 rk0 w0) (sz : Nat) (up21 : -1 ≤ p2.toInt) (up22 : p2.toInt ≤ 5) (up31 : 0 ≤ p3.toInt) (up32 : p3.toInt ≤ 63) : Met l yX7_addRod wsX7_addRod ({ frames := 1, cells := 0, slots := 0, locals := 20 } : Room) (va_Pc [.ref h0, .long q1, .int p2, .int p3, .int p4] (fun U => U.heap.size = sz ∧ va_P (dC, dI) vwCl (List.flatten [w0]) U.heap ∧ va_K (dC, dI) vwCl [(cB, .byte), (cI, .int), (cJ, .long), (cZ, .boolean)] U ∧ va_D (fun _ => True) (List.flatten [w0]) ∧ ex_Y ad tN fN (va_A (List.flatten [w0]) sz) U)) (va_Qv (fun _ : Unit => True) (fun (_ : Unit) (t : State) => ∃ (rk09 : Nat → Int32) (w09 : va_W), ok_plan ad cB cI cJ cZ h0 r0 fc0 dc0 rk09 w09 ∧ va_P (dC, dI) vwCl (List.flatten [w09]) t.heap ∧ va_D (va_A (List.flatten [w0]) sz) (List.flatten [w09])) (va_A (List.flatten [w0]) sz)) 0 0 (va_A (List.flatten [w0]) sz) := by
  refine Met.ofW (cc := cX7_addRod) (maxL := 8) (ret := none) (by decide) rfl ?_
  intro p e s m args below meth c s₁ B hml hv
  obtain ⟨rfl, hsz, hP, hK, hD0, hE⟩ := hv
  have hx := B.exec
  have hb := B.bytes
  have hr := B.returns
  have hts := atoms_spec (ws := wsX7_addRod) B.pre
  have hown : s.vm.findClass RX7 = some m.cls := findClass_of_methodNamed B.named
  have hlocks := B.notSynchronized
  subst hsz
  have hD := hD0.self (sz := s.heap.size)
  generalize hAe : va_A (List.flatten [w0]) s.heap.size = A at hD hE ⊢
  have hA : ∀ q : Nat, s.heap.size ≤ q → A q := fun q h => by rw [← hAe]; exact Or.inr h
  have hS : va_S A s.heap s.heap [] := va_S.rf
  have hl := lv_entry ([.ref h0, .long q1, .int p2, .int p3, .int p4]) (n := 8) (Nat.le_of_ble_eq_true rfl)
  rw [lg_entry_eq]
  generalize (lg_sl ([.ref h0, .long q1, .int p2, .int p3, .int p4]) ++ List.replicate (8 - (lg_sl ([.ref h0, .long q1, .int p2, .int p3, .int p4])).length) Slot.unset).toArray = ls at hl ⊢
  have hl : lv_has ls 8 [(0, .ref h0), (1, .long q1), (3, .int p2), (4, .int p3), (5, .int p4)] := hl
  clear hAe
  refine W_name (fun Q0 hQ0 => ?_)
  refine lv_aload_n hx hb dX7_addRod_0 rfl (lv_at hl 0 rfl) ?_
  obtain ⟨f_3, f_4, f_5, f_6, f_9, f_11, f_12, f_14, f_16, rfl, hl_1, hh_2, hl_7, hh_8, hr_10, hr_13, hr_15⟩ := o0
  have hpm : List.Perm ([[(h0, .inr (5, [.int fc0, .ref (r0 0), .ref (r0 1), .ref (r0 2), .ref (r0 3), .int dc0, .ref (r0 4), .ref (r0 5), .ref (r0 6), .ref (r0 7), .ref (r0 8), .ref (r0 9)])), (r0 0, .inl (cJ, 6, .inr (.inl f_3))), (r0 1, .inl (cI, 6, .inl f_4)), (r0 2, .inl (cI, 6, .inl f_5)), (r0 3, .inl (cI, 6, .inl f_6)), (r0 4, .inl (cJ, 4, .inr (.inl f_9))), (r0 5, .inl (cI, 4, .inl rk0)), (r0 6, .inl (cJ, 40, .inr (.inl f_11))), (r0 7, .inl (cI, 40, .inl f_12)), (r0 8, .inl (cI, 40, .inl f_14)), (r0 9, .inl (cI, 40, .inl f_16))]] : List va_W) (([[(h0, .inr (5, [.int fc0, .ref (r0 0), .ref (r0 1), .ref (r0 2), .ref (r0 3), .int dc0, .ref (r0 4), .ref (r0 5), .ref (r0 6), .ref (r0 7), .ref (r0 8), .ref (r0 9)])), (r0 0, .inl (cJ, 6, .inr (.inl f_3))), (r0 1, .inl (cI, 6, .inl f_4)), (r0 2, .inl (cI, 6, .inl f_5)), (r0 3, .inl (cI, 6, .inl f_6)), (r0 4, .inl (cJ, 4, .inr (.inl f_9))), (r0 5, .inl (cI, 4, .inl rk0)), (r0 6, .inl (cJ, 40, .inr (.inl f_11))), (r0 7, .inl (cI, 40, .inl f_12)), (r0 8, .inl (cI, 40, .inl f_14)), (r0 9, .inl (cI, 40, .inl f_16))]] : List va_W) ++ ([] : List va_W)) := pm_n 1 [0] (by decide) rfl rfl
  have hPc := bk_P hpm hP
  have hDc := bk_D hpm hD
  have hFc := bk_F hpm hD hS hA
  refine va_calli (va_runV (As := []) (rest := []) ⟨hx, hb, hml, hown, hts⟩ (c_X7_takesRod l dC dI ad tN fN cB cI cJ cZ h0 r0 fc0 dc0 rk0 _ ⟨f_3, f_4, f_5, f_6, f_9, f_11, f_12, f_14, f_16, rfl, by omega, by omega, by omega, by omega, hr_10, hr_13, hr_15⟩ s.heap.size) (cwV 0 hts gX7_addRod_X7_takesRod rfl rfl rfl (by decide +kernel) ⟨(Nat.le_of_ble_eq_true rfl), (Nat.le_of_ble_eq_true rfl)⟩) ⟨fun a U g mk q => by obtain ⟨q0, q1, qP, qK, qD, qE⟩ := q; exact ⟨q0, q1, qP, va_K.moved (u := U) (U := U.calling g mk a) (Vm.Alike.refl U.vm) qK, qD, ey_blind qE⟩, va_recv hK hPc (ci := 5) (q0 := 0) rfl rfl, fun U hU hW => ⟨rfl, by rw [hU], by rw [hU]; exact hPc, va_K.moved hW.alike hK, hDc.weaken (fun _ _ _ _ => trivial), ey_call hE hS hFc hU hW⟩⟩ rfl rfl hl.1 rfl (lv_room (Nat.le_of_ble_eq_true rfl)) dX7_addRod_1 ⟨(Nat.le_of_ble_eq_true rfl), (Nat.le_of_ble_eq_true rfl)⟩) hS (fun q _ h => hFc q h) hFc (fun r_17 u t H locs ht hvm hw hB hz1 hk1 hS => ?_)
  obtain ⟨hP1, hD1⟩ := hB
  rw [ht] at hP1
  obtain ⟨hP, hD⟩ := bk_join hpm hP hD hk1 hFc (Cs1 := [[(h0, .inr (5, [.int fc0, .ref (r0 0), .ref (r0 1), .ref (r0 2), .ref (r0 3), .int dc0, .ref (r0 4), .ref (r0 5), .ref (r0 6), .ref (r0 7), .ref (r0 8), .ref (r0 9)])), (r0 0, .inl (cJ, 6, .inr (.inl f_3))), (r0 1, .inl (cI, 6, .inl f_4)), (r0 2, .inl (cI, 6, .inl f_5)), (r0 3, .inl (cI, 6, .inl f_6)), (r0 4, .inl (cJ, 4, .inr (.inl f_9))), (r0 5, .inl (cI, 4, .inl rk0)), (r0 6, .inl (cJ, 40, .inr (.inl f_11))), (r0 7, .inl (cI, 40, .inl f_12)), (r0 8, .inl (cI, 40, .inl f_14)), (r0 9, .inl (cI, 40, .inl f_16))]]) hP1 hD1
  have hpm2 : List.Perm (([[(h0, .inr (5, [.int fc0, .ref (r0 0), .ref (r0 1), .ref (r0 2), .ref (r0 3), .int dc0, .ref (r0 4), .ref (r0 5), .ref (r0 6), .ref (r0 7), .ref (r0 8), .ref (r0 9)])), (r0 0, .inl (cJ, 6, .inr (.inl f_3))), (r0 1, .inl (cI, 6, .inl f_4)), (r0 2, .inl (cI, 6, .inl f_5)), (r0 3, .inl (cI, 6, .inl f_6)), (r0 4, .inl (cJ, 4, .inr (.inl f_9))), (r0 5, .inl (cI, 4, .inl rk0)), (r0 6, .inl (cJ, 40, .inr (.inl f_11))), (r0 7, .inl (cI, 40, .inl f_12)), (r0 8, .inl (cI, 40, .inl f_14)), (r0 9, .inl (cI, 40, .inl f_16))]] : List va_W) ++ ([] : List va_W)) ([[(h0, .inr (5, [.int fc0, .ref (r0 0), .ref (r0 1), .ref (r0 2), .ref (r0 3), .int dc0, .ref (r0 4), .ref (r0 5), .ref (r0 6), .ref (r0 7), .ref (r0 8), .ref (r0 9)])), (r0 0, .inl (cJ, 6, .inr (.inl f_3))), (r0 1, .inl (cI, 6, .inl f_4)), (r0 2, .inl (cI, 6, .inl f_5)), (r0 3, .inl (cI, 6, .inl f_6)), (r0 4, .inl (cJ, 4, .inr (.inl f_9))), (r0 5, .inl (cI, 4, .inl rk0)), (r0 6, .inl (cJ, 40, .inr (.inl f_11))), (r0 7, .inl (cI, 40, .inl f_12)), (r0 8, .inl (cI, 40, .inl f_14)), (r0 9, .inl (cI, 40, .inl f_16))]] : List va_W) := pm_n 1 [0] (by decide) rfl rfl
  have hP := bk_reP hpm2 hP
  have hD := bk_reD hpm2 hD
  have hP : va_P (dC, dI) vwCl (List.flatten [[(h0, .inr (5, [.int fc0, .ref (r0 0), .ref (r0 1), .ref (r0 2), .ref (r0 3), .int dc0, .ref (r0 4), .ref (r0 5), .ref (r0 6), .ref (r0 7), .ref (r0 8), .ref (r0 9)])), (r0 0, .inl (cJ, 6, .inr (.inl f_3))), (r0 1, .inl (cI, 6, .inl f_4)), (r0 2, .inl (cI, 6, .inl f_5)), (r0 3, .inl (cI, 6, .inl f_6)), (r0 4, .inl (cJ, 4, .inr (.inl f_9))), (r0 5, .inl (cI, 4, .inl rk0)), (r0 6, .inl (cJ, 40, .inr (.inl f_11))), (r0 7, .inl (cI, 40, .inl f_12)), (r0 8, .inl (cI, 40, .inl f_14)), (r0 9, .inl (cI, 40, .inl f_16))]]) H := hP
  have hD : va_D A (List.flatten [[(h0, .inr (5, [.int fc0, .ref (r0 0), .ref (r0 1), .ref (r0 2), .ref (r0 3), .int dc0, .ref (r0 4), .ref (r0 5), .ref (r0 6), .ref (r0 7), .ref (r0 8), .ref (r0 9)])), (r0 0, .inl (cJ, 6, .inr (.inl f_3))), (r0 1, .inl (cI, 6, .inl f_4)), (r0 2, .inl (cI, 6, .inl f_5)), (r0 3, .inl (cI, 6, .inl f_6)), (r0 4, .inl (cJ, 4, .inr (.inl f_9))), (r0 5, .inl (cI, 4, .inl rk0)), (r0 6, .inl (cJ, 40, .inr (.inl f_11))), (r0 7, .inl (cI, 40, .inl f_12)), (r0 8, .inl (cI, 40, .inl f_14)), (r0 9, .inl (cI, 40, .inl f_16))]]) := hD
  rcases hw with ⟨rfl, c_18⟩ | ⟨rfl, c_19, c_20⟩ | ⟨rfl, c_21, c_22⟩
  · refine lv_if_eq (tgt := 75) hx hb dX7_addRod_4 (by decide) (fun c_23 => ?_) (fun c_23 => absurd c_23 (by decide))
    rw [hQ0]
    exact W.vret hx hb hr (fun t ht hW => ⟨⟨(), rfl, trivial, ⟨rk0, _, ⟨f_3, f_4, f_5, f_6, f_9, f_11, f_12, f_14, f_16, rfl, by omega, by omega, by omega, by omega, hr_10, hr_13, hr_15⟩, by rw [ht]; exact hP, hD⟩⟩, hS.F ht⟩) hS.2.2 dX7_addRod_75
  · obtain ⟨y_24, fy_24⟩ : ∃ y : Int32, y = (rk0 ((dc0 - 1) : Int32).toNatClampNeg) := ⟨_, rfl⟩
    rw [← fy_24] at c_20
    refine lv_if_eq (tgt := 75) hx hb dX7_addRod_4 (by decide) (fun c_25 => ?_) (fun c_25 => absurd c_25 (by decide))
    rw [hQ0]
    exact W.vret hx hb hr (fun t ht hW => ⟨⟨(), rfl, trivial, ⟨rk0, _, ⟨f_3, f_4, f_5, f_6, f_9, f_11, f_12, f_14, f_16, rfl, by omega, by omega, by omega, by omega, hr_10, hr_13, hr_15⟩, by rw [ht]; exact hP, hD⟩⟩, hS.F ht⟩) hS.2.2 dX7_addRod_75
  · obtain ⟨y_26, fy_26⟩ : ∃ y : Int32, y = (rk0 ((dc0 - 1) : Int32).toNatClampNeg) := ⟨_, rfl⟩
    rw [← fy_26] at c_22
    refine lv_if_eq (tgt := 75) hx hb dX7_addRod_4 (by decide) (fun c_27 => absurd c_27 (by decide)) (fun c_27 => ?_)
    refine lv_aload_n hx hb dX7_addRod_7 rfl (lv_at hl 0 rfl) ?_
    refine va_get (D := (dC, dI)) (ci := 5) (v := .int dc0) (C := RX7) (T := TX7) (N := 12) hx hb hts iw_X7_addRod_X7 hown hK hP 0 rfl rfl 5 (by decide) (hts (.fieldLink RX7 29 "HungFloors$Plan" "drawingCount" "I") (by decide +kernel)) (fun _ h9 => h9) rfl dX7_addRod_8 ?_
    refine lv_iconst (v := 1) hx hb dX7_addRod_11 (by decide) ?_
    refine lv_isub hx hb dX7_addRod_12 ?_
    refine lv_topi (fun z_28 ez_28 => ?_)
    have hz_28 : z_28.toInt = dc0.toInt - 1 := by rw [ez_28]; exact t_sub rfl tI_1 (by omega) (by omega)
    have fz_28 : z_28 = (dc0 - 1) := by rw [ez_28]
    refine lv_istore (lv' := [(6, .int z_28), (0, .ref h0), (1, .long q1), (3, .int p2), (4, .int p3), (5, .int p4)]) hx hb dX7_addRod_13 hl (by decide) rfl (fun ls hl => ?_)
    refine lv_iload hx hb dX7_addRod_15 (lv_at hl 0 rfl) ?_
    refine lv_bipush (v := 10) hx hb dX7_addRod_17 (by decide) ?_
    refine lv_imul hx hb dX7_addRod_19 ?_
    refine lv_topi (fun z_29 ez_29 => ?_)
    have hz_29 : z_29.toInt = z_28.toInt * 10 := by rw [ez_29]; exact t_mul rfl tI_10 (by omega) (by omega)
    have fz_29 : z_29 = ((dc0 - 1) * 10) := by rw [ez_29, fz_28]
    refine lv_aload_n hx hb dX7_addRod_20 rfl (lv_at hl 1 rfl) ?_
    refine va_get (D := (dC, dI)) (ci := 5) (v := .ref (r0 5)) (C := RX7) (T := TX7) (N := 12) hx hb hts iw_X7_addRod_X7 hown hK hP 0 rfl rfl 7 (by decide) (hts (.fieldLink RX7 35 "HungFloors$Plan" "rodCount" "[I") (by decide +kernel)) (fun _ h9 => h9) rfl dX7_addRod_21 ?_
    refine lv_iload hx hb dX7_addRod_24 (lv_at hl 0 rfl) ?_
    refine va_iald hx hb hK hP 6 1 rfl rfl (v_in rfl (by omega) (by omega)) dX7_addRod_26 ?_
    refine lv_topi (fun z_30 ez_30 => ?_)
    have gz_30 := rg_at hr_10 ez_30
    have g1z_30 := gz_30.1
    have g2z_30 := gz_30.2
    have fz_30 : z_30 = (rk0 ((dc0 - 1) : Int32).toNatClampNeg) := by rw [ez_30, fz_28]
    have qz_30 : z_30.toInt = y_26.toInt := by rw [fz_30, fy_26]
    refine lv_iadd hx hb dX7_addRod_27 ?_
    refine lv_topi (fun z_31 ez_31 => ?_)
    have hz_31 : z_31.toInt = z_29.toInt + z_30.toInt := by rw [ez_31]; exact t_add rfl rfl (by omega) (by omega)
    have fz_31 : z_31 = (((dc0 - 1) * 10) + (rk0 ((dc0 - 1) : Int32).toNatClampNeg)) := by rw [ez_31, fz_29, fz_30]
    refine lv_istore (lv' := [(7, .int z_31), (6, .int z_28), (0, .ref h0), (1, .long q1), (3, .int p2), (4, .int p3), (5, .int p4)]) hx hb dX7_addRod_28 hl (by decide) rfl (fun ls hl => ?_)
    refine lv_aload_n hx hb dX7_addRod_30 rfl (lv_at hl 2 rfl) ?_
    refine va_get (D := (dC, dI)) (ci := 5) (v := .ref (r0 6)) (C := RX7) (T := TX7) (N := 12) hx hb hts iw_X7_addRod_X7 hown hK hP 0 rfl rfl 8 (by decide) (hts (.fieldLink RX7 38 "HungFloors$Plan" "rodName" "[J") (by decide +kernel)) (fun _ h9 => h9) rfl dX7_addRod_31 ?_
    refine lv_iload hx hb dX7_addRod_34 (lv_at hl 0 rfl) ?_
    refine lv_lload_n hx hb dX7_addRod_36 rfl (lv_at hl 3 rfl) ?_
    refine va_last hx hb hK hP hD hS 7 2 rfl rfl (v_in rfl (by omega) (by omega)) dX7_addRod_37 (fun H locs hP hD hS => ?_)
    obtain ⟨f_32, hP, hD⟩ : ∃ f_32 : Nat → Int64, va_P (dC, dI) vwCl (List.flatten [[(h0, .inr (5, [.int fc0, .ref (r0 0), .ref (r0 1), .ref (r0 2), .ref (r0 3), .int dc0, .ref (r0 4), .ref (r0 5), .ref (r0 6), .ref (r0 7), .ref (r0 8), .ref (r0 9)])), (r0 0, .inl (cJ, 6, .inr (.inl f_3))), (r0 1, .inl (cI, 6, .inl f_4)), (r0 2, .inl (cI, 6, .inl f_5)), (r0 3, .inl (cI, 6, .inl f_6)), (r0 4, .inl (cJ, 4, .inr (.inl f_9))), (r0 5, .inl (cI, 4, .inl rk0)), (r0 6, .inl (cJ, 40, .inr (.inl f_32))), (r0 7, .inl (cI, 40, .inl f_12)), (r0 8, .inl (cI, 40, .inl f_14)), (r0 9, .inl (cI, 40, .inl f_16))]]) H ∧ va_D A (List.flatten [[(h0, .inr (5, [.int fc0, .ref (r0 0), .ref (r0 1), .ref (r0 2), .ref (r0 3), .int dc0, .ref (r0 4), .ref (r0 5), .ref (r0 6), .ref (r0 7), .ref (r0 8), .ref (r0 9)])), (r0 0, .inl (cJ, 6, .inr (.inl f_3))), (r0 1, .inl (cI, 6, .inl f_4)), (r0 2, .inl (cI, 6, .inl f_5)), (r0 3, .inl (cI, 6, .inl f_6)), (r0 4, .inl (cJ, 4, .inr (.inl f_9))), (r0 5, .inl (cI, 4, .inl rk0)), (r0 6, .inl (cJ, 40, .inr (.inl f_32))), (r0 7, .inl (cI, 40, .inl f_12)), (r0 8, .inl (cI, 40, .inl f_14)), (r0 9, .inl (cI, 40, .inl f_16))]]) := ⟨_, hP, hD⟩
    refine lv_aload_n hx hb dX7_addRod_38 rfl (lv_at hl 2 rfl) ?_
    refine va_get (D := (dC, dI)) (ci := 5) (v := .ref (r0 7)) (C := RX7) (T := TX7) (N := 12) hx hb hts iw_X7_addRod_X7 hown hK hP 0 rfl rfl 9 (by decide) (hts (.fieldLink RX7 41 "HungFloors$Plan" "rodFrom" "[I") (by decide +kernel)) (fun _ h9 => h9) rfl dX7_addRod_39 ?_
    refine lv_iload hx hb dX7_addRod_42 (lv_at hl 0 rfl) ?_
    refine lv_iload_n hx hb dX7_addRod_44 rfl (lv_at hl 4 rfl) ?_
    refine va_iast hx hb hK hP hD hS 8 1 rfl rfl (v_in rfl (by omega) (by omega)) dX7_addRod_45 (fun H locs hP hD hS => ?_)
    obtain ⟨f_33, hr_34, hP, hD⟩ : ∃ f_33 : Nat → Int32, rg (-1) 5 f_33 ∧ va_P (dC, dI) vwCl (List.flatten [[(h0, .inr (5, [.int fc0, .ref (r0 0), .ref (r0 1), .ref (r0 2), .ref (r0 3), .int dc0, .ref (r0 4), .ref (r0 5), .ref (r0 6), .ref (r0 7), .ref (r0 8), .ref (r0 9)])), (r0 0, .inl (cJ, 6, .inr (.inl f_3))), (r0 1, .inl (cI, 6, .inl f_4)), (r0 2, .inl (cI, 6, .inl f_5)), (r0 3, .inl (cI, 6, .inl f_6)), (r0 4, .inl (cJ, 4, .inr (.inl f_9))), (r0 5, .inl (cI, 4, .inl rk0)), (r0 6, .inl (cJ, 40, .inr (.inl f_32))), (r0 7, .inl (cI, 40, .inl f_33)), (r0 8, .inl (cI, 40, .inl f_14)), (r0 9, .inl (cI, 40, .inl f_16))]]) H ∧ va_D A (List.flatten [[(h0, .inr (5, [.int fc0, .ref (r0 0), .ref (r0 1), .ref (r0 2), .ref (r0 3), .int dc0, .ref (r0 4), .ref (r0 5), .ref (r0 6), .ref (r0 7), .ref (r0 8), .ref (r0 9)])), (r0 0, .inl (cJ, 6, .inr (.inl f_3))), (r0 1, .inl (cI, 6, .inl f_4)), (r0 2, .inl (cI, 6, .inl f_5)), (r0 3, .inl (cI, 6, .inl f_6)), (r0 4, .inl (cJ, 4, .inr (.inl f_9))), (r0 5, .inl (cI, 4, .inl rk0)), (r0 6, .inl (cJ, 40, .inr (.inl f_32))), (r0 7, .inl (cI, 40, .inl f_33)), (r0 8, .inl (cI, 40, .inl f_14)), (r0 9, .inl (cI, 40, .inl f_16))]]) := ⟨_, rg_upd hr_13 (by omega) (by omega), hP, hD⟩
    refine lv_aload_n hx hb dX7_addRod_46 rfl (lv_at hl 2 rfl) ?_
    refine va_get (D := (dC, dI)) (ci := 5) (v := .ref (r0 8)) (C := RX7) (T := TX7) (N := 12) hx hb hts iw_X7_addRod_X7 hown hK hP 0 rfl rfl 10 (by decide) (hts (.fieldLink RX7 44 "HungFloors$Plan" "rodHolds" "[I") (by decide +kernel)) (fun _ h9 => h9) rfl dX7_addRod_47 ?_
    refine lv_iload hx hb dX7_addRod_50 (lv_at hl 0 rfl) ?_
    refine lv_iload hx hb dX7_addRod_52 (lv_at hl 5 rfl) ?_
    refine va_iast hx hb hK hP hD hS 9 1 rfl rfl (v_in rfl (by omega) (by omega)) dX7_addRod_54 (fun H locs hP hD hS => ?_)
    obtain ⟨f_35, hr_36, hP, hD⟩ : ∃ f_35 : Nat → Int32, rg (0) 63 f_35 ∧ va_P (dC, dI) vwCl (List.flatten [[(h0, .inr (5, [.int fc0, .ref (r0 0), .ref (r0 1), .ref (r0 2), .ref (r0 3), .int dc0, .ref (r0 4), .ref (r0 5), .ref (r0 6), .ref (r0 7), .ref (r0 8), .ref (r0 9)])), (r0 0, .inl (cJ, 6, .inr (.inl f_3))), (r0 1, .inl (cI, 6, .inl f_4)), (r0 2, .inl (cI, 6, .inl f_5)), (r0 3, .inl (cI, 6, .inl f_6)), (r0 4, .inl (cJ, 4, .inr (.inl f_9))), (r0 5, .inl (cI, 4, .inl rk0)), (r0 6, .inl (cJ, 40, .inr (.inl f_32))), (r0 7, .inl (cI, 40, .inl f_33)), (r0 8, .inl (cI, 40, .inl f_35)), (r0 9, .inl (cI, 40, .inl f_16))]]) H ∧ va_D A (List.flatten [[(h0, .inr (5, [.int fc0, .ref (r0 0), .ref (r0 1), .ref (r0 2), .ref (r0 3), .int dc0, .ref (r0 4), .ref (r0 5), .ref (r0 6), .ref (r0 7), .ref (r0 8), .ref (r0 9)])), (r0 0, .inl (cJ, 6, .inr (.inl f_3))), (r0 1, .inl (cI, 6, .inl f_4)), (r0 2, .inl (cI, 6, .inl f_5)), (r0 3, .inl (cI, 6, .inl f_6)), (r0 4, .inl (cJ, 4, .inr (.inl f_9))), (r0 5, .inl (cI, 4, .inl rk0)), (r0 6, .inl (cJ, 40, .inr (.inl f_32))), (r0 7, .inl (cI, 40, .inl f_33)), (r0 8, .inl (cI, 40, .inl f_35)), (r0 9, .inl (cI, 40, .inl f_16))]]) := ⟨_, rg_upd hr_15 (by omega) (by omega), hP, hD⟩
    refine lv_aload_n hx hb dX7_addRod_55 rfl (lv_at hl 2 rfl) ?_
    refine va_get (D := (dC, dI)) (ci := 5) (v := .ref (r0 9)) (C := RX7) (T := TX7) (N := 12) hx hb hts iw_X7_addRod_X7 hown hK hP 0 rfl rfl 11 (by decide) (hts (.fieldLink RX7 47 "HungFloors$Plan" "rodCan" "[I") (by decide +kernel)) (fun _ h9 => h9) rfl dX7_addRod_56 ?_
    refine lv_iload hx hb dX7_addRod_59 (lv_at hl 0 rfl) ?_
    refine lv_iload hx hb dX7_addRod_61 (lv_at hl 6 rfl) ?_
    refine va_iast hx hb hK hP hD hS 10 1 rfl rfl (v_in rfl (by omega) (by omega)) dX7_addRod_63 (fun H locs hP hD hS => ?_)
    obtain ⟨f_37, hP, hD⟩ : ∃ f_37 : Nat → Int32, va_P (dC, dI) vwCl (List.flatten [[(h0, .inr (5, [.int fc0, .ref (r0 0), .ref (r0 1), .ref (r0 2), .ref (r0 3), .int dc0, .ref (r0 4), .ref (r0 5), .ref (r0 6), .ref (r0 7), .ref (r0 8), .ref (r0 9)])), (r0 0, .inl (cJ, 6, .inr (.inl f_3))), (r0 1, .inl (cI, 6, .inl f_4)), (r0 2, .inl (cI, 6, .inl f_5)), (r0 3, .inl (cI, 6, .inl f_6)), (r0 4, .inl (cJ, 4, .inr (.inl f_9))), (r0 5, .inl (cI, 4, .inl rk0)), (r0 6, .inl (cJ, 40, .inr (.inl f_32))), (r0 7, .inl (cI, 40, .inl f_33)), (r0 8, .inl (cI, 40, .inl f_35)), (r0 9, .inl (cI, 40, .inl f_37))]]) H ∧ va_D A (List.flatten [[(h0, .inr (5, [.int fc0, .ref (r0 0), .ref (r0 1), .ref (r0 2), .ref (r0 3), .int dc0, .ref (r0 4), .ref (r0 5), .ref (r0 6), .ref (r0 7), .ref (r0 8), .ref (r0 9)])), (r0 0, .inl (cJ, 6, .inr (.inl f_3))), (r0 1, .inl (cI, 6, .inl f_4)), (r0 2, .inl (cI, 6, .inl f_5)), (r0 3, .inl (cI, 6, .inl f_6)), (r0 4, .inl (cJ, 4, .inr (.inl f_9))), (r0 5, .inl (cI, 4, .inl rk0)), (r0 6, .inl (cJ, 40, .inr (.inl f_32))), (r0 7, .inl (cI, 40, .inl f_33)), (r0 8, .inl (cI, 40, .inl f_35)), (r0 9, .inl (cI, 40, .inl f_37))]]) := ⟨_, hP, hD⟩
    refine lv_aload_n hx hb dX7_addRod_64 rfl (lv_at hl 2 rfl) ?_
    refine va_get (D := (dC, dI)) (ci := 5) (v := .ref (r0 5)) (C := RX7) (T := TX7) (N := 12) hx hb hts iw_X7_addRod_X7 hown hK hP 0 rfl rfl 7 (by decide) (hts (.fieldLink RX7 35 "HungFloors$Plan" "rodCount" "[I") (by decide +kernel)) (fun _ h9 => h9) rfl dX7_addRod_65 ?_
    refine lv_iload hx hb dX7_addRod_68 (lv_at hl 1 rfl) ?_
    refine lv_dup2_11 hx hb dX7_addRod_70 rfl rfl ?_
    refine va_iald hx hb hK hP 6 1 rfl rfl (v_in rfl (by omega) (by omega)) dX7_addRod_71 ?_
    refine lv_topi (fun z_38 ez_38 => ?_)
    have gz_38 := rg_at hr_10 ez_38
    have g1z_38 := gz_38.1
    have g2z_38 := gz_38.2
    have fz_38 : z_38 = (rk0 ((dc0 - 1) : Int32).toNatClampNeg) := by rw [ez_38, fz_28]
    have qz_38 : z_38.toInt = y_26.toInt := by rw [fz_38, fy_26]
    refine lv_iconst (v := 1) hx hb dX7_addRod_72 (by decide) ?_
    refine lv_iadd hx hb dX7_addRod_73 ?_
    refine lv_topi (fun z_39 ez_39 => ?_)
    have hz_39 : z_39.toInt = z_38.toInt + 1 := by rw [ez_39]; exact t_add rfl tI_1 (by omega) (by omega)
    have fz_39 : z_39 = ((rk0 ((dc0 - 1) : Int32).toNatClampNeg) + 1) := by rw [ez_39, fz_38]
    refine va_iast hx hb hK hP hD hS 6 1 rfl rfl (v_in rfl (by omega) (by omega)) dX7_addRod_74 (fun H locs hP hD hS => ?_)
    obtain ⟨f_40, hr_41, hP, hD⟩ : ∃ f_40 : Nat → Int32, rg (0) 10 f_40 ∧ va_P (dC, dI) vwCl (List.flatten [[(h0, .inr (5, [.int fc0, .ref (r0 0), .ref (r0 1), .ref (r0 2), .ref (r0 3), .int dc0, .ref (r0 4), .ref (r0 5), .ref (r0 6), .ref (r0 7), .ref (r0 8), .ref (r0 9)])), (r0 0, .inl (cJ, 6, .inr (.inl f_3))), (r0 1, .inl (cI, 6, .inl f_4)), (r0 2, .inl (cI, 6, .inl f_5)), (r0 3, .inl (cI, 6, .inl f_6)), (r0 4, .inl (cJ, 4, .inr (.inl f_9))), (r0 5, .inl (cI, 4, .inl f_40)), (r0 6, .inl (cJ, 40, .inr (.inl f_32))), (r0 7, .inl (cI, 40, .inl f_33)), (r0 8, .inl (cI, 40, .inl f_35)), (r0 9, .inl (cI, 40, .inl f_37))]]) H ∧ va_D A (List.flatten [[(h0, .inr (5, [.int fc0, .ref (r0 0), .ref (r0 1), .ref (r0 2), .ref (r0 3), .int dc0, .ref (r0 4), .ref (r0 5), .ref (r0 6), .ref (r0 7), .ref (r0 8), .ref (r0 9)])), (r0 0, .inl (cJ, 6, .inr (.inl f_3))), (r0 1, .inl (cI, 6, .inl f_4)), (r0 2, .inl (cI, 6, .inl f_5)), (r0 3, .inl (cI, 6, .inl f_6)), (r0 4, .inl (cJ, 4, .inr (.inl f_9))), (r0 5, .inl (cI, 4, .inl f_40)), (r0 6, .inl (cJ, 40, .inr (.inl f_32))), (r0 7, .inl (cI, 40, .inl f_33)), (r0 8, .inl (cI, 40, .inl f_35)), (r0 9, .inl (cI, 40, .inl f_37))]]) := ⟨_, rg_upd hr_10 (by omega) (by omega), hP, hD⟩
    rw [hQ0]
    exact W.vret hx hb hr (fun t ht hW => ⟨⟨(), rfl, trivial, ⟨f_40, _, ⟨f_3, f_4, f_5, f_6, f_9, f_32, f_33, f_35, f_37, rfl, by omega, by omega, by omega, by omega, hr_41, hr_34, hr_36⟩, by rw [ht]; exact hP, hD⟩⟩, hS.F ht⟩) hS.2.2 dX7_addRod_75
theorem iw_X9_takeLetters_X9 : ∀ w ∈ wsX90, w ∈ wsX9_takeLetters := fun _ h => List.mem_cons_of_mem _ (List.mem_append_right _ h)
set_option maxHeartbeats 4000000 in
set_option maxRecDepth 100000 in
theorem c_X9_takeLetters (l : Launch) (dC : Nat → ClassId) (dI : Nat → Nat → Nat) (ad : Nat → Nat) (tN : Nat) (fN : Nat → Int64) (cB cI cJ cZ : ClassId) (h0 : Nat) (r0 : Nat → Nat) (tx0 : Nat) (w0 : va_W) (f1 : Nat → Int32) (o0 : ok_tok ad cB cI cJ cZ h0 r0 tx0 w0) (sz : Nat) : Met l yX9_takeLetters wsX9_takeLetters ({ frames := 0, cells := 0, slots := 0, locals := 0 } : Room) (va_Pc [.ref h0] (fun U => U.heap.size = sz ∧ va_P (dC, dI) vwCl (List.flatten [w0, [(tx0, .inl (cB, 1600, .inl f1))]]) U.heap ∧ va_K (dC, dI) vwCl [(cB, .byte), (cI, .int), (cJ, .long), (cZ, .boolean)] U ∧ va_D (fun _ => True) (List.flatten [w0, [(tx0, .inl (cB, 1600, .inl f1))]]) ∧ ex_Y ad tN fN (va_A (List.flatten [w0, [(tx0, .inl (cB, 1600, .inl f1))]]) sz) U)) (va_Qv (fun _ : Unit => True) (fun (_ : Unit) (t : State) => ∃ (w09 : va_W), ok_tok ad cB cI cJ cZ h0 r0 tx0 w09 ∧ va_P (dC, dI) vwCl (List.flatten [w09, [(tx0, .inl (cB, 1600, .inl f1))]]) t.heap ∧ va_D (va_A (List.flatten [w0, [(tx0, .inl (cB, 1600, .inl f1))]]) sz) (List.flatten [w09, [(tx0, .inl (cB, 1600, .inl f1))]])) (va_A (List.flatten [w0, [(tx0, .inl (cB, 1600, .inl f1))]]) sz)) 0 0 (va_A (List.flatten [w0, [(tx0, .inl (cB, 1600, .inl f1))]]) sz) := by
  refine Met.ofW (cc := cX9_takeLetters) (maxL := 1) (ret := none) (by decide) rfl ?_
  intro p e s m args below meth c s₁ B hml hv
  obtain ⟨rfl, hsz, hP, hK, hD0, hE⟩ := hv
  have hx := B.exec
  have hb := B.bytes
  have hr := B.returns
  have hts := atoms_spec (ws := wsX9_takeLetters) B.pre
  have hown : s.vm.findClass RX9 = some m.cls := findClass_of_methodNamed B.named
  have hlocks := B.notSynchronized
  subst hsz
  have hD := hD0.self (sz := s.heap.size)
  generalize hAe : va_A (List.flatten [w0, [(tx0, .inl (cB, 1600, .inl f1))]]) s.heap.size = A at hD hE ⊢
  have hA : ∀ q : Nat, s.heap.size ≤ q → A q := fun q h => by rw [← hAe]; exact Or.inr h
  have hS : va_S A s.heap s.heap [] := va_S.rf
  have hl := lv_entry ([.ref h0]) (n := 1) (Nat.le_of_ble_eq_true rfl)
  rw [lg_entry_eq]
  generalize (lg_sl ([.ref h0]) ++ List.replicate (1 - (lg_sl ([.ref h0])).length) Slot.unset).toArray = ls at hl ⊢
  have hl : lv_has ls 1 [(0, .ref h0)] := hl
  clear hAe
  refine W_name (fun Q0 hQ0 => ?_)
  refine lv_aload_n hx hb dX9_takeLetters_0 rfl (lv_at hl 0 rfl) ?_
  refine lv_lconst (v := 0) hx hb dX9_takeLetters_1 (by decide) ?_
  obtain ⟨ln_1, ap_4, kd_7, sa_8, wd_9, nu_10, rfl, hl_2, hh_3, hl_5, hh_6⟩ := o0
  refine va_put (D := (dC, dI)) (ci := 7) (v := .long 0) (ty := .long) (C := RX9) (T := TX9) (N := 7) hx hb hts iw_X9_takeLetters_X9 tyX9 tyX9_ok nmX9 hown hK hP hD hS 0 rfl rfl 5 (by decide) (hts (.fieldLink RX9 32 "HungFloors$Tokens" "word" "J") (by decide +kernel)) (fun _ h9 => h9) rfl (by decide +kernel) rfl rfl (Nat.le_of_ble_eq_true rfl) dX9_takeLetters_2 (fun H locs hP hD hS => ?_)
  have hP : va_P (dC, dI) vwCl (List.flatten [[(h0, .inr (7, [.ref tx0, .int ln_1, .int ap_4, .ref (ad kd_7), .int sa_8, .long 0, .int nu_10]))], [(tx0, .inl (cB, 1600, .inl f1))]]) H := hP
  have hD : va_D A (List.flatten [[(h0, .inr (7, [.ref tx0, .int ln_1, .int ap_4, .ref (ad kd_7), .int sa_8, .long 0, .int nu_10]))], [(tx0, .inl (cB, 1600, .inl f1))]]) := hD
  have lp_112 : ∀ (n : Nat) (g_27 : Int32) (g_28 : Int64), 0 ≤ g_27.toInt → g_27.toInt ≤ 1600 → ap_4.toInt - g_27.toInt ≤ 0 → (1600 - g_27.toInt).toNat < n → ∀ (H : Heap) (locs : List Loc), va_P (dC, dI) vwCl (List.flatten [[(h0, .inr (7, [.ref tx0, .int ln_1, .int g_27, .ref (ad kd_7), .int sa_8, .long g_28, .int nu_10]))], [(tx0, .inl (cB, 1600, .inl f1))]]) H → va_D A (List.flatten [[(h0, .inr (7, [.ref tx0, .int ln_1, .int g_27, .ref (ad kd_7), .int sa_8, .long g_28, .int nu_10]))], [(tx0, .inl (cB, 1600, .inl f1))]]) → va_S A s.heap H locs → ∀ (ls : Array Slot), lv_has ls 1 [(0, .ref h0)] → W p l e (headSpec wsX9_takeLetters ({ frames := 0, cells := 0, slots := 0, locals := 0 } : Room)).room s m ([.ref h0] : List Value).toArray below meth c H locs 0 0 Q0 (F0 m 5 ls []) := by
    intro n
    induction n with
    | zero => intro g_27 g_28 iv_109 iv_110 iv_111 hm; exact absurd hm (Nat.not_lt_zero _)
    | succ n ih_113 =>
      intro g_27 g_28 iv_109 iv_110 iv_111 hm H locs hP hD hS ls hl
      refine lv_aload_n hx hb dX9_takeLetters_5 rfl (lv_at hl 0 rfl) ?_
      refine va_get (D := (dC, dI)) (ci := 7) (v := .int g_27) (C := RX9) (T := TX9) (N := 7) hx hb hts iw_X9_takeLetters_X9 hown hK hP 0 rfl rfl 2 (by decide) (hts (.fieldLink RX9 17 "HungFloors$Tokens" "at" "I") (by decide +kernel)) (fun _ h9 => h9) rfl dX9_takeLetters_6 ?_
      refine lv_aload_n hx hb dX9_takeLetters_9 rfl (lv_at hl 0 rfl) ?_
      refine va_get (D := (dC, dI)) (ci := 7) (v := .int ln_1) (C := RX9) (T := TX9) (N := 7) hx hb hts iw_X9_takeLetters_X9 hown hK hP 0 rfl rfl 1 (by decide) (hts (.fieldLink RX9 13 "HungFloors$Tokens" "length" "I") (by decide +kernel)) (fun _ h9 => h9) rfl dX9_takeLetters_10 ?_
      refine lv_icmp_ge (tgt := 79) hx hb dX9_takeLetters_13 (by decide) (fun c_114 => ?_) (fun c_114 => ?_)
      · have c_114 : ln_1.toInt ≤ g_27.toInt := f_le rfl rfl c_114
        refine lv_aload_n hx hb dX9_takeLetters_79 rfl (lv_at hl 0 rfl) ?_
        refine lv_aload_n hx hb dX9_takeLetters_80 rfl (lv_at hl 0 rfl) ?_
        refine va_get (D := (dC, dI)) (ci := 7) (v := .int g_27) (C := RX9) (T := TX9) (N := 7) hx hb hts iw_X9_takeLetters_X9 hown hK hP 0 rfl rfl 2 (by decide) (hts (.fieldLink RX9 17 "HungFloors$Tokens" "at" "I") (by decide +kernel)) (fun _ h9 => h9) rfl dX9_takeLetters_81 ?_
        refine lv_aload_n hx hb dX9_takeLetters_84 rfl (lv_at hl 0 rfl) ?_
        refine va_get (D := (dC, dI)) (ci := 7) (v := .int sa_8) (C := RX9) (T := TX9) (N := 7) hx hb hts iw_X9_takeLetters_X9 hown hK hP 0 rfl rfl 4 (by decide) (hts (.fieldLink RX9 29 "HungFloors$Tokens" "start" "I") (by decide +kernel)) (fun _ h9 => h9) rfl dX9_takeLetters_85 ?_
        refine lv_isub hx hb dX9_takeLetters_88 ?_
        refine lv_topi (fun z_115 ez_115 => ?_)
        refine lv_bipush (v := 8) hx hb dX9_takeLetters_89 (by decide) ?_
        refine lv_icmp_gt (tgt := 100) hx hb dX9_takeLetters_91 (by decide) (fun c_116 => ?_) (fun c_116 => ?_)
        · have c_116 : 8 < z_115.toInt := f_lt tI_8 rfl c_116
          refine va_gets hx hb (hE.2.1.1 4 (by decide)).1 hS hown (hts (.fieldLink RX9 57 "HungFloors$Kind" "NOTHING" "LHungFloors$Kind;") (by decide +kernel)) (fun _ h9 => h9) dX9_takeLetters_100 ?_
          refine va_put (D := (dC, dI)) (ci := 7) (v := .ref (ad 4)) (ty := .object "HungFloors$Kind") (C := RX9) (T := TX9) (N := 7) hx hb hts iw_X9_takeLetters_X9 tyX9 tyX9_ok nmX9 hown hK hP hD hS 0 rfl rfl 3 (by decide) (hts (.fieldLink RX9 26 "HungFloors$Tokens" "kind" "LHungFloors$Kind;") (by decide +kernel)) (fun _ h9 => h9) rfl (by decide +kernel) rfl rfl (Nat.le_of_ble_eq_true rfl) dX9_takeLetters_103 (fun H locs hP hD hS => ?_)
          have hP : va_P (dC, dI) vwCl (List.flatten [[(h0, .inr (7, [.ref tx0, .int ln_1, .int g_27, .ref (ad 4), .int sa_8, .long g_28, .int nu_10]))], [(tx0, .inl (cB, 1600, .inl f1))]]) H := hP
          have hD : va_D A (List.flatten [[(h0, .inr (7, [.ref tx0, .int ln_1, .int g_27, .ref (ad 4), .int sa_8, .long g_28, .int nu_10]))], [(tx0, .inl (cB, 1600, .inl f1))]]) := hD
          rw [hQ0]
          exact W.vret hx hb hr (fun t ht hW => ⟨⟨(), rfl, trivial, ⟨_, ⟨ln_1, g_27, 4, sa_8, g_28, nu_10, rfl, by omega, by omega, by omega, by omega⟩, by rw [ht]; exact hP, hD⟩⟩, hS.F ht⟩) hS.2.2 dX9_takeLetters_106
        · have c_116 : z_115.toInt ≤ 8 := f_nlt tI_8 rfl c_116
          refine va_gets hx hb (hE.2.1.1 0 (by decide)).1 hS hown (hts (.fieldLink RX9 60 "HungFloors$Kind" "WORD" "LHungFloors$Kind;") (by decide +kernel)) (fun _ h9 => h9) dX9_takeLetters_94 ?_
          refine lv_goto (tgt := 103) hx hb dX9_takeLetters_97 (by decide) ?_
          refine va_put (D := (dC, dI)) (ci := 7) (v := .ref (ad 0)) (ty := .object "HungFloors$Kind") (C := RX9) (T := TX9) (N := 7) hx hb hts iw_X9_takeLetters_X9 tyX9 tyX9_ok nmX9 hown hK hP hD hS 0 rfl rfl 3 (by decide) (hts (.fieldLink RX9 26 "HungFloors$Tokens" "kind" "LHungFloors$Kind;") (by decide +kernel)) (fun _ h9 => h9) rfl (by decide +kernel) rfl rfl (Nat.le_of_ble_eq_true rfl) dX9_takeLetters_103 (fun H locs hP hD hS => ?_)
          have hP : va_P (dC, dI) vwCl (List.flatten [[(h0, .inr (7, [.ref tx0, .int ln_1, .int g_27, .ref (ad 0), .int sa_8, .long g_28, .int nu_10]))], [(tx0, .inl (cB, 1600, .inl f1))]]) H := hP
          have hD : va_D A (List.flatten [[(h0, .inr (7, [.ref tx0, .int ln_1, .int g_27, .ref (ad 0), .int sa_8, .long g_28, .int nu_10]))], [(tx0, .inl (cB, 1600, .inl f1))]]) := hD
          rw [hQ0]
          exact W.vret hx hb hr (fun t ht hW => ⟨⟨(), rfl, trivial, ⟨_, ⟨ln_1, g_27, 0, sa_8, g_28, nu_10, rfl, by omega, by omega, by omega, by omega⟩, by rw [ht]; exact hP, hD⟩⟩, hS.F ht⟩) hS.2.2 dX9_takeLetters_106
      · have c_114 : g_27.toInt < ln_1.toInt := f_nle rfl rfl c_114
        refine lv_aload_n hx hb dX9_takeLetters_16 rfl (lv_at hl 0 rfl) ?_
        refine va_get (D := (dC, dI)) (ci := 7) (v := .ref tx0) (C := RX9) (T := TX9) (N := 7) hx hb hts iw_X9_takeLetters_X9 hown hK hP 0 rfl rfl 0 (by decide) (hts (.fieldLink RX9 7 "HungFloors$Tokens" "text" "[B") (by decide +kernel)) (fun _ h9 => h9) rfl dX9_takeLetters_17 ?_
        refine lv_aload_n hx hb dX9_takeLetters_20 rfl (lv_at hl 0 rfl) ?_
        refine va_get (D := (dC, dI)) (ci := 7) (v := .int g_27) (C := RX9) (T := TX9) (N := 7) hx hb hts iw_X9_takeLetters_X9 hown hK hP 0 rfl rfl 2 (by decide) (hts (.fieldLink RX9 17 "HungFloors$Tokens" "at" "I") (by decide +kernel)) (fun _ h9 => h9) rfl dX9_takeLetters_21 ?_
        refine va_bald hx hb hK hP 1 0 rfl rfl (v_in rfl (by omega) (by omega)) dX9_takeLetters_24 ?_
        refine lv_topi (fun z_117 ez_117 => ?_)
        refine lv_bipush (v := 97) hx hb dX9_takeLetters_25 (by decide) ?_
        refine lv_icmp_lt (tgt := 79) hx hb dX9_takeLetters_27 (by decide) (fun c_118 => ?_) (fun c_118 => ?_)
        · have c_118 : z_117.toInt < 97 := f_lt rfl tI_97 c_118
          refine lv_aload_n hx hb dX9_takeLetters_79 rfl (lv_at hl 0 rfl) ?_
          refine lv_aload_n hx hb dX9_takeLetters_80 rfl (lv_at hl 0 rfl) ?_
          refine va_get (D := (dC, dI)) (ci := 7) (v := .int g_27) (C := RX9) (T := TX9) (N := 7) hx hb hts iw_X9_takeLetters_X9 hown hK hP 0 rfl rfl 2 (by decide) (hts (.fieldLink RX9 17 "HungFloors$Tokens" "at" "I") (by decide +kernel)) (fun _ h9 => h9) rfl dX9_takeLetters_81 ?_
          refine lv_aload_n hx hb dX9_takeLetters_84 rfl (lv_at hl 0 rfl) ?_
          refine va_get (D := (dC, dI)) (ci := 7) (v := .int sa_8) (C := RX9) (T := TX9) (N := 7) hx hb hts iw_X9_takeLetters_X9 hown hK hP 0 rfl rfl 4 (by decide) (hts (.fieldLink RX9 29 "HungFloors$Tokens" "start" "I") (by decide +kernel)) (fun _ h9 => h9) rfl dX9_takeLetters_85 ?_
          refine lv_isub hx hb dX9_takeLetters_88 ?_
          refine lv_topi (fun z_119 ez_119 => ?_)
          refine lv_bipush (v := 8) hx hb dX9_takeLetters_89 (by decide) ?_
          refine lv_icmp_gt (tgt := 100) hx hb dX9_takeLetters_91 (by decide) (fun c_120 => ?_) (fun c_120 => ?_)
          · have c_120 : 8 < z_119.toInt := f_lt tI_8 rfl c_120
            refine va_gets hx hb (hE.2.1.1 4 (by decide)).1 hS hown (hts (.fieldLink RX9 57 "HungFloors$Kind" "NOTHING" "LHungFloors$Kind;") (by decide +kernel)) (fun _ h9 => h9) dX9_takeLetters_100 ?_
            refine va_put (D := (dC, dI)) (ci := 7) (v := .ref (ad 4)) (ty := .object "HungFloors$Kind") (C := RX9) (T := TX9) (N := 7) hx hb hts iw_X9_takeLetters_X9 tyX9 tyX9_ok nmX9 hown hK hP hD hS 0 rfl rfl 3 (by decide) (hts (.fieldLink RX9 26 "HungFloors$Tokens" "kind" "LHungFloors$Kind;") (by decide +kernel)) (fun _ h9 => h9) rfl (by decide +kernel) rfl rfl (Nat.le_of_ble_eq_true rfl) dX9_takeLetters_103 (fun H locs hP hD hS => ?_)
            have hP : va_P (dC, dI) vwCl (List.flatten [[(h0, .inr (7, [.ref tx0, .int ln_1, .int g_27, .ref (ad 4), .int sa_8, .long g_28, .int nu_10]))], [(tx0, .inl (cB, 1600, .inl f1))]]) H := hP
            have hD : va_D A (List.flatten [[(h0, .inr (7, [.ref tx0, .int ln_1, .int g_27, .ref (ad 4), .int sa_8, .long g_28, .int nu_10]))], [(tx0, .inl (cB, 1600, .inl f1))]]) := hD
            rw [hQ0]
            exact W.vret hx hb hr (fun t ht hW => ⟨⟨(), rfl, trivial, ⟨_, ⟨ln_1, g_27, 4, sa_8, g_28, nu_10, rfl, by omega, by omega, by omega, by omega⟩, by rw [ht]; exact hP, hD⟩⟩, hS.F ht⟩) hS.2.2 dX9_takeLetters_106
          · have c_120 : z_119.toInt ≤ 8 := f_nlt tI_8 rfl c_120
            refine va_gets hx hb (hE.2.1.1 0 (by decide)).1 hS hown (hts (.fieldLink RX9 60 "HungFloors$Kind" "WORD" "LHungFloors$Kind;") (by decide +kernel)) (fun _ h9 => h9) dX9_takeLetters_94 ?_
            refine lv_goto (tgt := 103) hx hb dX9_takeLetters_97 (by decide) ?_
            refine va_put (D := (dC, dI)) (ci := 7) (v := .ref (ad 0)) (ty := .object "HungFloors$Kind") (C := RX9) (T := TX9) (N := 7) hx hb hts iw_X9_takeLetters_X9 tyX9 tyX9_ok nmX9 hown hK hP hD hS 0 rfl rfl 3 (by decide) (hts (.fieldLink RX9 26 "HungFloors$Tokens" "kind" "LHungFloors$Kind;") (by decide +kernel)) (fun _ h9 => h9) rfl (by decide +kernel) rfl rfl (Nat.le_of_ble_eq_true rfl) dX9_takeLetters_103 (fun H locs hP hD hS => ?_)
            have hP : va_P (dC, dI) vwCl (List.flatten [[(h0, .inr (7, [.ref tx0, .int ln_1, .int g_27, .ref (ad 0), .int sa_8, .long g_28, .int nu_10]))], [(tx0, .inl (cB, 1600, .inl f1))]]) H := hP
            have hD : va_D A (List.flatten [[(h0, .inr (7, [.ref tx0, .int ln_1, .int g_27, .ref (ad 0), .int sa_8, .long g_28, .int nu_10]))], [(tx0, .inl (cB, 1600, .inl f1))]]) := hD
            rw [hQ0]
            exact W.vret hx hb hr (fun t ht hW => ⟨⟨(), rfl, trivial, ⟨_, ⟨ln_1, g_27, 0, sa_8, g_28, nu_10, rfl, by omega, by omega, by omega, by omega⟩, by rw [ht]; exact hP, hD⟩⟩, hS.F ht⟩) hS.2.2 dX9_takeLetters_106
        · have c_118 : 97 ≤ z_117.toInt := f_nlt rfl tI_97 c_118
          refine lv_aload_n hx hb dX9_takeLetters_30 rfl (lv_at hl 0 rfl) ?_
          refine va_get (D := (dC, dI)) (ci := 7) (v := .ref tx0) (C := RX9) (T := TX9) (N := 7) hx hb hts iw_X9_takeLetters_X9 hown hK hP 0 rfl rfl 0 (by decide) (hts (.fieldLink RX9 7 "HungFloors$Tokens" "text" "[B") (by decide +kernel)) (fun _ h9 => h9) rfl dX9_takeLetters_31 ?_
          refine lv_aload_n hx hb dX9_takeLetters_34 rfl (lv_at hl 0 rfl) ?_
          refine va_get (D := (dC, dI)) (ci := 7) (v := .int g_27) (C := RX9) (T := TX9) (N := 7) hx hb hts iw_X9_takeLetters_X9 hown hK hP 0 rfl rfl 2 (by decide) (hts (.fieldLink RX9 17 "HungFloors$Tokens" "at" "I") (by decide +kernel)) (fun _ h9 => h9) rfl dX9_takeLetters_35 ?_
          refine va_bald hx hb hK hP 1 0 rfl rfl (v_in rfl (by omega) (by omega)) dX9_takeLetters_38 ?_
          refine lv_topi (fun z_121 ez_121 => ?_)
          have qz_121 : z_121.toInt = z_117.toInt := by rw [ez_121, ez_117]
          refine lv_bipush (v := 122) hx hb dX9_takeLetters_39 (by decide) ?_
          refine lv_icmp_gt (tgt := 79) hx hb dX9_takeLetters_41 (by decide) (fun c_122 => ?_) (fun c_122 => ?_)
          · have c_122 : 122 < z_121.toInt := f_lt tI_122 rfl c_122
            refine lv_aload_n hx hb dX9_takeLetters_79 rfl (lv_at hl 0 rfl) ?_
            refine lv_aload_n hx hb dX9_takeLetters_80 rfl (lv_at hl 0 rfl) ?_
            refine va_get (D := (dC, dI)) (ci := 7) (v := .int g_27) (C := RX9) (T := TX9) (N := 7) hx hb hts iw_X9_takeLetters_X9 hown hK hP 0 rfl rfl 2 (by decide) (hts (.fieldLink RX9 17 "HungFloors$Tokens" "at" "I") (by decide +kernel)) (fun _ h9 => h9) rfl dX9_takeLetters_81 ?_
            refine lv_aload_n hx hb dX9_takeLetters_84 rfl (lv_at hl 0 rfl) ?_
            refine va_get (D := (dC, dI)) (ci := 7) (v := .int sa_8) (C := RX9) (T := TX9) (N := 7) hx hb hts iw_X9_takeLetters_X9 hown hK hP 0 rfl rfl 4 (by decide) (hts (.fieldLink RX9 29 "HungFloors$Tokens" "start" "I") (by decide +kernel)) (fun _ h9 => h9) rfl dX9_takeLetters_85 ?_
            refine lv_isub hx hb dX9_takeLetters_88 ?_
            refine lv_topi (fun z_123 ez_123 => ?_)
            refine lv_bipush (v := 8) hx hb dX9_takeLetters_89 (by decide) ?_
            refine lv_icmp_gt (tgt := 100) hx hb dX9_takeLetters_91 (by decide) (fun c_124 => ?_) (fun c_124 => ?_)
            · have c_124 : 8 < z_123.toInt := f_lt tI_8 rfl c_124
              refine va_gets hx hb (hE.2.1.1 4 (by decide)).1 hS hown (hts (.fieldLink RX9 57 "HungFloors$Kind" "NOTHING" "LHungFloors$Kind;") (by decide +kernel)) (fun _ h9 => h9) dX9_takeLetters_100 ?_
              refine va_put (D := (dC, dI)) (ci := 7) (v := .ref (ad 4)) (ty := .object "HungFloors$Kind") (C := RX9) (T := TX9) (N := 7) hx hb hts iw_X9_takeLetters_X9 tyX9 tyX9_ok nmX9 hown hK hP hD hS 0 rfl rfl 3 (by decide) (hts (.fieldLink RX9 26 "HungFloors$Tokens" "kind" "LHungFloors$Kind;") (by decide +kernel)) (fun _ h9 => h9) rfl (by decide +kernel) rfl rfl (Nat.le_of_ble_eq_true rfl) dX9_takeLetters_103 (fun H locs hP hD hS => ?_)
              have hP : va_P (dC, dI) vwCl (List.flatten [[(h0, .inr (7, [.ref tx0, .int ln_1, .int g_27, .ref (ad 4), .int sa_8, .long g_28, .int nu_10]))], [(tx0, .inl (cB, 1600, .inl f1))]]) H := hP
              have hD : va_D A (List.flatten [[(h0, .inr (7, [.ref tx0, .int ln_1, .int g_27, .ref (ad 4), .int sa_8, .long g_28, .int nu_10]))], [(tx0, .inl (cB, 1600, .inl f1))]]) := hD
              rw [hQ0]
              exact W.vret hx hb hr (fun t ht hW => ⟨⟨(), rfl, trivial, ⟨_, ⟨ln_1, g_27, 4, sa_8, g_28, nu_10, rfl, by omega, by omega, by omega, by omega⟩, by rw [ht]; exact hP, hD⟩⟩, hS.F ht⟩) hS.2.2 dX9_takeLetters_106
            · have c_124 : z_123.toInt ≤ 8 := f_nlt tI_8 rfl c_124
              refine va_gets hx hb (hE.2.1.1 0 (by decide)).1 hS hown (hts (.fieldLink RX9 60 "HungFloors$Kind" "WORD" "LHungFloors$Kind;") (by decide +kernel)) (fun _ h9 => h9) dX9_takeLetters_94 ?_
              refine lv_goto (tgt := 103) hx hb dX9_takeLetters_97 (by decide) ?_
              refine va_put (D := (dC, dI)) (ci := 7) (v := .ref (ad 0)) (ty := .object "HungFloors$Kind") (C := RX9) (T := TX9) (N := 7) hx hb hts iw_X9_takeLetters_X9 tyX9 tyX9_ok nmX9 hown hK hP hD hS 0 rfl rfl 3 (by decide) (hts (.fieldLink RX9 26 "HungFloors$Tokens" "kind" "LHungFloors$Kind;") (by decide +kernel)) (fun _ h9 => h9) rfl (by decide +kernel) rfl rfl (Nat.le_of_ble_eq_true rfl) dX9_takeLetters_103 (fun H locs hP hD hS => ?_)
              have hP : va_P (dC, dI) vwCl (List.flatten [[(h0, .inr (7, [.ref tx0, .int ln_1, .int g_27, .ref (ad 0), .int sa_8, .long g_28, .int nu_10]))], [(tx0, .inl (cB, 1600, .inl f1))]]) H := hP
              have hD : va_D A (List.flatten [[(h0, .inr (7, [.ref tx0, .int ln_1, .int g_27, .ref (ad 0), .int sa_8, .long g_28, .int nu_10]))], [(tx0, .inl (cB, 1600, .inl f1))]]) := hD
              rw [hQ0]
              exact W.vret hx hb hr (fun t ht hW => ⟨⟨(), rfl, trivial, ⟨_, ⟨ln_1, g_27, 0, sa_8, g_28, nu_10, rfl, by omega, by omega, by omega, by omega⟩, by rw [ht]; exact hP, hD⟩⟩, hS.F ht⟩) hS.2.2 dX9_takeLetters_106
          · have c_122 : z_121.toInt ≤ 122 := f_nlt tI_122 rfl c_122
            refine lv_aload_n hx hb dX9_takeLetters_44 rfl (lv_at hl 0 rfl) ?_
            refine lv_aload_n hx hb dX9_takeLetters_45 rfl (lv_at hl 0 rfl) ?_
            refine va_get (D := (dC, dI)) (ci := 7) (v := .long g_28) (C := RX9) (T := TX9) (N := 7) hx hb hts iw_X9_takeLetters_X9 hown hK hP 0 rfl rfl 5 (by decide) (hts (.fieldLink RX9 32 "HungFloors$Tokens" "word" "J") (by decide +kernel)) (fun _ h9 => h9) rfl dX9_takeLetters_46 ?_
            refine lv_bipush (v := 8) hx hb dX9_takeLetters_49 (by decide) ?_
            refine lv_lshl hx hb dX9_takeLetters_51 rfl ?_
            refine lv_topl (fun z_125 ez_125 => ?_)
            refine lv_aload_n hx hb dX9_takeLetters_52 rfl (lv_at hl 0 rfl) ?_
            refine va_get (D := (dC, dI)) (ci := 7) (v := .ref tx0) (C := RX9) (T := TX9) (N := 7) hx hb hts iw_X9_takeLetters_X9 hown hK hP 0 rfl rfl 0 (by decide) (hts (.fieldLink RX9 7 "HungFloors$Tokens" "text" "[B") (by decide +kernel)) (fun _ h9 => h9) rfl dX9_takeLetters_53 ?_
            refine lv_aload_n hx hb dX9_takeLetters_56 rfl (lv_at hl 0 rfl) ?_
            refine va_get (D := (dC, dI)) (ci := 7) (v := .int g_27) (C := RX9) (T := TX9) (N := 7) hx hb hts iw_X9_takeLetters_X9 hown hK hP 0 rfl rfl 2 (by decide) (hts (.fieldLink RX9 17 "HungFloors$Tokens" "at" "I") (by decide +kernel)) (fun _ h9 => h9) rfl dX9_takeLetters_57 ?_
            refine va_bald hx hb hK hP 1 0 rfl rfl (v_in rfl (by omega) (by omega)) dX9_takeLetters_60 ?_
            refine lv_topi (fun z_126 ez_126 => ?_)
            have qz_126 : z_126.toInt = z_117.toInt := by rw [ez_126, ez_117]
            obtain ⟨z_127, ez_127⟩ : ∃ y : Int64, (z_126 : Int32).toInt64 = y := ⟨_, rfl⟩
            refine lv_i2l (v := z_127) hx hb dX9_takeLetters_61 ez_127 ?_
            have nz_127 : ¬ z_127 = 0 := i2l_ne ez_127 (by omega)
            refine lv_lor hx hb dX9_takeLetters_62 ?_
            refine lv_topl (fun z_128 ez_128 => ?_)
            refine va_put (D := (dC, dI)) (ci := 7) (v := .long z_128) (ty := .long) (C := RX9) (T := TX9) (N := 7) hx hb hts iw_X9_takeLetters_X9 tyX9 tyX9_ok nmX9 hown hK hP hD hS 0 rfl rfl 5 (by decide) (hts (.fieldLink RX9 32 "HungFloors$Tokens" "word" "J") (by decide +kernel)) (fun _ h9 => h9) rfl (by decide +kernel) rfl rfl (Nat.le_of_ble_eq_true rfl) dX9_takeLetters_63 (fun H locs hP hD hS => ?_)
            have hP : va_P (dC, dI) vwCl (List.flatten [[(h0, .inr (7, [.ref tx0, .int ln_1, .int g_27, .ref (ad kd_7), .int sa_8, .long z_128, .int nu_10]))], [(tx0, .inl (cB, 1600, .inl f1))]]) H := hP
            have hD : va_D A (List.flatten [[(h0, .inr (7, [.ref tx0, .int ln_1, .int g_27, .ref (ad kd_7), .int sa_8, .long z_128, .int nu_10]))], [(tx0, .inl (cB, 1600, .inl f1))]]) := hD
            refine lv_aload_n hx hb dX9_takeLetters_66 rfl (lv_at hl 0 rfl) ?_
            refine lv_dup hx hb dX9_takeLetters_67 rfl ?_
            refine va_get (D := (dC, dI)) (ci := 7) (v := .int g_27) (C := RX9) (T := TX9) (N := 7) hx hb hts iw_X9_takeLetters_X9 hown hK hP 0 rfl rfl 2 (by decide) (hts (.fieldLink RX9 17 "HungFloors$Tokens" "at" "I") (by decide +kernel)) (fun _ h9 => h9) rfl dX9_takeLetters_68 ?_
            refine lv_iconst (v := 1) hx hb dX9_takeLetters_71 (by decide) ?_
            refine lv_iadd hx hb dX9_takeLetters_72 ?_
            refine lv_topi (fun z_129 ez_129 => ?_)
            have hz_129 : z_129.toInt = g_27.toInt + 1 := by rw [ez_129]; exact t_add rfl tI_1 (by omega) (by omega)
            refine va_put (D := (dC, dI)) (ci := 7) (v := .int z_129) (ty := .int) (C := RX9) (T := TX9) (N := 7) hx hb hts iw_X9_takeLetters_X9 tyX9 tyX9_ok nmX9 hown hK hP hD hS 0 rfl rfl 2 (by decide) (hts (.fieldLink RX9 17 "HungFloors$Tokens" "at" "I") (by decide +kernel)) (fun _ h9 => h9) rfl (by decide +kernel) rfl rfl (Nat.le_of_ble_eq_true rfl) dX9_takeLetters_73 (fun H locs hP hD hS => ?_)
            have hP : va_P (dC, dI) vwCl (List.flatten [[(h0, .inr (7, [.ref tx0, .int ln_1, .int z_129, .ref (ad kd_7), .int sa_8, .long z_128, .int nu_10]))], [(tx0, .inl (cB, 1600, .inl f1))]]) H := hP
            have hD : va_D A (List.flatten [[(h0, .inr (7, [.ref tx0, .int ln_1, .int z_129, .ref (ad kd_7), .int sa_8, .long z_128, .int nu_10]))], [(tx0, .inl (cB, 1600, .inl f1))]]) := hD
            refine lv_goto (tgt := 5) hx hb dX9_takeLetters_76 (by decide) ?_
            exact ih_113 z_129 z_128 (by omega) (by omega) (by omega) (by omega) _ _ hP hD hS ls (lv_sub hl [0] rfl)
  exact lp_112 _ ap_4 0 (by omega) (by omega) (by omega) (Nat.lt_succ_self _) _ _ hP hD hS ls (lv_sub hl [0] rfl)
theorem iw_X9_takeDigits_X9 : ∀ w ∈ wsX90, w ∈ wsX9_takeDigits := fun _ h => List.mem_cons_of_mem _ (List.mem_append_right _ h)
set_option maxHeartbeats 4000000 in
set_option maxRecDepth 100000 in
theorem c_X9_takeDigits (l : Launch) (dC : Nat → ClassId) (dI : Nat → Nat → Nat) (ad : Nat → Nat) (tN : Nat) (fN : Nat → Int64) (cB cI cJ cZ : ClassId) (h0 : Nat) (r0 : Nat → Nat) (tx0 : Nat) (w0 : va_W) (f1 : Nat → Int32) (o0 : ok_tok ad cB cI cJ cZ h0 r0 tx0 w0) (sz : Nat) : Met l yX9_takeDigits wsX9_takeDigits ({ frames := 0, cells := 0, slots := 0, locals := 0 } : Room) (va_Pc [.ref h0] (fun U => U.heap.size = sz ∧ va_P (dC, dI) vwCl (List.flatten [w0, [(tx0, .inl (cB, 1600, .inl f1))]]) U.heap ∧ va_K (dC, dI) vwCl [(cB, .byte), (cI, .int), (cJ, .long), (cZ, .boolean)] U ∧ va_D (fun _ => True) (List.flatten [w0, [(tx0, .inl (cB, 1600, .inl f1))]]) ∧ ex_Y ad tN fN (va_A (List.flatten [w0, [(tx0, .inl (cB, 1600, .inl f1))]]) sz) U)) (va_Qv (fun _ : Unit => True) (fun (_ : Unit) (t : State) => ∃ (w09 : va_W), ok_tok ad cB cI cJ cZ h0 r0 tx0 w09 ∧ va_P (dC, dI) vwCl (List.flatten [w09, [(tx0, .inl (cB, 1600, .inl f1))]]) t.heap ∧ va_D (va_A (List.flatten [w0, [(tx0, .inl (cB, 1600, .inl f1))]]) sz) (List.flatten [w09, [(tx0, .inl (cB, 1600, .inl f1))]])) (va_A (List.flatten [w0, [(tx0, .inl (cB, 1600, .inl f1))]]) sz)) 0 0 (va_A (List.flatten [w0, [(tx0, .inl (cB, 1600, .inl f1))]]) sz) := by
  refine Met.ofW (cc := cX9_takeDigits) (maxL := 2) (ret := none) (by decide) rfl ?_
  intro p e s m args below meth c s₁ B hml hv
  obtain ⟨rfl, hsz, hP, hK, hD0, hE⟩ := hv
  have hx := B.exec
  have hb := B.bytes
  have hr := B.returns
  have hts := atoms_spec (ws := wsX9_takeDigits) B.pre
  have hown : s.vm.findClass RX9 = some m.cls := findClass_of_methodNamed B.named
  have hlocks := B.notSynchronized
  subst hsz
  have hD := hD0.self (sz := s.heap.size)
  generalize hAe : va_A (List.flatten [w0, [(tx0, .inl (cB, 1600, .inl f1))]]) s.heap.size = A at hD hE ⊢
  have hA : ∀ q : Nat, s.heap.size ≤ q → A q := fun q h => by rw [← hAe]; exact Or.inr h
  have hS : va_S A s.heap s.heap [] := va_S.rf
  have hl := lv_entry ([.ref h0]) (n := 2) (Nat.le_of_ble_eq_true rfl)
  rw [lg_entry_eq]
  generalize (lg_sl ([.ref h0]) ++ List.replicate (2 - (lg_sl ([.ref h0])).length) Slot.unset).toArray = ls at hl ⊢
  have hl : lv_has ls 2 [(0, .ref h0)] := hl
  clear hAe
  refine W_name (fun Q0 hQ0 => ?_)
  refine lv_aload_n hx hb dX9_takeDigits_0 rfl (lv_at hl 0 rfl) ?_
  refine lv_iconst (v := 0) hx hb dX9_takeDigits_1 (by decide) ?_
  obtain ⟨ln_1, ap_4, kd_7, sa_8, wd_9, nu_10, rfl, hl_2, hh_3, hl_5, hh_6⟩ := o0
  refine va_put (D := (dC, dI)) (ci := 7) (v := .int 0) (ty := .int) (C := RX9) (T := TX9) (N := 7) hx hb hts iw_X9_takeDigits_X9 tyX9 tyX9_ok nmX9 hown hK hP hD hS 0 rfl rfl 6 (by decide) (hts (.fieldLink RX9 36 "HungFloors$Tokens" "number" "I") (by decide +kernel)) (fun _ h9 => h9) rfl (by decide +kernel) rfl rfl (Nat.le_of_ble_eq_true rfl) dX9_takeDigits_2 (fun H locs hP hD hS => ?_)
  have hP : va_P (dC, dI) vwCl (List.flatten [[(h0, .inr (7, [.ref tx0, .int ln_1, .int ap_4, .ref (ad kd_7), .int sa_8, .long wd_9, .int 0]))], [(tx0, .inl (cB, 1600, .inl f1))]]) H := hP
  have hD : va_D A (List.flatten [[(h0, .inr (7, [.ref tx0, .int ln_1, .int ap_4, .ref (ad kd_7), .int sa_8, .long wd_9, .int 0]))], [(tx0, .inl (cB, 1600, .inl f1))]]) := hD
  have lp_322 : ∀ (n : Nat) (g_45 : Int32) (g_46 : Int32), 0 ≤ g_45.toInt → g_45.toInt ≤ 1600 → ap_4.toInt - g_45.toInt ≤ 0 → (1600 - g_45.toInt).toNat < n → ∀ (H : Heap) (locs : List Loc), va_P (dC, dI) vwCl (List.flatten [[(h0, .inr (7, [.ref tx0, .int ln_1, .int g_45, .ref (ad kd_7), .int sa_8, .long wd_9, .int g_46]))], [(tx0, .inl (cB, 1600, .inl f1))]]) H → va_D A (List.flatten [[(h0, .inr (7, [.ref tx0, .int ln_1, .int g_45, .ref (ad kd_7), .int sa_8, .long wd_9, .int g_46]))], [(tx0, .inl (cB, 1600, .inl f1))]]) → va_S A s.heap H locs → ∀ (ls : Array Slot), lv_has ls 2 [(0, .ref h0)] → W p l e (headSpec wsX9_takeDigits ({ frames := 0, cells := 0, slots := 0, locals := 0 } : Room)).room s m ([.ref h0] : List Value).toArray below meth c H locs 0 0 Q0 (F0 m 5 ls []) := by
    intro n
    induction n with
    | zero => intro g_45 g_46 iv_319 iv_320 iv_321 hm; exact absurd hm (Nat.not_lt_zero _)
    | succ n ih_323 =>
      intro g_45 g_46 iv_319 iv_320 iv_321 hm H locs hP hD hS ls hl
      refine lv_aload_n hx hb dX9_takeDigits_5 rfl (lv_at hl 0 rfl) ?_
      refine va_get (D := (dC, dI)) (ci := 7) (v := .int g_45) (C := RX9) (T := TX9) (N := 7) hx hb hts iw_X9_takeDigits_X9 hown hK hP 0 rfl rfl 2 (by decide) (hts (.fieldLink RX9 17 "HungFloors$Tokens" "at" "I") (by decide +kernel)) (fun _ h9 => h9) rfl dX9_takeDigits_6 ?_
      refine lv_aload_n hx hb dX9_takeDigits_9 rfl (lv_at hl 0 rfl) ?_
      refine va_get (D := (dC, dI)) (ci := 7) (v := .int ln_1) (C := RX9) (T := TX9) (N := 7) hx hb hts iw_X9_takeDigits_X9 hown hK hP 0 rfl rfl 1 (by decide) (hts (.fieldLink RX9 13 "HungFloors$Tokens" "length" "I") (by decide +kernel)) (fun _ h9 => h9) rfl dX9_takeDigits_10 ?_
      refine lv_icmp_ge (tgt := 81) hx hb dX9_takeDigits_13 (by decide) (fun c_324 => ?_) (fun c_324 => ?_)
      · have c_324 : ln_1.toInt ≤ g_45.toInt := f_le rfl rfl c_324
        refine lv_aload_n hx hb dX9_takeDigits_81 rfl (lv_at hl 0 rfl) ?_
        refine va_get (D := (dC, dI)) (ci := 7) (v := .int g_45) (C := RX9) (T := TX9) (N := 7) hx hb hts iw_X9_takeDigits_X9 hown hK hP 0 rfl rfl 2 (by decide) (hts (.fieldLink RX9 17 "HungFloors$Tokens" "at" "I") (by decide +kernel)) (fun _ h9 => h9) rfl dX9_takeDigits_82 ?_
        refine lv_aload_n hx hb dX9_takeDigits_85 rfl (lv_at hl 0 rfl) ?_
        refine va_get (D := (dC, dI)) (ci := 7) (v := .int ln_1) (C := RX9) (T := TX9) (N := 7) hx hb hts iw_X9_takeDigits_X9 hown hK hP 0 rfl rfl 1 (by decide) (hts (.fieldLink RX9 13 "HungFloors$Tokens" "length" "I") (by decide +kernel)) (fun _ h9 => h9) rfl dX9_takeDigits_86 ?_
        refine lv_icmp_ge (tgt := 124) hx hb dX9_takeDigits_89 (by decide) (fun c_325 => ?_) (fun c_325 => False.elim (by have c_325 := f_nle rfl rfl c_325; omega))
        have c_325 : ln_1.toInt ≤ g_45.toInt := f_le rfl rfl c_325
        refine lv_iconst (v := 0) hx hb dX9_takeDigits_124 (by decide) ?_
        refine lv_istore_n (lv' := [(1, .int 0), (0, .ref h0)]) hx hb dX9_takeDigits_125 rfl hl (by decide) rfl (fun ls hl => ?_)
        refine lv_aload_n hx hb dX9_takeDigits_126 rfl (lv_at hl 1 rfl) ?_
        refine lv_aload_n hx hb dX9_takeDigits_127 rfl (lv_at hl 1 rfl) ?_
        refine va_get (D := (dC, dI)) (ci := 7) (v := .int g_45) (C := RX9) (T := TX9) (N := 7) hx hb hts iw_X9_takeDigits_X9 hown hK hP 0 rfl rfl 2 (by decide) (hts (.fieldLink RX9 17 "HungFloors$Tokens" "at" "I") (by decide +kernel)) (fun _ h9 => h9) rfl dX9_takeDigits_128 ?_
        refine lv_aload_n hx hb dX9_takeDigits_131 rfl (lv_at hl 1 rfl) ?_
        refine va_get (D := (dC, dI)) (ci := 7) (v := .int sa_8) (C := RX9) (T := TX9) (N := 7) hx hb hts iw_X9_takeDigits_X9 hown hK hP 0 rfl rfl 4 (by decide) (hts (.fieldLink RX9 29 "HungFloors$Tokens" "start" "I") (by decide +kernel)) (fun _ h9 => h9) rfl dX9_takeDigits_132 ?_
        refine lv_isub hx hb dX9_takeDigits_135 ?_
        refine lv_topi (fun z_326 ez_326 => ?_)
        refine lv_iconst (v := 4) hx hb dX9_takeDigits_136 (by decide) ?_
        refine lv_icmp_gt (tgt := 150) hx hb dX9_takeDigits_137 (by decide) (fun c_327 => ?_) (fun c_327 => ?_)
        · have c_327 : 4 < z_326.toInt := f_lt tI_4 rfl c_327
          refine va_gets hx hb (hE.2.1.1 4 (by decide)).1 hS hown (hts (.fieldLink RX9 57 "HungFloors$Kind" "NOTHING" "LHungFloors$Kind;") (by decide +kernel)) (fun _ h9 => h9) dX9_takeDigits_150 ?_
          refine va_put (D := (dC, dI)) (ci := 7) (v := .ref (ad 4)) (ty := .object "HungFloors$Kind") (C := RX9) (T := TX9) (N := 7) hx hb hts iw_X9_takeDigits_X9 tyX9 tyX9_ok nmX9 hown hK hP hD hS 0 rfl rfl 3 (by decide) (hts (.fieldLink RX9 26 "HungFloors$Tokens" "kind" "LHungFloors$Kind;") (by decide +kernel)) (fun _ h9 => h9) rfl (by decide +kernel) rfl rfl (Nat.le_of_ble_eq_true rfl) dX9_takeDigits_153 (fun H locs hP hD hS => ?_)
          have hP : va_P (dC, dI) vwCl (List.flatten [[(h0, .inr (7, [.ref tx0, .int ln_1, .int g_45, .ref (ad 4), .int sa_8, .long wd_9, .int g_46]))], [(tx0, .inl (cB, 1600, .inl f1))]]) H := hP
          have hD : va_D A (List.flatten [[(h0, .inr (7, [.ref tx0, .int ln_1, .int g_45, .ref (ad 4), .int sa_8, .long wd_9, .int g_46]))], [(tx0, .inl (cB, 1600, .inl f1))]]) := hD
          rw [hQ0]
          exact W.vret hx hb hr (fun t ht hW => ⟨⟨(), rfl, trivial, ⟨_, ⟨ln_1, g_45, 4, sa_8, wd_9, g_46, rfl, by omega, by omega, by omega, by omega⟩, by rw [ht]; exact hP, hD⟩⟩, hS.F ht⟩) hS.2.2 dX9_takeDigits_156
        · have c_327 : z_326.toInt ≤ 4 := f_nlt tI_4 rfl c_327
          refine lv_iload_n hx hb dX9_takeDigits_140 rfl (lv_at hl 0 rfl) ?_
          refine lv_if_ne (tgt := 150) hx hb dX9_takeDigits_141 (by decide) (fun c_328 => absurd c_328 (by decide)) (fun c_328 => ?_)
          refine va_gets hx hb (hE.2.1.1 1 (by decide)).1 hS hown (hts (.fieldLink RX9 63 "HungFloors$Kind" "NUMBER" "LHungFloors$Kind;") (by decide +kernel)) (fun _ h9 => h9) dX9_takeDigits_144 ?_
          refine lv_goto (tgt := 153) hx hb dX9_takeDigits_147 (by decide) ?_
          refine va_put (D := (dC, dI)) (ci := 7) (v := .ref (ad 1)) (ty := .object "HungFloors$Kind") (C := RX9) (T := TX9) (N := 7) hx hb hts iw_X9_takeDigits_X9 tyX9 tyX9_ok nmX9 hown hK hP hD hS 0 rfl rfl 3 (by decide) (hts (.fieldLink RX9 26 "HungFloors$Tokens" "kind" "LHungFloors$Kind;") (by decide +kernel)) (fun _ h9 => h9) rfl (by decide +kernel) rfl rfl (Nat.le_of_ble_eq_true rfl) dX9_takeDigits_153 (fun H locs hP hD hS => ?_)
          have hP : va_P (dC, dI) vwCl (List.flatten [[(h0, .inr (7, [.ref tx0, .int ln_1, .int g_45, .ref (ad 1), .int sa_8, .long wd_9, .int g_46]))], [(tx0, .inl (cB, 1600, .inl f1))]]) H := hP
          have hD : va_D A (List.flatten [[(h0, .inr (7, [.ref tx0, .int ln_1, .int g_45, .ref (ad 1), .int sa_8, .long wd_9, .int g_46]))], [(tx0, .inl (cB, 1600, .inl f1))]]) := hD
          rw [hQ0]
          exact W.vret hx hb hr (fun t ht hW => ⟨⟨(), rfl, trivial, ⟨_, ⟨ln_1, g_45, 1, sa_8, wd_9, g_46, rfl, by omega, by omega, by omega, by omega⟩, by rw [ht]; exact hP, hD⟩⟩, hS.F ht⟩) hS.2.2 dX9_takeDigits_156
      · have c_324 : g_45.toInt < ln_1.toInt := f_nle rfl rfl c_324
        refine lv_aload_n hx hb dX9_takeDigits_16 rfl (lv_at hl 0 rfl) ?_
        refine va_get (D := (dC, dI)) (ci := 7) (v := .ref tx0) (C := RX9) (T := TX9) (N := 7) hx hb hts iw_X9_takeDigits_X9 hown hK hP 0 rfl rfl 0 (by decide) (hts (.fieldLink RX9 7 "HungFloors$Tokens" "text" "[B") (by decide +kernel)) (fun _ h9 => h9) rfl dX9_takeDigits_17 ?_
        refine lv_aload_n hx hb dX9_takeDigits_20 rfl (lv_at hl 0 rfl) ?_
        refine va_get (D := (dC, dI)) (ci := 7) (v := .int g_45) (C := RX9) (T := TX9) (N := 7) hx hb hts iw_X9_takeDigits_X9 hown hK hP 0 rfl rfl 2 (by decide) (hts (.fieldLink RX9 17 "HungFloors$Tokens" "at" "I") (by decide +kernel)) (fun _ h9 => h9) rfl dX9_takeDigits_21 ?_
        refine va_bald hx hb hK hP 1 0 rfl rfl (v_in rfl (by omega) (by omega)) dX9_takeDigits_24 ?_
        refine lv_topi (fun z_329 ez_329 => ?_)
        refine lv_bipush (v := 48) hx hb dX9_takeDigits_25 (by decide) ?_
        refine lv_icmp_lt (tgt := 81) hx hb dX9_takeDigits_27 (by decide) (fun c_330 => ?_) (fun c_330 => ?_)
        · have c_330 : z_329.toInt < 48 := f_lt rfl tI_48 c_330
          refine lv_aload_n hx hb dX9_takeDigits_81 rfl (lv_at hl 0 rfl) ?_
          refine va_get (D := (dC, dI)) (ci := 7) (v := .int g_45) (C := RX9) (T := TX9) (N := 7) hx hb hts iw_X9_takeDigits_X9 hown hK hP 0 rfl rfl 2 (by decide) (hts (.fieldLink RX9 17 "HungFloors$Tokens" "at" "I") (by decide +kernel)) (fun _ h9 => h9) rfl dX9_takeDigits_82 ?_
          refine lv_aload_n hx hb dX9_takeDigits_85 rfl (lv_at hl 0 rfl) ?_
          refine va_get (D := (dC, dI)) (ci := 7) (v := .int ln_1) (C := RX9) (T := TX9) (N := 7) hx hb hts iw_X9_takeDigits_X9 hown hK hP 0 rfl rfl 1 (by decide) (hts (.fieldLink RX9 13 "HungFloors$Tokens" "length" "I") (by decide +kernel)) (fun _ h9 => h9) rfl dX9_takeDigits_86 ?_
          refine lv_icmp_ge (tgt := 124) hx hb dX9_takeDigits_89 (by decide) (fun c_331 => False.elim (by have c_331 := f_le rfl rfl c_331; omega)) (fun c_331 => ?_)
          have c_331 : g_45.toInt < ln_1.toInt := f_nle rfl rfl c_331
          refine lv_aload_n hx hb dX9_takeDigits_92 rfl (lv_at hl 0 rfl) ?_
          refine va_get (D := (dC, dI)) (ci := 7) (v := .ref tx0) (C := RX9) (T := TX9) (N := 7) hx hb hts iw_X9_takeDigits_X9 hown hK hP 0 rfl rfl 0 (by decide) (hts (.fieldLink RX9 7 "HungFloors$Tokens" "text" "[B") (by decide +kernel)) (fun _ h9 => h9) rfl dX9_takeDigits_93 ?_
          refine lv_aload_n hx hb dX9_takeDigits_96 rfl (lv_at hl 0 rfl) ?_
          refine va_get (D := (dC, dI)) (ci := 7) (v := .int g_45) (C := RX9) (T := TX9) (N := 7) hx hb hts iw_X9_takeDigits_X9 hown hK hP 0 rfl rfl 2 (by decide) (hts (.fieldLink RX9 17 "HungFloors$Tokens" "at" "I") (by decide +kernel)) (fun _ h9 => h9) rfl dX9_takeDigits_97 ?_
          refine va_bald hx hb hK hP 1 0 rfl rfl (v_in rfl (by omega) (by omega)) dX9_takeDigits_100 ?_
          refine lv_topi (fun z_332 ez_332 => ?_)
          have qz_332 : z_332.toInt = z_329.toInt := by rw [ez_332, ez_329]
          refine lv_bipush (v := 97) hx hb dX9_takeDigits_101 (by decide) ?_
          refine lv_icmp_lt (tgt := 124) hx hb dX9_takeDigits_103 (by decide) (fun c_333 => ?_) (fun c_333 => False.elim (by have c_333 := f_nlt rfl tI_97 c_333; omega))
          have c_333 : z_332.toInt < 97 := f_lt rfl tI_97 c_333
          refine lv_iconst (v := 0) hx hb dX9_takeDigits_124 (by decide) ?_
          refine lv_istore_n (lv' := [(1, .int 0), (0, .ref h0)]) hx hb dX9_takeDigits_125 rfl hl (by decide) rfl (fun ls hl => ?_)
          refine lv_aload_n hx hb dX9_takeDigits_126 rfl (lv_at hl 1 rfl) ?_
          refine lv_aload_n hx hb dX9_takeDigits_127 rfl (lv_at hl 1 rfl) ?_
          refine va_get (D := (dC, dI)) (ci := 7) (v := .int g_45) (C := RX9) (T := TX9) (N := 7) hx hb hts iw_X9_takeDigits_X9 hown hK hP 0 rfl rfl 2 (by decide) (hts (.fieldLink RX9 17 "HungFloors$Tokens" "at" "I") (by decide +kernel)) (fun _ h9 => h9) rfl dX9_takeDigits_128 ?_
          refine lv_aload_n hx hb dX9_takeDigits_131 rfl (lv_at hl 1 rfl) ?_
          refine va_get (D := (dC, dI)) (ci := 7) (v := .int sa_8) (C := RX9) (T := TX9) (N := 7) hx hb hts iw_X9_takeDigits_X9 hown hK hP 0 rfl rfl 4 (by decide) (hts (.fieldLink RX9 29 "HungFloors$Tokens" "start" "I") (by decide +kernel)) (fun _ h9 => h9) rfl dX9_takeDigits_132 ?_
          refine lv_isub hx hb dX9_takeDigits_135 ?_
          refine lv_topi (fun z_334 ez_334 => ?_)
          refine lv_iconst (v := 4) hx hb dX9_takeDigits_136 (by decide) ?_
          refine lv_icmp_gt (tgt := 150) hx hb dX9_takeDigits_137 (by decide) (fun c_335 => ?_) (fun c_335 => ?_)
          · have c_335 : 4 < z_334.toInt := f_lt tI_4 rfl c_335
            refine va_gets hx hb (hE.2.1.1 4 (by decide)).1 hS hown (hts (.fieldLink RX9 57 "HungFloors$Kind" "NOTHING" "LHungFloors$Kind;") (by decide +kernel)) (fun _ h9 => h9) dX9_takeDigits_150 ?_
            refine va_put (D := (dC, dI)) (ci := 7) (v := .ref (ad 4)) (ty := .object "HungFloors$Kind") (C := RX9) (T := TX9) (N := 7) hx hb hts iw_X9_takeDigits_X9 tyX9 tyX9_ok nmX9 hown hK hP hD hS 0 rfl rfl 3 (by decide) (hts (.fieldLink RX9 26 "HungFloors$Tokens" "kind" "LHungFloors$Kind;") (by decide +kernel)) (fun _ h9 => h9) rfl (by decide +kernel) rfl rfl (Nat.le_of_ble_eq_true rfl) dX9_takeDigits_153 (fun H locs hP hD hS => ?_)
            have hP : va_P (dC, dI) vwCl (List.flatten [[(h0, .inr (7, [.ref tx0, .int ln_1, .int g_45, .ref (ad 4), .int sa_8, .long wd_9, .int g_46]))], [(tx0, .inl (cB, 1600, .inl f1))]]) H := hP
            have hD : va_D A (List.flatten [[(h0, .inr (7, [.ref tx0, .int ln_1, .int g_45, .ref (ad 4), .int sa_8, .long wd_9, .int g_46]))], [(tx0, .inl (cB, 1600, .inl f1))]]) := hD
            rw [hQ0]
            exact W.vret hx hb hr (fun t ht hW => ⟨⟨(), rfl, trivial, ⟨_, ⟨ln_1, g_45, 4, sa_8, wd_9, g_46, rfl, by omega, by omega, by omega, by omega⟩, by rw [ht]; exact hP, hD⟩⟩, hS.F ht⟩) hS.2.2 dX9_takeDigits_156
          · have c_335 : z_334.toInt ≤ 4 := f_nlt tI_4 rfl c_335
            refine lv_iload_n hx hb dX9_takeDigits_140 rfl (lv_at hl 0 rfl) ?_
            refine lv_if_ne (tgt := 150) hx hb dX9_takeDigits_141 (by decide) (fun c_336 => absurd c_336 (by decide)) (fun c_336 => ?_)
            refine va_gets hx hb (hE.2.1.1 1 (by decide)).1 hS hown (hts (.fieldLink RX9 63 "HungFloors$Kind" "NUMBER" "LHungFloors$Kind;") (by decide +kernel)) (fun _ h9 => h9) dX9_takeDigits_144 ?_
            refine lv_goto (tgt := 153) hx hb dX9_takeDigits_147 (by decide) ?_
            refine va_put (D := (dC, dI)) (ci := 7) (v := .ref (ad 1)) (ty := .object "HungFloors$Kind") (C := RX9) (T := TX9) (N := 7) hx hb hts iw_X9_takeDigits_X9 tyX9 tyX9_ok nmX9 hown hK hP hD hS 0 rfl rfl 3 (by decide) (hts (.fieldLink RX9 26 "HungFloors$Tokens" "kind" "LHungFloors$Kind;") (by decide +kernel)) (fun _ h9 => h9) rfl (by decide +kernel) rfl rfl (Nat.le_of_ble_eq_true rfl) dX9_takeDigits_153 (fun H locs hP hD hS => ?_)
            have hP : va_P (dC, dI) vwCl (List.flatten [[(h0, .inr (7, [.ref tx0, .int ln_1, .int g_45, .ref (ad 1), .int sa_8, .long wd_9, .int g_46]))], [(tx0, .inl (cB, 1600, .inl f1))]]) H := hP
            have hD : va_D A (List.flatten [[(h0, .inr (7, [.ref tx0, .int ln_1, .int g_45, .ref (ad 1), .int sa_8, .long wd_9, .int g_46]))], [(tx0, .inl (cB, 1600, .inl f1))]]) := hD
            rw [hQ0]
            exact W.vret hx hb hr (fun t ht hW => ⟨⟨(), rfl, trivial, ⟨_, ⟨ln_1, g_45, 1, sa_8, wd_9, g_46, rfl, by omega, by omega, by omega, by omega⟩, by rw [ht]; exact hP, hD⟩⟩, hS.F ht⟩) hS.2.2 dX9_takeDigits_156
        · have c_330 : 48 ≤ z_329.toInt := f_nlt rfl tI_48 c_330
          refine lv_aload_n hx hb dX9_takeDigits_30 rfl (lv_at hl 0 rfl) ?_
          refine va_get (D := (dC, dI)) (ci := 7) (v := .ref tx0) (C := RX9) (T := TX9) (N := 7) hx hb hts iw_X9_takeDigits_X9 hown hK hP 0 rfl rfl 0 (by decide) (hts (.fieldLink RX9 7 "HungFloors$Tokens" "text" "[B") (by decide +kernel)) (fun _ h9 => h9) rfl dX9_takeDigits_31 ?_
          refine lv_aload_n hx hb dX9_takeDigits_34 rfl (lv_at hl 0 rfl) ?_
          refine va_get (D := (dC, dI)) (ci := 7) (v := .int g_45) (C := RX9) (T := TX9) (N := 7) hx hb hts iw_X9_takeDigits_X9 hown hK hP 0 rfl rfl 2 (by decide) (hts (.fieldLink RX9 17 "HungFloors$Tokens" "at" "I") (by decide +kernel)) (fun _ h9 => h9) rfl dX9_takeDigits_35 ?_
          refine va_bald hx hb hK hP 1 0 rfl rfl (v_in rfl (by omega) (by omega)) dX9_takeDigits_38 ?_
          refine lv_topi (fun z_337 ez_337 => ?_)
          have qz_337 : z_337.toInt = z_329.toInt := by rw [ez_337, ez_329]
          refine lv_bipush (v := 57) hx hb dX9_takeDigits_39 (by decide) ?_
          refine lv_icmp_gt (tgt := 81) hx hb dX9_takeDigits_41 (by decide) (fun c_338 => ?_) (fun c_338 => ?_)
          · have c_338 : 57 < z_337.toInt := f_lt tI_57 rfl c_338
            refine lv_aload_n hx hb dX9_takeDigits_81 rfl (lv_at hl 0 rfl) ?_
            refine va_get (D := (dC, dI)) (ci := 7) (v := .int g_45) (C := RX9) (T := TX9) (N := 7) hx hb hts iw_X9_takeDigits_X9 hown hK hP 0 rfl rfl 2 (by decide) (hts (.fieldLink RX9 17 "HungFloors$Tokens" "at" "I") (by decide +kernel)) (fun _ h9 => h9) rfl dX9_takeDigits_82 ?_
            refine lv_aload_n hx hb dX9_takeDigits_85 rfl (lv_at hl 0 rfl) ?_
            refine va_get (D := (dC, dI)) (ci := 7) (v := .int ln_1) (C := RX9) (T := TX9) (N := 7) hx hb hts iw_X9_takeDigits_X9 hown hK hP 0 rfl rfl 1 (by decide) (hts (.fieldLink RX9 13 "HungFloors$Tokens" "length" "I") (by decide +kernel)) (fun _ h9 => h9) rfl dX9_takeDigits_86 ?_
            refine lv_icmp_ge (tgt := 124) hx hb dX9_takeDigits_89 (by decide) (fun c_339 => False.elim (by have c_339 := f_le rfl rfl c_339; omega)) (fun c_339 => ?_)
            have c_339 : g_45.toInt < ln_1.toInt := f_nle rfl rfl c_339
            refine lv_aload_n hx hb dX9_takeDigits_92 rfl (lv_at hl 0 rfl) ?_
            refine va_get (D := (dC, dI)) (ci := 7) (v := .ref tx0) (C := RX9) (T := TX9) (N := 7) hx hb hts iw_X9_takeDigits_X9 hown hK hP 0 rfl rfl 0 (by decide) (hts (.fieldLink RX9 7 "HungFloors$Tokens" "text" "[B") (by decide +kernel)) (fun _ h9 => h9) rfl dX9_takeDigits_93 ?_
            refine lv_aload_n hx hb dX9_takeDigits_96 rfl (lv_at hl 0 rfl) ?_
            refine va_get (D := (dC, dI)) (ci := 7) (v := .int g_45) (C := RX9) (T := TX9) (N := 7) hx hb hts iw_X9_takeDigits_X9 hown hK hP 0 rfl rfl 2 (by decide) (hts (.fieldLink RX9 17 "HungFloors$Tokens" "at" "I") (by decide +kernel)) (fun _ h9 => h9) rfl dX9_takeDigits_97 ?_
            refine va_bald hx hb hK hP 1 0 rfl rfl (v_in rfl (by omega) (by omega)) dX9_takeDigits_100 ?_
            refine lv_topi (fun z_340 ez_340 => ?_)
            have qz_340 : z_340.toInt = z_329.toInt := by rw [ez_340, ez_329]
            refine lv_bipush (v := 97) hx hb dX9_takeDigits_101 (by decide) ?_
            refine lv_icmp_lt (tgt := 124) hx hb dX9_takeDigits_103 (by decide) (fun c_341 => ?_) (fun c_341 => ?_)
            · have c_341 : z_340.toInt < 97 := f_lt rfl tI_97 c_341
              refine lv_iconst (v := 0) hx hb dX9_takeDigits_124 (by decide) ?_
              refine lv_istore_n (lv' := [(1, .int 0), (0, .ref h0)]) hx hb dX9_takeDigits_125 rfl hl (by decide) rfl (fun ls hl => ?_)
              refine lv_aload_n hx hb dX9_takeDigits_126 rfl (lv_at hl 1 rfl) ?_
              refine lv_aload_n hx hb dX9_takeDigits_127 rfl (lv_at hl 1 rfl) ?_
              refine va_get (D := (dC, dI)) (ci := 7) (v := .int g_45) (C := RX9) (T := TX9) (N := 7) hx hb hts iw_X9_takeDigits_X9 hown hK hP 0 rfl rfl 2 (by decide) (hts (.fieldLink RX9 17 "HungFloors$Tokens" "at" "I") (by decide +kernel)) (fun _ h9 => h9) rfl dX9_takeDigits_128 ?_
              refine lv_aload_n hx hb dX9_takeDigits_131 rfl (lv_at hl 1 rfl) ?_
              refine va_get (D := (dC, dI)) (ci := 7) (v := .int sa_8) (C := RX9) (T := TX9) (N := 7) hx hb hts iw_X9_takeDigits_X9 hown hK hP 0 rfl rfl 4 (by decide) (hts (.fieldLink RX9 29 "HungFloors$Tokens" "start" "I") (by decide +kernel)) (fun _ h9 => h9) rfl dX9_takeDigits_132 ?_
              refine lv_isub hx hb dX9_takeDigits_135 ?_
              refine lv_topi (fun z_342 ez_342 => ?_)
              refine lv_iconst (v := 4) hx hb dX9_takeDigits_136 (by decide) ?_
              refine lv_icmp_gt (tgt := 150) hx hb dX9_takeDigits_137 (by decide) (fun c_343 => ?_) (fun c_343 => ?_)
              · have c_343 : 4 < z_342.toInt := f_lt tI_4 rfl c_343
                refine va_gets hx hb (hE.2.1.1 4 (by decide)).1 hS hown (hts (.fieldLink RX9 57 "HungFloors$Kind" "NOTHING" "LHungFloors$Kind;") (by decide +kernel)) (fun _ h9 => h9) dX9_takeDigits_150 ?_
                refine va_put (D := (dC, dI)) (ci := 7) (v := .ref (ad 4)) (ty := .object "HungFloors$Kind") (C := RX9) (T := TX9) (N := 7) hx hb hts iw_X9_takeDigits_X9 tyX9 tyX9_ok nmX9 hown hK hP hD hS 0 rfl rfl 3 (by decide) (hts (.fieldLink RX9 26 "HungFloors$Tokens" "kind" "LHungFloors$Kind;") (by decide +kernel)) (fun _ h9 => h9) rfl (by decide +kernel) rfl rfl (Nat.le_of_ble_eq_true rfl) dX9_takeDigits_153 (fun H locs hP hD hS => ?_)
                have hP : va_P (dC, dI) vwCl (List.flatten [[(h0, .inr (7, [.ref tx0, .int ln_1, .int g_45, .ref (ad 4), .int sa_8, .long wd_9, .int g_46]))], [(tx0, .inl (cB, 1600, .inl f1))]]) H := hP
                have hD : va_D A (List.flatten [[(h0, .inr (7, [.ref tx0, .int ln_1, .int g_45, .ref (ad 4), .int sa_8, .long wd_9, .int g_46]))], [(tx0, .inl (cB, 1600, .inl f1))]]) := hD
                rw [hQ0]
                exact W.vret hx hb hr (fun t ht hW => ⟨⟨(), rfl, trivial, ⟨_, ⟨ln_1, g_45, 4, sa_8, wd_9, g_46, rfl, by omega, by omega, by omega, by omega⟩, by rw [ht]; exact hP, hD⟩⟩, hS.F ht⟩) hS.2.2 dX9_takeDigits_156
              · have c_343 : z_342.toInt ≤ 4 := f_nlt tI_4 rfl c_343
                refine lv_iload_n hx hb dX9_takeDigits_140 rfl (lv_at hl 0 rfl) ?_
                refine lv_if_ne (tgt := 150) hx hb dX9_takeDigits_141 (by decide) (fun c_344 => absurd c_344 (by decide)) (fun c_344 => ?_)
                refine va_gets hx hb (hE.2.1.1 1 (by decide)).1 hS hown (hts (.fieldLink RX9 63 "HungFloors$Kind" "NUMBER" "LHungFloors$Kind;") (by decide +kernel)) (fun _ h9 => h9) dX9_takeDigits_144 ?_
                refine lv_goto (tgt := 153) hx hb dX9_takeDigits_147 (by decide) ?_
                refine va_put (D := (dC, dI)) (ci := 7) (v := .ref (ad 1)) (ty := .object "HungFloors$Kind") (C := RX9) (T := TX9) (N := 7) hx hb hts iw_X9_takeDigits_X9 tyX9 tyX9_ok nmX9 hown hK hP hD hS 0 rfl rfl 3 (by decide) (hts (.fieldLink RX9 26 "HungFloors$Tokens" "kind" "LHungFloors$Kind;") (by decide +kernel)) (fun _ h9 => h9) rfl (by decide +kernel) rfl rfl (Nat.le_of_ble_eq_true rfl) dX9_takeDigits_153 (fun H locs hP hD hS => ?_)
                have hP : va_P (dC, dI) vwCl (List.flatten [[(h0, .inr (7, [.ref tx0, .int ln_1, .int g_45, .ref (ad 1), .int sa_8, .long wd_9, .int g_46]))], [(tx0, .inl (cB, 1600, .inl f1))]]) H := hP
                have hD : va_D A (List.flatten [[(h0, .inr (7, [.ref tx0, .int ln_1, .int g_45, .ref (ad 1), .int sa_8, .long wd_9, .int g_46]))], [(tx0, .inl (cB, 1600, .inl f1))]]) := hD
                rw [hQ0]
                exact W.vret hx hb hr (fun t ht hW => ⟨⟨(), rfl, trivial, ⟨_, ⟨ln_1, g_45, 1, sa_8, wd_9, g_46, rfl, by omega, by omega, by omega, by omega⟩, by rw [ht]; exact hP, hD⟩⟩, hS.F ht⟩) hS.2.2 dX9_takeDigits_156
            · have c_341 : 97 ≤ z_340.toInt := f_nlt rfl tI_97 c_341
              refine lv_aload_n hx hb dX9_takeDigits_106 rfl (lv_at hl 0 rfl) ?_
              refine va_get (D := (dC, dI)) (ci := 7) (v := .ref tx0) (C := RX9) (T := TX9) (N := 7) hx hb hts iw_X9_takeDigits_X9 hown hK hP 0 rfl rfl 0 (by decide) (hts (.fieldLink RX9 7 "HungFloors$Tokens" "text" "[B") (by decide +kernel)) (fun _ h9 => h9) rfl dX9_takeDigits_107 ?_
              refine lv_aload_n hx hb dX9_takeDigits_110 rfl (lv_at hl 0 rfl) ?_
              refine va_get (D := (dC, dI)) (ci := 7) (v := .int g_45) (C := RX9) (T := TX9) (N := 7) hx hb hts iw_X9_takeDigits_X9 hown hK hP 0 rfl rfl 2 (by decide) (hts (.fieldLink RX9 17 "HungFloors$Tokens" "at" "I") (by decide +kernel)) (fun _ h9 => h9) rfl dX9_takeDigits_111 ?_
              refine va_bald hx hb hK hP 1 0 rfl rfl (v_in rfl (by omega) (by omega)) dX9_takeDigits_114 ?_
              refine lv_topi (fun z_345 ez_345 => ?_)
              have qz_345 : z_345.toInt = z_329.toInt := by rw [ez_345, ez_329]
              refine lv_bipush (v := 122) hx hb dX9_takeDigits_115 (by decide) ?_
              refine lv_icmp_gt (tgt := 124) hx hb dX9_takeDigits_117 (by decide) (fun c_346 => ?_) (fun c_346 => ?_)
              · have c_346 : 122 < z_345.toInt := f_lt tI_122 rfl c_346
                refine lv_iconst (v := 0) hx hb dX9_takeDigits_124 (by decide) ?_
                refine lv_istore_n (lv' := [(1, .int 0), (0, .ref h0)]) hx hb dX9_takeDigits_125 rfl hl (by decide) rfl (fun ls hl => ?_)
                refine lv_aload_n hx hb dX9_takeDigits_126 rfl (lv_at hl 1 rfl) ?_
                refine lv_aload_n hx hb dX9_takeDigits_127 rfl (lv_at hl 1 rfl) ?_
                refine va_get (D := (dC, dI)) (ci := 7) (v := .int g_45) (C := RX9) (T := TX9) (N := 7) hx hb hts iw_X9_takeDigits_X9 hown hK hP 0 rfl rfl 2 (by decide) (hts (.fieldLink RX9 17 "HungFloors$Tokens" "at" "I") (by decide +kernel)) (fun _ h9 => h9) rfl dX9_takeDigits_128 ?_
                refine lv_aload_n hx hb dX9_takeDigits_131 rfl (lv_at hl 1 rfl) ?_
                refine va_get (D := (dC, dI)) (ci := 7) (v := .int sa_8) (C := RX9) (T := TX9) (N := 7) hx hb hts iw_X9_takeDigits_X9 hown hK hP 0 rfl rfl 4 (by decide) (hts (.fieldLink RX9 29 "HungFloors$Tokens" "start" "I") (by decide +kernel)) (fun _ h9 => h9) rfl dX9_takeDigits_132 ?_
                refine lv_isub hx hb dX9_takeDigits_135 ?_
                refine lv_topi (fun z_347 ez_347 => ?_)
                refine lv_iconst (v := 4) hx hb dX9_takeDigits_136 (by decide) ?_
                refine lv_icmp_gt (tgt := 150) hx hb dX9_takeDigits_137 (by decide) (fun c_348 => ?_) (fun c_348 => ?_)
                · have c_348 : 4 < z_347.toInt := f_lt tI_4 rfl c_348
                  refine va_gets hx hb (hE.2.1.1 4 (by decide)).1 hS hown (hts (.fieldLink RX9 57 "HungFloors$Kind" "NOTHING" "LHungFloors$Kind;") (by decide +kernel)) (fun _ h9 => h9) dX9_takeDigits_150 ?_
                  refine va_put (D := (dC, dI)) (ci := 7) (v := .ref (ad 4)) (ty := .object "HungFloors$Kind") (C := RX9) (T := TX9) (N := 7) hx hb hts iw_X9_takeDigits_X9 tyX9 tyX9_ok nmX9 hown hK hP hD hS 0 rfl rfl 3 (by decide) (hts (.fieldLink RX9 26 "HungFloors$Tokens" "kind" "LHungFloors$Kind;") (by decide +kernel)) (fun _ h9 => h9) rfl (by decide +kernel) rfl rfl (Nat.le_of_ble_eq_true rfl) dX9_takeDigits_153 (fun H locs hP hD hS => ?_)
                  have hP : va_P (dC, dI) vwCl (List.flatten [[(h0, .inr (7, [.ref tx0, .int ln_1, .int g_45, .ref (ad 4), .int sa_8, .long wd_9, .int g_46]))], [(tx0, .inl (cB, 1600, .inl f1))]]) H := hP
                  have hD : va_D A (List.flatten [[(h0, .inr (7, [.ref tx0, .int ln_1, .int g_45, .ref (ad 4), .int sa_8, .long wd_9, .int g_46]))], [(tx0, .inl (cB, 1600, .inl f1))]]) := hD
                  rw [hQ0]
                  exact W.vret hx hb hr (fun t ht hW => ⟨⟨(), rfl, trivial, ⟨_, ⟨ln_1, g_45, 4, sa_8, wd_9, g_46, rfl, by omega, by omega, by omega, by omega⟩, by rw [ht]; exact hP, hD⟩⟩, hS.F ht⟩) hS.2.2 dX9_takeDigits_156
                · have c_348 : z_347.toInt ≤ 4 := f_nlt tI_4 rfl c_348
                  refine lv_iload_n hx hb dX9_takeDigits_140 rfl (lv_at hl 0 rfl) ?_
                  refine lv_if_ne (tgt := 150) hx hb dX9_takeDigits_141 (by decide) (fun c_349 => absurd c_349 (by decide)) (fun c_349 => ?_)
                  refine va_gets hx hb (hE.2.1.1 1 (by decide)).1 hS hown (hts (.fieldLink RX9 63 "HungFloors$Kind" "NUMBER" "LHungFloors$Kind;") (by decide +kernel)) (fun _ h9 => h9) dX9_takeDigits_144 ?_
                  refine lv_goto (tgt := 153) hx hb dX9_takeDigits_147 (by decide) ?_
                  refine va_put (D := (dC, dI)) (ci := 7) (v := .ref (ad 1)) (ty := .object "HungFloors$Kind") (C := RX9) (T := TX9) (N := 7) hx hb hts iw_X9_takeDigits_X9 tyX9 tyX9_ok nmX9 hown hK hP hD hS 0 rfl rfl 3 (by decide) (hts (.fieldLink RX9 26 "HungFloors$Tokens" "kind" "LHungFloors$Kind;") (by decide +kernel)) (fun _ h9 => h9) rfl (by decide +kernel) rfl rfl (Nat.le_of_ble_eq_true rfl) dX9_takeDigits_153 (fun H locs hP hD hS => ?_)
                  have hP : va_P (dC, dI) vwCl (List.flatten [[(h0, .inr (7, [.ref tx0, .int ln_1, .int g_45, .ref (ad 1), .int sa_8, .long wd_9, .int g_46]))], [(tx0, .inl (cB, 1600, .inl f1))]]) H := hP
                  have hD : va_D A (List.flatten [[(h0, .inr (7, [.ref tx0, .int ln_1, .int g_45, .ref (ad 1), .int sa_8, .long wd_9, .int g_46]))], [(tx0, .inl (cB, 1600, .inl f1))]]) := hD
                  rw [hQ0]
                  exact W.vret hx hb hr (fun t ht hW => ⟨⟨(), rfl, trivial, ⟨_, ⟨ln_1, g_45, 1, sa_8, wd_9, g_46, rfl, by omega, by omega, by omega, by omega⟩, by rw [ht]; exact hP, hD⟩⟩, hS.F ht⟩) hS.2.2 dX9_takeDigits_156
              · have c_346 : z_345.toInt ≤ 122 := f_nlt tI_122 rfl c_346
                refine lv_iconst (v := 1) hx hb dX9_takeDigits_120 (by decide) ?_
                refine lv_goto (tgt := 125) hx hb dX9_takeDigits_121 (by decide) ?_
                refine lv_istore_n (lv' := [(1, .int 1), (0, .ref h0)]) hx hb dX9_takeDigits_125 rfl hl (by decide) rfl (fun ls hl => ?_)
                refine lv_aload_n hx hb dX9_takeDigits_126 rfl (lv_at hl 1 rfl) ?_
                refine lv_aload_n hx hb dX9_takeDigits_127 rfl (lv_at hl 1 rfl) ?_
                refine va_get (D := (dC, dI)) (ci := 7) (v := .int g_45) (C := RX9) (T := TX9) (N := 7) hx hb hts iw_X9_takeDigits_X9 hown hK hP 0 rfl rfl 2 (by decide) (hts (.fieldLink RX9 17 "HungFloors$Tokens" "at" "I") (by decide +kernel)) (fun _ h9 => h9) rfl dX9_takeDigits_128 ?_
                refine lv_aload_n hx hb dX9_takeDigits_131 rfl (lv_at hl 1 rfl) ?_
                refine va_get (D := (dC, dI)) (ci := 7) (v := .int sa_8) (C := RX9) (T := TX9) (N := 7) hx hb hts iw_X9_takeDigits_X9 hown hK hP 0 rfl rfl 4 (by decide) (hts (.fieldLink RX9 29 "HungFloors$Tokens" "start" "I") (by decide +kernel)) (fun _ h9 => h9) rfl dX9_takeDigits_132 ?_
                refine lv_isub hx hb dX9_takeDigits_135 ?_
                refine lv_topi (fun z_350 ez_350 => ?_)
                refine lv_iconst (v := 4) hx hb dX9_takeDigits_136 (by decide) ?_
                refine lv_icmp_gt (tgt := 150) hx hb dX9_takeDigits_137 (by decide) (fun c_351 => ?_) (fun c_351 => ?_)
                · have c_351 : 4 < z_350.toInt := f_lt tI_4 rfl c_351
                  refine va_gets hx hb (hE.2.1.1 4 (by decide)).1 hS hown (hts (.fieldLink RX9 57 "HungFloors$Kind" "NOTHING" "LHungFloors$Kind;") (by decide +kernel)) (fun _ h9 => h9) dX9_takeDigits_150 ?_
                  refine va_put (D := (dC, dI)) (ci := 7) (v := .ref (ad 4)) (ty := .object "HungFloors$Kind") (C := RX9) (T := TX9) (N := 7) hx hb hts iw_X9_takeDigits_X9 tyX9 tyX9_ok nmX9 hown hK hP hD hS 0 rfl rfl 3 (by decide) (hts (.fieldLink RX9 26 "HungFloors$Tokens" "kind" "LHungFloors$Kind;") (by decide +kernel)) (fun _ h9 => h9) rfl (by decide +kernel) rfl rfl (Nat.le_of_ble_eq_true rfl) dX9_takeDigits_153 (fun H locs hP hD hS => ?_)
                  have hP : va_P (dC, dI) vwCl (List.flatten [[(h0, .inr (7, [.ref tx0, .int ln_1, .int g_45, .ref (ad 4), .int sa_8, .long wd_9, .int g_46]))], [(tx0, .inl (cB, 1600, .inl f1))]]) H := hP
                  have hD : va_D A (List.flatten [[(h0, .inr (7, [.ref tx0, .int ln_1, .int g_45, .ref (ad 4), .int sa_8, .long wd_9, .int g_46]))], [(tx0, .inl (cB, 1600, .inl f1))]]) := hD
                  rw [hQ0]
                  exact W.vret hx hb hr (fun t ht hW => ⟨⟨(), rfl, trivial, ⟨_, ⟨ln_1, g_45, 4, sa_8, wd_9, g_46, rfl, by omega, by omega, by omega, by omega⟩, by rw [ht]; exact hP, hD⟩⟩, hS.F ht⟩) hS.2.2 dX9_takeDigits_156
                · have c_351 : z_350.toInt ≤ 4 := f_nlt tI_4 rfl c_351
                  refine lv_iload_n hx hb dX9_takeDigits_140 rfl (lv_at hl 0 rfl) ?_
                  refine lv_if_ne (tgt := 150) hx hb dX9_takeDigits_141 (by decide) (fun c_352 => ?_) (fun c_352 => absurd c_352 (by decide))
                  refine va_gets hx hb (hE.2.1.1 4 (by decide)).1 hS hown (hts (.fieldLink RX9 57 "HungFloors$Kind" "NOTHING" "LHungFloors$Kind;") (by decide +kernel)) (fun _ h9 => h9) dX9_takeDigits_150 ?_
                  refine va_put (D := (dC, dI)) (ci := 7) (v := .ref (ad 4)) (ty := .object "HungFloors$Kind") (C := RX9) (T := TX9) (N := 7) hx hb hts iw_X9_takeDigits_X9 tyX9 tyX9_ok nmX9 hown hK hP hD hS 0 rfl rfl 3 (by decide) (hts (.fieldLink RX9 26 "HungFloors$Tokens" "kind" "LHungFloors$Kind;") (by decide +kernel)) (fun _ h9 => h9) rfl (by decide +kernel) rfl rfl (Nat.le_of_ble_eq_true rfl) dX9_takeDigits_153 (fun H locs hP hD hS => ?_)
                  have hP : va_P (dC, dI) vwCl (List.flatten [[(h0, .inr (7, [.ref tx0, .int ln_1, .int g_45, .ref (ad 4), .int sa_8, .long wd_9, .int g_46]))], [(tx0, .inl (cB, 1600, .inl f1))]]) H := hP
                  have hD : va_D A (List.flatten [[(h0, .inr (7, [.ref tx0, .int ln_1, .int g_45, .ref (ad 4), .int sa_8, .long wd_9, .int g_46]))], [(tx0, .inl (cB, 1600, .inl f1))]]) := hD
                  rw [hQ0]
                  exact W.vret hx hb hr (fun t ht hW => ⟨⟨(), rfl, trivial, ⟨_, ⟨ln_1, g_45, 4, sa_8, wd_9, g_46, rfl, by omega, by omega, by omega, by omega⟩, by rw [ht]; exact hP, hD⟩⟩, hS.F ht⟩) hS.2.2 dX9_takeDigits_156
          · have c_338 : z_337.toInt ≤ 57 := f_nlt tI_57 rfl c_338
            refine lv_aload_n hx hb dX9_takeDigits_44 rfl (lv_at hl 0 rfl) ?_
            refine lv_aload_n hx hb dX9_takeDigits_45 rfl (lv_at hl 0 rfl) ?_
            refine va_get (D := (dC, dI)) (ci := 7) (v := .int g_46) (C := RX9) (T := TX9) (N := 7) hx hb hts iw_X9_takeDigits_X9 hown hK hP 0 rfl rfl 6 (by decide) (hts (.fieldLink RX9 36 "HungFloors$Tokens" "number" "I") (by decide +kernel)) (fun _ h9 => h9) rfl dX9_takeDigits_46 ?_
            refine lv_bipush (v := 10) hx hb dX9_takeDigits_49 (by decide) ?_
            refine lv_imul hx hb dX9_takeDigits_51 ?_
            refine lv_topi (fun z_353 ez_353 => ?_)
            refine lv_aload_n hx hb dX9_takeDigits_52 rfl (lv_at hl 0 rfl) ?_
            refine va_get (D := (dC, dI)) (ci := 7) (v := .ref tx0) (C := RX9) (T := TX9) (N := 7) hx hb hts iw_X9_takeDigits_X9 hown hK hP 0 rfl rfl 0 (by decide) (hts (.fieldLink RX9 7 "HungFloors$Tokens" "text" "[B") (by decide +kernel)) (fun _ h9 => h9) rfl dX9_takeDigits_53 ?_
            refine lv_aload_n hx hb dX9_takeDigits_56 rfl (lv_at hl 0 rfl) ?_
            refine va_get (D := (dC, dI)) (ci := 7) (v := .int g_45) (C := RX9) (T := TX9) (N := 7) hx hb hts iw_X9_takeDigits_X9 hown hK hP 0 rfl rfl 2 (by decide) (hts (.fieldLink RX9 17 "HungFloors$Tokens" "at" "I") (by decide +kernel)) (fun _ h9 => h9) rfl dX9_takeDigits_57 ?_
            refine va_bald hx hb hK hP 1 0 rfl rfl (v_in rfl (by omega) (by omega)) dX9_takeDigits_60 ?_
            refine lv_topi (fun z_354 ez_354 => ?_)
            have qz_354 : z_354.toInt = z_329.toInt := by rw [ez_354, ez_329]
            refine lv_iadd hx hb dX9_takeDigits_61 ?_
            refine lv_topi (fun z_355 ez_355 => ?_)
            refine lv_bipush (v := 48) hx hb dX9_takeDigits_62 (by decide) ?_
            refine lv_isub hx hb dX9_takeDigits_64 ?_
            refine lv_topi (fun z_356 ez_356 => ?_)
            refine va_put (D := (dC, dI)) (ci := 7) (v := .int z_356) (ty := .int) (C := RX9) (T := TX9) (N := 7) hx hb hts iw_X9_takeDigits_X9 tyX9 tyX9_ok nmX9 hown hK hP hD hS 0 rfl rfl 6 (by decide) (hts (.fieldLink RX9 36 "HungFloors$Tokens" "number" "I") (by decide +kernel)) (fun _ h9 => h9) rfl (by decide +kernel) rfl rfl (Nat.le_of_ble_eq_true rfl) dX9_takeDigits_65 (fun H locs hP hD hS => ?_)
            have hP : va_P (dC, dI) vwCl (List.flatten [[(h0, .inr (7, [.ref tx0, .int ln_1, .int g_45, .ref (ad kd_7), .int sa_8, .long wd_9, .int z_356]))], [(tx0, .inl (cB, 1600, .inl f1))]]) H := hP
            have hD : va_D A (List.flatten [[(h0, .inr (7, [.ref tx0, .int ln_1, .int g_45, .ref (ad kd_7), .int sa_8, .long wd_9, .int z_356]))], [(tx0, .inl (cB, 1600, .inl f1))]]) := hD
            refine lv_aload_n hx hb dX9_takeDigits_68 rfl (lv_at hl 0 rfl) ?_
            refine lv_dup hx hb dX9_takeDigits_69 rfl ?_
            refine va_get (D := (dC, dI)) (ci := 7) (v := .int g_45) (C := RX9) (T := TX9) (N := 7) hx hb hts iw_X9_takeDigits_X9 hown hK hP 0 rfl rfl 2 (by decide) (hts (.fieldLink RX9 17 "HungFloors$Tokens" "at" "I") (by decide +kernel)) (fun _ h9 => h9) rfl dX9_takeDigits_70 ?_
            refine lv_iconst (v := 1) hx hb dX9_takeDigits_73 (by decide) ?_
            refine lv_iadd hx hb dX9_takeDigits_74 ?_
            refine lv_topi (fun z_357 ez_357 => ?_)
            have hz_357 : z_357.toInt = g_45.toInt + 1 := by rw [ez_357]; exact t_add rfl tI_1 (by omega) (by omega)
            refine va_put (D := (dC, dI)) (ci := 7) (v := .int z_357) (ty := .int) (C := RX9) (T := TX9) (N := 7) hx hb hts iw_X9_takeDigits_X9 tyX9 tyX9_ok nmX9 hown hK hP hD hS 0 rfl rfl 2 (by decide) (hts (.fieldLink RX9 17 "HungFloors$Tokens" "at" "I") (by decide +kernel)) (fun _ h9 => h9) rfl (by decide +kernel) rfl rfl (Nat.le_of_ble_eq_true rfl) dX9_takeDigits_75 (fun H locs hP hD hS => ?_)
            have hP : va_P (dC, dI) vwCl (List.flatten [[(h0, .inr (7, [.ref tx0, .int ln_1, .int z_357, .ref (ad kd_7), .int sa_8, .long wd_9, .int z_356]))], [(tx0, .inl (cB, 1600, .inl f1))]]) H := hP
            have hD : va_D A (List.flatten [[(h0, .inr (7, [.ref tx0, .int ln_1, .int z_357, .ref (ad kd_7), .int sa_8, .long wd_9, .int z_356]))], [(tx0, .inl (cB, 1600, .inl f1))]]) := hD
            refine lv_goto (tgt := 5) hx hb dX9_takeDigits_78 (by decide) ?_
            exact ih_323 z_357 z_356 (by omega) (by omega) (by omega) (by omega) _ _ hP hD hS ls (lv_sub hl [0] rfl)
  exact lp_322 _ ap_4 0 (by have := tI_0; omega) (by have := tI_0; omega) (by have := tI_0; omega) (Nat.lt_succ_self _) _ _ hP hD hS ls (lv_sub hl [0] rfl)
theorem iw_X9_advance_X9 : ∀ w ∈ wsX90, w ∈ wsX9_advance := fun _ h => List.mem_cons_of_mem _ (List.mem_append_right _ h)
set_option maxHeartbeats 4000000 in
set_option maxRecDepth 100000 in
theorem c_X9_advance (l : Launch) (dC : Nat → ClassId) (dI : Nat → Nat → Nat) (ad : Nat → Nat) (tN : Nat) (fN : Nat → Int64) (cB cI cJ cZ : ClassId) (h0 : Nat) (r0 : Nat → Nat) (tx0 : Nat) (w0 : va_W) (f1 : Nat → Int32) (o0 : ok_tok ad cB cI cJ cZ h0 r0 tx0 w0) (sz : Nat) : Met l yX9_advance wsX9_advance ({ frames := 1, cells := 0, slots := 0, locals := 21 } : Room) (va_Pc [.ref h0] (fun U => U.heap.size = sz ∧ va_P (dC, dI) vwCl (List.flatten [w0, [(tx0, .inl (cB, 1600, .inl f1))]]) U.heap ∧ va_K (dC, dI) vwCl [(cB, .byte), (cI, .int), (cJ, .long), (cZ, .boolean)] U ∧ va_D (fun _ => True) (List.flatten [w0, [(tx0, .inl (cB, 1600, .inl f1))]]) ∧ ex_Y ad tN fN (va_A (List.flatten [w0, [(tx0, .inl (cB, 1600, .inl f1))]]) sz) U)) (va_Qv (fun _ : Unit => True) (fun (_ : Unit) (t : State) => ∃ (w09 : va_W), ok_tok ad cB cI cJ cZ h0 r0 tx0 w09 ∧ va_P (dC, dI) vwCl (List.flatten [w09, [(tx0, .inl (cB, 1600, .inl f1))]]) t.heap ∧ va_D (va_A (List.flatten [w0, [(tx0, .inl (cB, 1600, .inl f1))]]) sz) (List.flatten [w09, [(tx0, .inl (cB, 1600, .inl f1))]])) (va_A (List.flatten [w0, [(tx0, .inl (cB, 1600, .inl f1))]]) sz)) 0 0 (va_A (List.flatten [w0, [(tx0, .inl (cB, 1600, .inl f1))]]) sz) := by
  refine Met.ofW (cc := cX9_advance) (maxL := 1) (ret := none) (by decide) rfl ?_
  intro p e s m args below meth c s₁ B hml hv
  obtain ⟨rfl, hsz, hP, hK, hD0, hE⟩ := hv
  have hx := B.exec
  have hb := B.bytes
  have hr := B.returns
  have hts := atoms_spec (ws := wsX9_advance) B.pre
  have hown : s.vm.findClass RX9 = some m.cls := findClass_of_methodNamed B.named
  have hlocks := B.notSynchronized
  subst hsz
  have hD := hD0.self (sz := s.heap.size)
  generalize hAe : va_A (List.flatten [w0, [(tx0, .inl (cB, 1600, .inl f1))]]) s.heap.size = A at hD hE ⊢
  have hA : ∀ q : Nat, s.heap.size ≤ q → A q := fun q h => by rw [← hAe]; exact Or.inr h
  have hS : va_S A s.heap s.heap [] := va_S.rf
  have hl := lv_entry ([.ref h0]) (n := 1) (Nat.le_of_ble_eq_true rfl)
  rw [lg_entry_eq]
  generalize (lg_sl ([.ref h0]) ++ List.replicate (1 - (lg_sl ([.ref h0])).length) Slot.unset).toArray = ls at hl ⊢
  have hl : lv_has ls 1 [(0, .ref h0)] := hl
  clear hAe
  refine W_name (fun Q0 hQ0 => ?_)
  obtain ⟨ln_45, ap_48, kd_51, sa_52, wd_53, nu_54, rfl, hl_46, hh_47, hl_49, hh_50⟩ := o0
  have lp_263 : ∀ (n : Nat) (g_89 : Int32), 0 ≤ g_89.toInt → g_89.toInt ≤ 1600 → ap_48.toInt - g_89.toInt ≤ 0 → (1600 - g_89.toInt).toNat < n → ∀ (H : Heap) (locs : List Loc), va_P (dC, dI) vwCl (List.flatten [[(h0, .inr (7, [.ref tx0, .int ln_45, .int g_89, .ref (ad kd_51), .int sa_52, .long wd_53, .int nu_54]))], [(tx0, .inl (cB, 1600, .inl f1))]]) H → va_D A (List.flatten [[(h0, .inr (7, [.ref tx0, .int ln_45, .int g_89, .ref (ad kd_51), .int sa_52, .long wd_53, .int nu_54]))], [(tx0, .inl (cB, 1600, .inl f1))]]) → va_S A s.heap H locs → ∀ (ls : Array Slot), lv_has ls 1 [(0, .ref h0)] → W p l e (headSpec wsX9_advance ({ frames := 1, cells := 0, slots := 0, locals := 21 } : Room)).room s m ([.ref h0] : List Value).toArray below meth c H locs 0 0 Q0 (F0 m 0 ls []) := by
    intro n
    induction n with
    | zero => intro g_89 iv_260 iv_261 iv_262 hm; exact absurd hm (Nat.not_lt_zero _)
    | succ n ih_264 =>
      intro g_89 iv_260 iv_261 iv_262 hm H locs hP hD hS ls hl
      refine lv_aload_n hx hb dX9_advance_0 rfl (lv_at hl 0 rfl) ?_
      refine va_get (D := (dC, dI)) (ci := 7) (v := .int g_89) (C := RX9) (T := TX9) (N := 7) hx hb hts iw_X9_advance_X9 hown hK hP 0 rfl rfl 2 (by decide) (hts (.fieldLink RX9 17 "HungFloors$Tokens" "at" "I") (by decide +kernel)) (fun _ h9 => h9) rfl dX9_advance_1 ?_
      refine lv_aload_n hx hb dX9_advance_4 rfl (lv_at hl 0 rfl) ?_
      refine va_get (D := (dC, dI)) (ci := 7) (v := .int ln_45) (C := RX9) (T := TX9) (N := 7) hx hb hts iw_X9_advance_X9 hown hK hP 0 rfl rfl 1 (by decide) (hts (.fieldLink RX9 13 "HungFloors$Tokens" "length" "I") (by decide +kernel)) (fun _ h9 => h9) rfl dX9_advance_5 ?_
      refine lv_icmp_ge (tgt := 52) hx hb dX9_advance_8 (by decide) (fun c_265 => ?_) (fun c_265 => ?_)
      · have c_265 : ln_45.toInt ≤ g_89.toInt := f_le rfl rfl c_265
        refine lv_aload_n hx hb dX9_advance_52 rfl (lv_at hl 0 rfl) ?_
        refine lv_aload_n hx hb dX9_advance_53 rfl (lv_at hl 0 rfl) ?_
        refine va_get (D := (dC, dI)) (ci := 7) (v := .int g_89) (C := RX9) (T := TX9) (N := 7) hx hb hts iw_X9_advance_X9 hown hK hP 0 rfl rfl 2 (by decide) (hts (.fieldLink RX9 17 "HungFloors$Tokens" "at" "I") (by decide +kernel)) (fun _ h9 => h9) rfl dX9_advance_54 ?_
        refine va_put (D := (dC, dI)) (ci := 7) (v := .int g_89) (ty := .int) (C := RX9) (T := TX9) (N := 7) hx hb hts iw_X9_advance_X9 tyX9 tyX9_ok nmX9 hown hK hP hD hS 0 rfl rfl 4 (by decide) (hts (.fieldLink RX9 29 "HungFloors$Tokens" "start" "I") (by decide +kernel)) (fun _ h9 => h9) rfl (by decide +kernel) rfl rfl (Nat.le_of_ble_eq_true rfl) dX9_advance_57 (fun H locs hP hD hS => ?_)
        have hP : va_P (dC, dI) vwCl (List.flatten [[(h0, .inr (7, [.ref tx0, .int ln_45, .int g_89, .ref (ad kd_51), .int g_89, .long wd_53, .int nu_54]))], [(tx0, .inl (cB, 1600, .inl f1))]]) H := hP
        have hD : va_D A (List.flatten [[(h0, .inr (7, [.ref tx0, .int ln_45, .int g_89, .ref (ad kd_51), .int g_89, .long wd_53, .int nu_54]))], [(tx0, .inl (cB, 1600, .inl f1))]]) := hD
        refine lv_aload_n hx hb dX9_advance_60 rfl (lv_at hl 0 rfl) ?_
        refine va_get (D := (dC, dI)) (ci := 7) (v := .int g_89) (C := RX9) (T := TX9) (N := 7) hx hb hts iw_X9_advance_X9 hown hK hP 0 rfl rfl 2 (by decide) (hts (.fieldLink RX9 17 "HungFloors$Tokens" "at" "I") (by decide +kernel)) (fun _ h9 => h9) rfl dX9_advance_61 ?_
        refine lv_aload_n hx hb dX9_advance_64 rfl (lv_at hl 0 rfl) ?_
        refine va_get (D := (dC, dI)) (ci := 7) (v := .int ln_45) (C := RX9) (T := TX9) (N := 7) hx hb hts iw_X9_advance_X9 hown hK hP 0 rfl rfl 1 (by decide) (hts (.fieldLink RX9 13 "HungFloors$Tokens" "length" "I") (by decide +kernel)) (fun _ h9 => h9) rfl dX9_advance_65 ?_
        refine lv_icmp_lt (tgt := 81) hx hb dX9_advance_68 (by decide) (fun c_266 => False.elim (by have c_266 := f_lt rfl rfl c_266; omega)) (fun c_266 => ?_)
        have c_266 : ln_45.toInt ≤ g_89.toInt := f_nlt rfl rfl c_266
        refine lv_aload_n hx hb dX9_advance_71 rfl (lv_at hl 0 rfl) ?_
        refine va_gets hx hb (hE.2.1.1 3 (by decide)).1 hS hown (hts (.fieldLink RX9 20 "HungFloors$Kind" "END" "LHungFloors$Kind;") (by decide +kernel)) (fun _ h9 => h9) dX9_advance_72 ?_
        refine va_put (D := (dC, dI)) (ci := 7) (v := .ref (ad 3)) (ty := .object "HungFloors$Kind") (C := RX9) (T := TX9) (N := 7) hx hb hts iw_X9_advance_X9 tyX9 tyX9_ok nmX9 hown hK hP hD hS 0 rfl rfl 3 (by decide) (hts (.fieldLink RX9 26 "HungFloors$Tokens" "kind" "LHungFloors$Kind;") (by decide +kernel)) (fun _ h9 => h9) rfl (by decide +kernel) rfl rfl (Nat.le_of_ble_eq_true rfl) dX9_advance_75 (fun H locs hP hD hS => ?_)
        have hP : va_P (dC, dI) vwCl (List.flatten [[(h0, .inr (7, [.ref tx0, .int ln_45, .int g_89, .ref (ad 3), .int g_89, .long wd_53, .int nu_54]))], [(tx0, .inl (cB, 1600, .inl f1))]]) H := hP
        have hD : va_D A (List.flatten [[(h0, .inr (7, [.ref tx0, .int ln_45, .int g_89, .ref (ad 3), .int g_89, .long wd_53, .int nu_54]))], [(tx0, .inl (cB, 1600, .inl f1))]]) := hD
        refine lv_goto (tgt := 192) hx hb dX9_advance_78 (by decide) ?_
        rw [hQ0]
        exact W.vret hx hb hr (fun t ht hW => ⟨⟨(), rfl, trivial, ⟨_, ⟨ln_45, g_89, 3, g_89, wd_53, nu_54, rfl, by omega, by omega, by omega, by omega⟩, by rw [ht]; exact hP, hD⟩⟩, hS.F ht⟩) hS.2.2 dX9_advance_192
      · have c_265 : g_89.toInt < ln_45.toInt := f_nle rfl rfl c_265
        refine lv_aload_n hx hb dX9_advance_11 rfl (lv_at hl 0 rfl) ?_
        refine va_get (D := (dC, dI)) (ci := 7) (v := .ref tx0) (C := RX9) (T := TX9) (N := 7) hx hb hts iw_X9_advance_X9 hown hK hP 0 rfl rfl 0 (by decide) (hts (.fieldLink RX9 7 "HungFloors$Tokens" "text" "[B") (by decide +kernel)) (fun _ h9 => h9) rfl dX9_advance_12 ?_
        refine lv_aload_n hx hb dX9_advance_15 rfl (lv_at hl 0 rfl) ?_
        refine va_get (D := (dC, dI)) (ci := 7) (v := .int g_89) (C := RX9) (T := TX9) (N := 7) hx hb hts iw_X9_advance_X9 hown hK hP 0 rfl rfl 2 (by decide) (hts (.fieldLink RX9 17 "HungFloors$Tokens" "at" "I") (by decide +kernel)) (fun _ h9 => h9) rfl dX9_advance_16 ?_
        refine va_bald hx hb hK hP 1 0 rfl rfl (v_in rfl (by omega) (by omega)) dX9_advance_19 ?_
        refine lv_topi (fun z_267 ez_267 => ?_)
        refine lv_bipush (v := 32) hx hb dX9_advance_20 (by decide) ?_
        refine lv_icmp_eq (tgt := 39) hx hb dX9_advance_22 (by decide) (fun c_268 => ?_) (fun c_268 => ?_)
        · have c_268 : z_267.toInt = 32 := f_eq rfl tI_32 c_268
          refine lv_aload_n hx hb dX9_advance_39 rfl (lv_at hl 0 rfl) ?_
          refine lv_dup hx hb dX9_advance_40 rfl ?_
          refine va_get (D := (dC, dI)) (ci := 7) (v := .int g_89) (C := RX9) (T := TX9) (N := 7) hx hb hts iw_X9_advance_X9 hown hK hP 0 rfl rfl 2 (by decide) (hts (.fieldLink RX9 17 "HungFloors$Tokens" "at" "I") (by decide +kernel)) (fun _ h9 => h9) rfl dX9_advance_41 ?_
          refine lv_iconst (v := 1) hx hb dX9_advance_44 (by decide) ?_
          refine lv_iadd hx hb dX9_advance_45 ?_
          refine lv_topi (fun z_269 ez_269 => ?_)
          have hz_269 : z_269.toInt = g_89.toInt + 1 := by rw [ez_269]; exact t_add rfl tI_1 (by omega) (by omega)
          refine va_put (D := (dC, dI)) (ci := 7) (v := .int z_269) (ty := .int) (C := RX9) (T := TX9) (N := 7) hx hb hts iw_X9_advance_X9 tyX9 tyX9_ok nmX9 hown hK hP hD hS 0 rfl rfl 2 (by decide) (hts (.fieldLink RX9 17 "HungFloors$Tokens" "at" "I") (by decide +kernel)) (fun _ h9 => h9) rfl (by decide +kernel) rfl rfl (Nat.le_of_ble_eq_true rfl) dX9_advance_46 (fun H locs hP hD hS => ?_)
          have hP : va_P (dC, dI) vwCl (List.flatten [[(h0, .inr (7, [.ref tx0, .int ln_45, .int z_269, .ref (ad kd_51), .int sa_52, .long wd_53, .int nu_54]))], [(tx0, .inl (cB, 1600, .inl f1))]]) H := hP
          have hD : va_D A (List.flatten [[(h0, .inr (7, [.ref tx0, .int ln_45, .int z_269, .ref (ad kd_51), .int sa_52, .long wd_53, .int nu_54]))], [(tx0, .inl (cB, 1600, .inl f1))]]) := hD
          refine lv_goto (tgt := 0) hx hb dX9_advance_49 (by decide) ?_
          exact ih_264 z_269 (by omega) (by omega) (by omega) (by omega) _ _ hP hD hS ls (lv_sub hl [0] rfl)
        · have c_268 : ¬ z_267.toInt = 32 := f_ne rfl tI_32 c_268
          refine lv_aload_n hx hb dX9_advance_25 rfl (lv_at hl 0 rfl) ?_
          refine va_get (D := (dC, dI)) (ci := 7) (v := .ref tx0) (C := RX9) (T := TX9) (N := 7) hx hb hts iw_X9_advance_X9 hown hK hP 0 rfl rfl 0 (by decide) (hts (.fieldLink RX9 7 "HungFloors$Tokens" "text" "[B") (by decide +kernel)) (fun _ h9 => h9) rfl dX9_advance_26 ?_
          refine lv_aload_n hx hb dX9_advance_29 rfl (lv_at hl 0 rfl) ?_
          refine va_get (D := (dC, dI)) (ci := 7) (v := .int g_89) (C := RX9) (T := TX9) (N := 7) hx hb hts iw_X9_advance_X9 hown hK hP 0 rfl rfl 2 (by decide) (hts (.fieldLink RX9 17 "HungFloors$Tokens" "at" "I") (by decide +kernel)) (fun _ h9 => h9) rfl dX9_advance_30 ?_
          refine va_bald hx hb hK hP 1 0 rfl rfl (v_in rfl (by omega) (by omega)) dX9_advance_33 ?_
          refine lv_topi (fun z_270 ez_270 => ?_)
          have qz_270 : z_270.toInt = z_267.toInt := by rw [ez_270, ez_267]
          refine lv_bipush (v := 10) hx hb dX9_advance_34 (by decide) ?_
          refine lv_icmp_ne (tgt := 52) hx hb dX9_advance_36 (by decide) (fun c_271 => ?_) (fun c_271 => ?_)
          · have c_271 : ¬ z_270.toInt = 10 := f_ne rfl tI_10 c_271
            refine lv_aload_n hx hb dX9_advance_52 rfl (lv_at hl 0 rfl) ?_
            refine lv_aload_n hx hb dX9_advance_53 rfl (lv_at hl 0 rfl) ?_
            refine va_get (D := (dC, dI)) (ci := 7) (v := .int g_89) (C := RX9) (T := TX9) (N := 7) hx hb hts iw_X9_advance_X9 hown hK hP 0 rfl rfl 2 (by decide) (hts (.fieldLink RX9 17 "HungFloors$Tokens" "at" "I") (by decide +kernel)) (fun _ h9 => h9) rfl dX9_advance_54 ?_
            refine va_put (D := (dC, dI)) (ci := 7) (v := .int g_89) (ty := .int) (C := RX9) (T := TX9) (N := 7) hx hb hts iw_X9_advance_X9 tyX9 tyX9_ok nmX9 hown hK hP hD hS 0 rfl rfl 4 (by decide) (hts (.fieldLink RX9 29 "HungFloors$Tokens" "start" "I") (by decide +kernel)) (fun _ h9 => h9) rfl (by decide +kernel) rfl rfl (Nat.le_of_ble_eq_true rfl) dX9_advance_57 (fun H locs hP hD hS => ?_)
            have hP : va_P (dC, dI) vwCl (List.flatten [[(h0, .inr (7, [.ref tx0, .int ln_45, .int g_89, .ref (ad kd_51), .int g_89, .long wd_53, .int nu_54]))], [(tx0, .inl (cB, 1600, .inl f1))]]) H := hP
            have hD : va_D A (List.flatten [[(h0, .inr (7, [.ref tx0, .int ln_45, .int g_89, .ref (ad kd_51), .int g_89, .long wd_53, .int nu_54]))], [(tx0, .inl (cB, 1600, .inl f1))]]) := hD
            refine lv_aload_n hx hb dX9_advance_60 rfl (lv_at hl 0 rfl) ?_
            refine va_get (D := (dC, dI)) (ci := 7) (v := .int g_89) (C := RX9) (T := TX9) (N := 7) hx hb hts iw_X9_advance_X9 hown hK hP 0 rfl rfl 2 (by decide) (hts (.fieldLink RX9 17 "HungFloors$Tokens" "at" "I") (by decide +kernel)) (fun _ h9 => h9) rfl dX9_advance_61 ?_
            refine lv_aload_n hx hb dX9_advance_64 rfl (lv_at hl 0 rfl) ?_
            refine va_get (D := (dC, dI)) (ci := 7) (v := .int ln_45) (C := RX9) (T := TX9) (N := 7) hx hb hts iw_X9_advance_X9 hown hK hP 0 rfl rfl 1 (by decide) (hts (.fieldLink RX9 13 "HungFloors$Tokens" "length" "I") (by decide +kernel)) (fun _ h9 => h9) rfl dX9_advance_65 ?_
            refine lv_icmp_lt (tgt := 81) hx hb dX9_advance_68 (by decide) (fun c_272 => ?_) (fun c_272 => False.elim (by have c_272 := f_nlt rfl rfl c_272; omega))
            have c_272 : g_89.toInt < ln_45.toInt := f_lt rfl rfl c_272
            refine lv_aload_n hx hb dX9_advance_81 rfl (lv_at hl 0 rfl) ?_
            refine va_get (D := (dC, dI)) (ci := 7) (v := .ref tx0) (C := RX9) (T := TX9) (N := 7) hx hb hts iw_X9_advance_X9 hown hK hP 0 rfl rfl 0 (by decide) (hts (.fieldLink RX9 7 "HungFloors$Tokens" "text" "[B") (by decide +kernel)) (fun _ h9 => h9) rfl dX9_advance_82 ?_
            refine lv_aload_n hx hb dX9_advance_85 rfl (lv_at hl 0 rfl) ?_
            refine va_get (D := (dC, dI)) (ci := 7) (v := .int g_89) (C := RX9) (T := TX9) (N := 7) hx hb hts iw_X9_advance_X9 hown hK hP 0 rfl rfl 2 (by decide) (hts (.fieldLink RX9 17 "HungFloors$Tokens" "at" "I") (by decide +kernel)) (fun _ h9 => h9) rfl dX9_advance_86 ?_
            refine va_bald hx hb hK hP 1 0 rfl rfl (v_in rfl (by omega) (by omega)) dX9_advance_89 ?_
            refine lv_topi (fun z_273 ez_273 => ?_)
            have qz_273 : z_273.toInt = z_267.toInt := by rw [ez_273, ez_267]
            refine lv_bipush (v := 97) hx hb dX9_advance_90 (by decide) ?_
            refine lv_icmp_lt (tgt := 116) hx hb dX9_advance_92 (by decide) (fun c_274 => ?_) (fun c_274 => ?_)
            · have c_274 : z_273.toInt < 97 := f_lt rfl tI_97 c_274
              refine lv_aload_n hx hb dX9_advance_116 rfl (lv_at hl 0 rfl) ?_
              refine va_get (D := (dC, dI)) (ci := 7) (v := .ref tx0) (C := RX9) (T := TX9) (N := 7) hx hb hts iw_X9_advance_X9 hown hK hP 0 rfl rfl 0 (by decide) (hts (.fieldLink RX9 7 "HungFloors$Tokens" "text" "[B") (by decide +kernel)) (fun _ h9 => h9) rfl dX9_advance_117 ?_
              refine lv_aload_n hx hb dX9_advance_120 rfl (lv_at hl 0 rfl) ?_
              refine va_get (D := (dC, dI)) (ci := 7) (v := .int g_89) (C := RX9) (T := TX9) (N := 7) hx hb hts iw_X9_advance_X9 hown hK hP 0 rfl rfl 2 (by decide) (hts (.fieldLink RX9 17 "HungFloors$Tokens" "at" "I") (by decide +kernel)) (fun _ h9 => h9) rfl dX9_advance_121 ?_
              refine va_bald hx hb hK hP 1 0 rfl rfl (v_in rfl (by omega) (by omega)) dX9_advance_124 ?_
              refine lv_topi (fun z_275 ez_275 => ?_)
              have qz_275 : z_275.toInt = z_267.toInt := by rw [ez_275, ez_267]
              refine lv_bipush (v := 48) hx hb dX9_advance_125 (by decide) ?_
              refine lv_icmp_lt (tgt := 151) hx hb dX9_advance_127 (by decide) (fun c_276 => ?_) (fun c_276 => ?_)
              · have c_276 : z_275.toInt < 48 := f_lt rfl tI_48 c_276
                refine lv_aload_n hx hb dX9_advance_151 rfl (lv_at hl 0 rfl) ?_
                refine va_get (D := (dC, dI)) (ci := 7) (v := .ref tx0) (C := RX9) (T := TX9) (N := 7) hx hb hts iw_X9_advance_X9 hown hK hP 0 rfl rfl 0 (by decide) (hts (.fieldLink RX9 7 "HungFloors$Tokens" "text" "[B") (by decide +kernel)) (fun _ h9 => h9) rfl dX9_advance_152 ?_
                refine lv_aload_n hx hb dX9_advance_155 rfl (lv_at hl 0 rfl) ?_
                refine va_get (D := (dC, dI)) (ci := 7) (v := .int g_89) (C := RX9) (T := TX9) (N := 7) hx hb hts iw_X9_advance_X9 hown hK hP 0 rfl rfl 2 (by decide) (hts (.fieldLink RX9 17 "HungFloors$Tokens" "at" "I") (by decide +kernel)) (fun _ h9 => h9) rfl dX9_advance_156 ?_
                refine va_bald hx hb hK hP 1 0 rfl rfl (v_in rfl (by omega) (by omega)) dX9_advance_159 ?_
                refine lv_topi (fun z_277 ez_277 => ?_)
                have qz_277 : z_277.toInt = z_267.toInt := by rw [ez_277, ez_267]
                refine lv_bipush (v := 59) hx hb dX9_advance_160 (by decide) ?_
                refine lv_icmp_ne (tgt := 185) hx hb dX9_advance_162 (by decide) (fun c_278 => ?_) (fun c_278 => False.elim (by have c_278 := f_eq rfl tI_59 c_278; omega))
                have c_278 : ¬ z_277.toInt = 59 := f_ne rfl tI_59 c_278
                refine lv_aload_n hx hb dX9_advance_185 rfl (lv_at hl 0 rfl) ?_
                refine va_gets hx hb (hE.2.1.1 4 (by decide)).1 hS hown (hts (.fieldLink RX9 57 "HungFloors$Kind" "NOTHING" "LHungFloors$Kind;") (by decide +kernel)) (fun _ h9 => h9) dX9_advance_186 ?_
                refine va_put (D := (dC, dI)) (ci := 7) (v := .ref (ad 4)) (ty := .object "HungFloors$Kind") (C := RX9) (T := TX9) (N := 7) hx hb hts iw_X9_advance_X9 tyX9 tyX9_ok nmX9 hown hK hP hD hS 0 rfl rfl 3 (by decide) (hts (.fieldLink RX9 26 "HungFloors$Tokens" "kind" "LHungFloors$Kind;") (by decide +kernel)) (fun _ h9 => h9) rfl (by decide +kernel) rfl rfl (Nat.le_of_ble_eq_true rfl) dX9_advance_189 (fun H locs hP hD hS => ?_)
                have hP : va_P (dC, dI) vwCl (List.flatten [[(h0, .inr (7, [.ref tx0, .int ln_45, .int g_89, .ref (ad 4), .int g_89, .long wd_53, .int nu_54]))], [(tx0, .inl (cB, 1600, .inl f1))]]) H := hP
                have hD : va_D A (List.flatten [[(h0, .inr (7, [.ref tx0, .int ln_45, .int g_89, .ref (ad 4), .int g_89, .long wd_53, .int nu_54]))], [(tx0, .inl (cB, 1600, .inl f1))]]) := hD
                rw [hQ0]
                exact W.vret hx hb hr (fun t ht hW => ⟨⟨(), rfl, trivial, ⟨_, ⟨ln_45, g_89, 4, g_89, wd_53, nu_54, rfl, by omega, by omega, by omega, by omega⟩, by rw [ht]; exact hP, hD⟩⟩, hS.F ht⟩) hS.2.2 dX9_advance_192
              · have c_276 : 48 ≤ z_275.toInt := f_nlt rfl tI_48 c_276
                refine lv_aload_n hx hb dX9_advance_130 rfl (lv_at hl 0 rfl) ?_
                refine va_get (D := (dC, dI)) (ci := 7) (v := .ref tx0) (C := RX9) (T := TX9) (N := 7) hx hb hts iw_X9_advance_X9 hown hK hP 0 rfl rfl 0 (by decide) (hts (.fieldLink RX9 7 "HungFloors$Tokens" "text" "[B") (by decide +kernel)) (fun _ h9 => h9) rfl dX9_advance_131 ?_
                refine lv_aload_n hx hb dX9_advance_134 rfl (lv_at hl 0 rfl) ?_
                refine va_get (D := (dC, dI)) (ci := 7) (v := .int g_89) (C := RX9) (T := TX9) (N := 7) hx hb hts iw_X9_advance_X9 hown hK hP 0 rfl rfl 2 (by decide) (hts (.fieldLink RX9 17 "HungFloors$Tokens" "at" "I") (by decide +kernel)) (fun _ h9 => h9) rfl dX9_advance_135 ?_
                refine va_bald hx hb hK hP 1 0 rfl rfl (v_in rfl (by omega) (by omega)) dX9_advance_138 ?_
                refine lv_topi (fun z_279 ez_279 => ?_)
                have qz_279 : z_279.toInt = z_267.toInt := by rw [ez_279, ez_267]
                refine lv_bipush (v := 57) hx hb dX9_advance_139 (by decide) ?_
                refine lv_icmp_gt (tgt := 151) hx hb dX9_advance_141 (by decide) (fun c_280 => ?_) (fun c_280 => ?_)
                · have c_280 : 57 < z_279.toInt := f_lt tI_57 rfl c_280
                  refine lv_aload_n hx hb dX9_advance_151 rfl (lv_at hl 0 rfl) ?_
                  refine va_get (D := (dC, dI)) (ci := 7) (v := .ref tx0) (C := RX9) (T := TX9) (N := 7) hx hb hts iw_X9_advance_X9 hown hK hP 0 rfl rfl 0 (by decide) (hts (.fieldLink RX9 7 "HungFloors$Tokens" "text" "[B") (by decide +kernel)) (fun _ h9 => h9) rfl dX9_advance_152 ?_
                  refine lv_aload_n hx hb dX9_advance_155 rfl (lv_at hl 0 rfl) ?_
                  refine va_get (D := (dC, dI)) (ci := 7) (v := .int g_89) (C := RX9) (T := TX9) (N := 7) hx hb hts iw_X9_advance_X9 hown hK hP 0 rfl rfl 2 (by decide) (hts (.fieldLink RX9 17 "HungFloors$Tokens" "at" "I") (by decide +kernel)) (fun _ h9 => h9) rfl dX9_advance_156 ?_
                  refine va_bald hx hb hK hP 1 0 rfl rfl (v_in rfl (by omega) (by omega)) dX9_advance_159 ?_
                  refine lv_topi (fun z_281 ez_281 => ?_)
                  have qz_281 : z_281.toInt = z_267.toInt := by rw [ez_281, ez_267]
                  refine lv_bipush (v := 59) hx hb dX9_advance_160 (by decide) ?_
                  refine lv_icmp_ne (tgt := 185) hx hb dX9_advance_162 (by decide) (fun c_282 => ?_) (fun c_282 => ?_)
                  · have c_282 : ¬ z_281.toInt = 59 := f_ne rfl tI_59 c_282
                    refine lv_aload_n hx hb dX9_advance_185 rfl (lv_at hl 0 rfl) ?_
                    refine va_gets hx hb (hE.2.1.1 4 (by decide)).1 hS hown (hts (.fieldLink RX9 57 "HungFloors$Kind" "NOTHING" "LHungFloors$Kind;") (by decide +kernel)) (fun _ h9 => h9) dX9_advance_186 ?_
                    refine va_put (D := (dC, dI)) (ci := 7) (v := .ref (ad 4)) (ty := .object "HungFloors$Kind") (C := RX9) (T := TX9) (N := 7) hx hb hts iw_X9_advance_X9 tyX9 tyX9_ok nmX9 hown hK hP hD hS 0 rfl rfl 3 (by decide) (hts (.fieldLink RX9 26 "HungFloors$Tokens" "kind" "LHungFloors$Kind;") (by decide +kernel)) (fun _ h9 => h9) rfl (by decide +kernel) rfl rfl (Nat.le_of_ble_eq_true rfl) dX9_advance_189 (fun H locs hP hD hS => ?_)
                    have hP : va_P (dC, dI) vwCl (List.flatten [[(h0, .inr (7, [.ref tx0, .int ln_45, .int g_89, .ref (ad 4), .int g_89, .long wd_53, .int nu_54]))], [(tx0, .inl (cB, 1600, .inl f1))]]) H := hP
                    have hD : va_D A (List.flatten [[(h0, .inr (7, [.ref tx0, .int ln_45, .int g_89, .ref (ad 4), .int g_89, .long wd_53, .int nu_54]))], [(tx0, .inl (cB, 1600, .inl f1))]]) := hD
                    rw [hQ0]
                    exact W.vret hx hb hr (fun t ht hW => ⟨⟨(), rfl, trivial, ⟨_, ⟨ln_45, g_89, 4, g_89, wd_53, nu_54, rfl, by omega, by omega, by omega, by omega⟩, by rw [ht]; exact hP, hD⟩⟩, hS.F ht⟩) hS.2.2 dX9_advance_192
                  · have c_282 : z_281.toInt = 59 := f_eq rfl tI_59 c_282
                    refine lv_aload_n hx hb dX9_advance_165 rfl (lv_at hl 0 rfl) ?_
                    refine va_gets hx hb (hE.2.1.1 2 (by decide)).1 hS hown (hts (.fieldLink RX9 54 "HungFloors$Kind" "SIGN" "LHungFloors$Kind;") (by decide +kernel)) (fun _ h9 => h9) dX9_advance_166 ?_
                    refine va_put (D := (dC, dI)) (ci := 7) (v := .ref (ad 2)) (ty := .object "HungFloors$Kind") (C := RX9) (T := TX9) (N := 7) hx hb hts iw_X9_advance_X9 tyX9 tyX9_ok nmX9 hown hK hP hD hS 0 rfl rfl 3 (by decide) (hts (.fieldLink RX9 26 "HungFloors$Tokens" "kind" "LHungFloors$Kind;") (by decide +kernel)) (fun _ h9 => h9) rfl (by decide +kernel) rfl rfl (Nat.le_of_ble_eq_true rfl) dX9_advance_169 (fun H locs hP hD hS => ?_)
                    have hP : va_P (dC, dI) vwCl (List.flatten [[(h0, .inr (7, [.ref tx0, .int ln_45, .int g_89, .ref (ad 2), .int g_89, .long wd_53, .int nu_54]))], [(tx0, .inl (cB, 1600, .inl f1))]]) H := hP
                    have hD : va_D A (List.flatten [[(h0, .inr (7, [.ref tx0, .int ln_45, .int g_89, .ref (ad 2), .int g_89, .long wd_53, .int nu_54]))], [(tx0, .inl (cB, 1600, .inl f1))]]) := hD
                    refine lv_aload_n hx hb dX9_advance_172 rfl (lv_at hl 0 rfl) ?_
                    refine lv_dup hx hb dX9_advance_173 rfl ?_
                    refine va_get (D := (dC, dI)) (ci := 7) (v := .int g_89) (C := RX9) (T := TX9) (N := 7) hx hb hts iw_X9_advance_X9 hown hK hP 0 rfl rfl 2 (by decide) (hts (.fieldLink RX9 17 "HungFloors$Tokens" "at" "I") (by decide +kernel)) (fun _ h9 => h9) rfl dX9_advance_174 ?_
                    refine lv_iconst (v := 1) hx hb dX9_advance_177 (by decide) ?_
                    refine lv_iadd hx hb dX9_advance_178 ?_
                    refine lv_topi (fun z_283 ez_283 => ?_)
                    have hz_283 : z_283.toInt = g_89.toInt + 1 := by rw [ez_283]; exact t_add rfl tI_1 (by omega) (by omega)
                    refine va_put (D := (dC, dI)) (ci := 7) (v := .int z_283) (ty := .int) (C := RX9) (T := TX9) (N := 7) hx hb hts iw_X9_advance_X9 tyX9 tyX9_ok nmX9 hown hK hP hD hS 0 rfl rfl 2 (by decide) (hts (.fieldLink RX9 17 "HungFloors$Tokens" "at" "I") (by decide +kernel)) (fun _ h9 => h9) rfl (by decide +kernel) rfl rfl (Nat.le_of_ble_eq_true rfl) dX9_advance_179 (fun H locs hP hD hS => ?_)
                    have hP : va_P (dC, dI) vwCl (List.flatten [[(h0, .inr (7, [.ref tx0, .int ln_45, .int z_283, .ref (ad 2), .int g_89, .long wd_53, .int nu_54]))], [(tx0, .inl (cB, 1600, .inl f1))]]) H := hP
                    have hD : va_D A (List.flatten [[(h0, .inr (7, [.ref tx0, .int ln_45, .int z_283, .ref (ad 2), .int g_89, .long wd_53, .int nu_54]))], [(tx0, .inl (cB, 1600, .inl f1))]]) := hD
                    refine lv_goto (tgt := 192) hx hb dX9_advance_182 (by decide) ?_
                    rw [hQ0]
                    exact W.vret hx hb hr (fun t ht hW => ⟨⟨(), rfl, trivial, ⟨_, ⟨ln_45, z_283, 2, g_89, wd_53, nu_54, rfl, by omega, by omega, by omega, by omega⟩, by rw [ht]; exact hP, hD⟩⟩, hS.F ht⟩) hS.2.2 dX9_advance_192
                · have c_280 : z_279.toInt ≤ 57 := f_nlt tI_57 rfl c_280
                  refine lv_aload_n hx hb dX9_advance_144 rfl (lv_at hl 0 rfl) ?_
                  have hpm : List.Perm ([[(h0, .inr (7, [.ref tx0, .int ln_45, .int g_89, .ref (ad kd_51), .int g_89, .long wd_53, .int nu_54]))], [(tx0, .inl (cB, 1600, .inl f1))]] : List va_W) (([[(h0, .inr (7, [.ref tx0, .int ln_45, .int g_89, .ref (ad kd_51), .int g_89, .long wd_53, .int nu_54]))], [(tx0, .inl (cB, 1600, .inl f1))]] : List va_W) ++ ([] : List va_W)) := pm_n 2 [0, 1] (by decide) rfl rfl
                  have hPc := bk_P hpm hP
                  have hDc := bk_D hpm hD
                  have hFc := bk_F hpm hD hS hA
                  refine va_callv (va_runV (As := []) (rest := []) ⟨hx, hb, hml, hown, hts⟩ (c_X9_takeDigits l dC dI ad tN fN cB cI cJ cZ h0 r0 tx0 _ _ ⟨ln_45, g_89, kd_51, g_89, wd_53, nu_54, rfl, by omega, by omega, by omega, by omega⟩ H.size) (cwV 0 hts gX9_advance_X9_takeDigits rfl rfl rfl (by decide +kernel) ⟨(Nat.le_of_ble_eq_true rfl), (Nat.le_of_ble_eq_true rfl)⟩) ⟨fun a U g mk q => by obtain ⟨q0, q1, qP, qK, qD, qE⟩ := q; exact ⟨q0, q1, qP, va_K.moved (u := U) (U := U.calling g mk a) (Vm.Alike.refl U.vm) qK, qD, ey_blind qE⟩, va_recv hK hPc (ci := 7) (q0 := 0) rfl rfl, fun U hU hW => ⟨rfl, by rw [hU], by rw [hU]; exact hPc, va_K.moved hW.alike hK, hDc.weaken (fun _ _ _ _ => trivial), ey_call hE hS hFc hU hW⟩⟩ rfl rfl hl.1 rfl (lv_room (Nat.le_of_ble_eq_true rfl)) dX9_advance_145 ⟨(Nat.le_of_ble_eq_true rfl), (Nat.le_of_ble_eq_true rfl)⟩) hS (fun q _ h => hFc q h) hFc (fun u t H locs ht hvm hw hB hz1 hk1 hS => ?_)
                  obtain ⟨w_285, o_286, hP1, hD1⟩ := hB
                  rw [ht] at hP1
                  obtain ⟨hP, hD⟩ := bk_join hpm hP hD hk1 hFc (Cs1 := [w_285, [(tx0, .inl (cB, 1600, .inl f1))]]) hP1 hD1
                  have hpm2 : List.Perm (([w_285, [(tx0, .inl (cB, 1600, .inl f1))]] : List va_W) ++ ([] : List va_W)) ([w_285, [(tx0, .inl (cB, 1600, .inl f1))]] : List va_W) := pm_n 2 [0, 1] (by decide) rfl rfl
                  have hP := bk_reP hpm2 hP
                  have hD := bk_reD hpm2 hD
                  have hP : va_P (dC, dI) vwCl (List.flatten [w_285, [(tx0, .inl (cB, 1600, .inl f1))]]) H := hP
                  have hD : va_D A (List.flatten [w_285, [(tx0, .inl (cB, 1600, .inl f1))]]) := hD
                  refine lv_goto (tgt := 192) hx hb dX9_advance_148 (by decide) ?_
                  rw [hQ0]
                  exact W.vret hx hb hr (fun t ht hW => ⟨⟨(), rfl, trivial, ⟨_, o_286, by rw [ht]; exact hP, hD⟩⟩, hS.F ht⟩) hS.2.2 dX9_advance_192
            · have c_274 : 97 ≤ z_273.toInt := f_nlt rfl tI_97 c_274
              refine lv_aload_n hx hb dX9_advance_95 rfl (lv_at hl 0 rfl) ?_
              refine va_get (D := (dC, dI)) (ci := 7) (v := .ref tx0) (C := RX9) (T := TX9) (N := 7) hx hb hts iw_X9_advance_X9 hown hK hP 0 rfl rfl 0 (by decide) (hts (.fieldLink RX9 7 "HungFloors$Tokens" "text" "[B") (by decide +kernel)) (fun _ h9 => h9) rfl dX9_advance_96 ?_
              refine lv_aload_n hx hb dX9_advance_99 rfl (lv_at hl 0 rfl) ?_
              refine va_get (D := (dC, dI)) (ci := 7) (v := .int g_89) (C := RX9) (T := TX9) (N := 7) hx hb hts iw_X9_advance_X9 hown hK hP 0 rfl rfl 2 (by decide) (hts (.fieldLink RX9 17 "HungFloors$Tokens" "at" "I") (by decide +kernel)) (fun _ h9 => h9) rfl dX9_advance_100 ?_
              refine va_bald hx hb hK hP 1 0 rfl rfl (v_in rfl (by omega) (by omega)) dX9_advance_103 ?_
              refine lv_topi (fun z_287 ez_287 => ?_)
              have qz_287 : z_287.toInt = z_267.toInt := by rw [ez_287, ez_267]
              refine lv_bipush (v := 122) hx hb dX9_advance_104 (by decide) ?_
              refine lv_icmp_gt (tgt := 116) hx hb dX9_advance_106 (by decide) (fun c_288 => ?_) (fun c_288 => ?_)
              · have c_288 : 122 < z_287.toInt := f_lt tI_122 rfl c_288
                refine lv_aload_n hx hb dX9_advance_116 rfl (lv_at hl 0 rfl) ?_
                refine va_get (D := (dC, dI)) (ci := 7) (v := .ref tx0) (C := RX9) (T := TX9) (N := 7) hx hb hts iw_X9_advance_X9 hown hK hP 0 rfl rfl 0 (by decide) (hts (.fieldLink RX9 7 "HungFloors$Tokens" "text" "[B") (by decide +kernel)) (fun _ h9 => h9) rfl dX9_advance_117 ?_
                refine lv_aload_n hx hb dX9_advance_120 rfl (lv_at hl 0 rfl) ?_
                refine va_get (D := (dC, dI)) (ci := 7) (v := .int g_89) (C := RX9) (T := TX9) (N := 7) hx hb hts iw_X9_advance_X9 hown hK hP 0 rfl rfl 2 (by decide) (hts (.fieldLink RX9 17 "HungFloors$Tokens" "at" "I") (by decide +kernel)) (fun _ h9 => h9) rfl dX9_advance_121 ?_
                refine va_bald hx hb hK hP 1 0 rfl rfl (v_in rfl (by omega) (by omega)) dX9_advance_124 ?_
                refine lv_topi (fun z_289 ez_289 => ?_)
                have qz_289 : z_289.toInt = z_267.toInt := by rw [ez_289, ez_267]
                refine lv_bipush (v := 48) hx hb dX9_advance_125 (by decide) ?_
                refine lv_icmp_lt (tgt := 151) hx hb dX9_advance_127 (by decide) (fun c_290 => False.elim (by have c_290 := f_lt rfl tI_48 c_290; omega)) (fun c_290 => ?_)
                have c_290 : 48 ≤ z_289.toInt := f_nlt rfl tI_48 c_290
                refine lv_aload_n hx hb dX9_advance_130 rfl (lv_at hl 0 rfl) ?_
                refine va_get (D := (dC, dI)) (ci := 7) (v := .ref tx0) (C := RX9) (T := TX9) (N := 7) hx hb hts iw_X9_advance_X9 hown hK hP 0 rfl rfl 0 (by decide) (hts (.fieldLink RX9 7 "HungFloors$Tokens" "text" "[B") (by decide +kernel)) (fun _ h9 => h9) rfl dX9_advance_131 ?_
                refine lv_aload_n hx hb dX9_advance_134 rfl (lv_at hl 0 rfl) ?_
                refine va_get (D := (dC, dI)) (ci := 7) (v := .int g_89) (C := RX9) (T := TX9) (N := 7) hx hb hts iw_X9_advance_X9 hown hK hP 0 rfl rfl 2 (by decide) (hts (.fieldLink RX9 17 "HungFloors$Tokens" "at" "I") (by decide +kernel)) (fun _ h9 => h9) rfl dX9_advance_135 ?_
                refine va_bald hx hb hK hP 1 0 rfl rfl (v_in rfl (by omega) (by omega)) dX9_advance_138 ?_
                refine lv_topi (fun z_291 ez_291 => ?_)
                have qz_291 : z_291.toInt = z_267.toInt := by rw [ez_291, ez_267]
                refine lv_bipush (v := 57) hx hb dX9_advance_139 (by decide) ?_
                refine lv_icmp_gt (tgt := 151) hx hb dX9_advance_141 (by decide) (fun c_292 => ?_) (fun c_292 => False.elim (by have c_292 := f_nlt tI_57 rfl c_292; omega))
                have c_292 : 57 < z_291.toInt := f_lt tI_57 rfl c_292
                refine lv_aload_n hx hb dX9_advance_151 rfl (lv_at hl 0 rfl) ?_
                refine va_get (D := (dC, dI)) (ci := 7) (v := .ref tx0) (C := RX9) (T := TX9) (N := 7) hx hb hts iw_X9_advance_X9 hown hK hP 0 rfl rfl 0 (by decide) (hts (.fieldLink RX9 7 "HungFloors$Tokens" "text" "[B") (by decide +kernel)) (fun _ h9 => h9) rfl dX9_advance_152 ?_
                refine lv_aload_n hx hb dX9_advance_155 rfl (lv_at hl 0 rfl) ?_
                refine va_get (D := (dC, dI)) (ci := 7) (v := .int g_89) (C := RX9) (T := TX9) (N := 7) hx hb hts iw_X9_advance_X9 hown hK hP 0 rfl rfl 2 (by decide) (hts (.fieldLink RX9 17 "HungFloors$Tokens" "at" "I") (by decide +kernel)) (fun _ h9 => h9) rfl dX9_advance_156 ?_
                refine va_bald hx hb hK hP 1 0 rfl rfl (v_in rfl (by omega) (by omega)) dX9_advance_159 ?_
                refine lv_topi (fun z_293 ez_293 => ?_)
                have qz_293 : z_293.toInt = z_267.toInt := by rw [ez_293, ez_267]
                refine lv_bipush (v := 59) hx hb dX9_advance_160 (by decide) ?_
                refine lv_icmp_ne (tgt := 185) hx hb dX9_advance_162 (by decide) (fun c_294 => ?_) (fun c_294 => False.elim (by have c_294 := f_eq rfl tI_59 c_294; omega))
                have c_294 : ¬ z_293.toInt = 59 := f_ne rfl tI_59 c_294
                refine lv_aload_n hx hb dX9_advance_185 rfl (lv_at hl 0 rfl) ?_
                refine va_gets hx hb (hE.2.1.1 4 (by decide)).1 hS hown (hts (.fieldLink RX9 57 "HungFloors$Kind" "NOTHING" "LHungFloors$Kind;") (by decide +kernel)) (fun _ h9 => h9) dX9_advance_186 ?_
                refine va_put (D := (dC, dI)) (ci := 7) (v := .ref (ad 4)) (ty := .object "HungFloors$Kind") (C := RX9) (T := TX9) (N := 7) hx hb hts iw_X9_advance_X9 tyX9 tyX9_ok nmX9 hown hK hP hD hS 0 rfl rfl 3 (by decide) (hts (.fieldLink RX9 26 "HungFloors$Tokens" "kind" "LHungFloors$Kind;") (by decide +kernel)) (fun _ h9 => h9) rfl (by decide +kernel) rfl rfl (Nat.le_of_ble_eq_true rfl) dX9_advance_189 (fun H locs hP hD hS => ?_)
                have hP : va_P (dC, dI) vwCl (List.flatten [[(h0, .inr (7, [.ref tx0, .int ln_45, .int g_89, .ref (ad 4), .int g_89, .long wd_53, .int nu_54]))], [(tx0, .inl (cB, 1600, .inl f1))]]) H := hP
                have hD : va_D A (List.flatten [[(h0, .inr (7, [.ref tx0, .int ln_45, .int g_89, .ref (ad 4), .int g_89, .long wd_53, .int nu_54]))], [(tx0, .inl (cB, 1600, .inl f1))]]) := hD
                rw [hQ0]
                exact W.vret hx hb hr (fun t ht hW => ⟨⟨(), rfl, trivial, ⟨_, ⟨ln_45, g_89, 4, g_89, wd_53, nu_54, rfl, by omega, by omega, by omega, by omega⟩, by rw [ht]; exact hP, hD⟩⟩, hS.F ht⟩) hS.2.2 dX9_advance_192
              · have c_288 : z_287.toInt ≤ 122 := f_nlt tI_122 rfl c_288
                refine lv_aload_n hx hb dX9_advance_109 rfl (lv_at hl 0 rfl) ?_
                have hpm : List.Perm ([[(h0, .inr (7, [.ref tx0, .int ln_45, .int g_89, .ref (ad kd_51), .int g_89, .long wd_53, .int nu_54]))], [(tx0, .inl (cB, 1600, .inl f1))]] : List va_W) (([[(h0, .inr (7, [.ref tx0, .int ln_45, .int g_89, .ref (ad kd_51), .int g_89, .long wd_53, .int nu_54]))], [(tx0, .inl (cB, 1600, .inl f1))]] : List va_W) ++ ([] : List va_W)) := pm_n 2 [0, 1] (by decide) rfl rfl
                have hPc := bk_P hpm hP
                have hDc := bk_D hpm hD
                have hFc := bk_F hpm hD hS hA
                refine va_callv (va_runV (As := []) (rest := []) ⟨hx, hb, hml, hown, hts⟩ (c_X9_takeLetters l dC dI ad tN fN cB cI cJ cZ h0 r0 tx0 _ _ ⟨ln_45, g_89, kd_51, g_89, wd_53, nu_54, rfl, by omega, by omega, by omega, by omega⟩ H.size) (cwV 0 hts gX9_advance_X9_takeLetters rfl rfl rfl (by decide +kernel) ⟨(Nat.le_of_ble_eq_true rfl), (Nat.le_of_ble_eq_true rfl)⟩) ⟨fun a U g mk q => by obtain ⟨q0, q1, qP, qK, qD, qE⟩ := q; exact ⟨q0, q1, qP, va_K.moved (u := U) (U := U.calling g mk a) (Vm.Alike.refl U.vm) qK, qD, ey_blind qE⟩, va_recv hK hPc (ci := 7) (q0 := 0) rfl rfl, fun U hU hW => ⟨rfl, by rw [hU], by rw [hU]; exact hPc, va_K.moved hW.alike hK, hDc.weaken (fun _ _ _ _ => trivial), ey_call hE hS hFc hU hW⟩⟩ rfl rfl hl.1 rfl (lv_room (Nat.le_of_ble_eq_true rfl)) dX9_advance_110 ⟨(Nat.le_of_ble_eq_true rfl), (Nat.le_of_ble_eq_true rfl)⟩) hS (fun q _ h => hFc q h) hFc (fun u t H locs ht hvm hw hB hz1 hk1 hS => ?_)
                obtain ⟨w_296, o_297, hP1, hD1⟩ := hB
                rw [ht] at hP1
                obtain ⟨hP, hD⟩ := bk_join hpm hP hD hk1 hFc (Cs1 := [w_296, [(tx0, .inl (cB, 1600, .inl f1))]]) hP1 hD1
                have hpm2 : List.Perm (([w_296, [(tx0, .inl (cB, 1600, .inl f1))]] : List va_W) ++ ([] : List va_W)) ([w_296, [(tx0, .inl (cB, 1600, .inl f1))]] : List va_W) := pm_n 2 [0, 1] (by decide) rfl rfl
                have hP := bk_reP hpm2 hP
                have hD := bk_reD hpm2 hD
                have hP : va_P (dC, dI) vwCl (List.flatten [w_296, [(tx0, .inl (cB, 1600, .inl f1))]]) H := hP
                have hD : va_D A (List.flatten [w_296, [(tx0, .inl (cB, 1600, .inl f1))]]) := hD
                refine lv_goto (tgt := 192) hx hb dX9_advance_113 (by decide) ?_
                rw [hQ0]
                exact W.vret hx hb hr (fun t ht hW => ⟨⟨(), rfl, trivial, ⟨_, o_297, by rw [ht]; exact hP, hD⟩⟩, hS.F ht⟩) hS.2.2 dX9_advance_192
          · have c_271 : z_270.toInt = 10 := f_eq rfl tI_10 c_271
            refine lv_aload_n hx hb dX9_advance_39 rfl (lv_at hl 0 rfl) ?_
            refine lv_dup hx hb dX9_advance_40 rfl ?_
            refine va_get (D := (dC, dI)) (ci := 7) (v := .int g_89) (C := RX9) (T := TX9) (N := 7) hx hb hts iw_X9_advance_X9 hown hK hP 0 rfl rfl 2 (by decide) (hts (.fieldLink RX9 17 "HungFloors$Tokens" "at" "I") (by decide +kernel)) (fun _ h9 => h9) rfl dX9_advance_41 ?_
            refine lv_iconst (v := 1) hx hb dX9_advance_44 (by decide) ?_
            refine lv_iadd hx hb dX9_advance_45 ?_
            refine lv_topi (fun z_298 ez_298 => ?_)
            have hz_298 : z_298.toInt = g_89.toInt + 1 := by rw [ez_298]; exact t_add rfl tI_1 (by omega) (by omega)
            refine va_put (D := (dC, dI)) (ci := 7) (v := .int z_298) (ty := .int) (C := RX9) (T := TX9) (N := 7) hx hb hts iw_X9_advance_X9 tyX9 tyX9_ok nmX9 hown hK hP hD hS 0 rfl rfl 2 (by decide) (hts (.fieldLink RX9 17 "HungFloors$Tokens" "at" "I") (by decide +kernel)) (fun _ h9 => h9) rfl (by decide +kernel) rfl rfl (Nat.le_of_ble_eq_true rfl) dX9_advance_46 (fun H locs hP hD hS => ?_)
            have hP : va_P (dC, dI) vwCl (List.flatten [[(h0, .inr (7, [.ref tx0, .int ln_45, .int z_298, .ref (ad kd_51), .int sa_52, .long wd_53, .int nu_54]))], [(tx0, .inl (cB, 1600, .inl f1))]]) H := hP
            have hD : va_D A (List.flatten [[(h0, .inr (7, [.ref tx0, .int ln_45, .int z_298, .ref (ad kd_51), .int sa_52, .long wd_53, .int nu_54]))], [(tx0, .inl (cB, 1600, .inl f1))]]) := hD
            refine lv_goto (tgt := 0) hx hb dX9_advance_49 (by decide) ?_
            exact ih_264 z_298 (by omega) (by omega) (by omega) (by omega) _ _ hP hD hS ls (lv_sub hl [0] rfl)
  exact lp_263 _ ap_48 (by omega) (by omega) (by omega) (Nat.lt_succ_self _) _ _ hP hD hS ls (lv_sub hl [0] rfl)
theorem iw_X9_begin_X9 : ∀ w ∈ wsX90, w ∈ wsX9_begin := fun _ h => List.mem_cons_of_mem _ (List.mem_append_right _ h)
set_option maxHeartbeats 4000000 in
set_option maxRecDepth 100000 in
theorem c_X9_begin (l : Launch) (dC : Nat → ClassId) (dI : Nat → Nat → Nat) (ad : Nat → Nat) (tN : Nat) (fN : Nat → Int64) (cB cI cJ cZ : ClassId) (h0 : Nat) (h1 : Nat) (p2 : Int32) (r0 : Nat → Nat) (tx0 : Nat) (w0 : va_W) (f1 : Nat → Int32) (o0 : ok_tok ad cB cI cJ cZ h0 r0 tx0 w0) (sz : Nat) (up21 : 0 ≤ p2.toInt) (up22 : p2.toInt ≤ 1600) : Met l yX9_begin wsX9_begin ({ frames := 2, cells := 0, slots := 0, locals := 41 } : Room) (va_Pc [.ref h0, .ref h1, .int p2] (fun U => U.heap.size = sz ∧ va_P (dC, dI) vwCl (List.flatten [w0, [(h1, .inl (cB, 1600, .inl f1))]]) U.heap ∧ va_K (dC, dI) vwCl [(cB, .byte), (cI, .int), (cJ, .long), (cZ, .boolean)] U ∧ va_D (fun _ => True) (List.flatten [w0, [(h1, .inl (cB, 1600, .inl f1))]]) ∧ ex_Y ad tN fN (va_A (List.flatten [w0, [(h1, .inl (cB, 1600, .inl f1))]]) sz) U)) (va_Qv (fun _ : Unit => True) (fun (_ : Unit) (t : State) => ∃ (w09 : va_W), ok_tok ad cB cI cJ cZ h0 r0 h1 w09 ∧ va_P (dC, dI) vwCl (List.flatten [w09, [(h1, .inl (cB, 1600, .inl f1))]]) t.heap ∧ va_D (va_A (List.flatten [w0, [(h1, .inl (cB, 1600, .inl f1))]]) sz) (List.flatten [w09, [(h1, .inl (cB, 1600, .inl f1))]])) (va_A (List.flatten [w0, [(h1, .inl (cB, 1600, .inl f1))]]) sz)) 0 0 (va_A (List.flatten [w0, [(h1, .inl (cB, 1600, .inl f1))]]) sz) := by
  refine Met.ofW (cc := cX9_begin) (maxL := 3) (ret := none) (by decide) rfl ?_
  intro p e s m args below meth c s₁ B hml hv
  obtain ⟨rfl, hsz, hP, hK, hD0, hE⟩ := hv
  have hx := B.exec
  have hb := B.bytes
  have hr := B.returns
  have hts := atoms_spec (ws := wsX9_begin) B.pre
  have hown : s.vm.findClass RX9 = some m.cls := findClass_of_methodNamed B.named
  have hlocks := B.notSynchronized
  subst hsz
  have hD := hD0.self (sz := s.heap.size)
  generalize hAe : va_A (List.flatten [w0, [(h1, .inl (cB, 1600, .inl f1))]]) s.heap.size = A at hD hE ⊢
  have hA : ∀ q : Nat, s.heap.size ≤ q → A q := fun q h => by rw [← hAe]; exact Or.inr h
  have hS : va_S A s.heap s.heap [] := va_S.rf
  have hl := lv_entry ([.ref h0, .ref h1, .int p2]) (n := 3) (Nat.le_of_ble_eq_true rfl)
  rw [lg_entry_eq]
  generalize (lg_sl ([.ref h0, .ref h1, .int p2]) ++ List.replicate (3 - (lg_sl ([.ref h0, .ref h1, .int p2])).length) Slot.unset).toArray = ls at hl ⊢
  have hl : lv_has ls 3 [(0, .ref h0), (1, .ref h1), (2, .int p2)] := hl
  clear hAe
  refine W_name (fun Q0 hQ0 => ?_)
  refine lv_aload_n hx hb dX9_begin_0 rfl (lv_at hl 0 rfl) ?_
  refine lv_aload_n hx hb dX9_begin_1 rfl (lv_at hl 1 rfl) ?_
  obtain ⟨ln_1, ap_4, kd_7, sa_8, wd_9, nu_10, rfl, hl_2, hh_3, hl_5, hh_6⟩ := o0
  refine va_put (D := (dC, dI)) (ci := 7) (v := .ref h1) (ty := .array .byte) (C := RX9) (T := TX9) (N := 7) hx hb hts iw_X9_begin_X9 tyX9 tyX9_ok nmX9 hown hK hP hD hS 0 rfl rfl 0 (by decide) (hts (.fieldLink RX9 7 "HungFloors$Tokens" "text" "[B") (by decide +kernel)) (fun _ h9 => h9) rfl (by decide +kernel) rfl rfl (Nat.le_of_ble_eq_true rfl) dX9_begin_2 (fun H locs hP hD hS => ?_)
  have hP : va_P (dC, dI) vwCl (List.flatten [[(h0, .inr (7, [.ref h1, .int ln_1, .int ap_4, .ref (ad kd_7), .int sa_8, .long wd_9, .int nu_10]))], [(h1, .inl (cB, 1600, .inl f1))]]) H := hP
  have hD : va_D A (List.flatten [[(h0, .inr (7, [.ref h1, .int ln_1, .int ap_4, .ref (ad kd_7), .int sa_8, .long wd_9, .int nu_10]))], [(h1, .inl (cB, 1600, .inl f1))]]) := hD
  refine lv_aload_n hx hb dX9_begin_5 rfl (lv_at hl 0 rfl) ?_
  refine lv_iload_n hx hb dX9_begin_6 rfl (lv_at hl 2 rfl) ?_
  refine lv_aload_n hx hb dX9_begin_7 rfl (lv_at hl 1 rfl) ?_
  refine va_alen hx hb hK hP 1 0 rfl rfl (v := 1600) (show Int32.ofNat 1600 = 1600 by decide) dX9_begin_8 ?_
  refine va_mmin hx hb (by rw [hml]; exact hl.1.symm) hown (hts (.methodLink RX9 39 Lib.Math.min.name) (by decide +kernel)) (hts (.static Lib.Math.min.name) (by decide +kernel)) (hts (.initialized "java/lang/Math") (by decide +kernel)) (hts (.code Lib.Math.min.name Lib.Math.min.code 2 (some .int)) (List.mem_of_getElem? (i := 5) rfl)) (Nat.le_of_ble_eq_true rfl) (Nat.le_of_ble_eq_true rfl) (Nat.le_of_ble_eq_true rfl) (Nat.le_of_ble_eq_true rfl) dX9_begin_9 ?_
  refine lv_topi (fun z_11 ez_11 => ?_)
  have hz_11 := m_min rfl tI_1600 ez_11
  refine va_put (D := (dC, dI)) (ci := 7) (v := .int z_11) (ty := .int) (C := RX9) (T := TX9) (N := 7) hx hb hts iw_X9_begin_X9 tyX9 tyX9_ok nmX9 hown hK hP hD hS 0 rfl rfl 1 (by decide) (hts (.fieldLink RX9 13 "HungFloors$Tokens" "length" "I") (by decide +kernel)) (fun _ h9 => h9) rfl (by decide +kernel) rfl rfl (Nat.le_of_ble_eq_true rfl) dX9_begin_12 (fun H locs hP hD hS => ?_)
  have hP : va_P (dC, dI) vwCl (List.flatten [[(h0, .inr (7, [.ref h1, .int z_11, .int ap_4, .ref (ad kd_7), .int sa_8, .long wd_9, .int nu_10]))], [(h1, .inl (cB, 1600, .inl f1))]]) H := hP
  have hD : va_D A (List.flatten [[(h0, .inr (7, [.ref h1, .int z_11, .int ap_4, .ref (ad kd_7), .int sa_8, .long wd_9, .int nu_10]))], [(h1, .inl (cB, 1600, .inl f1))]]) := hD
  refine lv_aload_n hx hb dX9_begin_15 rfl (lv_at hl 0 rfl) ?_
  refine lv_iconst (v := 0) hx hb dX9_begin_16 (by decide) ?_
  refine va_put (D := (dC, dI)) (ci := 7) (v := .int 0) (ty := .int) (C := RX9) (T := TX9) (N := 7) hx hb hts iw_X9_begin_X9 tyX9 tyX9_ok nmX9 hown hK hP hD hS 0 rfl rfl 2 (by decide) (hts (.fieldLink RX9 17 "HungFloors$Tokens" "at" "I") (by decide +kernel)) (fun _ h9 => h9) rfl (by decide +kernel) rfl rfl (Nat.le_of_ble_eq_true rfl) dX9_begin_17 (fun H locs hP hD hS => ?_)
  have hP : va_P (dC, dI) vwCl (List.flatten [[(h0, .inr (7, [.ref h1, .int z_11, .int 0, .ref (ad kd_7), .int sa_8, .long wd_9, .int nu_10]))], [(h1, .inl (cB, 1600, .inl f1))]]) H := hP
  have hD : va_D A (List.flatten [[(h0, .inr (7, [.ref h1, .int z_11, .int 0, .ref (ad kd_7), .int sa_8, .long wd_9, .int nu_10]))], [(h1, .inl (cB, 1600, .inl f1))]]) := hD
  refine lv_aload_n hx hb dX9_begin_20 rfl (lv_at hl 0 rfl) ?_
  have hpm : List.Perm ([[(h0, .inr (7, [.ref h1, .int z_11, .int 0, .ref (ad kd_7), .int sa_8, .long wd_9, .int nu_10]))], [(h1, .inl (cB, 1600, .inl f1))]] : List va_W) (([[(h0, .inr (7, [.ref h1, .int z_11, .int 0, .ref (ad kd_7), .int sa_8, .long wd_9, .int nu_10]))], [(h1, .inl (cB, 1600, .inl f1))]] : List va_W) ++ ([] : List va_W)) := pm_n 2 [0, 1] (by decide) rfl rfl
  have hPc := bk_P hpm hP
  have hDc := bk_D hpm hD
  have hFc := bk_F hpm hD hS hA
  refine va_callv (va_runV (As := []) (rest := []) ⟨hx, hb, hml, hown, hts⟩ (c_X9_advance l dC dI ad tN fN cB cI cJ cZ h0 r0 h1 _ _ ⟨z_11, 0, kd_7, sa_8, wd_9, nu_10, rfl, by omega, by omega, by decide, by decide⟩ H.size) (cwV 0 hts gX9_begin_X9_advance rfl rfl rfl (by decide +kernel) ⟨(Nat.le_of_ble_eq_true rfl), (Nat.le_of_ble_eq_true rfl)⟩) ⟨fun a U g mk q => by obtain ⟨q0, q1, qP, qK, qD, qE⟩ := q; exact ⟨q0, q1, qP, va_K.moved (u := U) (U := U.calling g mk a) (Vm.Alike.refl U.vm) qK, qD, ey_blind qE⟩, va_recv hK hPc (ci := 7) (q0 := 0) rfl rfl, fun U hU hW => ⟨rfl, by rw [hU], by rw [hU]; exact hPc, va_K.moved hW.alike hK, hDc.weaken (fun _ _ _ _ => trivial), ey_call hE hS hFc hU hW⟩⟩ rfl rfl hl.1 rfl (lv_room (Nat.le_of_ble_eq_true rfl)) dX9_begin_21 ⟨(Nat.le_of_ble_eq_true rfl), (Nat.le_of_ble_eq_true rfl)⟩) hS (fun q _ h => hFc q h) hFc (fun u t H locs ht hvm hw hB hz1 hk1 hS => ?_)
  obtain ⟨w_13, o_14, hP1, hD1⟩ := hB
  rw [ht] at hP1
  obtain ⟨hP, hD⟩ := bk_join hpm hP hD hk1 hFc (Cs1 := [w_13, [(h1, .inl (cB, 1600, .inl f1))]]) hP1 hD1
  have hpm2 : List.Perm (([w_13, [(h1, .inl (cB, 1600, .inl f1))]] : List va_W) ++ ([] : List va_W)) ([w_13, [(h1, .inl (cB, 1600, .inl f1))]] : List va_W) := pm_n 2 [0, 1] (by decide) rfl rfl
  have hP := bk_reP hpm2 hP
  have hD := bk_reD hpm2 hD
  have hP : va_P (dC, dI) vwCl (List.flatten [w_13, [(h1, .inl (cB, 1600, .inl f1))]]) H := hP
  have hD : va_D A (List.flatten [w_13, [(h1, .inl (cB, 1600, .inl f1))]]) := hD
  rw [hQ0]
  exact W.vret hx hb hr (fun t ht hW => ⟨⟨(), rfl, trivial, ⟨_, o_14, by rw [ht]; exact hP, hD⟩⟩, hS.F ht⟩) hS.2.2 dX9_begin_24
theorem iw_X9_isWord_X9 : ∀ w ∈ wsX90, w ∈ wsX9_isWord := fun _ h => List.mem_cons_of_mem _ (List.mem_append_right _ h)
set_option maxHeartbeats 4000000 in
set_option maxRecDepth 100000 in
theorem c_X9_isWord (l : Launch) (dC : Nat → ClassId) (dI : Nat → Nat → Nat) (ad : Nat → Nat) (tN : Nat) (fN : Nat → Int64) (cB cI cJ cZ : ClassId) (h0 : Nat) (q1 : Int64) (r0 : Nat → Nat) (tx0 : Nat) (w0 : va_W) (o0 : ok_tok ad cB cI cJ cZ h0 r0 tx0 w0) (sz : Nat) : Met l yX9_isWord wsX9_isWord ({ frames := 0, cells := 0, slots := 0, locals := 0 } : Room) (va_Pc [.ref h0, .long q1] (fun U => U.heap.size = sz ∧ va_P (dC, dI) vwCl (List.flatten [w0]) U.heap ∧ va_K (dC, dI) vwCl [(cB, .byte), (cI, .int), (cJ, .long), (cZ, .boolean)] U ∧ va_D (fun _ => True) (List.flatten [w0]) ∧ ex_Y ad tN fN (va_A (List.flatten [w0]) sz) U)) (va_Qi (fun (r : Int32) (_ : Unit) => 0 ≤ r.toInt ∧ r.toInt ≤ 1) (fun (_ : Unit) (t : State) => va_P (dC, dI) vwCl (List.flatten [w0]) t.heap ∧ va_D (va_A (List.flatten [w0]) sz) (List.flatten [w0])) (va_A (List.flatten [w0]) sz)) 0 0 (va_A (List.flatten [w0]) sz) := by
  refine Met.ofW (cc := cX9_isWord) (maxL := 3) (ret := (some .boolean)) (by decide) rfl ?_
  intro p e s m args below meth c s₁ B hml hv
  obtain ⟨rfl, hsz, hP, hK, hD0, hE⟩ := hv
  have hx := B.exec
  have hb := B.bytes
  have hr := B.returns
  have hts := atoms_spec (ws := wsX9_isWord) B.pre
  have hown : s.vm.findClass RX9 = some m.cls := findClass_of_methodNamed B.named
  have hlocks := B.notSynchronized
  subst hsz
  have hD := hD0.self (sz := s.heap.size)
  generalize hAe : va_A (List.flatten [w0]) s.heap.size = A at hD hE ⊢
  have hA : ∀ q : Nat, s.heap.size ≤ q → A q := fun q h => by rw [← hAe]; exact Or.inr h
  have hS : va_S A s.heap s.heap [] := va_S.rf
  have hl := lv_entry ([.ref h0, .long q1]) (n := 3) (Nat.le_of_ble_eq_true rfl)
  rw [lg_entry_eq]
  generalize (lg_sl ([.ref h0, .long q1]) ++ List.replicate (3 - (lg_sl ([.ref h0, .long q1])).length) Slot.unset).toArray = ls at hl ⊢
  have hl : lv_has ls 3 [(0, .ref h0), (1, .long q1)] := hl
  clear hAe
  refine W_name (fun Q0 hQ0 => ?_)
  refine lv_aload_n hx hb dX9_isWord_0 rfl (lv_at hl 0 rfl) ?_
  obtain ⟨ln_1, ap_4, kd_7, sa_8, wd_9, nu_10, rfl, hl_2, hh_3, hl_5, hh_6⟩ := o0
  refine va_get (D := (dC, dI)) (ci := 7) (v := .ref (ad kd_7)) (C := RX9) (T := TX9) (N := 7) hx hb hts iw_X9_isWord_X9 hown hK hP 0 rfl rfl 3 (by decide) (hts (.fieldLink RX9 26 "HungFloors$Tokens" "kind" "LHungFloors$Kind;") (by decide +kernel)) (fun _ h9 => h9) rfl dX9_isWord_1 ?_
  refine va_gets hx hb (hE.2.1.1 0 (by decide)).1 hS hown (hts (.fieldLink RX9 60 "HungFloors$Kind" "WORD" "LHungFloors$Kind;") (by decide +kernel)) (fun _ h9 => h9) dX9_isWord_4 ?_
  refine lv_acmp_ne (rx := some (ad kd_7)) (ry := some (ad 0)) (tgt := 23) hx hb dX9_isWord_7 (by decide) (fun c_11 => ?_) (fun c_11 => ?_)
  · refine lv_iconst (v := 0) hx hb dX9_isWord_23 (by decide) ?_
    rw [hQ0]
    exact W.zret (v := 0) hx hb hr (by decide) (fun t ht hW => ⟨⟨0, (), rfl, ⟨by decide, by decide⟩, ⟨by rw [ht]; exact hP, hD⟩⟩, hS.F ht⟩) hS.2.2 dX9_isWord_24
  · refine lv_aload_n hx hb dX9_isWord_10 rfl (lv_at hl 0 rfl) ?_
    refine va_get (D := (dC, dI)) (ci := 7) (v := .long wd_9) (C := RX9) (T := TX9) (N := 7) hx hb hts iw_X9_isWord_X9 hown hK hP 0 rfl rfl 5 (by decide) (hts (.fieldLink RX9 32 "HungFloors$Tokens" "word" "J") (by decide +kernel)) (fun _ h9 => h9) rfl dX9_isWord_11 ?_
    refine lv_lload_n hx hb dX9_isWord_14 rfl (lv_at hl 1 rfl) ?_
    refine W.lcmp hx hb dX9_isWord_15 ?_
    refine lv_topi (fun z_12 ez_12 => ?_)
    refine lv_if_ne (tgt := 23) hx hb dX9_isWord_16 (by decide) (fun c_13 => ?_) (fun c_13 => ?_)
    · have c_13 : ¬ z_12.toInt = 0 := f_ne rfl tI_0 c_13
      refine lv_iconst (v := 0) hx hb dX9_isWord_23 (by decide) ?_
      rw [hQ0]
      exact W.zret (v := 0) hx hb hr (by decide) (fun t ht hW => ⟨⟨0, (), rfl, ⟨by decide, by decide⟩, ⟨by rw [ht]; exact hP, hD⟩⟩, hS.F ht⟩) hS.2.2 dX9_isWord_24
    · have c_13 : z_12.toInt = 0 := f_eq rfl tI_0 c_13
      refine lv_iconst (v := 1) hx hb dX9_isWord_19 (by decide) ?_
      refine lv_goto (tgt := 24) hx hb dX9_isWord_20 (by decide) ?_
      rw [hQ0]
      exact W.zret (v := 1) hx hb hr (by decide) (fun t ht hW => ⟨⟨1, (), rfl, ⟨by decide, by decide⟩, ⟨by rw [ht]; exact hP, hD⟩⟩, hS.F ht⟩) hS.2.2 dX9_isWord_24
theorem iw_X4_refuse_X4 : ∀ w ∈ wsX40, w ∈ wsX4_refuse := fun _ h => List.mem_cons_of_mem _ (List.mem_append_left _ (List.mem_append_right _ h))
theorem iw_X4_refuse_X9 : ∀ w ∈ wsX90, w ∈ wsX4_refuse := fun _ h => List.mem_cons_of_mem _ (List.mem_append_right _ h)
set_option maxHeartbeats 4000000 in
set_option maxRecDepth 100000 in
theorem c_X4_refuse (l : Launch) (dC : Nat → ClassId) (dI : Nat → Nat → Nat) (ad : Nat → Nat) (tN : Nat) (fN : Nat → Int64) (cB cI cJ cZ : ClassId) (h0 : Nat) (p1 : Int32) (r0 : Nat → Nat) (tk0 : Nat) (rp0 : Nat) (w0 : va_W) (r1 : Nat → Nat) (tx1 : Nat) (w1 : va_W) (f2 : Nat → Int32) (r3 : Nat → Nat) (fc3 : Int32) (dc3 : Int32) (rk3 : Nat → Int32) (w3 : va_W) (o0 : ok_read ad cB cI cJ cZ h0 r0 tk0 rp0 w0) (o1 : ok_tok ad cB cI cJ cZ tk0 r1 tx1 w1) (o3 : ok_plan ad cB cI cJ cZ rp0 r3 fc3 dc3 rk3 w3) (sz : Nat) : Met l yX4_refuse wsX4_refuse ({ frames := 0, cells := 0, slots := 0, locals := 0 } : Room) (va_Pc [.ref h0, .int p1] (fun U => U.heap.size = sz ∧ va_P (dC, dI) vwCl (List.flatten [w0, w1, [(tx1, .inl (cB, 1600, .inl f2))], w3]) U.heap ∧ va_K (dC, dI) vwCl [(cB, .byte), (cI, .int), (cJ, .long), (cZ, .boolean)] U ∧ va_D (fun _ => True) (List.flatten [w0, w1, [(tx1, .inl (cB, 1600, .inl f2))], w3]) ∧ ex_Y ad tN fN (va_A (List.flatten [w0, w1, [(tx1, .inl (cB, 1600, .inl f2))], w3]) sz) U)) (va_Qi (fun (r : Int32) (_ : Unit) => r = 0) (fun (_ : Unit) (t : State) => ∃ (w09 : va_W), ok_read ad cB cI cJ cZ h0 r0 tk0 rp0 w09 ∧ va_P (dC, dI) vwCl (List.flatten [w09, w1, [(tx1, .inl (cB, 1600, .inl f2))], w3]) t.heap ∧ va_D (va_A (List.flatten [w0, w1, [(tx1, .inl (cB, 1600, .inl f2))], w3]) sz) (List.flatten [w09, w1, [(tx1, .inl (cB, 1600, .inl f2))], w3])) (va_A (List.flatten [w0, w1, [(tx1, .inl (cB, 1600, .inl f2))], w3]) sz)) 0 0 (va_A (List.flatten [w0, w1, [(tx1, .inl (cB, 1600, .inl f2))], w3]) sz) := by
  refine Met.ofW (cc := cX4_refuse) (maxL := 2) (ret := (some .boolean)) (by decide) rfl ?_
  intro p e s m args below meth c s₁ B hml hv
  obtain ⟨rfl, hsz, hP, hK, hD0, hE⟩ := hv
  have hx := B.exec
  have hb := B.bytes
  have hr := B.returns
  have hts := atoms_spec (ws := wsX4_refuse) B.pre
  have hown : s.vm.findClass RX4 = some m.cls := findClass_of_methodNamed B.named
  have hlocks := B.notSynchronized
  subst hsz
  have hD := hD0.self (sz := s.heap.size)
  generalize hAe : va_A (List.flatten [w0, w1, [(tx1, .inl (cB, 1600, .inl f2))], w3]) s.heap.size = A at hD hE ⊢
  have hA : ∀ q : Nat, s.heap.size ≤ q → A q := fun q h => by rw [← hAe]; exact Or.inr h
  have hS : va_S A s.heap s.heap [] := va_S.rf
  have hl := lv_entry ([.ref h0, .int p1]) (n := 2) (Nat.le_of_ble_eq_true rfl)
  rw [lg_entry_eq]
  generalize (lg_sl ([.ref h0, .int p1]) ++ List.replicate (2 - (lg_sl ([.ref h0, .int p1])).length) Slot.unset).toArray = ls at hl ⊢
  have hl : lv_has ls 2 [(0, .ref h0), (1, .int p1)] := hl
  clear hAe
  refine W_name (fun Q0 hQ0 => ?_)
  refine lv_aload_n hx hb dX4_refuse_0 rfl (lv_at hl 0 rfl) ?_
  refine lv_aload_n hx hb dX4_refuse_1 rfl (lv_at hl 0 rfl) ?_
  obtain ⟨fk_1, fp_2, rfl⟩ := o0
  refine va_get (D := (dC, dI)) (ci := 3) (v := .ref tk0) (C := RX4) (T := TX4) (N := 4) hx hb hts iw_X4_refuse_X4 hown hK hP 0 rfl rfl 0 (by decide) (hts (.fieldLink RX4 12 "HungFloors$HouseReader" "tokens" "LHungFloors$Tokens;") (by decide +kernel)) (fun _ h9 => h9) rfl dX4_refuse_2 ?_
  obtain ⟨ln_3, ap_6, kd_9, sa_10, wd_11, nu_12, rfl, hl_4, hh_5, hl_7, hh_8⟩ := o1
  refine va_get (D := (dC, dI)) (ci := 7) (v := .ref (ad kd_9)) (C := RX9) (T := TX9) (N := 7) hx hb hts iw_X4_refuse_X9 hown hK hP 1 rfl rfl 3 (by decide) (hts (.fieldLink RX4 39 "HungFloors$Tokens" "kind" "LHungFloors$Kind;") (by decide +kernel)) (fun _ h9 => h9) rfl dX4_refuse_5 ?_
  refine va_gets hx hb (hE.2.1.1 4 (by decide)).1 hS hown (hts (.fieldLink RX4 171 "HungFloors$Kind" "NOTHING" "LHungFloors$Kind;") (by decide +kernel)) (fun _ h9 => h9) dX4_refuse_8 ?_
  refine lv_acmp_ne (rx := some (ad kd_9)) (ry := some (ad 4)) (tgt := 18) hx hb dX4_refuse_11 (by decide) (fun c_13 => ?_) (fun c_13 => ?_)
  · refine lv_iload_n hx hb dX4_refuse_18 rfl (lv_at hl 1 rfl) ?_
    refine va_put (D := (dC, dI)) (ci := 3) (v := .int p1) (ty := .int) (C := RX4) (T := TX4) (N := 4) hx hb hts iw_X4_refuse_X4 tyX4 tyX4_ok nmX4 hown hK hP hD hS 0 rfl rfl 2 (by decide) (hts (.fieldLink RX4 25 "HungFloors$HouseReader" "faultKind" "I") (by decide +kernel)) (fun _ h9 => h9) rfl (by decide +kernel) rfl rfl (Nat.le_of_ble_eq_true rfl) dX4_refuse_19 (fun H locs hP hD hS => ?_)
    have hP : va_P (dC, dI) vwCl (List.flatten [[(h0, .inr (3, [.ref tk0, .ref rp0, .int p1, .int fp_2]))], [(tk0, .inr (7, [.ref tx1, .int ln_3, .int ap_6, .ref (ad kd_9), .int sa_10, .long wd_11, .int nu_12]))], [(tx1, .inl (cB, 1600, .inl f2))], w3]) H := hP
    have hD : va_D A (List.flatten [[(h0, .inr (3, [.ref tk0, .ref rp0, .int p1, .int fp_2]))], [(tk0, .inr (7, [.ref tx1, .int ln_3, .int ap_6, .ref (ad kd_9), .int sa_10, .long wd_11, .int nu_12]))], [(tx1, .inl (cB, 1600, .inl f2))], w3]) := hD
    refine lv_aload_n hx hb dX4_refuse_22 rfl (lv_at hl 0 rfl) ?_
    refine lv_aload_n hx hb dX4_refuse_23 rfl (lv_at hl 0 rfl) ?_
    refine va_get (D := (dC, dI)) (ci := 3) (v := .ref tk0) (C := RX4) (T := TX4) (N := 4) hx hb hts iw_X4_refuse_X4 hown hK hP 0 rfl rfl 0 (by decide) (hts (.fieldLink RX4 12 "HungFloors$HouseReader" "tokens" "LHungFloors$Tokens;") (by decide +kernel)) (fun _ h9 => h9) rfl dX4_refuse_24 ?_
    refine va_get (D := (dC, dI)) (ci := 7) (v := .int sa_10) (C := RX9) (T := TX9) (N := 7) hx hb hts iw_X4_refuse_X9 hown hK hP 1 rfl rfl 4 (by decide) (hts (.fieldLink RX4 174 "HungFloors$Tokens" "start" "I") (by decide +kernel)) (fun _ h9 => h9) rfl dX4_refuse_27 ?_
    refine va_put (D := (dC, dI)) (ci := 3) (v := .int sa_10) (ty := .int) (C := RX4) (T := TX4) (N := 4) hx hb hts iw_X4_refuse_X4 tyX4 tyX4_ok nmX4 hown hK hP hD hS 0 rfl rfl 3 (by decide) (hts (.fieldLink RX4 29 "HungFloors$HouseReader" "faultPlace" "I") (by decide +kernel)) (fun _ h9 => h9) rfl (by decide +kernel) rfl rfl (Nat.le_of_ble_eq_true rfl) dX4_refuse_30 (fun H locs hP hD hS => ?_)
    have hP : va_P (dC, dI) vwCl (List.flatten [[(h0, .inr (3, [.ref tk0, .ref rp0, .int p1, .int sa_10]))], [(tk0, .inr (7, [.ref tx1, .int ln_3, .int ap_6, .ref (ad kd_9), .int sa_10, .long wd_11, .int nu_12]))], [(tx1, .inl (cB, 1600, .inl f2))], w3]) H := hP
    have hD : va_D A (List.flatten [[(h0, .inr (3, [.ref tk0, .ref rp0, .int p1, .int sa_10]))], [(tk0, .inr (7, [.ref tx1, .int ln_3, .int ap_6, .ref (ad kd_9), .int sa_10, .long wd_11, .int nu_12]))], [(tx1, .inl (cB, 1600, .inl f2))], w3]) := hD
    refine lv_iconst (v := 0) hx hb dX4_refuse_33 (by decide) ?_
    rw [hQ0]
    exact W.zret (v := 0) hx hb hr (by decide) (fun t ht hW => ⟨⟨0, (), rfl, rfl, ⟨_, ⟨p1, sa_10, rfl⟩, by rw [ht]; exact hP, hD⟩⟩, hS.F ht⟩) hS.2.2 dX4_refuse_34
  · refine lv_iconst (v := 1) hx hb dX4_refuse_14 (by decide) ?_
    refine lv_goto (tgt := 19) hx hb dX4_refuse_15 (by decide) ?_
    refine va_put (D := (dC, dI)) (ci := 3) (v := .int 1) (ty := .int) (C := RX4) (T := TX4) (N := 4) hx hb hts iw_X4_refuse_X4 tyX4 tyX4_ok nmX4 hown hK hP hD hS 0 rfl rfl 2 (by decide) (hts (.fieldLink RX4 25 "HungFloors$HouseReader" "faultKind" "I") (by decide +kernel)) (fun _ h9 => h9) rfl (by decide +kernel) rfl rfl (Nat.le_of_ble_eq_true rfl) dX4_refuse_19 (fun H locs hP hD hS => ?_)
    have hP : va_P (dC, dI) vwCl (List.flatten [[(h0, .inr (3, [.ref tk0, .ref rp0, .int 1, .int fp_2]))], [(tk0, .inr (7, [.ref tx1, .int ln_3, .int ap_6, .ref (ad kd_9), .int sa_10, .long wd_11, .int nu_12]))], [(tx1, .inl (cB, 1600, .inl f2))], w3]) H := hP
    have hD : va_D A (List.flatten [[(h0, .inr (3, [.ref tk0, .ref rp0, .int 1, .int fp_2]))], [(tk0, .inr (7, [.ref tx1, .int ln_3, .int ap_6, .ref (ad kd_9), .int sa_10, .long wd_11, .int nu_12]))], [(tx1, .inl (cB, 1600, .inl f2))], w3]) := hD
    refine lv_aload_n hx hb dX4_refuse_22 rfl (lv_at hl 0 rfl) ?_
    refine lv_aload_n hx hb dX4_refuse_23 rfl (lv_at hl 0 rfl) ?_
    refine va_get (D := (dC, dI)) (ci := 3) (v := .ref tk0) (C := RX4) (T := TX4) (N := 4) hx hb hts iw_X4_refuse_X4 hown hK hP 0 rfl rfl 0 (by decide) (hts (.fieldLink RX4 12 "HungFloors$HouseReader" "tokens" "LHungFloors$Tokens;") (by decide +kernel)) (fun _ h9 => h9) rfl dX4_refuse_24 ?_
    refine va_get (D := (dC, dI)) (ci := 7) (v := .int sa_10) (C := RX9) (T := TX9) (N := 7) hx hb hts iw_X4_refuse_X9 hown hK hP 1 rfl rfl 4 (by decide) (hts (.fieldLink RX4 174 "HungFloors$Tokens" "start" "I") (by decide +kernel)) (fun _ h9 => h9) rfl dX4_refuse_27 ?_
    refine va_put (D := (dC, dI)) (ci := 3) (v := .int sa_10) (ty := .int) (C := RX4) (T := TX4) (N := 4) hx hb hts iw_X4_refuse_X4 tyX4 tyX4_ok nmX4 hown hK hP hD hS 0 rfl rfl 3 (by decide) (hts (.fieldLink RX4 29 "HungFloors$HouseReader" "faultPlace" "I") (by decide +kernel)) (fun _ h9 => h9) rfl (by decide +kernel) rfl rfl (Nat.le_of_ble_eq_true rfl) dX4_refuse_30 (fun H locs hP hD hS => ?_)
    have hP : va_P (dC, dI) vwCl (List.flatten [[(h0, .inr (3, [.ref tk0, .ref rp0, .int 1, .int sa_10]))], [(tk0, .inr (7, [.ref tx1, .int ln_3, .int ap_6, .ref (ad kd_9), .int sa_10, .long wd_11, .int nu_12]))], [(tx1, .inl (cB, 1600, .inl f2))], w3]) H := hP
    have hD : va_D A (List.flatten [[(h0, .inr (3, [.ref tk0, .ref rp0, .int 1, .int sa_10]))], [(tk0, .inr (7, [.ref tx1, .int ln_3, .int ap_6, .ref (ad kd_9), .int sa_10, .long wd_11, .int nu_12]))], [(tx1, .inl (cB, 1600, .inl f2))], w3]) := hD
    refine lv_iconst (v := 0) hx hb dX4_refuse_33 (by decide) ?_
    rw [hQ0]
    exact W.zret (v := 0) hx hb hr (by decide) (fun t ht hW => ⟨⟨0, (), rfl, rfl, ⟨_, ⟨1, sa_10, rfl⟩, by rw [ht]; exact hP, hD⟩⟩, hS.F ht⟩) hS.2.2 dX4_refuse_34
