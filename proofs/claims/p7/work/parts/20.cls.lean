theorem iw_X6_isHollow_X6 : ∀ w ∈ wsX60, w ∈ wsX6_isHollow := fun _ h => List.mem_cons_of_mem _ (List.mem_append_right _ h)
set_option maxHeartbeats 4000000 in
set_option maxRecDepth 100000 in
theorem c_X6_isHollow (l : Launch) (dC : Nat → ClassId) (dI : Nat → Nat → Nat) (ad : Nat → Nat) (tN : Nat) (fN : Nat → Int64) (cB cI cJ cZ : ClassId) (h0 : Nat) (p1 : Int32) (p2 : Int32) (p3 : Int32) (r0 : Nat → Nat) (pc0 : Int32) (w0 : va_W) (o0 : ok_pap ad cB cI cJ cZ h0 r0 pc0 w0) (sz : Nat) : Met l yX6_isHollow wsX6_isHollow ({ frames := 1, cells := 0, slots := 0, locals := 23 } : Room) (va_Pc [.ref h0, .int p1, .int p2, .int p3] (fun U => U.heap.size = sz ∧ va_P (dC, dI) vwCl (List.flatten [w0]) U.heap ∧ va_K (dC, dI) vwCl [(cB, .byte), (cI, .int), (cJ, .long), (cZ, .boolean)] U ∧ va_D (fun _ => True) (List.flatten [w0]) ∧ ex_Y ad tN fN (va_A (List.flatten [w0]) sz) U)) (va_Qi (fun (r : Int32) (_ : Unit) => 0 ≤ r.toInt ∧ r.toInt ≤ 1) (fun (_ : Unit) (t : State) => va_P (dC, dI) vwCl (List.flatten [w0]) t.heap ∧ va_D (va_A (List.flatten [w0]) sz) (List.flatten [w0])) (va_A (List.flatten [w0]) sz)) 0 0 (va_A (List.flatten [w0]) sz) := by
  refine Met.ofW (cc := cX6_isHollow) (maxL := 7) (ret := (some .boolean)) (by decide) rfl ?_
  intro p e s m args below meth c s₁ B hml hv
  obtain ⟨rfl, hsz, hP, hK, hD0, hE⟩ := hv
  have hx := B.exec
  have hb := B.bytes
  have hr := B.returns
  have hts := atoms_spec (ws := wsX6_isHollow) B.pre
  have hown : s.vm.findClass RX6 = some m.cls := findClass_of_methodNamed B.named
  have hlocks := B.notSynchronized
  subst hsz
  have hD := hD0.self (sz := s.heap.size)
  generalize hAe : va_A (List.flatten [w0]) s.heap.size = A at hD hE ⊢
  have hA : ∀ q : Nat, s.heap.size ≤ q → A q := fun q h => by rw [← hAe]; exact Or.inr h
  have hS : va_S A s.heap s.heap [] := va_S.rf
  have hl := lv_entry ([.ref h0, .int p1, .int p2, .int p3]) (n := 7) (Nat.le_of_ble_eq_true rfl)
  rw [lg_entry_eq]
  generalize (lg_sl ([.ref h0, .int p1, .int p2, .int p3]) ++ List.replicate (7 - (lg_sl ([.ref h0, .int p1, .int p2, .int p3])).length) Slot.unset).toArray = ls at hl ⊢
  have hl : lv_has ls 7 [(0, .ref h0), (1, .int p1), (2, .int p2), (3, .int p3)] := hl
  clear hAe
  refine W_name (fun Q0 hQ0 => ?_)
  refine lv_aload_n hx hb dX6_isHollow_0 rfl (lv_at hl 0 rfl) ?_
  refine lv_iload_n hx hb dX6_isHollow_1 rfl (lv_at hl 1 rfl) ?_
  obtain ⟨f_3, f_4, f_5, f_6, f_7, f_8, f_9, sc_10, f_13, f_15, f_16, rfl, hl_1, hh_2, hl_11, hh_12, hr_14⟩ := o0
  have hpm : List.Perm ([[(h0, .inr (4, [.int pc0, .ref (r0 0), .ref (r0 1), .ref (r0 2), .ref (r0 3), .ref (r0 4), .ref (r0 5), .ref (r0 6), .int sc_10, .ref (r0 7), .ref (r0 8), .ref (r0 9)])), (r0 0, .inl (cI, 60, .inl f_3)), (r0 1, .inl (cI, 60, .inl f_4)), (r0 2, .inl (cI, 60, .inl f_5)), (r0 3, .inl (cI, 60, .inl f_6)), (r0 4, .inl (cZ, 60, .inl f_7)), (r0 5, .inl (cI, 60, .inl f_8)), (r0 6, .inl (cI, 60, .inl f_9)), (r0 7, .inl (cI, 9, .inl f_13)), (r0 8, .inl (cI, 9, .inl f_15)), (r0 9, .inl (cI, 9, .inl f_16))]] : List va_W) (([[(h0, .inr (4, [.int pc0, .ref (r0 0), .ref (r0 1), .ref (r0 2), .ref (r0 3), .ref (r0 4), .ref (r0 5), .ref (r0 6), .int sc_10, .ref (r0 7), .ref (r0 8), .ref (r0 9)])), (r0 0, .inl (cI, 60, .inl f_3)), (r0 1, .inl (cI, 60, .inl f_4)), (r0 2, .inl (cI, 60, .inl f_5)), (r0 3, .inl (cI, 60, .inl f_6)), (r0 4, .inl (cZ, 60, .inl f_7)), (r0 5, .inl (cI, 60, .inl f_8)), (r0 6, .inl (cI, 60, .inl f_9)), (r0 7, .inl (cI, 9, .inl f_13)), (r0 8, .inl (cI, 9, .inl f_15)), (r0 9, .inl (cI, 9, .inl f_16))]] : List va_W) ++ ([] : List va_W)) := pm_n 1 [0] (by decide) rfl rfl
  have hPc := bk_P hpm hP
  have hDc := bk_D hpm hD
  have hFc := bk_F hpm hD hS hA
  refine va_calli (va_runV (As := [.int p1]) (rest := []) ⟨hx, hb, hml, hown, hts⟩ (c_X6_isPaper l dC dI ad tN fN cB cI cJ cZ h0 p1 r0 pc0 _ ⟨f_3, f_4, f_5, f_6, f_7, f_8, f_9, sc_10, f_13, f_15, f_16, rfl, by omega, by omega, by omega, by omega, hr_14⟩ s.heap.size) (cwV 1 hts gX6_isHollow_X6_isPaper rfl rfl rfl (by decide +kernel) ⟨(Nat.le_of_ble_eq_true rfl), (Nat.le_of_ble_eq_true rfl)⟩) ⟨fun a U g mk q => by obtain ⟨q0, q1, qP, qK, qD, qE⟩ := q; exact ⟨q0, q1, qP, va_K.moved (u := U) (U := U.calling g mk a) (Vm.Alike.refl U.vm) qK, qD, ey_blind qE⟩, va_recv hK hPc (ci := 4) (q0 := 0) rfl rfl, fun U hU hW => ⟨rfl, by rw [hU], by rw [hU]; exact hPc, va_K.moved hW.alike hK, hDc.weaken (fun _ _ _ _ => trivial), ey_call hE hS hFc hU hW⟩⟩ rfl rfl hl.1 rfl (lv_room (Nat.le_of_ble_eq_true rfl)) dX6_isHollow_2 ⟨(Nat.le_of_ble_eq_true rfl), (Nat.le_of_ble_eq_true rfl)⟩) hS (fun q _ h => hFc q h) hFc (fun r_17 u t H locs ht hvm hw hB hz1 hk1 hS => ?_)
  obtain ⟨hP1, hD1⟩ := hB
  rw [ht] at hP1
  obtain ⟨hP, hD⟩ := bk_join hpm hP hD hk1 hFc (Cs1 := [[(h0, .inr (4, [.int pc0, .ref (r0 0), .ref (r0 1), .ref (r0 2), .ref (r0 3), .ref (r0 4), .ref (r0 5), .ref (r0 6), .int sc_10, .ref (r0 7), .ref (r0 8), .ref (r0 9)])), (r0 0, .inl (cI, 60, .inl f_3)), (r0 1, .inl (cI, 60, .inl f_4)), (r0 2, .inl (cI, 60, .inl f_5)), (r0 3, .inl (cI, 60, .inl f_6)), (r0 4, .inl (cZ, 60, .inl f_7)), (r0 5, .inl (cI, 60, .inl f_8)), (r0 6, .inl (cI, 60, .inl f_9)), (r0 7, .inl (cI, 9, .inl f_13)), (r0 8, .inl (cI, 9, .inl f_15)), (r0 9, .inl (cI, 9, .inl f_16))]]) hP1 hD1
  have hpm2 : List.Perm (([[(h0, .inr (4, [.int pc0, .ref (r0 0), .ref (r0 1), .ref (r0 2), .ref (r0 3), .ref (r0 4), .ref (r0 5), .ref (r0 6), .int sc_10, .ref (r0 7), .ref (r0 8), .ref (r0 9)])), (r0 0, .inl (cI, 60, .inl f_3)), (r0 1, .inl (cI, 60, .inl f_4)), (r0 2, .inl (cI, 60, .inl f_5)), (r0 3, .inl (cI, 60, .inl f_6)), (r0 4, .inl (cZ, 60, .inl f_7)), (r0 5, .inl (cI, 60, .inl f_8)), (r0 6, .inl (cI, 60, .inl f_9)), (r0 7, .inl (cI, 9, .inl f_13)), (r0 8, .inl (cI, 9, .inl f_15)), (r0 9, .inl (cI, 9, .inl f_16))]] : List va_W) ++ ([] : List va_W)) ([[(h0, .inr (4, [.int pc0, .ref (r0 0), .ref (r0 1), .ref (r0 2), .ref (r0 3), .ref (r0 4), .ref (r0 5), .ref (r0 6), .int sc_10, .ref (r0 7), .ref (r0 8), .ref (r0 9)])), (r0 0, .inl (cI, 60, .inl f_3)), (r0 1, .inl (cI, 60, .inl f_4)), (r0 2, .inl (cI, 60, .inl f_5)), (r0 3, .inl (cI, 60, .inl f_6)), (r0 4, .inl (cZ, 60, .inl f_7)), (r0 5, .inl (cI, 60, .inl f_8)), (r0 6, .inl (cI, 60, .inl f_9)), (r0 7, .inl (cI, 9, .inl f_13)), (r0 8, .inl (cI, 9, .inl f_15)), (r0 9, .inl (cI, 9, .inl f_16))]] : List va_W) := pm_n 1 [0] (by decide) rfl rfl
  have hP := bk_reP hpm2 hP
  have hD := bk_reD hpm2 hD
  have hP : va_P (dC, dI) vwCl (List.flatten [[(h0, .inr (4, [.int pc0, .ref (r0 0), .ref (r0 1), .ref (r0 2), .ref (r0 3), .ref (r0 4), .ref (r0 5), .ref (r0 6), .int sc_10, .ref (r0 7), .ref (r0 8), .ref (r0 9)])), (r0 0, .inl (cI, 60, .inl f_3)), (r0 1, .inl (cI, 60, .inl f_4)), (r0 2, .inl (cI, 60, .inl f_5)), (r0 3, .inl (cI, 60, .inl f_6)), (r0 4, .inl (cZ, 60, .inl f_7)), (r0 5, .inl (cI, 60, .inl f_8)), (r0 6, .inl (cI, 60, .inl f_9)), (r0 7, .inl (cI, 9, .inl f_13)), (r0 8, .inl (cI, 9, .inl f_15)), (r0 9, .inl (cI, 9, .inl f_16))]]) H := hP
  have hD : va_D A (List.flatten [[(h0, .inr (4, [.int pc0, .ref (r0 0), .ref (r0 1), .ref (r0 2), .ref (r0 3), .ref (r0 4), .ref (r0 5), .ref (r0 6), .int sc_10, .ref (r0 7), .ref (r0 8), .ref (r0 9)])), (r0 0, .inl (cI, 60, .inl f_3)), (r0 1, .inl (cI, 60, .inl f_4)), (r0 2, .inl (cI, 60, .inl f_5)), (r0 3, .inl (cI, 60, .inl f_6)), (r0 4, .inl (cZ, 60, .inl f_7)), (r0 5, .inl (cI, 60, .inl f_8)), (r0 6, .inl (cI, 60, .inl f_9)), (r0 7, .inl (cI, 9, .inl f_13)), (r0 8, .inl (cI, 9, .inl f_15)), (r0 9, .inl (cI, 9, .inl f_16))]]) := hD
  rcases hw with ⟨rfl, c_18⟩ | ⟨rfl, c_19, c_20⟩ | ⟨rfl, c_21, c_22⟩
  · refine lv_if_eq (tgt := 26) hx hb dX6_isHollow_5 (by decide) (fun c_23 => ?_) (fun c_23 => absurd c_23 (by decide))
    refine lv_iconst (v := 0) hx hb dX6_isHollow_26 (by decide) ?_
    rw [hQ0]
    exact W.zret (v := 0) hx hb hr (by decide) (fun t ht hW => ⟨⟨0, (), rfl, ⟨by decide, by decide⟩, ⟨by rw [ht]; exact hP, hD⟩⟩, hS.F ht⟩) hS.2.2 dX6_isHollow_27
  · refine lv_if_eq (tgt := 26) hx hb dX6_isHollow_5 (by decide) (fun c_24 => ?_) (fun c_24 => absurd c_24 (by decide))
    refine lv_iconst (v := 0) hx hb dX6_isHollow_26 (by decide) ?_
    rw [hQ0]
    exact W.zret (v := 0) hx hb hr (by decide) (fun t ht hW => ⟨⟨0, (), rfl, ⟨by decide, by decide⟩, ⟨by rw [ht]; exact hP, hD⟩⟩, hS.F ht⟩) hS.2.2 dX6_isHollow_27
  · refine lv_if_eq (tgt := 26) hx hb dX6_isHollow_5 (by decide) (fun c_25 => absurd c_25 (by decide)) (fun c_25 => ?_)
    refine lv_aload_n hx hb dX6_isHollow_8 rfl (lv_at hl 0 rfl) ?_
    refine va_get (D := (dC, dI)) (ci := 4) (v := .ref (r0 4)) (C := RX6) (T := TX6) (N := 12) hx hb hts iw_X6_isHollow_X6 hown hK hP 0 rfl rfl 5 (by decide) (hts (.fieldLink RX6 28 "HungFloors$Papers" "stamped" "[Z") (by decide +kernel)) (fun _ h9 => h9) rfl dX6_isHollow_9 ?_
    refine lv_iload_n hx hb dX6_isHollow_12 rfl (lv_at hl 1 rfl) ?_
    refine va_zald hx hb hK hP 5 3 rfl rfl (v_in rfl (by omega) (by omega)) dX6_isHollow_13 ?_
    refine lv_topi (fun z_26 ez_26 => ?_)
    refine lv_if_eq (tgt := 26) hx hb dX6_isHollow_14 (by decide) (fun c_27 => ?_) (fun c_27 => ?_)
    · have c_27 : z_26.toInt = 0 := f_eq rfl tI_0 c_27
      refine lv_iconst (v := 0) hx hb dX6_isHollow_26 (by decide) ?_
      rw [hQ0]
      exact W.zret (v := 0) hx hb hr (by decide) (fun t ht hW => ⟨⟨0, (), rfl, ⟨by decide, by decide⟩, ⟨by rw [ht]; exact hP, hD⟩⟩, hS.F ht⟩) hS.2.2 dX6_isHollow_27
    · have c_27 : ¬ z_26.toInt = 0 := f_ne rfl tI_0 c_27
      refine lv_aload_n hx hb dX6_isHollow_17 rfl (lv_at hl 0 rfl) ?_
      refine lv_iload_n hx hb dX6_isHollow_18 rfl (lv_at hl 1 rfl) ?_
      refine lv_iload_n hx hb dX6_isHollow_19 rfl (lv_at hl 3 rfl) ?_
      have hpm : List.Perm ([[(h0, .inr (4, [.int pc0, .ref (r0 0), .ref (r0 1), .ref (r0 2), .ref (r0 3), .ref (r0 4), .ref (r0 5), .ref (r0 6), .int sc_10, .ref (r0 7), .ref (r0 8), .ref (r0 9)])), (r0 0, .inl (cI, 60, .inl f_3)), (r0 1, .inl (cI, 60, .inl f_4)), (r0 2, .inl (cI, 60, .inl f_5)), (r0 3, .inl (cI, 60, .inl f_6)), (r0 4, .inl (cZ, 60, .inl f_7)), (r0 5, .inl (cI, 60, .inl f_8)), (r0 6, .inl (cI, 60, .inl f_9)), (r0 7, .inl (cI, 9, .inl f_13)), (r0 8, .inl (cI, 9, .inl f_15)), (r0 9, .inl (cI, 9, .inl f_16))]] : List va_W) (([[(h0, .inr (4, [.int pc0, .ref (r0 0), .ref (r0 1), .ref (r0 2), .ref (r0 3), .ref (r0 4), .ref (r0 5), .ref (r0 6), .int sc_10, .ref (r0 7), .ref (r0 8), .ref (r0 9)])), (r0 0, .inl (cI, 60, .inl f_3)), (r0 1, .inl (cI, 60, .inl f_4)), (r0 2, .inl (cI, 60, .inl f_5)), (r0 3, .inl (cI, 60, .inl f_6)), (r0 4, .inl (cZ, 60, .inl f_7)), (r0 5, .inl (cI, 60, .inl f_8)), (r0 6, .inl (cI, 60, .inl f_9)), (r0 7, .inl (cI, 9, .inl f_13)), (r0 8, .inl (cI, 9, .inl f_15)), (r0 9, .inl (cI, 9, .inl f_16))]] : List va_W) ++ ([] : List va_W)) := pm_n 1 [0] (by decide) rfl rfl
      have hPc := bk_P hpm hP
      have hDc := bk_D hpm hD
      have hFc := bk_F hpm hD hS hA
      refine va_calli (va_runV (As := [.int p1, .int p3]) (rest := []) ⟨hx, hb, hml, hown, hts⟩ (c_X6_isKnown l dC dI ad tN fN cB cI cJ cZ h0 p1 p3 r0 pc0 _ ⟨f_3, f_4, f_5, f_6, f_7, f_8, f_9, sc_10, f_13, f_15, f_16, rfl, by omega, by omega, by omega, by omega, hr_14⟩ H.size (by omega) (by omega)) (cwV 2 hts gX6_isHollow_X6_isKnown rfl rfl rfl (by decide +kernel) ⟨(Nat.le_of_ble_eq_true rfl), (Nat.le_of_ble_eq_true rfl)⟩) ⟨fun a U g mk q => by obtain ⟨q0, q1, qP, qK, qD, qE⟩ := q; exact ⟨q0, q1, qP, va_K.moved (u := U) (U := U.calling g mk a) (Vm.Alike.refl U.vm) qK, qD, ey_blind qE⟩, va_recv hK hPc (ci := 4) (q0 := 0) rfl rfl, fun U hU hW => ⟨rfl, by rw [hU], by rw [hU]; exact hPc, va_K.moved hW.alike hK, hDc.weaken (fun _ _ _ _ => trivial), ey_call hE hS hFc hU hW⟩⟩ rfl rfl hl.1 rfl (lv_room (Nat.le_of_ble_eq_true rfl)) dX6_isHollow_20 ⟨(Nat.le_of_ble_eq_true rfl), (Nat.le_of_ble_eq_true rfl)⟩) hS (fun q _ h => hFc q h) hFc (fun r_28 u t H locs ht hvm hw hB hz1 hk1 hS => ?_)
      obtain ⟨hP1, hD1⟩ := hB
      rw [ht] at hP1
      obtain ⟨hP, hD⟩ := bk_join hpm hP hD hk1 hFc (Cs1 := [[(h0, .inr (4, [.int pc0, .ref (r0 0), .ref (r0 1), .ref (r0 2), .ref (r0 3), .ref (r0 4), .ref (r0 5), .ref (r0 6), .int sc_10, .ref (r0 7), .ref (r0 8), .ref (r0 9)])), (r0 0, .inl (cI, 60, .inl f_3)), (r0 1, .inl (cI, 60, .inl f_4)), (r0 2, .inl (cI, 60, .inl f_5)), (r0 3, .inl (cI, 60, .inl f_6)), (r0 4, .inl (cZ, 60, .inl f_7)), (r0 5, .inl (cI, 60, .inl f_8)), (r0 6, .inl (cI, 60, .inl f_9)), (r0 7, .inl (cI, 9, .inl f_13)), (r0 8, .inl (cI, 9, .inl f_15)), (r0 9, .inl (cI, 9, .inl f_16))]]) hP1 hD1
      have hpm2 : List.Perm (([[(h0, .inr (4, [.int pc0, .ref (r0 0), .ref (r0 1), .ref (r0 2), .ref (r0 3), .ref (r0 4), .ref (r0 5), .ref (r0 6), .int sc_10, .ref (r0 7), .ref (r0 8), .ref (r0 9)])), (r0 0, .inl (cI, 60, .inl f_3)), (r0 1, .inl (cI, 60, .inl f_4)), (r0 2, .inl (cI, 60, .inl f_5)), (r0 3, .inl (cI, 60, .inl f_6)), (r0 4, .inl (cZ, 60, .inl f_7)), (r0 5, .inl (cI, 60, .inl f_8)), (r0 6, .inl (cI, 60, .inl f_9)), (r0 7, .inl (cI, 9, .inl f_13)), (r0 8, .inl (cI, 9, .inl f_15)), (r0 9, .inl (cI, 9, .inl f_16))]] : List va_W) ++ ([] : List va_W)) ([[(h0, .inr (4, [.int pc0, .ref (r0 0), .ref (r0 1), .ref (r0 2), .ref (r0 3), .ref (r0 4), .ref (r0 5), .ref (r0 6), .int sc_10, .ref (r0 7), .ref (r0 8), .ref (r0 9)])), (r0 0, .inl (cI, 60, .inl f_3)), (r0 1, .inl (cI, 60, .inl f_4)), (r0 2, .inl (cI, 60, .inl f_5)), (r0 3, .inl (cI, 60, .inl f_6)), (r0 4, .inl (cZ, 60, .inl f_7)), (r0 5, .inl (cI, 60, .inl f_8)), (r0 6, .inl (cI, 60, .inl f_9)), (r0 7, .inl (cI, 9, .inl f_13)), (r0 8, .inl (cI, 9, .inl f_15)), (r0 9, .inl (cI, 9, .inl f_16))]] : List va_W) := pm_n 1 [0] (by decide) rfl rfl
      have hP := bk_reP hpm2 hP
      have hD := bk_reD hpm2 hD
      have hP : va_P (dC, dI) vwCl (List.flatten [[(h0, .inr (4, [.int pc0, .ref (r0 0), .ref (r0 1), .ref (r0 2), .ref (r0 3), .ref (r0 4), .ref (r0 5), .ref (r0 6), .int sc_10, .ref (r0 7), .ref (r0 8), .ref (r0 9)])), (r0 0, .inl (cI, 60, .inl f_3)), (r0 1, .inl (cI, 60, .inl f_4)), (r0 2, .inl (cI, 60, .inl f_5)), (r0 3, .inl (cI, 60, .inl f_6)), (r0 4, .inl (cZ, 60, .inl f_7)), (r0 5, .inl (cI, 60, .inl f_8)), (r0 6, .inl (cI, 60, .inl f_9)), (r0 7, .inl (cI, 9, .inl f_13)), (r0 8, .inl (cI, 9, .inl f_15)), (r0 9, .inl (cI, 9, .inl f_16))]]) H := hP
      have hD : va_D A (List.flatten [[(h0, .inr (4, [.int pc0, .ref (r0 0), .ref (r0 1), .ref (r0 2), .ref (r0 3), .ref (r0 4), .ref (r0 5), .ref (r0 6), .int sc_10, .ref (r0 7), .ref (r0 8), .ref (r0 9)])), (r0 0, .inl (cI, 60, .inl f_3)), (r0 1, .inl (cI, 60, .inl f_4)), (r0 2, .inl (cI, 60, .inl f_5)), (r0 3, .inl (cI, 60, .inl f_6)), (r0 4, .inl (cZ, 60, .inl f_7)), (r0 5, .inl (cI, 60, .inl f_8)), (r0 6, .inl (cI, 60, .inl f_9)), (r0 7, .inl (cI, 9, .inl f_13)), (r0 8, .inl (cI, 9, .inl f_15)), (r0 9, .inl (cI, 9, .inl f_16))]]) := hD
      obtain ⟨hlr_28, hhr_28⟩ := hw
      refine lv_if_ne (tgt := 28) hx hb dX6_isHollow_23 (by decide) (fun c_29 => ?_) (fun c_29 => ?_)
      · have c_29 : ¬ r_28.toInt = 0 := f_ne rfl tI_0 c_29
        refine lv_iload_n hx hb dX6_isHollow_28 rfl (lv_at hl 2 rfl) ?_
        refine lv_istore (lv' := [(4, .int p2), (0, .ref h0), (1, .int p1), (2, .int p2), (3, .int p3)]) hx hb dX6_isHollow_29 hl (by decide) rfl (fun ls hl => ?_)
        refine lv_iconst (v := 0) hx hb dX6_isHollow_31 (by decide) ?_
        refine lv_istore (lv' := [(5, .int 0), (4, .int p2), (0, .ref h0), (1, .int p1), (2, .int p2), (3, .int p3)]) hx hb dX6_isHollow_32 hl (by decide) rfl (fun ls hl => ?_)
        have lp_603 : ∀ (n : Nat) (g_30 : Int32) (g_31 : Int32), 0 ≤ g_30.toInt → g_30.toInt ≤ 70 → g_30.toInt - pc0.toInt ≤ 0 → (70 - g_30.toInt).toNat < n → ∀ (H : Heap) (locs : List Loc), va_P (dC, dI) vwCl (List.flatten [[(h0, .inr (4, [.int pc0, .ref (r0 0), .ref (r0 1), .ref (r0 2), .ref (r0 3), .ref (r0 4), .ref (r0 5), .ref (r0 6), .int sc_10, .ref (r0 7), .ref (r0 8), .ref (r0 9)])), (r0 0, .inl (cI, 60, .inl f_3)), (r0 1, .inl (cI, 60, .inl f_4)), (r0 2, .inl (cI, 60, .inl f_5)), (r0 3, .inl (cI, 60, .inl f_6)), (r0 4, .inl (cZ, 60, .inl f_7)), (r0 5, .inl (cI, 60, .inl f_8)), (r0 6, .inl (cI, 60, .inl f_9)), (r0 7, .inl (cI, 9, .inl f_13)), (r0 8, .inl (cI, 9, .inl f_15)), (r0 9, .inl (cI, 9, .inl f_16))]]) H → va_D A (List.flatten [[(h0, .inr (4, [.int pc0, .ref (r0 0), .ref (r0 1), .ref (r0 2), .ref (r0 3), .ref (r0 4), .ref (r0 5), .ref (r0 6), .int sc_10, .ref (r0 7), .ref (r0 8), .ref (r0 9)])), (r0 0, .inl (cI, 60, .inl f_3)), (r0 1, .inl (cI, 60, .inl f_4)), (r0 2, .inl (cI, 60, .inl f_5)), (r0 3, .inl (cI, 60, .inl f_6)), (r0 4, .inl (cZ, 60, .inl f_7)), (r0 5, .inl (cI, 60, .inl f_8)), (r0 6, .inl (cI, 60, .inl f_9)), (r0 7, .inl (cI, 9, .inl f_13)), (r0 8, .inl (cI, 9, .inl f_15)), (r0 9, .inl (cI, 9, .inl f_16))]]) → va_S A s.heap H locs → ∀ (ls : Array Slot), lv_has ls 7 [(5, .int g_30), (4, .int g_31), (0, .ref h0), (1, .int p1), (2, .int p2), (3, .int p3)] → W p l e (headSpec wsX6_isHollow ({ frames := 1, cells := 0, slots := 0, locals := 23 } : Room)).room s m ([.ref h0, .int p1, .int p2, .int p3] : List Value).toArray below meth c H locs 0 0 Q0 (F0 m 34 ls []) := by
          intro n
          induction n with
          | zero => intro g_30 g_31 iv_600 iv_601 iv_602 hm; exact absurd hm (Nat.not_lt_zero _)
          | succ n ih_604 =>
            intro g_30 g_31 iv_600 iv_601 iv_602 hm H locs hP hD hS ls hl
            refine lv_iload hx hb dX6_isHollow_34 (lv_at hl 0 rfl) ?_
            refine lv_aload_n hx hb dX6_isHollow_36 rfl (lv_at hl 2 rfl) ?_
            refine va_get (D := (dC, dI)) (ci := 4) (v := .int pc0) (C := RX6) (T := TX6) (N := 12) hx hb hts iw_X6_isHollow_X6 hown hK hP 0 rfl rfl 0 (by decide) (hts (.fieldLink RX6 9 "HungFloors$Papers" "count" "I") (by decide +kernel)) (fun _ h9 => h9) rfl dX6_isHollow_37 ?_
            refine lv_icmp_ge (tgt := 142) hx hb dX6_isHollow_40 (by decide) (fun c_605 => ?_) (fun c_605 => ?_)
            · have c_605 : pc0.toInt ≤ g_30.toInt := f_le rfl rfl c_605
              refine lv_aload_n hx hb dX6_isHollow_142 rfl (lv_at hl 2 rfl) ?_
              refine va_get (D := (dC, dI)) (ci := 4) (v := .ref (r0 3)) (C := RX6) (T := TX6) (N := 12) hx hb hts iw_X6_isHollow_X6 hown hK hP 0 rfl rfl 4 (by decide) (hts (.fieldLink RX6 25 "HungFloors$Papers" "hours" "[I") (by decide +kernel)) (fun _ h9 => h9) rfl dX6_isHollow_143 ?_
              refine lv_iload_n hx hb dX6_isHollow_146 rfl (lv_at hl 3 rfl) ?_
              refine va_iald hx hb hK hP 4 1 rfl rfl (v_in rfl (by omega) (by omega)) dX6_isHollow_147 ?_
              refine lv_topi (fun z_606 ez_606 => ?_)
              refine lv_iload hx hb dX6_isHollow_148 (lv_at hl 1 rfl) ?_
              refine lv_icmp_ge (tgt := 157) hx hb dX6_isHollow_150 (by decide) (fun c_607 => ?_) (fun c_607 => ?_)
              · have c_607 : g_31.toInt ≤ z_606.toInt := f_le rfl rfl c_607
                refine lv_iconst (v := 0) hx hb dX6_isHollow_157 (by decide) ?_
                rw [hQ0]
                exact W.zret (v := 0) hx hb hr (by decide) (fun t ht hW => ⟨⟨0, (), rfl, ⟨by decide, by decide⟩, ⟨by rw [ht]; exact hP, hD⟩⟩, hS.F ht⟩) hS.2.2 dX6_isHollow_158
              · have c_607 : z_606.toInt < g_31.toInt := f_nle rfl rfl c_607
                refine lv_iconst (v := 1) hx hb dX6_isHollow_153 (by decide) ?_
                refine lv_goto (tgt := 158) hx hb dX6_isHollow_154 (by decide) ?_
                rw [hQ0]
                exact W.zret (v := 1) hx hb hr (by decide) (fun t ht hW => ⟨⟨1, (), rfl, ⟨by decide, by decide⟩, ⟨by rw [ht]; exact hP, hD⟩⟩, hS.F ht⟩) hS.2.2 dX6_isHollow_158
            · have c_605 : g_30.toInt < pc0.toInt := f_nle rfl rfl c_605
              refine lv_aload_n hx hb dX6_isHollow_43 rfl (lv_at hl 2 rfl) ?_
              refine va_get (D := (dC, dI)) (ci := 4) (v := .ref (r0 1)) (C := RX6) (T := TX6) (N := 12) hx hb hts iw_X6_isHollow_X6 hown hK hP 0 rfl rfl 2 (by decide) (hts (.fieldLink RX6 19 "HungFloors$Papers" "day" "[I") (by decide +kernel)) (fun _ h9 => h9) rfl dX6_isHollow_44 ?_
              refine lv_iload hx hb dX6_isHollow_47 (lv_at hl 0 rfl) ?_
              refine va_iald hx hb hK hP 2 1 rfl rfl (v_in rfl (by omega) (by omega)) dX6_isHollow_49 ?_
              refine lv_topi (fun z_608 ez_608 => ?_)
              refine lv_aload_n hx hb dX6_isHollow_50 rfl (lv_at hl 2 rfl) ?_
              refine va_get (D := (dC, dI)) (ci := 4) (v := .ref (r0 1)) (C := RX6) (T := TX6) (N := 12) hx hb hts iw_X6_isHollow_X6 hown hK hP 0 rfl rfl 2 (by decide) (hts (.fieldLink RX6 19 "HungFloors$Papers" "day" "[I") (by decide +kernel)) (fun _ h9 => h9) rfl dX6_isHollow_51 ?_
              refine lv_iload_n hx hb dX6_isHollow_54 rfl (lv_at hl 3 rfl) ?_
              refine va_iald hx hb hK hP 2 1 rfl rfl (v_in rfl (by omega) (by omega)) dX6_isHollow_55 ?_
              refine lv_topi (fun z_609 ez_609 => ?_)
              refine lv_icmp_lt (tgt := 81) hx hb dX6_isHollow_56 (by decide) (fun c_610 => ?_) (fun c_610 => ?_)
              · have c_610 : z_608.toInt < z_609.toInt := f_lt rfl rfl c_610
                refine lv_iconst (v := 1) hx hb dX6_isHollow_81 (by decide) ?_
                refine lv_goto (tgt := 86) hx hb dX6_isHollow_82 (by decide) ?_
                refine lv_istore (lv' := [(6, .int 1), (5, .int g_30), (4, .int g_31), (0, .ref h0), (1, .int p1), (2, .int p2), (3, .int p3)]) hx hb dX6_isHollow_86 hl (by decide) rfl (fun ls hl => ?_)
                refine lv_iload hx hb dX6_isHollow_88 (lv_at hl 0 rfl) ?_
                refine lv_if_eq (tgt := 136) hx hb dX6_isHollow_90 (by decide) (fun c_611 => absurd c_611 (by decide)) (fun c_611 => ?_)
                refine lv_aload_n hx hb dX6_isHollow_93 rfl (lv_at hl 3 rfl) ?_
                refine lv_iload hx hb dX6_isHollow_94 (lv_at hl 1 rfl) ?_
                refine lv_aload_n hx hb dX6_isHollow_96 rfl (lv_at hl 3 rfl) ?_
                refine va_get (D := (dC, dI)) (ci := 4) (v := .ref (r0 0)) (C := RX6) (T := TX6) (N := 12) hx hb hts iw_X6_isHollow_X6 hown hK hP 0 rfl rfl 1 (by decide) (hts (.fieldLink RX6 15 "HungFloors$Papers" "office" "[I") (by decide +kernel)) (fun _ h9 => h9) rfl dX6_isHollow_97 ?_
                refine lv_iload_n hx hb dX6_isHollow_100 rfl (lv_at hl 4 rfl) ?_
                refine va_iald hx hb hK hP 1 1 rfl rfl (v_in rfl (by omega) (by omega)) dX6_isHollow_101 ?_
                refine lv_topi (fun z_612 ez_612 => ?_)
                refine lv_aload_n hx hb dX6_isHollow_102 rfl (lv_at hl 3 rfl) ?_
                refine va_get (D := (dC, dI)) (ci := 4) (v := .ref (r0 2)) (C := RX6) (T := TX6) (N := 12) hx hb hts iw_X6_isHollow_X6 hown hK hP 0 rfl rfl 3 (by decide) (hts (.fieldLink RX6 22 "HungFloors$Papers" "drawing" "[I") (by decide +kernel)) (fun _ h9 => h9) rfl dX6_isHollow_103 ?_
                refine lv_iload_n hx hb dX6_isHollow_106 rfl (lv_at hl 4 rfl) ?_
                refine va_iald hx hb hK hP 3 1 rfl rfl (v_in rfl (by omega) (by omega)) dX6_isHollow_107 ?_
                refine lv_topi (fun z_613 ez_613 => ?_)
                have hpm : List.Perm ([[(h0, .inr (4, [.int pc0, .ref (r0 0), .ref (r0 1), .ref (r0 2), .ref (r0 3), .ref (r0 4), .ref (r0 5), .ref (r0 6), .int sc_10, .ref (r0 7), .ref (r0 8), .ref (r0 9)])), (r0 0, .inl (cI, 60, .inl f_3)), (r0 1, .inl (cI, 60, .inl f_4)), (r0 2, .inl (cI, 60, .inl f_5)), (r0 3, .inl (cI, 60, .inl f_6)), (r0 4, .inl (cZ, 60, .inl f_7)), (r0 5, .inl (cI, 60, .inl f_8)), (r0 6, .inl (cI, 60, .inl f_9)), (r0 7, .inl (cI, 9, .inl f_13)), (r0 8, .inl (cI, 9, .inl f_15)), (r0 9, .inl (cI, 9, .inl f_16))]] : List va_W) (([[(h0, .inr (4, [.int pc0, .ref (r0 0), .ref (r0 1), .ref (r0 2), .ref (r0 3), .ref (r0 4), .ref (r0 5), .ref (r0 6), .int sc_10, .ref (r0 7), .ref (r0 8), .ref (r0 9)])), (r0 0, .inl (cI, 60, .inl f_3)), (r0 1, .inl (cI, 60, .inl f_4)), (r0 2, .inl (cI, 60, .inl f_5)), (r0 3, .inl (cI, 60, .inl f_6)), (r0 4, .inl (cZ, 60, .inl f_7)), (r0 5, .inl (cI, 60, .inl f_8)), (r0 6, .inl (cI, 60, .inl f_9)), (r0 7, .inl (cI, 9, .inl f_13)), (r0 8, .inl (cI, 9, .inl f_15)), (r0 9, .inl (cI, 9, .inl f_16))]] : List va_W) ++ ([] : List va_W)) := pm_n 1 [0] (by decide) rfl rfl
                have hPc := bk_P hpm hP
                have hDc := bk_D hpm hD
                have hFc := bk_F hpm hD hS hA
                refine va_calli (va_runV (As := [.int g_30, .int z_612, .int z_613]) (rest := []) ⟨hx, hb, hml, hown, hts⟩ (c_X6_isOf l dC dI ad tN fN cB cI cJ cZ h0 g_30 z_612 z_613 r0 pc0 _ ⟨f_3, f_4, f_5, f_6, f_7, f_8, f_9, sc_10, f_13, f_15, f_16, rfl, by omega, by omega, by omega, by omega, hr_14⟩ H.size (by omega) (by omega)) (cwV 3 hts gX6_isHollow_X6_isOf rfl rfl rfl (by decide +kernel) ⟨(Nat.le_of_ble_eq_true rfl), (Nat.le_of_ble_eq_true rfl)⟩) ⟨fun a U g mk q => by obtain ⟨q0, q1, qP, qK, qD, qE⟩ := q; exact ⟨q0, q1, qP, va_K.moved (u := U) (U := U.calling g mk a) (Vm.Alike.refl U.vm) qK, qD, ey_blind qE⟩, va_recv hK hPc (ci := 4) (q0 := 0) rfl rfl, fun U hU hW => ⟨rfl, by rw [hU], by rw [hU]; exact hPc, va_K.moved hW.alike hK, hDc.weaken (fun _ _ _ _ => trivial), ey_call hE hS hFc hU hW⟩⟩ rfl rfl hl.1 rfl (lv_room (Nat.le_of_ble_eq_true rfl)) dX6_isHollow_108 ⟨(Nat.le_of_ble_eq_true rfl), (Nat.le_of_ble_eq_true rfl)⟩) hS (fun q _ h => hFc q h) hFc (fun r_614 u t H locs ht hvm hw hB hz1 hk1 hS => ?_)
                obtain ⟨hP1, hD1⟩ := hB
                rw [ht] at hP1
                obtain ⟨hP, hD⟩ := bk_join hpm hP hD hk1 hFc (Cs1 := [[(h0, .inr (4, [.int pc0, .ref (r0 0), .ref (r0 1), .ref (r0 2), .ref (r0 3), .ref (r0 4), .ref (r0 5), .ref (r0 6), .int sc_10, .ref (r0 7), .ref (r0 8), .ref (r0 9)])), (r0 0, .inl (cI, 60, .inl f_3)), (r0 1, .inl (cI, 60, .inl f_4)), (r0 2, .inl (cI, 60, .inl f_5)), (r0 3, .inl (cI, 60, .inl f_6)), (r0 4, .inl (cZ, 60, .inl f_7)), (r0 5, .inl (cI, 60, .inl f_8)), (r0 6, .inl (cI, 60, .inl f_9)), (r0 7, .inl (cI, 9, .inl f_13)), (r0 8, .inl (cI, 9, .inl f_15)), (r0 9, .inl (cI, 9, .inl f_16))]]) hP1 hD1
                have hpm2 : List.Perm (([[(h0, .inr (4, [.int pc0, .ref (r0 0), .ref (r0 1), .ref (r0 2), .ref (r0 3), .ref (r0 4), .ref (r0 5), .ref (r0 6), .int sc_10, .ref (r0 7), .ref (r0 8), .ref (r0 9)])), (r0 0, .inl (cI, 60, .inl f_3)), (r0 1, .inl (cI, 60, .inl f_4)), (r0 2, .inl (cI, 60, .inl f_5)), (r0 3, .inl (cI, 60, .inl f_6)), (r0 4, .inl (cZ, 60, .inl f_7)), (r0 5, .inl (cI, 60, .inl f_8)), (r0 6, .inl (cI, 60, .inl f_9)), (r0 7, .inl (cI, 9, .inl f_13)), (r0 8, .inl (cI, 9, .inl f_15)), (r0 9, .inl (cI, 9, .inl f_16))]] : List va_W) ++ ([] : List va_W)) ([[(h0, .inr (4, [.int pc0, .ref (r0 0), .ref (r0 1), .ref (r0 2), .ref (r0 3), .ref (r0 4), .ref (r0 5), .ref (r0 6), .int sc_10, .ref (r0 7), .ref (r0 8), .ref (r0 9)])), (r0 0, .inl (cI, 60, .inl f_3)), (r0 1, .inl (cI, 60, .inl f_4)), (r0 2, .inl (cI, 60, .inl f_5)), (r0 3, .inl (cI, 60, .inl f_6)), (r0 4, .inl (cZ, 60, .inl f_7)), (r0 5, .inl (cI, 60, .inl f_8)), (r0 6, .inl (cI, 60, .inl f_9)), (r0 7, .inl (cI, 9, .inl f_13)), (r0 8, .inl (cI, 9, .inl f_15)), (r0 9, .inl (cI, 9, .inl f_16))]] : List va_W) := pm_n 1 [0] (by decide) rfl rfl
                have hP := bk_reP hpm2 hP
                have hD := bk_reD hpm2 hD
                have hP : va_P (dC, dI) vwCl (List.flatten [[(h0, .inr (4, [.int pc0, .ref (r0 0), .ref (r0 1), .ref (r0 2), .ref (r0 3), .ref (r0 4), .ref (r0 5), .ref (r0 6), .int sc_10, .ref (r0 7), .ref (r0 8), .ref (r0 9)])), (r0 0, .inl (cI, 60, .inl f_3)), (r0 1, .inl (cI, 60, .inl f_4)), (r0 2, .inl (cI, 60, .inl f_5)), (r0 3, .inl (cI, 60, .inl f_6)), (r0 4, .inl (cZ, 60, .inl f_7)), (r0 5, .inl (cI, 60, .inl f_8)), (r0 6, .inl (cI, 60, .inl f_9)), (r0 7, .inl (cI, 9, .inl f_13)), (r0 8, .inl (cI, 9, .inl f_15)), (r0 9, .inl (cI, 9, .inl f_16))]]) H := hP
                have hD : va_D A (List.flatten [[(h0, .inr (4, [.int pc0, .ref (r0 0), .ref (r0 1), .ref (r0 2), .ref (r0 3), .ref (r0 4), .ref (r0 5), .ref (r0 6), .int sc_10, .ref (r0 7), .ref (r0 8), .ref (r0 9)])), (r0 0, .inl (cI, 60, .inl f_3)), (r0 1, .inl (cI, 60, .inl f_4)), (r0 2, .inl (cI, 60, .inl f_5)), (r0 3, .inl (cI, 60, .inl f_6)), (r0 4, .inl (cZ, 60, .inl f_7)), (r0 5, .inl (cI, 60, .inl f_8)), (r0 6, .inl (cI, 60, .inl f_9)), (r0 7, .inl (cI, 9, .inl f_13)), (r0 8, .inl (cI, 9, .inl f_15)), (r0 9, .inl (cI, 9, .inl f_16))]]) := hD
                obtain ⟨hlr_614, hhr_614⟩ := hw
                refine lv_if_eq (tgt := 136) hx hb dX6_isHollow_111 (by decide) (fun c_615 => ?_) (fun c_615 => ?_)
                · have c_615 : r_614.toInt = 0 := f_eq rfl tI_0 c_615
                  obtain ⟨z_616, ez_616⟩ : ∃ y : Int32, y = g_30 + 1 := ⟨_, rfl⟩
                  have hz_616 : z_616.toInt = g_30.toInt + 1 := by rw [ez_616]; exact t_add rfl tI_1 (by omega) (by omega)
                  refine lv_iinc (v := z_616) (lv' := [(5, .int z_616), (6, .int 1), (4, .int g_31), (0, .ref h0), (1, .int p1), (2, .int p2), (3, .int p3)]) hx hb dX6_isHollow_136 hl (k := 1) rfl (by rw [ez_616]; rfl) (by decide) rfl (fun ls hl => ?_)
                  refine lv_goto (tgt := 34) hx hb dX6_isHollow_139 (by decide) ?_
                  exact ih_604 z_616 g_31 (by omega) (by omega) (by omega) (by omega) _ _ hP hD hS ls (lv_sub hl [0, 2, 3, 4, 5, 6] rfl)
                · have c_615 : ¬ r_614.toInt = 0 := f_ne rfl tI_0 c_615
                  refine lv_aload_n hx hb dX6_isHollow_114 rfl (lv_at hl 3 rfl) ?_
                  refine lv_iload hx hb dX6_isHollow_115 (lv_at hl 1 rfl) ?_
                  refine lv_iload_n hx hb dX6_isHollow_117 rfl (lv_at hl 6 rfl) ?_
                  have hpm : List.Perm ([[(h0, .inr (4, [.int pc0, .ref (r0 0), .ref (r0 1), .ref (r0 2), .ref (r0 3), .ref (r0 4), .ref (r0 5), .ref (r0 6), .int sc_10, .ref (r0 7), .ref (r0 8), .ref (r0 9)])), (r0 0, .inl (cI, 60, .inl f_3)), (r0 1, .inl (cI, 60, .inl f_4)), (r0 2, .inl (cI, 60, .inl f_5)), (r0 3, .inl (cI, 60, .inl f_6)), (r0 4, .inl (cZ, 60, .inl f_7)), (r0 5, .inl (cI, 60, .inl f_8)), (r0 6, .inl (cI, 60, .inl f_9)), (r0 7, .inl (cI, 9, .inl f_13)), (r0 8, .inl (cI, 9, .inl f_15)), (r0 9, .inl (cI, 9, .inl f_16))]] : List va_W) (([[(h0, .inr (4, [.int pc0, .ref (r0 0), .ref (r0 1), .ref (r0 2), .ref (r0 3), .ref (r0 4), .ref (r0 5), .ref (r0 6), .int sc_10, .ref (r0 7), .ref (r0 8), .ref (r0 9)])), (r0 0, .inl (cI, 60, .inl f_3)), (r0 1, .inl (cI, 60, .inl f_4)), (r0 2, .inl (cI, 60, .inl f_5)), (r0 3, .inl (cI, 60, .inl f_6)), (r0 4, .inl (cZ, 60, .inl f_7)), (r0 5, .inl (cI, 60, .inl f_8)), (r0 6, .inl (cI, 60, .inl f_9)), (r0 7, .inl (cI, 9, .inl f_13)), (r0 8, .inl (cI, 9, .inl f_15)), (r0 9, .inl (cI, 9, .inl f_16))]] : List va_W) ++ ([] : List va_W)) := pm_n 1 [0] (by decide) rfl rfl
                  have hPc := bk_P hpm hP
                  have hDc := bk_D hpm hD
                  have hFc := bk_F hpm hD hS hA
                  refine va_calli (va_runV (As := [.int g_30, .int p3]) (rest := []) ⟨hx, hb, hml, hown, hts⟩ (c_X6_isKnown l dC dI ad tN fN cB cI cJ cZ h0 g_30 p3 r0 pc0 _ ⟨f_3, f_4, f_5, f_6, f_7, f_8, f_9, sc_10, f_13, f_15, f_16, rfl, by omega, by omega, by omega, by omega, hr_14⟩ H.size (by omega) (by omega)) (cwV 2 hts gX6_isHollow_X6_isKnown rfl rfl rfl (by decide +kernel) ⟨(Nat.le_of_ble_eq_true rfl), (Nat.le_of_ble_eq_true rfl)⟩) ⟨fun a U g mk q => by obtain ⟨q0, q1, qP, qK, qD, qE⟩ := q; exact ⟨q0, q1, qP, va_K.moved (u := U) (U := U.calling g mk a) (Vm.Alike.refl U.vm) qK, qD, ey_blind qE⟩, va_recv hK hPc (ci := 4) (q0 := 0) rfl rfl, fun U hU hW => ⟨rfl, by rw [hU], by rw [hU]; exact hPc, va_K.moved hW.alike hK, hDc.weaken (fun _ _ _ _ => trivial), ey_call hE hS hFc hU hW⟩⟩ rfl rfl hl.1 rfl (lv_room (Nat.le_of_ble_eq_true rfl)) dX6_isHollow_118 ⟨(Nat.le_of_ble_eq_true rfl), (Nat.le_of_ble_eq_true rfl)⟩) hS (fun q _ h => hFc q h) hFc (fun r_617 u t H locs ht hvm hw hB hz1 hk1 hS => ?_)
                  obtain ⟨hP1, hD1⟩ := hB
                  rw [ht] at hP1
                  obtain ⟨hP, hD⟩ := bk_join hpm hP hD hk1 hFc (Cs1 := [[(h0, .inr (4, [.int pc0, .ref (r0 0), .ref (r0 1), .ref (r0 2), .ref (r0 3), .ref (r0 4), .ref (r0 5), .ref (r0 6), .int sc_10, .ref (r0 7), .ref (r0 8), .ref (r0 9)])), (r0 0, .inl (cI, 60, .inl f_3)), (r0 1, .inl (cI, 60, .inl f_4)), (r0 2, .inl (cI, 60, .inl f_5)), (r0 3, .inl (cI, 60, .inl f_6)), (r0 4, .inl (cZ, 60, .inl f_7)), (r0 5, .inl (cI, 60, .inl f_8)), (r0 6, .inl (cI, 60, .inl f_9)), (r0 7, .inl (cI, 9, .inl f_13)), (r0 8, .inl (cI, 9, .inl f_15)), (r0 9, .inl (cI, 9, .inl f_16))]]) hP1 hD1
                  have hpm2 : List.Perm (([[(h0, .inr (4, [.int pc0, .ref (r0 0), .ref (r0 1), .ref (r0 2), .ref (r0 3), .ref (r0 4), .ref (r0 5), .ref (r0 6), .int sc_10, .ref (r0 7), .ref (r0 8), .ref (r0 9)])), (r0 0, .inl (cI, 60, .inl f_3)), (r0 1, .inl (cI, 60, .inl f_4)), (r0 2, .inl (cI, 60, .inl f_5)), (r0 3, .inl (cI, 60, .inl f_6)), (r0 4, .inl (cZ, 60, .inl f_7)), (r0 5, .inl (cI, 60, .inl f_8)), (r0 6, .inl (cI, 60, .inl f_9)), (r0 7, .inl (cI, 9, .inl f_13)), (r0 8, .inl (cI, 9, .inl f_15)), (r0 9, .inl (cI, 9, .inl f_16))]] : List va_W) ++ ([] : List va_W)) ([[(h0, .inr (4, [.int pc0, .ref (r0 0), .ref (r0 1), .ref (r0 2), .ref (r0 3), .ref (r0 4), .ref (r0 5), .ref (r0 6), .int sc_10, .ref (r0 7), .ref (r0 8), .ref (r0 9)])), (r0 0, .inl (cI, 60, .inl f_3)), (r0 1, .inl (cI, 60, .inl f_4)), (r0 2, .inl (cI, 60, .inl f_5)), (r0 3, .inl (cI, 60, .inl f_6)), (r0 4, .inl (cZ, 60, .inl f_7)), (r0 5, .inl (cI, 60, .inl f_8)), (r0 6, .inl (cI, 60, .inl f_9)), (r0 7, .inl (cI, 9, .inl f_13)), (r0 8, .inl (cI, 9, .inl f_15)), (r0 9, .inl (cI, 9, .inl f_16))]] : List va_W) := pm_n 1 [0] (by decide) rfl rfl
                  have hP := bk_reP hpm2 hP
                  have hD := bk_reD hpm2 hD
                  have hP : va_P (dC, dI) vwCl (List.flatten [[(h0, .inr (4, [.int pc0, .ref (r0 0), .ref (r0 1), .ref (r0 2), .ref (r0 3), .ref (r0 4), .ref (r0 5), .ref (r0 6), .int sc_10, .ref (r0 7), .ref (r0 8), .ref (r0 9)])), (r0 0, .inl (cI, 60, .inl f_3)), (r0 1, .inl (cI, 60, .inl f_4)), (r0 2, .inl (cI, 60, .inl f_5)), (r0 3, .inl (cI, 60, .inl f_6)), (r0 4, .inl (cZ, 60, .inl f_7)), (r0 5, .inl (cI, 60, .inl f_8)), (r0 6, .inl (cI, 60, .inl f_9)), (r0 7, .inl (cI, 9, .inl f_13)), (r0 8, .inl (cI, 9, .inl f_15)), (r0 9, .inl (cI, 9, .inl f_16))]]) H := hP
                  have hD : va_D A (List.flatten [[(h0, .inr (4, [.int pc0, .ref (r0 0), .ref (r0 1), .ref (r0 2), .ref (r0 3), .ref (r0 4), .ref (r0 5), .ref (r0 6), .int sc_10, .ref (r0 7), .ref (r0 8), .ref (r0 9)])), (r0 0, .inl (cI, 60, .inl f_3)), (r0 1, .inl (cI, 60, .inl f_4)), (r0 2, .inl (cI, 60, .inl f_5)), (r0 3, .inl (cI, 60, .inl f_6)), (r0 4, .inl (cZ, 60, .inl f_7)), (r0 5, .inl (cI, 60, .inl f_8)), (r0 6, .inl (cI, 60, .inl f_9)), (r0 7, .inl (cI, 9, .inl f_13)), (r0 8, .inl (cI, 9, .inl f_15)), (r0 9, .inl (cI, 9, .inl f_16))]]) := hD
                  obtain ⟨hlr_617, hhr_617⟩ := hw
                  refine lv_if_eq (tgt := 136) hx hb dX6_isHollow_121 (by decide) (fun c_618 => ?_) (fun c_618 => ?_)
                  · have c_618 : r_617.toInt = 0 := f_eq rfl tI_0 c_618
                    obtain ⟨z_619, ez_619⟩ : ∃ y : Int32, y = g_30 + 1 := ⟨_, rfl⟩
                    have hz_619 : z_619.toInt = g_30.toInt + 1 := by rw [ez_619]; exact t_add rfl tI_1 (by omega) (by omega)
                    refine lv_iinc (v := z_619) (lv' := [(5, .int z_619), (6, .int 1), (4, .int g_31), (0, .ref h0), (1, .int p1), (2, .int p2), (3, .int p3)]) hx hb dX6_isHollow_136 hl (k := 1) rfl (by rw [ez_619]; rfl) (by decide) rfl (fun ls hl => ?_)
                    refine lv_goto (tgt := 34) hx hb dX6_isHollow_139 (by decide) ?_
                    exact ih_604 z_619 g_31 (by omega) (by omega) (by omega) (by omega) _ _ hP hD hS ls (lv_sub hl [0, 2, 3, 4, 5, 6] rfl)
                  · have c_618 : ¬ r_617.toInt = 0 := f_ne rfl tI_0 c_618
                    refine lv_iload hx hb dX6_isHollow_124 (lv_at hl 2 rfl) ?_
                    refine lv_aload_n hx hb dX6_isHollow_126 rfl (lv_at hl 3 rfl) ?_
                    refine va_get (D := (dC, dI)) (ci := 4) (v := .ref (r0 3)) (C := RX6) (T := TX6) (N := 12) hx hb hts iw_X6_isHollow_X6 hown hK hP 0 rfl rfl 4 (by decide) (hts (.fieldLink RX6 25 "HungFloors$Papers" "hours" "[I") (by decide +kernel)) (fun _ h9 => h9) rfl dX6_isHollow_127 ?_
                    refine lv_iload hx hb dX6_isHollow_130 (lv_at hl 1 rfl) ?_
                    refine va_iald hx hb hK hP 4 1 rfl rfl (v_in rfl (by omega) (by omega)) dX6_isHollow_132 ?_
                    refine lv_topi (fun z_620 ez_620 => ?_)
                    refine lv_isub hx hb dX6_isHollow_133 ?_
                    refine lv_topi (fun z_621 ez_621 => ?_)
                    refine lv_istore (lv' := [(4, .int z_621), (6, .int 1), (5, .int g_30), (0, .ref h0), (1, .int p1), (2, .int p2), (3, .int p3)]) hx hb dX6_isHollow_134 hl (by decide) rfl (fun ls hl => ?_)
                    obtain ⟨z_622, ez_622⟩ : ∃ y : Int32, y = g_30 + 1 := ⟨_, rfl⟩
                    have hz_622 : z_622.toInt = g_30.toInt + 1 := by rw [ez_622]; exact t_add rfl tI_1 (by omega) (by omega)
                    refine lv_iinc (v := z_622) (lv' := [(5, .int z_622), (4, .int z_621), (6, .int 1), (0, .ref h0), (1, .int p1), (2, .int p2), (3, .int p3)]) hx hb dX6_isHollow_136 hl (k := 2) rfl (by rw [ez_622]; rfl) (by decide) rfl (fun ls hl => ?_)
                    refine lv_goto (tgt := 34) hx hb dX6_isHollow_139 (by decide) ?_
                    exact ih_604 z_622 z_621 (by omega) (by omega) (by omega) (by omega) _ _ hP hD hS ls (lv_sub hl [0, 1, 3, 4, 5, 6] rfl)
              · have c_610 : z_609.toInt ≤ z_608.toInt := f_nlt rfl rfl c_610
                refine lv_aload_n hx hb dX6_isHollow_59 rfl (lv_at hl 2 rfl) ?_
                refine va_get (D := (dC, dI)) (ci := 4) (v := .ref (r0 1)) (C := RX6) (T := TX6) (N := 12) hx hb hts iw_X6_isHollow_X6 hown hK hP 0 rfl rfl 2 (by decide) (hts (.fieldLink RX6 19 "HungFloors$Papers" "day" "[I") (by decide +kernel)) (fun _ h9 => h9) rfl dX6_isHollow_60 ?_
                refine lv_iload hx hb dX6_isHollow_63 (lv_at hl 0 rfl) ?_
                refine va_iald hx hb hK hP 2 1 rfl rfl (v_in rfl (by omega) (by omega)) dX6_isHollow_65 ?_
                refine lv_topi (fun z_623 ez_623 => ?_)
                have qz_623 : z_623.toInt = z_608.toInt := by rw [ez_623, ez_608]
                refine lv_aload_n hx hb dX6_isHollow_66 rfl (lv_at hl 2 rfl) ?_
                refine va_get (D := (dC, dI)) (ci := 4) (v := .ref (r0 1)) (C := RX6) (T := TX6) (N := 12) hx hb hts iw_X6_isHollow_X6 hown hK hP 0 rfl rfl 2 (by decide) (hts (.fieldLink RX6 19 "HungFloors$Papers" "day" "[I") (by decide +kernel)) (fun _ h9 => h9) rfl dX6_isHollow_67 ?_
                refine lv_iload_n hx hb dX6_isHollow_70 rfl (lv_at hl 3 rfl) ?_
                refine va_iald hx hb hK hP 2 1 rfl rfl (v_in rfl (by omega) (by omega)) dX6_isHollow_71 ?_
                refine lv_topi (fun z_624 ez_624 => ?_)
                have qz_624 : z_624.toInt = z_609.toInt := by rw [ez_624, ez_609]
                refine lv_icmp_ne (tgt := 85) hx hb dX6_isHollow_72 (by decide) (fun c_625 => ?_) (fun c_625 => ?_)
                · have c_625 : ¬ z_623.toInt = z_624.toInt := f_ne rfl rfl c_625
                  refine lv_iconst (v := 0) hx hb dX6_isHollow_85 (by decide) ?_
                  refine lv_istore (lv' := [(6, .int 0), (5, .int g_30), (4, .int g_31), (0, .ref h0), (1, .int p1), (2, .int p2), (3, .int p3)]) hx hb dX6_isHollow_86 hl (by decide) rfl (fun ls hl => ?_)
                  refine lv_iload hx hb dX6_isHollow_88 (lv_at hl 0 rfl) ?_
                  refine lv_if_eq (tgt := 136) hx hb dX6_isHollow_90 (by decide) (fun c_626 => ?_) (fun c_626 => absurd c_626 (by decide))
                  obtain ⟨z_627, ez_627⟩ : ∃ y : Int32, y = g_30 + 1 := ⟨_, rfl⟩
                  have hz_627 : z_627.toInt = g_30.toInt + 1 := by rw [ez_627]; exact t_add rfl tI_1 (by omega) (by omega)
                  refine lv_iinc (v := z_627) (lv' := [(5, .int z_627), (6, .int 0), (4, .int g_31), (0, .ref h0), (1, .int p1), (2, .int p2), (3, .int p3)]) hx hb dX6_isHollow_136 hl (k := 1) rfl (by rw [ez_627]; rfl) (by decide) rfl (fun ls hl => ?_)
                  refine lv_goto (tgt := 34) hx hb dX6_isHollow_139 (by decide) ?_
                  exact ih_604 z_627 g_31 (by omega) (by omega) (by omega) (by omega) _ _ hP hD hS ls (lv_sub hl [0, 2, 3, 4, 5, 6] rfl)
                · have c_625 : z_623.toInt = z_624.toInt := f_eq rfl rfl c_625
                  refine lv_iload hx hb dX6_isHollow_75 (lv_at hl 0 rfl) ?_
                  refine lv_iload_n hx hb dX6_isHollow_77 rfl (lv_at hl 3 rfl) ?_
                  refine lv_icmp_ge (tgt := 85) hx hb dX6_isHollow_78 (by decide) (fun c_628 => ?_) (fun c_628 => ?_)
                  · have c_628 : p1.toInt ≤ g_30.toInt := f_le rfl rfl c_628
                    refine lv_iconst (v := 0) hx hb dX6_isHollow_85 (by decide) ?_
                    refine lv_istore (lv' := [(6, .int 0), (5, .int g_30), (4, .int g_31), (0, .ref h0), (1, .int p1), (2, .int p2), (3, .int p3)]) hx hb dX6_isHollow_86 hl (by decide) rfl (fun ls hl => ?_)
                    refine lv_iload hx hb dX6_isHollow_88 (lv_at hl 0 rfl) ?_
                    refine lv_if_eq (tgt := 136) hx hb dX6_isHollow_90 (by decide) (fun c_629 => ?_) (fun c_629 => absurd c_629 (by decide))
                    obtain ⟨z_630, ez_630⟩ : ∃ y : Int32, y = g_30 + 1 := ⟨_, rfl⟩
                    have hz_630 : z_630.toInt = g_30.toInt + 1 := by rw [ez_630]; exact t_add rfl tI_1 (by omega) (by omega)
                    refine lv_iinc (v := z_630) (lv' := [(5, .int z_630), (6, .int 0), (4, .int g_31), (0, .ref h0), (1, .int p1), (2, .int p2), (3, .int p3)]) hx hb dX6_isHollow_136 hl (k := 1) rfl (by rw [ez_630]; rfl) (by decide) rfl (fun ls hl => ?_)
                    refine lv_goto (tgt := 34) hx hb dX6_isHollow_139 (by decide) ?_
                    exact ih_604 z_630 g_31 (by omega) (by omega) (by omega) (by omega) _ _ hP hD hS ls (lv_sub hl [0, 2, 3, 4, 5, 6] rfl)
                  · have c_628 : g_30.toInt < p1.toInt := f_nle rfl rfl c_628
                    refine lv_iconst (v := 1) hx hb dX6_isHollow_81 (by decide) ?_
                    refine lv_goto (tgt := 86) hx hb dX6_isHollow_82 (by decide) ?_
                    refine lv_istore (lv' := [(6, .int 1), (5, .int g_30), (4, .int g_31), (0, .ref h0), (1, .int p1), (2, .int p2), (3, .int p3)]) hx hb dX6_isHollow_86 hl (by decide) rfl (fun ls hl => ?_)
                    refine lv_iload hx hb dX6_isHollow_88 (lv_at hl 0 rfl) ?_
                    refine lv_if_eq (tgt := 136) hx hb dX6_isHollow_90 (by decide) (fun c_631 => absurd c_631 (by decide)) (fun c_631 => ?_)
                    refine lv_aload_n hx hb dX6_isHollow_93 rfl (lv_at hl 3 rfl) ?_
                    refine lv_iload hx hb dX6_isHollow_94 (lv_at hl 1 rfl) ?_
                    refine lv_aload_n hx hb dX6_isHollow_96 rfl (lv_at hl 3 rfl) ?_
                    refine va_get (D := (dC, dI)) (ci := 4) (v := .ref (r0 0)) (C := RX6) (T := TX6) (N := 12) hx hb hts iw_X6_isHollow_X6 hown hK hP 0 rfl rfl 1 (by decide) (hts (.fieldLink RX6 15 "HungFloors$Papers" "office" "[I") (by decide +kernel)) (fun _ h9 => h9) rfl dX6_isHollow_97 ?_
                    refine lv_iload_n hx hb dX6_isHollow_100 rfl (lv_at hl 4 rfl) ?_
                    refine va_iald hx hb hK hP 1 1 rfl rfl (v_in rfl (by omega) (by omega)) dX6_isHollow_101 ?_
                    refine lv_topi (fun z_632 ez_632 => ?_)
                    refine lv_aload_n hx hb dX6_isHollow_102 rfl (lv_at hl 3 rfl) ?_
                    refine va_get (D := (dC, dI)) (ci := 4) (v := .ref (r0 2)) (C := RX6) (T := TX6) (N := 12) hx hb hts iw_X6_isHollow_X6 hown hK hP 0 rfl rfl 3 (by decide) (hts (.fieldLink RX6 22 "HungFloors$Papers" "drawing" "[I") (by decide +kernel)) (fun _ h9 => h9) rfl dX6_isHollow_103 ?_
                    refine lv_iload_n hx hb dX6_isHollow_106 rfl (lv_at hl 4 rfl) ?_
                    refine va_iald hx hb hK hP 3 1 rfl rfl (v_in rfl (by omega) (by omega)) dX6_isHollow_107 ?_
                    refine lv_topi (fun z_633 ez_633 => ?_)
                    have hpm : List.Perm ([[(h0, .inr (4, [.int pc0, .ref (r0 0), .ref (r0 1), .ref (r0 2), .ref (r0 3), .ref (r0 4), .ref (r0 5), .ref (r0 6), .int sc_10, .ref (r0 7), .ref (r0 8), .ref (r0 9)])), (r0 0, .inl (cI, 60, .inl f_3)), (r0 1, .inl (cI, 60, .inl f_4)), (r0 2, .inl (cI, 60, .inl f_5)), (r0 3, .inl (cI, 60, .inl f_6)), (r0 4, .inl (cZ, 60, .inl f_7)), (r0 5, .inl (cI, 60, .inl f_8)), (r0 6, .inl (cI, 60, .inl f_9)), (r0 7, .inl (cI, 9, .inl f_13)), (r0 8, .inl (cI, 9, .inl f_15)), (r0 9, .inl (cI, 9, .inl f_16))]] : List va_W) (([[(h0, .inr (4, [.int pc0, .ref (r0 0), .ref (r0 1), .ref (r0 2), .ref (r0 3), .ref (r0 4), .ref (r0 5), .ref (r0 6), .int sc_10, .ref (r0 7), .ref (r0 8), .ref (r0 9)])), (r0 0, .inl (cI, 60, .inl f_3)), (r0 1, .inl (cI, 60, .inl f_4)), (r0 2, .inl (cI, 60, .inl f_5)), (r0 3, .inl (cI, 60, .inl f_6)), (r0 4, .inl (cZ, 60, .inl f_7)), (r0 5, .inl (cI, 60, .inl f_8)), (r0 6, .inl (cI, 60, .inl f_9)), (r0 7, .inl (cI, 9, .inl f_13)), (r0 8, .inl (cI, 9, .inl f_15)), (r0 9, .inl (cI, 9, .inl f_16))]] : List va_W) ++ ([] : List va_W)) := pm_n 1 [0] (by decide) rfl rfl
                    have hPc := bk_P hpm hP
                    have hDc := bk_D hpm hD
                    have hFc := bk_F hpm hD hS hA
                    refine va_calli (va_runV (As := [.int g_30, .int z_632, .int z_633]) (rest := []) ⟨hx, hb, hml, hown, hts⟩ (c_X6_isOf l dC dI ad tN fN cB cI cJ cZ h0 g_30 z_632 z_633 r0 pc0 _ ⟨f_3, f_4, f_5, f_6, f_7, f_8, f_9, sc_10, f_13, f_15, f_16, rfl, by omega, by omega, by omega, by omega, hr_14⟩ H.size (by omega) (by omega)) (cwV 3 hts gX6_isHollow_X6_isOf rfl rfl rfl (by decide +kernel) ⟨(Nat.le_of_ble_eq_true rfl), (Nat.le_of_ble_eq_true rfl)⟩) ⟨fun a U g mk q => by obtain ⟨q0, q1, qP, qK, qD, qE⟩ := q; exact ⟨q0, q1, qP, va_K.moved (u := U) (U := U.calling g mk a) (Vm.Alike.refl U.vm) qK, qD, ey_blind qE⟩, va_recv hK hPc (ci := 4) (q0 := 0) rfl rfl, fun U hU hW => ⟨rfl, by rw [hU], by rw [hU]; exact hPc, va_K.moved hW.alike hK, hDc.weaken (fun _ _ _ _ => trivial), ey_call hE hS hFc hU hW⟩⟩ rfl rfl hl.1 rfl (lv_room (Nat.le_of_ble_eq_true rfl)) dX6_isHollow_108 ⟨(Nat.le_of_ble_eq_true rfl), (Nat.le_of_ble_eq_true rfl)⟩) hS (fun q _ h => hFc q h) hFc (fun r_634 u t H locs ht hvm hw hB hz1 hk1 hS => ?_)
                    obtain ⟨hP1, hD1⟩ := hB
                    rw [ht] at hP1
                    obtain ⟨hP, hD⟩ := bk_join hpm hP hD hk1 hFc (Cs1 := [[(h0, .inr (4, [.int pc0, .ref (r0 0), .ref (r0 1), .ref (r0 2), .ref (r0 3), .ref (r0 4), .ref (r0 5), .ref (r0 6), .int sc_10, .ref (r0 7), .ref (r0 8), .ref (r0 9)])), (r0 0, .inl (cI, 60, .inl f_3)), (r0 1, .inl (cI, 60, .inl f_4)), (r0 2, .inl (cI, 60, .inl f_5)), (r0 3, .inl (cI, 60, .inl f_6)), (r0 4, .inl (cZ, 60, .inl f_7)), (r0 5, .inl (cI, 60, .inl f_8)), (r0 6, .inl (cI, 60, .inl f_9)), (r0 7, .inl (cI, 9, .inl f_13)), (r0 8, .inl (cI, 9, .inl f_15)), (r0 9, .inl (cI, 9, .inl f_16))]]) hP1 hD1
                    have hpm2 : List.Perm (([[(h0, .inr (4, [.int pc0, .ref (r0 0), .ref (r0 1), .ref (r0 2), .ref (r0 3), .ref (r0 4), .ref (r0 5), .ref (r0 6), .int sc_10, .ref (r0 7), .ref (r0 8), .ref (r0 9)])), (r0 0, .inl (cI, 60, .inl f_3)), (r0 1, .inl (cI, 60, .inl f_4)), (r0 2, .inl (cI, 60, .inl f_5)), (r0 3, .inl (cI, 60, .inl f_6)), (r0 4, .inl (cZ, 60, .inl f_7)), (r0 5, .inl (cI, 60, .inl f_8)), (r0 6, .inl (cI, 60, .inl f_9)), (r0 7, .inl (cI, 9, .inl f_13)), (r0 8, .inl (cI, 9, .inl f_15)), (r0 9, .inl (cI, 9, .inl f_16))]] : List va_W) ++ ([] : List va_W)) ([[(h0, .inr (4, [.int pc0, .ref (r0 0), .ref (r0 1), .ref (r0 2), .ref (r0 3), .ref (r0 4), .ref (r0 5), .ref (r0 6), .int sc_10, .ref (r0 7), .ref (r0 8), .ref (r0 9)])), (r0 0, .inl (cI, 60, .inl f_3)), (r0 1, .inl (cI, 60, .inl f_4)), (r0 2, .inl (cI, 60, .inl f_5)), (r0 3, .inl (cI, 60, .inl f_6)), (r0 4, .inl (cZ, 60, .inl f_7)), (r0 5, .inl (cI, 60, .inl f_8)), (r0 6, .inl (cI, 60, .inl f_9)), (r0 7, .inl (cI, 9, .inl f_13)), (r0 8, .inl (cI, 9, .inl f_15)), (r0 9, .inl (cI, 9, .inl f_16))]] : List va_W) := pm_n 1 [0] (by decide) rfl rfl
                    have hP := bk_reP hpm2 hP
                    have hD := bk_reD hpm2 hD
                    have hP : va_P (dC, dI) vwCl (List.flatten [[(h0, .inr (4, [.int pc0, .ref (r0 0), .ref (r0 1), .ref (r0 2), .ref (r0 3), .ref (r0 4), .ref (r0 5), .ref (r0 6), .int sc_10, .ref (r0 7), .ref (r0 8), .ref (r0 9)])), (r0 0, .inl (cI, 60, .inl f_3)), (r0 1, .inl (cI, 60, .inl f_4)), (r0 2, .inl (cI, 60, .inl f_5)), (r0 3, .inl (cI, 60, .inl f_6)), (r0 4, .inl (cZ, 60, .inl f_7)), (r0 5, .inl (cI, 60, .inl f_8)), (r0 6, .inl (cI, 60, .inl f_9)), (r0 7, .inl (cI, 9, .inl f_13)), (r0 8, .inl (cI, 9, .inl f_15)), (r0 9, .inl (cI, 9, .inl f_16))]]) H := hP
                    have hD : va_D A (List.flatten [[(h0, .inr (4, [.int pc0, .ref (r0 0), .ref (r0 1), .ref (r0 2), .ref (r0 3), .ref (r0 4), .ref (r0 5), .ref (r0 6), .int sc_10, .ref (r0 7), .ref (r0 8), .ref (r0 9)])), (r0 0, .inl (cI, 60, .inl f_3)), (r0 1, .inl (cI, 60, .inl f_4)), (r0 2, .inl (cI, 60, .inl f_5)), (r0 3, .inl (cI, 60, .inl f_6)), (r0 4, .inl (cZ, 60, .inl f_7)), (r0 5, .inl (cI, 60, .inl f_8)), (r0 6, .inl (cI, 60, .inl f_9)), (r0 7, .inl (cI, 9, .inl f_13)), (r0 8, .inl (cI, 9, .inl f_15)), (r0 9, .inl (cI, 9, .inl f_16))]]) := hD
                    obtain ⟨hlr_634, hhr_634⟩ := hw
                    refine lv_if_eq (tgt := 136) hx hb dX6_isHollow_111 (by decide) (fun c_635 => ?_) (fun c_635 => ?_)
                    · have c_635 : r_634.toInt = 0 := f_eq rfl tI_0 c_635
                      obtain ⟨z_636, ez_636⟩ : ∃ y : Int32, y = g_30 + 1 := ⟨_, rfl⟩
                      have hz_636 : z_636.toInt = g_30.toInt + 1 := by rw [ez_636]; exact t_add rfl tI_1 (by omega) (by omega)
                      refine lv_iinc (v := z_636) (lv' := [(5, .int z_636), (6, .int 1), (4, .int g_31), (0, .ref h0), (1, .int p1), (2, .int p2), (3, .int p3)]) hx hb dX6_isHollow_136 hl (k := 1) rfl (by rw [ez_636]; rfl) (by decide) rfl (fun ls hl => ?_)
                      refine lv_goto (tgt := 34) hx hb dX6_isHollow_139 (by decide) ?_
                      exact ih_604 z_636 g_31 (by omega) (by omega) (by omega) (by omega) _ _ hP hD hS ls (lv_sub hl [0, 2, 3, 4, 5, 6] rfl)
                    · have c_635 : ¬ r_634.toInt = 0 := f_ne rfl tI_0 c_635
                      refine lv_aload_n hx hb dX6_isHollow_114 rfl (lv_at hl 3 rfl) ?_
                      refine lv_iload hx hb dX6_isHollow_115 (lv_at hl 1 rfl) ?_
                      refine lv_iload_n hx hb dX6_isHollow_117 rfl (lv_at hl 6 rfl) ?_
                      have hpm : List.Perm ([[(h0, .inr (4, [.int pc0, .ref (r0 0), .ref (r0 1), .ref (r0 2), .ref (r0 3), .ref (r0 4), .ref (r0 5), .ref (r0 6), .int sc_10, .ref (r0 7), .ref (r0 8), .ref (r0 9)])), (r0 0, .inl (cI, 60, .inl f_3)), (r0 1, .inl (cI, 60, .inl f_4)), (r0 2, .inl (cI, 60, .inl f_5)), (r0 3, .inl (cI, 60, .inl f_6)), (r0 4, .inl (cZ, 60, .inl f_7)), (r0 5, .inl (cI, 60, .inl f_8)), (r0 6, .inl (cI, 60, .inl f_9)), (r0 7, .inl (cI, 9, .inl f_13)), (r0 8, .inl (cI, 9, .inl f_15)), (r0 9, .inl (cI, 9, .inl f_16))]] : List va_W) (([[(h0, .inr (4, [.int pc0, .ref (r0 0), .ref (r0 1), .ref (r0 2), .ref (r0 3), .ref (r0 4), .ref (r0 5), .ref (r0 6), .int sc_10, .ref (r0 7), .ref (r0 8), .ref (r0 9)])), (r0 0, .inl (cI, 60, .inl f_3)), (r0 1, .inl (cI, 60, .inl f_4)), (r0 2, .inl (cI, 60, .inl f_5)), (r0 3, .inl (cI, 60, .inl f_6)), (r0 4, .inl (cZ, 60, .inl f_7)), (r0 5, .inl (cI, 60, .inl f_8)), (r0 6, .inl (cI, 60, .inl f_9)), (r0 7, .inl (cI, 9, .inl f_13)), (r0 8, .inl (cI, 9, .inl f_15)), (r0 9, .inl (cI, 9, .inl f_16))]] : List va_W) ++ ([] : List va_W)) := pm_n 1 [0] (by decide) rfl rfl
                      have hPc := bk_P hpm hP
                      have hDc := bk_D hpm hD
                      have hFc := bk_F hpm hD hS hA
                      refine va_calli (va_runV (As := [.int g_30, .int p3]) (rest := []) ⟨hx, hb, hml, hown, hts⟩ (c_X6_isKnown l dC dI ad tN fN cB cI cJ cZ h0 g_30 p3 r0 pc0 _ ⟨f_3, f_4, f_5, f_6, f_7, f_8, f_9, sc_10, f_13, f_15, f_16, rfl, by omega, by omega, by omega, by omega, hr_14⟩ H.size (by omega) (by omega)) (cwV 2 hts gX6_isHollow_X6_isKnown rfl rfl rfl (by decide +kernel) ⟨(Nat.le_of_ble_eq_true rfl), (Nat.le_of_ble_eq_true rfl)⟩) ⟨fun a U g mk q => by obtain ⟨q0, q1, qP, qK, qD, qE⟩ := q; exact ⟨q0, q1, qP, va_K.moved (u := U) (U := U.calling g mk a) (Vm.Alike.refl U.vm) qK, qD, ey_blind qE⟩, va_recv hK hPc (ci := 4) (q0 := 0) rfl rfl, fun U hU hW => ⟨rfl, by rw [hU], by rw [hU]; exact hPc, va_K.moved hW.alike hK, hDc.weaken (fun _ _ _ _ => trivial), ey_call hE hS hFc hU hW⟩⟩ rfl rfl hl.1 rfl (lv_room (Nat.le_of_ble_eq_true rfl)) dX6_isHollow_118 ⟨(Nat.le_of_ble_eq_true rfl), (Nat.le_of_ble_eq_true rfl)⟩) hS (fun q _ h => hFc q h) hFc (fun r_637 u t H locs ht hvm hw hB hz1 hk1 hS => ?_)
                      obtain ⟨hP1, hD1⟩ := hB
                      rw [ht] at hP1
                      obtain ⟨hP, hD⟩ := bk_join hpm hP hD hk1 hFc (Cs1 := [[(h0, .inr (4, [.int pc0, .ref (r0 0), .ref (r0 1), .ref (r0 2), .ref (r0 3), .ref (r0 4), .ref (r0 5), .ref (r0 6), .int sc_10, .ref (r0 7), .ref (r0 8), .ref (r0 9)])), (r0 0, .inl (cI, 60, .inl f_3)), (r0 1, .inl (cI, 60, .inl f_4)), (r0 2, .inl (cI, 60, .inl f_5)), (r0 3, .inl (cI, 60, .inl f_6)), (r0 4, .inl (cZ, 60, .inl f_7)), (r0 5, .inl (cI, 60, .inl f_8)), (r0 6, .inl (cI, 60, .inl f_9)), (r0 7, .inl (cI, 9, .inl f_13)), (r0 8, .inl (cI, 9, .inl f_15)), (r0 9, .inl (cI, 9, .inl f_16))]]) hP1 hD1
                      have hpm2 : List.Perm (([[(h0, .inr (4, [.int pc0, .ref (r0 0), .ref (r0 1), .ref (r0 2), .ref (r0 3), .ref (r0 4), .ref (r0 5), .ref (r0 6), .int sc_10, .ref (r0 7), .ref (r0 8), .ref (r0 9)])), (r0 0, .inl (cI, 60, .inl f_3)), (r0 1, .inl (cI, 60, .inl f_4)), (r0 2, .inl (cI, 60, .inl f_5)), (r0 3, .inl (cI, 60, .inl f_6)), (r0 4, .inl (cZ, 60, .inl f_7)), (r0 5, .inl (cI, 60, .inl f_8)), (r0 6, .inl (cI, 60, .inl f_9)), (r0 7, .inl (cI, 9, .inl f_13)), (r0 8, .inl (cI, 9, .inl f_15)), (r0 9, .inl (cI, 9, .inl f_16))]] : List va_W) ++ ([] : List va_W)) ([[(h0, .inr (4, [.int pc0, .ref (r0 0), .ref (r0 1), .ref (r0 2), .ref (r0 3), .ref (r0 4), .ref (r0 5), .ref (r0 6), .int sc_10, .ref (r0 7), .ref (r0 8), .ref (r0 9)])), (r0 0, .inl (cI, 60, .inl f_3)), (r0 1, .inl (cI, 60, .inl f_4)), (r0 2, .inl (cI, 60, .inl f_5)), (r0 3, .inl (cI, 60, .inl f_6)), (r0 4, .inl (cZ, 60, .inl f_7)), (r0 5, .inl (cI, 60, .inl f_8)), (r0 6, .inl (cI, 60, .inl f_9)), (r0 7, .inl (cI, 9, .inl f_13)), (r0 8, .inl (cI, 9, .inl f_15)), (r0 9, .inl (cI, 9, .inl f_16))]] : List va_W) := pm_n 1 [0] (by decide) rfl rfl
                      have hP := bk_reP hpm2 hP
                      have hD := bk_reD hpm2 hD
                      have hP : va_P (dC, dI) vwCl (List.flatten [[(h0, .inr (4, [.int pc0, .ref (r0 0), .ref (r0 1), .ref (r0 2), .ref (r0 3), .ref (r0 4), .ref (r0 5), .ref (r0 6), .int sc_10, .ref (r0 7), .ref (r0 8), .ref (r0 9)])), (r0 0, .inl (cI, 60, .inl f_3)), (r0 1, .inl (cI, 60, .inl f_4)), (r0 2, .inl (cI, 60, .inl f_5)), (r0 3, .inl (cI, 60, .inl f_6)), (r0 4, .inl (cZ, 60, .inl f_7)), (r0 5, .inl (cI, 60, .inl f_8)), (r0 6, .inl (cI, 60, .inl f_9)), (r0 7, .inl (cI, 9, .inl f_13)), (r0 8, .inl (cI, 9, .inl f_15)), (r0 9, .inl (cI, 9, .inl f_16))]]) H := hP
                      have hD : va_D A (List.flatten [[(h0, .inr (4, [.int pc0, .ref (r0 0), .ref (r0 1), .ref (r0 2), .ref (r0 3), .ref (r0 4), .ref (r0 5), .ref (r0 6), .int sc_10, .ref (r0 7), .ref (r0 8), .ref (r0 9)])), (r0 0, .inl (cI, 60, .inl f_3)), (r0 1, .inl (cI, 60, .inl f_4)), (r0 2, .inl (cI, 60, .inl f_5)), (r0 3, .inl (cI, 60, .inl f_6)), (r0 4, .inl (cZ, 60, .inl f_7)), (r0 5, .inl (cI, 60, .inl f_8)), (r0 6, .inl (cI, 60, .inl f_9)), (r0 7, .inl (cI, 9, .inl f_13)), (r0 8, .inl (cI, 9, .inl f_15)), (r0 9, .inl (cI, 9, .inl f_16))]]) := hD
                      obtain ⟨hlr_637, hhr_637⟩ := hw
                      refine lv_if_eq (tgt := 136) hx hb dX6_isHollow_121 (by decide) (fun c_638 => ?_) (fun c_638 => ?_)
                      · have c_638 : r_637.toInt = 0 := f_eq rfl tI_0 c_638
                        obtain ⟨z_639, ez_639⟩ : ∃ y : Int32, y = g_30 + 1 := ⟨_, rfl⟩
                        have hz_639 : z_639.toInt = g_30.toInt + 1 := by rw [ez_639]; exact t_add rfl tI_1 (by omega) (by omega)
                        refine lv_iinc (v := z_639) (lv' := [(5, .int z_639), (6, .int 1), (4, .int g_31), (0, .ref h0), (1, .int p1), (2, .int p2), (3, .int p3)]) hx hb dX6_isHollow_136 hl (k := 1) rfl (by rw [ez_639]; rfl) (by decide) rfl (fun ls hl => ?_)
                        refine lv_goto (tgt := 34) hx hb dX6_isHollow_139 (by decide) ?_
                        exact ih_604 z_639 g_31 (by omega) (by omega) (by omega) (by omega) _ _ hP hD hS ls (lv_sub hl [0, 2, 3, 4, 5, 6] rfl)
                      · have c_638 : ¬ r_637.toInt = 0 := f_ne rfl tI_0 c_638
                        refine lv_iload hx hb dX6_isHollow_124 (lv_at hl 2 rfl) ?_
                        refine lv_aload_n hx hb dX6_isHollow_126 rfl (lv_at hl 3 rfl) ?_
                        refine va_get (D := (dC, dI)) (ci := 4) (v := .ref (r0 3)) (C := RX6) (T := TX6) (N := 12) hx hb hts iw_X6_isHollow_X6 hown hK hP 0 rfl rfl 4 (by decide) (hts (.fieldLink RX6 25 "HungFloors$Papers" "hours" "[I") (by decide +kernel)) (fun _ h9 => h9) rfl dX6_isHollow_127 ?_
                        refine lv_iload hx hb dX6_isHollow_130 (lv_at hl 1 rfl) ?_
                        refine va_iald hx hb hK hP 4 1 rfl rfl (v_in rfl (by omega) (by omega)) dX6_isHollow_132 ?_
                        refine lv_topi (fun z_640 ez_640 => ?_)
                        refine lv_isub hx hb dX6_isHollow_133 ?_
                        refine lv_topi (fun z_641 ez_641 => ?_)
                        refine lv_istore (lv' := [(4, .int z_641), (6, .int 1), (5, .int g_30), (0, .ref h0), (1, .int p1), (2, .int p2), (3, .int p3)]) hx hb dX6_isHollow_134 hl (by decide) rfl (fun ls hl => ?_)
                        obtain ⟨z_642, ez_642⟩ : ∃ y : Int32, y = g_30 + 1 := ⟨_, rfl⟩
                        have hz_642 : z_642.toInt = g_30.toInt + 1 := by rw [ez_642]; exact t_add rfl tI_1 (by omega) (by omega)
                        refine lv_iinc (v := z_642) (lv' := [(5, .int z_642), (4, .int z_641), (6, .int 1), (0, .ref h0), (1, .int p1), (2, .int p2), (3, .int p3)]) hx hb dX6_isHollow_136 hl (k := 2) rfl (by rw [ez_642]; rfl) (by decide) rfl (fun ls hl => ?_)
                        refine lv_goto (tgt := 34) hx hb dX6_isHollow_139 (by decide) ?_
                        exact ih_604 z_642 z_641 (by omega) (by omega) (by omega) (by omega) _ _ hP hD hS ls (lv_sub hl [0, 1, 3, 4, 5, 6] rfl)
        exact lp_603 _ 0 p2 (by have := tI_0; omega) (by have := tI_0; omega) (by have := tI_0; omega) (Nat.lt_succ_self _) _ _ hP hD hS ls (lv_sub hl [0, 1, 2, 3, 4, 5] rfl)
      · have c_29 : r_28.toInt = 0 := f_eq rfl tI_0 c_29
        refine lv_iconst (v := 0) hx hb dX6_isHollow_26 (by decide) ?_
        rw [hQ0]
        exact W.zret (v := 0) hx hb hr (by decide) (fun t ht hW => ⟨⟨0, (), rfl, ⟨by decide, by decide⟩, ⟨by rw [ht]; exact hP, hD⟩⟩, hS.F ht⟩) hS.2.2 dX6_isHollow_27
theorem iw_X6_letBear_X6 : ∀ w ∈ wsX60, w ∈ wsX6_letBear := fun _ h => List.mem_cons_of_mem _ (List.mem_append_right _ h)
set_option maxHeartbeats 4000000 in
set_option maxRecDepth 100000 in
theorem c_X6_letBear (l : Launch) (dC : Nat → ClassId) (dI : Nat → Nat → Nat) (ad : Nat → Nat) (tN : Nat) (fN : Nat → Int64) (cB cI cJ cZ : ClassId) (h0 : Nat) (p1 : Int32) (p2 : Int32) (p3 : Int32) (r0 : Nat → Nat) (pc0 : Int32) (w0 : va_W) (o0 : ok_pap ad cB cI cJ cZ h0 r0 pc0 w0) (sz : Nat) : Met l yX6_letBear wsX6_letBear ({ frames := 1, cells := 0, slots := 0, locals := 21 } : Room) (va_Pc [.ref h0, .int p1, .int p2, .int p3] (fun U => U.heap.size = sz ∧ va_P (dC, dI) vwCl (List.flatten [w0]) U.heap ∧ va_K (dC, dI) vwCl [(cB, .byte), (cI, .int), (cJ, .long), (cZ, .boolean)] U ∧ va_D (fun _ => True) (List.flatten [w0]) ∧ ex_Y ad tN fN (va_A (List.flatten [w0]) sz) U)) (va_Qi (fun (r : Int32) (_ : Unit) => 0 ≤ r.toInt ∧ r.toInt ≤ 1) (fun (_ : Unit) (t : State) => ∃ (w09 : va_W), ok_pap ad cB cI cJ cZ h0 r0 pc0 w09 ∧ va_P (dC, dI) vwCl (List.flatten [w09]) t.heap ∧ va_D (va_A (List.flatten [w0]) sz) (List.flatten [w09])) (va_A (List.flatten [w0]) sz)) 0 0 (va_A (List.flatten [w0]) sz) := by
  refine Met.ofW (cc := cX6_letBear) (maxL := 5) (ret := (some .boolean)) (by decide) rfl ?_
  intro p e s m args below meth c s₁ B hml hv
  obtain ⟨rfl, hsz, hP, hK, hD0, hE⟩ := hv
  have hx := B.exec
  have hb := B.bytes
  have hr := B.returns
  have hts := atoms_spec (ws := wsX6_letBear) B.pre
  have hown : s.vm.findClass RX6 = some m.cls := findClass_of_methodNamed B.named
  have hlocks := B.notSynchronized
  subst hsz
  have hD := hD0.self (sz := s.heap.size)
  generalize hAe : va_A (List.flatten [w0]) s.heap.size = A at hD hE ⊢
  have hA : ∀ q : Nat, s.heap.size ≤ q → A q := fun q h => by rw [← hAe]; exact Or.inr h
  have hS : va_S A s.heap s.heap [] := va_S.rf
  have hl := lv_entry ([.ref h0, .int p1, .int p2, .int p3]) (n := 5) (Nat.le_of_ble_eq_true rfl)
  rw [lg_entry_eq]
  generalize (lg_sl ([.ref h0, .int p1, .int p2, .int p3]) ++ List.replicate (5 - (lg_sl ([.ref h0, .int p1, .int p2, .int p3])).length) Slot.unset).toArray = ls at hl ⊢
  have hl : lv_has ls 5 [(0, .ref h0), (1, .int p1), (2, .int p2), (3, .int p3)] := hl
  clear hAe
  refine W_name (fun Q0 hQ0 => ?_)
  refine lv_aload_n hx hb dX6_letBear_0 rfl (lv_at hl 0 rfl) ?_
  refine lv_iload_n hx hb dX6_letBear_1 rfl (lv_at hl 1 rfl) ?_
  obtain ⟨f_3, f_4, f_5, f_6, f_7, f_8, f_9, sc_10, f_13, f_15, f_16, rfl, hl_1, hh_2, hl_11, hh_12, hr_14⟩ := o0
  have hpm : List.Perm ([[(h0, .inr (4, [.int pc0, .ref (r0 0), .ref (r0 1), .ref (r0 2), .ref (r0 3), .ref (r0 4), .ref (r0 5), .ref (r0 6), .int sc_10, .ref (r0 7), .ref (r0 8), .ref (r0 9)])), (r0 0, .inl (cI, 60, .inl f_3)), (r0 1, .inl (cI, 60, .inl f_4)), (r0 2, .inl (cI, 60, .inl f_5)), (r0 3, .inl (cI, 60, .inl f_6)), (r0 4, .inl (cZ, 60, .inl f_7)), (r0 5, .inl (cI, 60, .inl f_8)), (r0 6, .inl (cI, 60, .inl f_9)), (r0 7, .inl (cI, 9, .inl f_13)), (r0 8, .inl (cI, 9, .inl f_15)), (r0 9, .inl (cI, 9, .inl f_16))]] : List va_W) (([[(h0, .inr (4, [.int pc0, .ref (r0 0), .ref (r0 1), .ref (r0 2), .ref (r0 3), .ref (r0 4), .ref (r0 5), .ref (r0 6), .int sc_10, .ref (r0 7), .ref (r0 8), .ref (r0 9)])), (r0 0, .inl (cI, 60, .inl f_3)), (r0 1, .inl (cI, 60, .inl f_4)), (r0 2, .inl (cI, 60, .inl f_5)), (r0 3, .inl (cI, 60, .inl f_6)), (r0 4, .inl (cZ, 60, .inl f_7)), (r0 5, .inl (cI, 60, .inl f_8)), (r0 6, .inl (cI, 60, .inl f_9)), (r0 7, .inl (cI, 9, .inl f_13)), (r0 8, .inl (cI, 9, .inl f_15)), (r0 9, .inl (cI, 9, .inl f_16))]] : List va_W) ++ ([] : List va_W)) := pm_n 1 [0] (by decide) rfl rfl
  have hPc := bk_P hpm hP
  have hDc := bk_D hpm hD
  have hFc := bk_F hpm hD hS hA
  refine va_calli (va_runV (As := [.int p1]) (rest := []) ⟨hx, hb, hml, hown, hts⟩ (c_X6_isPaper l dC dI ad tN fN cB cI cJ cZ h0 p1 r0 pc0 _ ⟨f_3, f_4, f_5, f_6, f_7, f_8, f_9, sc_10, f_13, f_15, f_16, rfl, by omega, by omega, by omega, by omega, hr_14⟩ s.heap.size) (cwV 1 hts gX6_letBear_X6_isPaper rfl rfl rfl (by decide +kernel) ⟨(Nat.le_of_ble_eq_true rfl), (Nat.le_of_ble_eq_true rfl)⟩) ⟨fun a U g mk q => by obtain ⟨q0, q1, qP, qK, qD, qE⟩ := q; exact ⟨q0, q1, qP, va_K.moved (u := U) (U := U.calling g mk a) (Vm.Alike.refl U.vm) qK, qD, ey_blind qE⟩, va_recv hK hPc (ci := 4) (q0 := 0) rfl rfl, fun U hU hW => ⟨rfl, by rw [hU], by rw [hU]; exact hPc, va_K.moved hW.alike hK, hDc.weaken (fun _ _ _ _ => trivial), ey_call hE hS hFc hU hW⟩⟩ rfl rfl hl.1 rfl (lv_room (Nat.le_of_ble_eq_true rfl)) dX6_letBear_2 ⟨(Nat.le_of_ble_eq_true rfl), (Nat.le_of_ble_eq_true rfl)⟩) hS (fun q _ h => hFc q h) hFc (fun r_17 u t H locs ht hvm hw hB hz1 hk1 hS => ?_)
  obtain ⟨hP1, hD1⟩ := hB
  rw [ht] at hP1
  obtain ⟨hP, hD⟩ := bk_join hpm hP hD hk1 hFc (Cs1 := [[(h0, .inr (4, [.int pc0, .ref (r0 0), .ref (r0 1), .ref (r0 2), .ref (r0 3), .ref (r0 4), .ref (r0 5), .ref (r0 6), .int sc_10, .ref (r0 7), .ref (r0 8), .ref (r0 9)])), (r0 0, .inl (cI, 60, .inl f_3)), (r0 1, .inl (cI, 60, .inl f_4)), (r0 2, .inl (cI, 60, .inl f_5)), (r0 3, .inl (cI, 60, .inl f_6)), (r0 4, .inl (cZ, 60, .inl f_7)), (r0 5, .inl (cI, 60, .inl f_8)), (r0 6, .inl (cI, 60, .inl f_9)), (r0 7, .inl (cI, 9, .inl f_13)), (r0 8, .inl (cI, 9, .inl f_15)), (r0 9, .inl (cI, 9, .inl f_16))]]) hP1 hD1
  have hpm2 : List.Perm (([[(h0, .inr (4, [.int pc0, .ref (r0 0), .ref (r0 1), .ref (r0 2), .ref (r0 3), .ref (r0 4), .ref (r0 5), .ref (r0 6), .int sc_10, .ref (r0 7), .ref (r0 8), .ref (r0 9)])), (r0 0, .inl (cI, 60, .inl f_3)), (r0 1, .inl (cI, 60, .inl f_4)), (r0 2, .inl (cI, 60, .inl f_5)), (r0 3, .inl (cI, 60, .inl f_6)), (r0 4, .inl (cZ, 60, .inl f_7)), (r0 5, .inl (cI, 60, .inl f_8)), (r0 6, .inl (cI, 60, .inl f_9)), (r0 7, .inl (cI, 9, .inl f_13)), (r0 8, .inl (cI, 9, .inl f_15)), (r0 9, .inl (cI, 9, .inl f_16))]] : List va_W) ++ ([] : List va_W)) ([[(h0, .inr (4, [.int pc0, .ref (r0 0), .ref (r0 1), .ref (r0 2), .ref (r0 3), .ref (r0 4), .ref (r0 5), .ref (r0 6), .int sc_10, .ref (r0 7), .ref (r0 8), .ref (r0 9)])), (r0 0, .inl (cI, 60, .inl f_3)), (r0 1, .inl (cI, 60, .inl f_4)), (r0 2, .inl (cI, 60, .inl f_5)), (r0 3, .inl (cI, 60, .inl f_6)), (r0 4, .inl (cZ, 60, .inl f_7)), (r0 5, .inl (cI, 60, .inl f_8)), (r0 6, .inl (cI, 60, .inl f_9)), (r0 7, .inl (cI, 9, .inl f_13)), (r0 8, .inl (cI, 9, .inl f_15)), (r0 9, .inl (cI, 9, .inl f_16))]] : List va_W) := pm_n 1 [0] (by decide) rfl rfl
  have hP := bk_reP hpm2 hP
  have hD := bk_reD hpm2 hD
  have hP : va_P (dC, dI) vwCl (List.flatten [[(h0, .inr (4, [.int pc0, .ref (r0 0), .ref (r0 1), .ref (r0 2), .ref (r0 3), .ref (r0 4), .ref (r0 5), .ref (r0 6), .int sc_10, .ref (r0 7), .ref (r0 8), .ref (r0 9)])), (r0 0, .inl (cI, 60, .inl f_3)), (r0 1, .inl (cI, 60, .inl f_4)), (r0 2, .inl (cI, 60, .inl f_5)), (r0 3, .inl (cI, 60, .inl f_6)), (r0 4, .inl (cZ, 60, .inl f_7)), (r0 5, .inl (cI, 60, .inl f_8)), (r0 6, .inl (cI, 60, .inl f_9)), (r0 7, .inl (cI, 9, .inl f_13)), (r0 8, .inl (cI, 9, .inl f_15)), (r0 9, .inl (cI, 9, .inl f_16))]]) H := hP
  have hD : va_D A (List.flatten [[(h0, .inr (4, [.int pc0, .ref (r0 0), .ref (r0 1), .ref (r0 2), .ref (r0 3), .ref (r0 4), .ref (r0 5), .ref (r0 6), .int sc_10, .ref (r0 7), .ref (r0 8), .ref (r0 9)])), (r0 0, .inl (cI, 60, .inl f_3)), (r0 1, .inl (cI, 60, .inl f_4)), (r0 2, .inl (cI, 60, .inl f_5)), (r0 3, .inl (cI, 60, .inl f_6)), (r0 4, .inl (cZ, 60, .inl f_7)), (r0 5, .inl (cI, 60, .inl f_8)), (r0 6, .inl (cI, 60, .inl f_9)), (r0 7, .inl (cI, 9, .inl f_13)), (r0 8, .inl (cI, 9, .inl f_15)), (r0 9, .inl (cI, 9, .inl f_16))]]) := hD
  rcases hw with ⟨rfl, c_18⟩ | ⟨rfl, c_19, c_20⟩ | ⟨rfl, c_21, c_22⟩
  · refine lv_if_eq (tgt := 17) hx hb dX6_letBear_5 (by decide) (fun c_23 => ?_) (fun c_23 => absurd c_23 (by decide))
    refine lv_iconst (v := 0) hx hb dX6_letBear_17 (by decide) ?_
    rw [hQ0]
    exact W.zret (v := 0) hx hb hr (by decide) (fun t ht hW => ⟨⟨0, (), rfl, ⟨by decide, by decide⟩, ⟨_, ⟨f_3, f_4, f_5, f_6, f_7, f_8, f_9, sc_10, f_13, f_15, f_16, rfl, by omega, by omega, by omega, by omega, hr_14⟩, by rw [ht]; exact hP, hD⟩⟩, hS.F ht⟩) hS.2.2 dX6_letBear_18
  · refine lv_if_eq (tgt := 17) hx hb dX6_letBear_5 (by decide) (fun c_24 => ?_) (fun c_24 => absurd c_24 (by decide))
    refine lv_iconst (v := 0) hx hb dX6_letBear_17 (by decide) ?_
    rw [hQ0]
    exact W.zret (v := 0) hx hb hr (by decide) (fun t ht hW => ⟨⟨0, (), rfl, ⟨by decide, by decide⟩, ⟨_, ⟨f_3, f_4, f_5, f_6, f_7, f_8, f_9, sc_10, f_13, f_15, f_16, rfl, by omega, by omega, by omega, by omega, hr_14⟩, by rw [ht]; exact hP, hD⟩⟩, hS.F ht⟩) hS.2.2 dX6_letBear_18
  · refine lv_if_eq (tgt := 17) hx hb dX6_letBear_5 (by decide) (fun c_25 => absurd c_25 (by decide)) (fun c_25 => ?_)
    refine lv_aload_n hx hb dX6_letBear_8 rfl (lv_at hl 0 rfl) ?_
    refine va_get (D := (dC, dI)) (ci := 4) (v := .int sc_10) (C := RX6) (T := TX6) (N := 12) hx hb hts iw_X6_letBear_X6 hown hK hP 0 rfl rfl 8 (by decide) (hts (.fieldLink RX6 38 "HungFloors$Papers" "storyCount" "I") (by decide +kernel)) (fun _ h9 => h9) rfl dX6_letBear_9 ?_
    refine lv_bipush (v := 9) hx hb dX6_letBear_12 (by decide) ?_
    refine lv_icmp_lt (tgt := 19) hx hb dX6_letBear_14 (by decide) (fun c_26 => ?_) (fun c_26 => ?_)
    · have c_26 : sc_10.toInt < 9 := f_lt rfl tI_9 c_26
      refine lv_iconst (v := 0) hx hb dX6_letBear_19 (by decide) ?_
      refine lv_istore (lv' := [(4, .int 0), (0, .ref h0), (1, .int p1), (2, .int p2), (3, .int p3)]) hx hb dX6_letBear_20 hl (by decide) rfl (fun ls hl => ?_)
      have lp_112 : ∀ (n : Nat) (g_27 : Int32), 0 ≤ g_27.toInt → g_27.toInt ≤ 8 → g_27.toInt - sc_10.toInt ≤ 0 → (8 - g_27.toInt).toNat < n → ∀ (H : Heap) (locs : List Loc), va_P (dC, dI) vwCl (List.flatten [[(h0, .inr (4, [.int pc0, .ref (r0 0), .ref (r0 1), .ref (r0 2), .ref (r0 3), .ref (r0 4), .ref (r0 5), .ref (r0 6), .int sc_10, .ref (r0 7), .ref (r0 8), .ref (r0 9)])), (r0 0, .inl (cI, 60, .inl f_3)), (r0 1, .inl (cI, 60, .inl f_4)), (r0 2, .inl (cI, 60, .inl f_5)), (r0 3, .inl (cI, 60, .inl f_6)), (r0 4, .inl (cZ, 60, .inl f_7)), (r0 5, .inl (cI, 60, .inl f_8)), (r0 6, .inl (cI, 60, .inl f_9)), (r0 7, .inl (cI, 9, .inl f_13)), (r0 8, .inl (cI, 9, .inl f_15)), (r0 9, .inl (cI, 9, .inl f_16))]]) H → va_D A (List.flatten [[(h0, .inr (4, [.int pc0, .ref (r0 0), .ref (r0 1), .ref (r0 2), .ref (r0 3), .ref (r0 4), .ref (r0 5), .ref (r0 6), .int sc_10, .ref (r0 7), .ref (r0 8), .ref (r0 9)])), (r0 0, .inl (cI, 60, .inl f_3)), (r0 1, .inl (cI, 60, .inl f_4)), (r0 2, .inl (cI, 60, .inl f_5)), (r0 3, .inl (cI, 60, .inl f_6)), (r0 4, .inl (cZ, 60, .inl f_7)), (r0 5, .inl (cI, 60, .inl f_8)), (r0 6, .inl (cI, 60, .inl f_9)), (r0 7, .inl (cI, 9, .inl f_13)), (r0 8, .inl (cI, 9, .inl f_15)), (r0 9, .inl (cI, 9, .inl f_16))]]) → va_S A s.heap H locs → ∀ (ls : Array Slot), lv_has ls 5 [(4, .int g_27), (0, .ref h0), (1, .int p1), (2, .int p2), (3, .int p3)] → W p l e (headSpec wsX6_letBear ({ frames := 1, cells := 0, slots := 0, locals := 21 } : Room)).room s m ([.ref h0, .int p1, .int p2, .int p3] : List Value).toArray below meth c H locs 0 0 Q0 (F0 m 22 ls []) := by
        intro n
        induction n with
        | zero => intro g_27 iv_109 iv_110 iv_111 hm; exact absurd hm (Nat.not_lt_zero _)
        | succ n ih_113 =>
          intro g_27 iv_109 iv_110 iv_111 hm H locs hP hD hS ls hl
          refine lv_iload hx hb dX6_letBear_22 (lv_at hl 0 rfl) ?_
          refine lv_aload_n hx hb dX6_letBear_24 rfl (lv_at hl 1 rfl) ?_
          refine va_get (D := (dC, dI)) (ci := 4) (v := .int sc_10) (C := RX6) (T := TX6) (N := 12) hx hb hts iw_X6_letBear_X6 hown hK hP 0 rfl rfl 8 (by decide) (hts (.fieldLink RX6 38 "HungFloors$Papers" "storyCount" "I") (by decide +kernel)) (fun _ h9 => h9) rfl dX6_letBear_25 ?_
          refine lv_icmp_ge (tgt := 50) hx hb dX6_letBear_28 (by decide) (fun c_114 => ?_) (fun c_114 => ?_)
          · have c_114 : sc_10.toInt ≤ g_27.toInt := f_le rfl rfl c_114
            refine lv_aload_n hx hb dX6_letBear_50 rfl (lv_at hl 1 rfl) ?_
            refine va_get (D := (dC, dI)) (ci := 4) (v := .ref (r0 7)) (C := RX6) (T := TX6) (N := 12) hx hb hts iw_X6_letBear_X6 hown hK hP 0 rfl rfl 9 (by decide) (hts (.fieldLink RX6 41 "HungFloors$Papers" "storyPaper" "[I") (by decide +kernel)) (fun _ h9 => h9) rfl dX6_letBear_51 ?_
            refine lv_aload_n hx hb dX6_letBear_54 rfl (lv_at hl 1 rfl) ?_
            refine va_get (D := (dC, dI)) (ci := 4) (v := .int sc_10) (C := RX6) (T := TX6) (N := 12) hx hb hts iw_X6_letBear_X6 hown hK hP 0 rfl rfl 8 (by decide) (hts (.fieldLink RX6 38 "HungFloors$Papers" "storyCount" "I") (by decide +kernel)) (fun _ h9 => h9) rfl dX6_letBear_55 ?_
            refine lv_iload_n hx hb dX6_letBear_58 rfl (lv_at hl 2 rfl) ?_
            refine va_iast hx hb hK hP hD hS 8 1 rfl rfl (v_in rfl (by omega) (by omega)) dX6_letBear_59 (fun H locs hP hD hS => ?_)
            obtain ⟨f_115, hr_116, hP, hD⟩ : ∃ f_115 : Nat → Int32, rg (0) 59 f_115 ∧ va_P (dC, dI) vwCl (List.flatten [[(h0, .inr (4, [.int pc0, .ref (r0 0), .ref (r0 1), .ref (r0 2), .ref (r0 3), .ref (r0 4), .ref (r0 5), .ref (r0 6), .int sc_10, .ref (r0 7), .ref (r0 8), .ref (r0 9)])), (r0 0, .inl (cI, 60, .inl f_3)), (r0 1, .inl (cI, 60, .inl f_4)), (r0 2, .inl (cI, 60, .inl f_5)), (r0 3, .inl (cI, 60, .inl f_6)), (r0 4, .inl (cZ, 60, .inl f_7)), (r0 5, .inl (cI, 60, .inl f_8)), (r0 6, .inl (cI, 60, .inl f_9)), (r0 7, .inl (cI, 9, .inl f_115)), (r0 8, .inl (cI, 9, .inl f_15)), (r0 9, .inl (cI, 9, .inl f_16))]]) H ∧ va_D A (List.flatten [[(h0, .inr (4, [.int pc0, .ref (r0 0), .ref (r0 1), .ref (r0 2), .ref (r0 3), .ref (r0 4), .ref (r0 5), .ref (r0 6), .int sc_10, .ref (r0 7), .ref (r0 8), .ref (r0 9)])), (r0 0, .inl (cI, 60, .inl f_3)), (r0 1, .inl (cI, 60, .inl f_4)), (r0 2, .inl (cI, 60, .inl f_5)), (r0 3, .inl (cI, 60, .inl f_6)), (r0 4, .inl (cZ, 60, .inl f_7)), (r0 5, .inl (cI, 60, .inl f_8)), (r0 6, .inl (cI, 60, .inl f_9)), (r0 7, .inl (cI, 9, .inl f_115)), (r0 8, .inl (cI, 9, .inl f_15)), (r0 9, .inl (cI, 9, .inl f_16))]]) := ⟨_, rg_upd hr_14 (by omega) (by omega), hP, hD⟩
            refine lv_aload_n hx hb dX6_letBear_60 rfl (lv_at hl 1 rfl) ?_
            refine va_get (D := (dC, dI)) (ci := 4) (v := .ref (r0 8)) (C := RX6) (T := TX6) (N := 12) hx hb hts iw_X6_letBear_X6 hown hK hP 0 rfl rfl 10 (by decide) (hts (.fieldLink RX6 44 "HungFloors$Papers" "storyOne" "[I") (by decide +kernel)) (fun _ h9 => h9) rfl dX6_letBear_61 ?_
            refine lv_aload_n hx hb dX6_letBear_64 rfl (lv_at hl 1 rfl) ?_
            refine va_get (D := (dC, dI)) (ci := 4) (v := .int sc_10) (C := RX6) (T := TX6) (N := 12) hx hb hts iw_X6_letBear_X6 hown hK hP 0 rfl rfl 8 (by decide) (hts (.fieldLink RX6 38 "HungFloors$Papers" "storyCount" "I") (by decide +kernel)) (fun _ h9 => h9) rfl dX6_letBear_65 ?_
            refine lv_iload_n hx hb dX6_letBear_68 rfl (lv_at hl 3 rfl) ?_
            refine va_iast hx hb hK hP hD hS 9 1 rfl rfl (v_in rfl (by omega) (by omega)) dX6_letBear_69 (fun H locs hP hD hS => ?_)
            obtain ⟨f_117, hP, hD⟩ : ∃ f_117 : Nat → Int32, va_P (dC, dI) vwCl (List.flatten [[(h0, .inr (4, [.int pc0, .ref (r0 0), .ref (r0 1), .ref (r0 2), .ref (r0 3), .ref (r0 4), .ref (r0 5), .ref (r0 6), .int sc_10, .ref (r0 7), .ref (r0 8), .ref (r0 9)])), (r0 0, .inl (cI, 60, .inl f_3)), (r0 1, .inl (cI, 60, .inl f_4)), (r0 2, .inl (cI, 60, .inl f_5)), (r0 3, .inl (cI, 60, .inl f_6)), (r0 4, .inl (cZ, 60, .inl f_7)), (r0 5, .inl (cI, 60, .inl f_8)), (r0 6, .inl (cI, 60, .inl f_9)), (r0 7, .inl (cI, 9, .inl f_115)), (r0 8, .inl (cI, 9, .inl f_117)), (r0 9, .inl (cI, 9, .inl f_16))]]) H ∧ va_D A (List.flatten [[(h0, .inr (4, [.int pc0, .ref (r0 0), .ref (r0 1), .ref (r0 2), .ref (r0 3), .ref (r0 4), .ref (r0 5), .ref (r0 6), .int sc_10, .ref (r0 7), .ref (r0 8), .ref (r0 9)])), (r0 0, .inl (cI, 60, .inl f_3)), (r0 1, .inl (cI, 60, .inl f_4)), (r0 2, .inl (cI, 60, .inl f_5)), (r0 3, .inl (cI, 60, .inl f_6)), (r0 4, .inl (cZ, 60, .inl f_7)), (r0 5, .inl (cI, 60, .inl f_8)), (r0 6, .inl (cI, 60, .inl f_9)), (r0 7, .inl (cI, 9, .inl f_115)), (r0 8, .inl (cI, 9, .inl f_117)), (r0 9, .inl (cI, 9, .inl f_16))]]) := ⟨_, hP, hD⟩
            refine lv_aload_n hx hb dX6_letBear_70 rfl (lv_at hl 1 rfl) ?_
            refine va_get (D := (dC, dI)) (ci := 4) (v := .ref (r0 9)) (C := RX6) (T := TX6) (N := 12) hx hb hts iw_X6_letBear_X6 hown hK hP 0 rfl rfl 11 (by decide) (hts (.fieldLink RX6 47 "HungFloors$Papers" "storyOther" "[I") (by decide +kernel)) (fun _ h9 => h9) rfl dX6_letBear_71 ?_
            refine lv_aload_n hx hb dX6_letBear_74 rfl (lv_at hl 1 rfl) ?_
            refine va_get (D := (dC, dI)) (ci := 4) (v := .int sc_10) (C := RX6) (T := TX6) (N := 12) hx hb hts iw_X6_letBear_X6 hown hK hP 0 rfl rfl 8 (by decide) (hts (.fieldLink RX6 38 "HungFloors$Papers" "storyCount" "I") (by decide +kernel)) (fun _ h9 => h9) rfl dX6_letBear_75 ?_
            refine lv_iload_n hx hb dX6_letBear_78 rfl (lv_at hl 4 rfl) ?_
            refine va_iast hx hb hK hP hD hS 10 1 rfl rfl (v_in rfl (by omega) (by omega)) dX6_letBear_79 (fun H locs hP hD hS => ?_)
            obtain ⟨f_118, hP, hD⟩ : ∃ f_118 : Nat → Int32, va_P (dC, dI) vwCl (List.flatten [[(h0, .inr (4, [.int pc0, .ref (r0 0), .ref (r0 1), .ref (r0 2), .ref (r0 3), .ref (r0 4), .ref (r0 5), .ref (r0 6), .int sc_10, .ref (r0 7), .ref (r0 8), .ref (r0 9)])), (r0 0, .inl (cI, 60, .inl f_3)), (r0 1, .inl (cI, 60, .inl f_4)), (r0 2, .inl (cI, 60, .inl f_5)), (r0 3, .inl (cI, 60, .inl f_6)), (r0 4, .inl (cZ, 60, .inl f_7)), (r0 5, .inl (cI, 60, .inl f_8)), (r0 6, .inl (cI, 60, .inl f_9)), (r0 7, .inl (cI, 9, .inl f_115)), (r0 8, .inl (cI, 9, .inl f_117)), (r0 9, .inl (cI, 9, .inl f_118))]]) H ∧ va_D A (List.flatten [[(h0, .inr (4, [.int pc0, .ref (r0 0), .ref (r0 1), .ref (r0 2), .ref (r0 3), .ref (r0 4), .ref (r0 5), .ref (r0 6), .int sc_10, .ref (r0 7), .ref (r0 8), .ref (r0 9)])), (r0 0, .inl (cI, 60, .inl f_3)), (r0 1, .inl (cI, 60, .inl f_4)), (r0 2, .inl (cI, 60, .inl f_5)), (r0 3, .inl (cI, 60, .inl f_6)), (r0 4, .inl (cZ, 60, .inl f_7)), (r0 5, .inl (cI, 60, .inl f_8)), (r0 6, .inl (cI, 60, .inl f_9)), (r0 7, .inl (cI, 9, .inl f_115)), (r0 8, .inl (cI, 9, .inl f_117)), (r0 9, .inl (cI, 9, .inl f_118))]]) := ⟨_, hP, hD⟩
            refine lv_aload_n hx hb dX6_letBear_80 rfl (lv_at hl 1 rfl) ?_
            refine lv_dup hx hb dX6_letBear_81 rfl ?_
            refine va_get (D := (dC, dI)) (ci := 4) (v := .int sc_10) (C := RX6) (T := TX6) (N := 12) hx hb hts iw_X6_letBear_X6 hown hK hP 0 rfl rfl 8 (by decide) (hts (.fieldLink RX6 38 "HungFloors$Papers" "storyCount" "I") (by decide +kernel)) (fun _ h9 => h9) rfl dX6_letBear_82 ?_
            refine lv_iconst (v := 1) hx hb dX6_letBear_85 (by decide) ?_
            refine lv_iadd hx hb dX6_letBear_86 ?_
            refine lv_topi (fun z_119 ez_119 => ?_)
            have hz_119 : z_119.toInt = sc_10.toInt + 1 := by rw [ez_119]; exact t_add rfl tI_1 (by omega) (by omega)
            refine va_put (D := (dC, dI)) (ci := 4) (v := .int z_119) (ty := .int) (C := RX6) (T := TX6) (N := 12) hx hb hts iw_X6_letBear_X6 tyX6 tyX6_ok nmX6 hown hK hP hD hS 0 rfl rfl 8 (by decide) (hts (.fieldLink RX6 38 "HungFloors$Papers" "storyCount" "I") (by decide +kernel)) (fun _ h9 => h9) rfl (by decide +kernel) rfl rfl (Nat.le_of_ble_eq_true rfl) dX6_letBear_87 (fun H locs hP hD hS => ?_)
            have hP : va_P (dC, dI) vwCl (List.flatten [[(h0, .inr (4, [.int pc0, .ref (r0 0), .ref (r0 1), .ref (r0 2), .ref (r0 3), .ref (r0 4), .ref (r0 5), .ref (r0 6), .int z_119, .ref (r0 7), .ref (r0 8), .ref (r0 9)])), (r0 0, .inl (cI, 60, .inl f_3)), (r0 1, .inl (cI, 60, .inl f_4)), (r0 2, .inl (cI, 60, .inl f_5)), (r0 3, .inl (cI, 60, .inl f_6)), (r0 4, .inl (cZ, 60, .inl f_7)), (r0 5, .inl (cI, 60, .inl f_8)), (r0 6, .inl (cI, 60, .inl f_9)), (r0 7, .inl (cI, 9, .inl f_115)), (r0 8, .inl (cI, 9, .inl f_117)), (r0 9, .inl (cI, 9, .inl f_118))]]) H := hP
            have hD : va_D A (List.flatten [[(h0, .inr (4, [.int pc0, .ref (r0 0), .ref (r0 1), .ref (r0 2), .ref (r0 3), .ref (r0 4), .ref (r0 5), .ref (r0 6), .int z_119, .ref (r0 7), .ref (r0 8), .ref (r0 9)])), (r0 0, .inl (cI, 60, .inl f_3)), (r0 1, .inl (cI, 60, .inl f_4)), (r0 2, .inl (cI, 60, .inl f_5)), (r0 3, .inl (cI, 60, .inl f_6)), (r0 4, .inl (cZ, 60, .inl f_7)), (r0 5, .inl (cI, 60, .inl f_8)), (r0 6, .inl (cI, 60, .inl f_9)), (r0 7, .inl (cI, 9, .inl f_115)), (r0 8, .inl (cI, 9, .inl f_117)), (r0 9, .inl (cI, 9, .inl f_118))]]) := hD
            refine lv_iconst (v := 1) hx hb dX6_letBear_90 (by decide) ?_
            rw [hQ0]
            exact W.zret (v := 1) hx hb hr (by decide) (fun t ht hW => ⟨⟨1, (), rfl, ⟨by decide, by decide⟩, ⟨_, ⟨f_3, f_4, f_5, f_6, f_7, f_8, f_9, z_119, f_115, f_117, f_118, rfl, by omega, by omega, by omega, by omega, hr_116⟩, by rw [ht]; exact hP, hD⟩⟩, hS.F ht⟩) hS.2.2 dX6_letBear_91
          · have c_114 : g_27.toInt < sc_10.toInt := f_nle rfl rfl c_114
            refine lv_aload_n hx hb dX6_letBear_31 rfl (lv_at hl 1 rfl) ?_
            refine va_get (D := (dC, dI)) (ci := 4) (v := .ref (r0 7)) (C := RX6) (T := TX6) (N := 12) hx hb hts iw_X6_letBear_X6 hown hK hP 0 rfl rfl 9 (by decide) (hts (.fieldLink RX6 41 "HungFloors$Papers" "storyPaper" "[I") (by decide +kernel)) (fun _ h9 => h9) rfl dX6_letBear_32 ?_
            refine lv_iload hx hb dX6_letBear_35 (lv_at hl 0 rfl) ?_
            refine va_iald hx hb hK hP 8 1 rfl rfl (v_in rfl (by omega) (by omega)) dX6_letBear_37 ?_
            refine lv_topi (fun z_120 ez_120 => ?_)
            have gz_120 := rg_at hr_14 ez_120
            have g1z_120 := gz_120.1
            have g2z_120 := gz_120.2
            refine lv_iload_n hx hb dX6_letBear_38 rfl (lv_at hl 2 rfl) ?_
            refine lv_icmp_ne (tgt := 44) hx hb dX6_letBear_39 (by decide) (fun c_121 => ?_) (fun c_121 => ?_)
            · have c_121 : ¬ z_120.toInt = p1.toInt := f_ne rfl rfl c_121
              obtain ⟨z_122, ez_122⟩ : ∃ y : Int32, y = g_27 + 1 := ⟨_, rfl⟩
              have hz_122 : z_122.toInt = g_27.toInt + 1 := by rw [ez_122]; exact t_add rfl tI_1 (by omega) (by omega)
              refine lv_iinc (v := z_122) (lv' := [(4, .int z_122), (0, .ref h0), (1, .int p1), (2, .int p2), (3, .int p3)]) hx hb dX6_letBear_44 hl (k := 0) rfl (by rw [ez_122]; rfl) (by decide) rfl (fun ls hl => ?_)
              refine lv_goto (tgt := 22) hx hb dX6_letBear_47 (by decide) ?_
              exact ih_113 z_122 (by omega) (by omega) (by omega) (by omega) _ _ hP hD hS ls (lv_sub hl [0, 1, 2, 3, 4] rfl)
            · have c_121 : z_120.toInt = p1.toInt := f_eq rfl rfl c_121
              refine lv_iconst (v := 0) hx hb dX6_letBear_42 (by decide) ?_
              rw [hQ0]
              exact W.zret (v := 0) hx hb hr (by decide) (fun t ht hW => ⟨⟨0, (), rfl, ⟨by decide, by decide⟩, ⟨_, ⟨f_3, f_4, f_5, f_6, f_7, f_8, f_9, sc_10, f_13, f_15, f_16, rfl, by omega, by omega, by omega, by omega, hr_14⟩, by rw [ht]; exact hP, hD⟩⟩, hS.F ht⟩) hS.2.2 dX6_letBear_43
      exact lp_112 _ 0 (by have := tI_0; omega) (by have := tI_0; omega) (by have := tI_0; omega) (Nat.lt_succ_self _) _ _ hP hD hS ls (lv_sub hl [0, 1, 2, 3, 4] rfl)
    · have c_26 : 9 ≤ sc_10.toInt := f_nlt rfl tI_9 c_26
      refine lv_iconst (v := 0) hx hb dX6_letBear_17 (by decide) ?_
      rw [hQ0]
      exact W.zret (v := 0) hx hb hr (by decide) (fun t ht hW => ⟨⟨0, (), rfl, ⟨by decide, by decide⟩, ⟨_, ⟨f_3, f_4, f_5, f_6, f_7, f_8, f_9, sc_10, f_13, f_15, f_16, rfl, by omega, by omega, by omega, by omega, hr_14⟩, by rw [ht]; exact hP, hD⟩⟩, hS.F ht⟩) hS.2.2 dX6_letBear_18
theorem iw_X6_oddsTogether_X6 : ∀ w ∈ wsX60, w ∈ wsX6_oddsTogether := fun _ h => List.mem_cons_of_mem _ (List.mem_append_right _ h)
set_option maxHeartbeats 4000000 in
set_option maxRecDepth 100000 in
theorem c_X6_oddsTogether (l : Launch) (dC : Nat → ClassId) (dI : Nat → Nat → Nat) (ad : Nat → Nat) (tN : Nat) (fN : Nat → Int64) (cB cI cJ cZ : ClassId) (h0 : Nat) (p1 : Int32) (p2 : Int32) (r0 : Nat → Nat) (pc0 : Int32) (w0 : va_W) (o0 : ok_pap ad cB cI cJ cZ h0 r0 pc0 w0) (sz : Nat) : Met l yX6_oddsTogether wsX6_oddsTogether ({ frames := 1, cells := 0, slots := 0, locals := 23 } : Room) (va_Pc [.ref h0, .int p1, .int p2] (fun U => U.heap.size = sz ∧ va_P (dC, dI) vwCl (List.flatten [w0]) U.heap ∧ va_K (dC, dI) vwCl [(cB, .byte), (cI, .int), (cJ, .long), (cZ, .boolean)] U ∧ va_D (fun _ => True) (List.flatten [w0]) ∧ ex_Y ad tN fN (va_A (List.flatten [w0]) sz) U)) (va_Ql (fun (r : Int64) (_ : Unit) => True) (fun (_ : Unit) (t : State) => va_P (dC, dI) vwCl (List.flatten [w0]) t.heap ∧ va_D (va_A (List.flatten [w0]) sz) (List.flatten [w0])) (va_A (List.flatten [w0]) sz)) 0 0 (va_A (List.flatten [w0]) sz) := by
  refine Met.ofW (cc := cX6_oddsTogether) (maxL := 6) (ret := (some .long)) (by decide) rfl ?_
  intro p e s m args below meth c s₁ B hml hv
  obtain ⟨rfl, hsz, hP, hK, hD0, hE⟩ := hv
  have hx := B.exec
  have hb := B.bytes
  have hr := B.returns
  have hts := atoms_spec (ws := wsX6_oddsTogether) B.pre
  have hown : s.vm.findClass RX6 = some m.cls := findClass_of_methodNamed B.named
  have hlocks := B.notSynchronized
  subst hsz
  have hD := hD0.self (sz := s.heap.size)
  generalize hAe : va_A (List.flatten [w0]) s.heap.size = A at hD hE ⊢
  have hA : ∀ q : Nat, s.heap.size ≤ q → A q := fun q h => by rw [← hAe]; exact Or.inr h
  have hS : va_S A s.heap s.heap [] := va_S.rf
  have hl := lv_entry ([.ref h0, .int p1, .int p2]) (n := 6) (Nat.le_of_ble_eq_true rfl)
  rw [lg_entry_eq]
  generalize (lg_sl ([.ref h0, .int p1, .int p2]) ++ List.replicate (6 - (lg_sl ([.ref h0, .int p1, .int p2])).length) Slot.unset).toArray = ls at hl ⊢
  have hl : lv_has ls 6 [(0, .ref h0), (1, .int p1), (2, .int p2)] := hl
  clear hAe
  refine W_name (fun Q0 hQ0 => ?_)
  refine lv_lconst (v := 1) hx hb dX6_oddsTogether_0 (by decide) ?_
  refine lv_lstore_n (lv' := [(3, .long 1), (0, .ref h0), (1, .int p1), (2, .int p2)]) hx hb dX6_oddsTogether_1 rfl hl (by decide) rfl (fun ls hl => ?_)
  refine lv_iconst (v := 0) hx hb dX6_oddsTogether_2 (by decide) ?_
  refine lv_istore (lv' := [(5, .int 0), (3, .long 1), (0, .ref h0), (1, .int p1), (2, .int p2)]) hx hb dX6_oddsTogether_3 hl (by decide) rfl (fun ls hl => ?_)
  obtain ⟨f_35, f_36, f_37, f_38, f_39, f_40, f_41, sc_42, f_45, f_47, f_48, rfl, hl_33, hh_34, hl_43, hh_44, hr_46⟩ := o0
  have lp_192 : ∀ (n : Nat) (g_1 : Int32) (g_2 : Int64), 0 ≤ g_1.toInt → g_1.toInt ≤ 9 → g_1.toInt - sc_42.toInt ≤ 0 → (9 - g_1.toInt).toNat < n → ∀ (H : Heap) (locs : List Loc), va_P (dC, dI) vwCl (List.flatten [[(h0, .inr (4, [.int pc0, .ref (r0 0), .ref (r0 1), .ref (r0 2), .ref (r0 3), .ref (r0 4), .ref (r0 5), .ref (r0 6), .int sc_42, .ref (r0 7), .ref (r0 8), .ref (r0 9)])), (r0 0, .inl (cI, 60, .inl f_35)), (r0 1, .inl (cI, 60, .inl f_36)), (r0 2, .inl (cI, 60, .inl f_37)), (r0 3, .inl (cI, 60, .inl f_38)), (r0 4, .inl (cZ, 60, .inl f_39)), (r0 5, .inl (cI, 60, .inl f_40)), (r0 6, .inl (cI, 60, .inl f_41)), (r0 7, .inl (cI, 9, .inl f_45)), (r0 8, .inl (cI, 9, .inl f_47)), (r0 9, .inl (cI, 9, .inl f_48))]]) H → va_D A (List.flatten [[(h0, .inr (4, [.int pc0, .ref (r0 0), .ref (r0 1), .ref (r0 2), .ref (r0 3), .ref (r0 4), .ref (r0 5), .ref (r0 6), .int sc_42, .ref (r0 7), .ref (r0 8), .ref (r0 9)])), (r0 0, .inl (cI, 60, .inl f_35)), (r0 1, .inl (cI, 60, .inl f_36)), (r0 2, .inl (cI, 60, .inl f_37)), (r0 3, .inl (cI, 60, .inl f_38)), (r0 4, .inl (cZ, 60, .inl f_39)), (r0 5, .inl (cI, 60, .inl f_40)), (r0 6, .inl (cI, 60, .inl f_41)), (r0 7, .inl (cI, 9, .inl f_45)), (r0 8, .inl (cI, 9, .inl f_47)), (r0 9, .inl (cI, 9, .inl f_48))]]) → va_S A s.heap H locs → ∀ (ls : Array Slot), lv_has ls 6 [(5, .int g_1), (3, .long g_2), (0, .ref h0), (1, .int p1), (2, .int p2)] → W p l e (headSpec wsX6_oddsTogether ({ frames := 1, cells := 0, slots := 0, locals := 23 } : Room)).room s m ([.ref h0, .int p1, .int p2] : List Value).toArray below meth c H locs 0 0 Q0 (F0 m 5 ls []) := by
    intro n
    induction n with
    | zero => intro g_1 g_2 iv_189 iv_190 iv_191 hm; exact absurd hm (Nat.not_lt_zero _)
    | succ n ih_193 =>
      intro g_1 g_2 iv_189 iv_190 iv_191 hm H locs hP hD hS ls hl
      refine lv_iload hx hb dX6_oddsTogether_5 (lv_at hl 0 rfl) ?_
      refine lv_aload_n hx hb dX6_oddsTogether_7 rfl (lv_at hl 2 rfl) ?_
      refine va_get (D := (dC, dI)) (ci := 4) (v := .int sc_42) (C := RX6) (T := TX6) (N := 12) hx hb hts iw_X6_oddsTogether_X6 hown hK hP 0 rfl rfl 8 (by decide) (hts (.fieldLink RX6 38 "HungFloors$Papers" "storyCount" "I") (by decide +kernel)) (fun _ h9 => h9) rfl dX6_oddsTogether_8 ?_
      refine lv_icmp_ge (tgt := 61) hx hb dX6_oddsTogether_11 (by decide) (fun c_194 => ?_) (fun c_194 => ?_)
      · have c_194 : sc_42.toInt ≤ g_1.toInt := f_le rfl rfl c_194
        refine lv_lload_n hx hb dX6_oddsTogether_61 rfl (lv_at hl 1 rfl) ?_
        rw [hQ0]
        exact W.lret (v := g_2) hx hb hr (fun t ht hW => ⟨⟨g_2, (), rfl, trivial, ⟨by rw [ht]; exact hP, hD⟩⟩, hS.F ht⟩) hS.2.2 dX6_oddsTogether_62
      · have c_194 : g_1.toInt < sc_42.toInt := f_nle rfl rfl c_194
        refine lv_aload_n hx hb dX6_oddsTogether_14 rfl (lv_at hl 2 rfl) ?_
        refine lv_aload_n hx hb dX6_oddsTogether_15 rfl (lv_at hl 2 rfl) ?_
        refine va_get (D := (dC, dI)) (ci := 4) (v := .ref (r0 7)) (C := RX6) (T := TX6) (N := 12) hx hb hts iw_X6_oddsTogether_X6 hown hK hP 0 rfl rfl 9 (by decide) (hts (.fieldLink RX6 41 "HungFloors$Papers" "storyPaper" "[I") (by decide +kernel)) (fun _ h9 => h9) rfl dX6_oddsTogether_16 ?_
        refine lv_iload hx hb dX6_oddsTogether_19 (lv_at hl 0 rfl) ?_
        refine va_iald hx hb hK hP 8 1 rfl rfl (v_in rfl (by omega) (by omega)) dX6_oddsTogether_21 ?_
        refine lv_topi (fun z_195 ez_195 => ?_)
        have gz_195 := rg_at hr_46 ez_195
        have g1z_195 := gz_195.1
        have g2z_195 := gz_195.2
        refine lv_iload_n hx hb dX6_oddsTogether_22 rfl (lv_at hl 4 rfl) ?_
        have hpm : List.Perm ([[(h0, .inr (4, [.int pc0, .ref (r0 0), .ref (r0 1), .ref (r0 2), .ref (r0 3), .ref (r0 4), .ref (r0 5), .ref (r0 6), .int sc_42, .ref (r0 7), .ref (r0 8), .ref (r0 9)])), (r0 0, .inl (cI, 60, .inl f_35)), (r0 1, .inl (cI, 60, .inl f_36)), (r0 2, .inl (cI, 60, .inl f_37)), (r0 3, .inl (cI, 60, .inl f_38)), (r0 4, .inl (cZ, 60, .inl f_39)), (r0 5, .inl (cI, 60, .inl f_40)), (r0 6, .inl (cI, 60, .inl f_41)), (r0 7, .inl (cI, 9, .inl f_45)), (r0 8, .inl (cI, 9, .inl f_47)), (r0 9, .inl (cI, 9, .inl f_48))]] : List va_W) (([[(h0, .inr (4, [.int pc0, .ref (r0 0), .ref (r0 1), .ref (r0 2), .ref (r0 3), .ref (r0 4), .ref (r0 5), .ref (r0 6), .int sc_42, .ref (r0 7), .ref (r0 8), .ref (r0 9)])), (r0 0, .inl (cI, 60, .inl f_35)), (r0 1, .inl (cI, 60, .inl f_36)), (r0 2, .inl (cI, 60, .inl f_37)), (r0 3, .inl (cI, 60, .inl f_38)), (r0 4, .inl (cZ, 60, .inl f_39)), (r0 5, .inl (cI, 60, .inl f_40)), (r0 6, .inl (cI, 60, .inl f_41)), (r0 7, .inl (cI, 9, .inl f_45)), (r0 8, .inl (cI, 9, .inl f_47)), (r0 9, .inl (cI, 9, .inl f_48))]] : List va_W) ++ ([] : List va_W)) := pm_n 1 [0] (by decide) rfl rfl
        have hPc := bk_P hpm hP
        have hDc := bk_D hpm hD
        have hFc := bk_F hpm hD hS hA
        refine va_calli (va_runV (As := [.int z_195, .int p2]) (rest := []) ⟨hx, hb, hml, hown, hts⟩ (c_X6_isKnown l dC dI ad tN fN cB cI cJ cZ h0 z_195 p2 r0 pc0 _ ⟨f_35, f_36, f_37, f_38, f_39, f_40, f_41, sc_42, f_45, f_47, f_48, rfl, by omega, by omega, by omega, by omega, hr_46⟩ H.size (by omega) (by omega)) (cwV 2 hts gX6_oddsTogether_X6_isKnown rfl rfl rfl (by decide +kernel) ⟨(Nat.le_of_ble_eq_true rfl), (Nat.le_of_ble_eq_true rfl)⟩) ⟨fun a U g mk q => by obtain ⟨q0, q1, qP, qK, qD, qE⟩ := q; exact ⟨q0, q1, qP, va_K.moved (u := U) (U := U.calling g mk a) (Vm.Alike.refl U.vm) qK, qD, ey_blind qE⟩, va_recv hK hPc (ci := 4) (q0 := 0) rfl rfl, fun U hU hW => ⟨rfl, by rw [hU], by rw [hU]; exact hPc, va_K.moved hW.alike hK, hDc.weaken (fun _ _ _ _ => trivial), ey_call hE hS hFc hU hW⟩⟩ rfl rfl hl.1 rfl (lv_room (Nat.le_of_ble_eq_true rfl)) dX6_oddsTogether_23 ⟨(Nat.le_of_ble_eq_true rfl), (Nat.le_of_ble_eq_true rfl)⟩) hS (fun q _ h => hFc q h) hFc (fun r_196 u t H locs ht hvm hw hB hz1 hk1 hS => ?_)
        obtain ⟨hP1, hD1⟩ := hB
        rw [ht] at hP1
        obtain ⟨hP, hD⟩ := bk_join hpm hP hD hk1 hFc (Cs1 := [[(h0, .inr (4, [.int pc0, .ref (r0 0), .ref (r0 1), .ref (r0 2), .ref (r0 3), .ref (r0 4), .ref (r0 5), .ref (r0 6), .int sc_42, .ref (r0 7), .ref (r0 8), .ref (r0 9)])), (r0 0, .inl (cI, 60, .inl f_35)), (r0 1, .inl (cI, 60, .inl f_36)), (r0 2, .inl (cI, 60, .inl f_37)), (r0 3, .inl (cI, 60, .inl f_38)), (r0 4, .inl (cZ, 60, .inl f_39)), (r0 5, .inl (cI, 60, .inl f_40)), (r0 6, .inl (cI, 60, .inl f_41)), (r0 7, .inl (cI, 9, .inl f_45)), (r0 8, .inl (cI, 9, .inl f_47)), (r0 9, .inl (cI, 9, .inl f_48))]]) hP1 hD1
        have hpm2 : List.Perm (([[(h0, .inr (4, [.int pc0, .ref (r0 0), .ref (r0 1), .ref (r0 2), .ref (r0 3), .ref (r0 4), .ref (r0 5), .ref (r0 6), .int sc_42, .ref (r0 7), .ref (r0 8), .ref (r0 9)])), (r0 0, .inl (cI, 60, .inl f_35)), (r0 1, .inl (cI, 60, .inl f_36)), (r0 2, .inl (cI, 60, .inl f_37)), (r0 3, .inl (cI, 60, .inl f_38)), (r0 4, .inl (cZ, 60, .inl f_39)), (r0 5, .inl (cI, 60, .inl f_40)), (r0 6, .inl (cI, 60, .inl f_41)), (r0 7, .inl (cI, 9, .inl f_45)), (r0 8, .inl (cI, 9, .inl f_47)), (r0 9, .inl (cI, 9, .inl f_48))]] : List va_W) ++ ([] : List va_W)) ([[(h0, .inr (4, [.int pc0, .ref (r0 0), .ref (r0 1), .ref (r0 2), .ref (r0 3), .ref (r0 4), .ref (r0 5), .ref (r0 6), .int sc_42, .ref (r0 7), .ref (r0 8), .ref (r0 9)])), (r0 0, .inl (cI, 60, .inl f_35)), (r0 1, .inl (cI, 60, .inl f_36)), (r0 2, .inl (cI, 60, .inl f_37)), (r0 3, .inl (cI, 60, .inl f_38)), (r0 4, .inl (cZ, 60, .inl f_39)), (r0 5, .inl (cI, 60, .inl f_40)), (r0 6, .inl (cI, 60, .inl f_41)), (r0 7, .inl (cI, 9, .inl f_45)), (r0 8, .inl (cI, 9, .inl f_47)), (r0 9, .inl (cI, 9, .inl f_48))]] : List va_W) := pm_n 1 [0] (by decide) rfl rfl
        have hP := bk_reP hpm2 hP
        have hD := bk_reD hpm2 hD
        have hP : va_P (dC, dI) vwCl (List.flatten [[(h0, .inr (4, [.int pc0, .ref (r0 0), .ref (r0 1), .ref (r0 2), .ref (r0 3), .ref (r0 4), .ref (r0 5), .ref (r0 6), .int sc_42, .ref (r0 7), .ref (r0 8), .ref (r0 9)])), (r0 0, .inl (cI, 60, .inl f_35)), (r0 1, .inl (cI, 60, .inl f_36)), (r0 2, .inl (cI, 60, .inl f_37)), (r0 3, .inl (cI, 60, .inl f_38)), (r0 4, .inl (cZ, 60, .inl f_39)), (r0 5, .inl (cI, 60, .inl f_40)), (r0 6, .inl (cI, 60, .inl f_41)), (r0 7, .inl (cI, 9, .inl f_45)), (r0 8, .inl (cI, 9, .inl f_47)), (r0 9, .inl (cI, 9, .inl f_48))]]) H := hP
        have hD : va_D A (List.flatten [[(h0, .inr (4, [.int pc0, .ref (r0 0), .ref (r0 1), .ref (r0 2), .ref (r0 3), .ref (r0 4), .ref (r0 5), .ref (r0 6), .int sc_42, .ref (r0 7), .ref (r0 8), .ref (r0 9)])), (r0 0, .inl (cI, 60, .inl f_35)), (r0 1, .inl (cI, 60, .inl f_36)), (r0 2, .inl (cI, 60, .inl f_37)), (r0 3, .inl (cI, 60, .inl f_38)), (r0 4, .inl (cZ, 60, .inl f_39)), (r0 5, .inl (cI, 60, .inl f_40)), (r0 6, .inl (cI, 60, .inl f_41)), (r0 7, .inl (cI, 9, .inl f_45)), (r0 8, .inl (cI, 9, .inl f_47)), (r0 9, .inl (cI, 9, .inl f_48))]]) := hD
        obtain ⟨hlr_196, hhr_196⟩ := hw
        refine lv_if_eq (tgt := 55) hx hb dX6_oddsTogether_26 (by decide) (fun c_197 => ?_) (fun c_197 => ?_)
        · have c_197 : r_196.toInt = 0 := f_eq rfl tI_0 c_197
          obtain ⟨z_198, ez_198⟩ : ∃ y : Int32, y = g_1 + 1 := ⟨_, rfl⟩
          have hz_198 : z_198.toInt = g_1.toInt + 1 := by rw [ez_198]; exact t_add rfl tI_1 (by omega) (by omega)
          refine lv_iinc (v := z_198) (lv' := [(5, .int z_198), (3, .long g_2), (0, .ref h0), (1, .int p1), (2, .int p2)]) hx hb dX6_oddsTogether_55 hl (k := 0) rfl (by rw [ez_198]; rfl) (by decide) rfl (fun ls hl => ?_)
          refine lv_goto (tgt := 5) hx hb dX6_oddsTogether_58 (by decide) ?_
          exact ih_193 z_198 g_2 (by omega) (by omega) (by omega) (by omega) _ _ hP hD hS ls (lv_sub hl [0, 1, 2, 3, 4] rfl)
        · have c_197 : ¬ r_196.toInt = 0 := f_ne rfl tI_0 c_197
          refine lv_lload_n hx hb dX6_oddsTogether_29 rfl (lv_at hl 1 rfl) ?_
          refine lv_iload_n hx hb dX6_oddsTogether_30 rfl (lv_at hl 3 rfl) ?_
          refine lv_if_eq (tgt := 45) hx hb dX6_oddsTogether_31 (by decide) (fun c_199 => ?_) (fun c_199 => ?_)
          · have c_199 : p1.toInt = 0 := f_eq rfl tI_0 c_199
            refine lv_aload_n hx hb dX6_oddsTogether_45 rfl (lv_at hl 2 rfl) ?_
            refine va_get (D := (dC, dI)) (ci := 4) (v := .ref (r0 9)) (C := RX6) (T := TX6) (N := 12) hx hb hts iw_X6_oddsTogether_X6 hown hK hP 0 rfl rfl 11 (by decide) (hts (.fieldLink RX6 47 "HungFloors$Papers" "storyOther" "[I") (by decide +kernel)) (fun _ h9 => h9) rfl dX6_oddsTogether_46 ?_
            refine lv_iload hx hb dX6_oddsTogether_49 (lv_at hl 0 rfl) ?_
            refine va_iald hx hb hK hP 10 1 rfl rfl (v_in rfl (by omega) (by omega)) dX6_oddsTogether_51 ?_
            refine lv_topi (fun z_200 ez_200 => ?_)
            obtain ⟨z_201, ez_201⟩ : ∃ y : Int64, (z_200 : Int32).toInt64 = y := ⟨_, rfl⟩
            refine lv_i2l (v := z_201) hx hb dX6_oddsTogether_52 ez_201 ?_
            refine lv_lmul hx hb dX6_oddsTogether_53 ?_
            refine lv_topl (fun z_202 ez_202 => ?_)
            refine lv_lstore_n (lv' := [(3, .long z_202), (5, .int g_1), (0, .ref h0), (1, .int p1), (2, .int p2)]) hx hb dX6_oddsTogether_54 rfl hl (by decide) rfl (fun ls hl => ?_)
            obtain ⟨z_203, ez_203⟩ : ∃ y : Int32, y = g_1 + 1 := ⟨_, rfl⟩
            have hz_203 : z_203.toInt = g_1.toInt + 1 := by rw [ez_203]; exact t_add rfl tI_1 (by omega) (by omega)
            refine lv_iinc (v := z_203) (lv' := [(5, .int z_203), (3, .long z_202), (0, .ref h0), (1, .int p1), (2, .int p2)]) hx hb dX6_oddsTogether_55 hl (k := 1) rfl (by rw [ez_203]; rfl) (by decide) rfl (fun ls hl => ?_)
            refine lv_goto (tgt := 5) hx hb dX6_oddsTogether_58 (by decide) ?_
            exact ih_193 z_203 z_202 (by omega) (by omega) (by omega) (by omega) _ _ hP hD hS ls (lv_sub hl [0, 1, 2, 3, 4] rfl)
          · have c_199 : ¬ p1.toInt = 0 := f_ne rfl tI_0 c_199
            refine lv_aload_n hx hb dX6_oddsTogether_34 rfl (lv_at hl 2 rfl) ?_
            refine va_get (D := (dC, dI)) (ci := 4) (v := .ref (r0 8)) (C := RX6) (T := TX6) (N := 12) hx hb hts iw_X6_oddsTogether_X6 hown hK hP 0 rfl rfl 10 (by decide) (hts (.fieldLink RX6 44 "HungFloors$Papers" "storyOne" "[I") (by decide +kernel)) (fun _ h9 => h9) rfl dX6_oddsTogether_35 ?_
            refine lv_iload hx hb dX6_oddsTogether_38 (lv_at hl 0 rfl) ?_
            refine va_iald hx hb hK hP 9 1 rfl rfl (v_in rfl (by omega) (by omega)) dX6_oddsTogether_40 ?_
            refine lv_topi (fun z_204 ez_204 => ?_)
            obtain ⟨z_205, ez_205⟩ : ∃ y : Int64, (z_204 : Int32).toInt64 = y := ⟨_, rfl⟩
            refine lv_i2l (v := z_205) hx hb dX6_oddsTogether_41 ez_205 ?_
            refine lv_goto (tgt := 53) hx hb dX6_oddsTogether_42 (by decide) ?_
            refine lv_lmul hx hb dX6_oddsTogether_53 ?_
            refine lv_topl (fun z_206 ez_206 => ?_)
            refine lv_lstore_n (lv' := [(3, .long z_206), (5, .int g_1), (0, .ref h0), (1, .int p1), (2, .int p2)]) hx hb dX6_oddsTogether_54 rfl hl (by decide) rfl (fun ls hl => ?_)
            obtain ⟨z_207, ez_207⟩ : ∃ y : Int32, y = g_1 + 1 := ⟨_, rfl⟩
            have hz_207 : z_207.toInt = g_1.toInt + 1 := by rw [ez_207]; exact t_add rfl tI_1 (by omega) (by omega)
            refine lv_iinc (v := z_207) (lv' := [(5, .int z_207), (3, .long z_206), (0, .ref h0), (1, .int p1), (2, .int p2)]) hx hb dX6_oddsTogether_55 hl (k := 1) rfl (by rw [ez_207]; rfl) (by decide) rfl (fun ls hl => ?_)
            refine lv_goto (tgt := 5) hx hb dX6_oddsTogether_58 (by decide) ?_
            exact ih_193 z_207 z_206 (by omega) (by omega) (by omega) (by omega) _ _ hP hD hS ls (lv_sub hl [0, 1, 2, 3, 4] rfl)
  exact lp_192 _ 0 1 (by have := tI_0; omega) (by have := tI_0; omega) (by have := tI_0; omega) (Nat.lt_succ_self _) _ _ hP hD hS ls (lv_sub hl [0, 1, 2, 3, 4] rfl)
set_option maxHeartbeats 4000000 in
set_option maxRecDepth 100000 in
theorem c_X7_placeOf_n40 (l : Launch) (dC : Nat → ClassId) (dI : Nat → Nat → Nat) (ad : Nat → Nat) (tN : Nat) (fN : Nat → Int64) (cB cI cJ cZ : ClassId) (q1 : Int64) (h2 : Nat) (p3 : Int32) (p4 : Int32) (f0 : Nat → Int64) (sz : Nat) (up31 : 0 ≤ p3.toInt) (up32 : p3.toInt ≤ 30) : Met l yX7_placeOf wsX7_placeOf ({ frames := 0, cells := 0, slots := 0, locals := 0 } : Room) (va_Pc [.long q1, .ref h2, .int p3, .int p4] (fun U => U.heap.size = sz ∧ va_P (dC, dI) vwCl (List.flatten [[(h2, .inl (cJ, 40, .inr (.inl f0)))]]) U.heap ∧ va_K (dC, dI) vwCl [(cB, .byte), (cI, .int), (cJ, .long), (cZ, .boolean)] U ∧ va_D (fun _ => True) (List.flatten [[(h2, .inl (cJ, 40, .inr (.inl f0)))]]) ∧ ex_Y ad tN fN (va_A (List.flatten [[(h2, .inl (cJ, 40, .inr (.inl f0)))]]) sz) U)) (va_Qi (fun (r : Int32) (_ : Unit) => -1 ≤ r.toInt ∧ r.toInt ≤ 39) (fun (_ : Unit) (t : State) => va_P (dC, dI) vwCl (List.flatten [[(h2, .inl (cJ, 40, .inr (.inl f0)))]]) t.heap ∧ va_D (va_A (List.flatten [[(h2, .inl (cJ, 40, .inr (.inl f0)))]]) sz) (List.flatten [[(h2, .inl (cJ, 40, .inr (.inl f0)))]])) (va_A (List.flatten [[(h2, .inl (cJ, 40, .inr (.inl f0)))]]) sz)) 0 0 (va_A (List.flatten [[(h2, .inl (cJ, 40, .inr (.inl f0)))]]) sz) := by
  refine Met.ofW (cc := cX7_placeOf) (maxL := 6) (ret := (some .int)) (by decide) rfl ?_
  intro p e s m args below meth c s₁ B hml hv
  obtain ⟨rfl, hsz, hP, hK, hD0, hE⟩ := hv
  have hx := B.exec
  have hb := B.bytes
  have hr := B.returns
  have hts := atoms_spec (ws := wsX7_placeOf) B.pre
  have hown : s.vm.findClass RX7 = some m.cls := findClass_of_methodNamed B.named
  have hlocks := B.notSynchronized
  subst hsz
  have hD := hD0.self (sz := s.heap.size)
  generalize hAe : va_A (List.flatten [[(h2, .inl (cJ, 40, .inr (.inl f0)))]]) s.heap.size = A at hD hE ⊢
  have hA : ∀ q : Nat, s.heap.size ≤ q → A q := fun q h => by rw [← hAe]; exact Or.inr h
  have hS : va_S A s.heap s.heap [] := va_S.rf
  have hl := lv_entry ([.long q1, .ref h2, .int p3, .int p4]) (n := 6) (Nat.le_of_ble_eq_true rfl)
  rw [lg_entry_eq]
  generalize (lg_sl ([.long q1, .ref h2, .int p3, .int p4]) ++ List.replicate (6 - (lg_sl ([.long q1, .ref h2, .int p3, .int p4])).length) Slot.unset).toArray = ls at hl ⊢
  have hl : lv_has ls 6 [(0, .long q1), (2, .ref h2), (3, .int p3), (4, .int p4)] := hl
  clear hAe
  refine W_name (fun Q0 hQ0 => ?_)
  refine lv_iload_n hx hb dX7_placeOf_0 rfl (lv_at hl 2 rfl) ?_
  refine lv_istore (lv' := [(5, .int p3), (0, .long q1), (2, .ref h2), (3, .int p3), (4, .int p4)]) hx hb dX7_placeOf_1 hl (by decide) rfl (fun ls hl => ?_)
  have lp_41 : ∀ (n : Nat) (g_1 : Int32), 0 ≤ g_1.toInt → g_1.toInt ≤ 40 → p3.toInt - g_1.toInt ≤ 0 → (40 - g_1.toInt).toNat < n → ∀ (H : Heap) (locs : List Loc), va_P (dC, dI) vwCl (List.flatten [[(h2, .inl (cJ, 40, .inr (.inl f0)))]]) H → va_D A (List.flatten [[(h2, .inl (cJ, 40, .inr (.inl f0)))]]) → va_S A s.heap H locs → ∀ (ls : Array Slot), lv_has ls 6 [(5, .int g_1), (0, .long q1), (2, .ref h2), (3, .int p3), (4, .int p4)] → W p l e (headSpec wsX7_placeOf ({ frames := 0, cells := 0, slots := 0, locals := 0 } : Room)).room s m ([.long q1, .ref h2, .int p3, .int p4] : List Value).toArray below meth c H locs 0 0 Q0 (F0 m 3 ls []) := by
    intro n
    induction n with
    | zero => intro g_1 iv_38 iv_39 iv_40 hm; exact absurd hm (Nat.not_lt_zero _)
    | succ n ih_42 =>
      intro g_1 iv_38 iv_39 iv_40 hm H locs hP hD hS ls hl
      refine lv_iload hx hb dX7_placeOf_3 (lv_at hl 0 rfl) ?_
      refine lv_iload hx hb dX7_placeOf_5 (lv_at hl 4 rfl) ?_
      refine lv_icmp_ge (tgt := 35) hx hb dX7_placeOf_7 (by decide) (fun c_43 => ?_) (fun c_43 => ?_)
      · have c_43 : p4.toInt ≤ g_1.toInt := f_le rfl rfl c_43
        refine lv_iconst (v := (-1)) hx hb dX7_placeOf_35 (by decide) ?_
        rw [hQ0]
        exact W.iret (v := (-1)) hx hb hr (fun t ht hW => ⟨⟨(-1), (), rfl, ⟨by decide, by decide⟩, ⟨by rw [ht]; exact hP, hD⟩⟩, hS.F ht⟩) hS.2.2 dX7_placeOf_36
      · have c_43 : g_1.toInt < p4.toInt := f_nle rfl rfl c_43
        refine lv_iload hx hb dX7_placeOf_10 (lv_at hl 0 rfl) ?_
        refine lv_aload_n hx hb dX7_placeOf_12 rfl (lv_at hl 2 rfl) ?_
        refine va_alen hx hb hK hP 0 2 rfl rfl (v := 40) (show Int32.ofNat 40 = 40 by decide) dX7_placeOf_13 ?_
        refine lv_icmp_ge (tgt := 35) hx hb dX7_placeOf_14 (by decide) (fun c_44 => ?_) (fun c_44 => ?_)
        · have c_44 : 40 ≤ g_1.toInt := f_le tI_40 rfl c_44
          refine lv_iconst (v := (-1)) hx hb dX7_placeOf_35 (by decide) ?_
          rw [hQ0]
          exact W.iret (v := (-1)) hx hb hr (fun t ht hW => ⟨⟨(-1), (), rfl, ⟨by decide, by decide⟩, ⟨by rw [ht]; exact hP, hD⟩⟩, hS.F ht⟩) hS.2.2 dX7_placeOf_36
        · have c_44 : g_1.toInt < 40 := f_nle tI_40 rfl c_44
          refine lv_aload_n hx hb dX7_placeOf_17 rfl (lv_at hl 2 rfl) ?_
          refine lv_iload hx hb dX7_placeOf_18 (lv_at hl 0 rfl) ?_
          refine va_lald hx hb hK hP 0 2 rfl rfl (v_in rfl (by omega) (by omega)) dX7_placeOf_20 ?_
          refine lv_topl (fun z_45 ez_45 => ?_)
          refine lv_lload_n hx hb dX7_placeOf_21 rfl (lv_at hl 1 rfl) ?_
          refine W.lcmp hx hb dX7_placeOf_22 ?_
          refine lv_topi (fun z_46 ez_46 => ?_)
          refine lv_if_ne (tgt := 29) hx hb dX7_placeOf_23 (by decide) (fun c_47 => ?_) (fun c_47 => ?_)
          · have c_47 : ¬ z_46.toInt = 0 := f_ne rfl tI_0 c_47
            obtain ⟨z_48, ez_48⟩ : ∃ y : Int32, y = g_1 + 1 := ⟨_, rfl⟩
            have hz_48 : z_48.toInt = g_1.toInt + 1 := by rw [ez_48]; exact t_add rfl tI_1 (by omega) (by omega)
            refine lv_iinc (v := z_48) (lv' := [(5, .int z_48), (0, .long q1), (2, .ref h2), (3, .int p3), (4, .int p4)]) hx hb dX7_placeOf_29 hl (k := 0) rfl (by rw [ez_48]; rfl) (by decide) rfl (fun ls hl => ?_)
            refine lv_goto (tgt := 3) hx hb dX7_placeOf_32 (by decide) ?_
            exact ih_42 z_48 (by omega) (by omega) (by omega) (by omega) _ _ hP hD hS ls (lv_sub hl [0, 1, 2, 3, 4] rfl)
          · have c_47 : z_46.toInt = 0 := f_eq rfl tI_0 c_47
            refine lv_iload hx hb dX7_placeOf_26 (lv_at hl 0 rfl) ?_
            rw [hQ0]
            exact W.iret (v := g_1) hx hb hr (fun t ht hW => ⟨⟨g_1, (), rfl, ⟨by omega, by omega⟩, ⟨by rw [ht]; exact hP, hD⟩⟩, hS.F ht⟩) hS.2.2 dX7_placeOf_28
  exact lp_41 _ p3 (by omega) (by omega) (by omega) (Nat.lt_succ_self _) _ _ hP hD hS ls (lv_sub hl [0, 1, 2, 3, 4] rfl)
theorem iw_X7_rodCalled_X7 : ∀ w ∈ wsX70, w ∈ wsX7_rodCalled := fun _ h => List.mem_cons_of_mem _ (List.mem_append_right _ h)
set_option maxHeartbeats 4000000 in
set_option maxRecDepth 100000 in
theorem c_X7_rodCalled (l : Launch) (dC : Nat → ClassId) (dI : Nat → Nat → Nat) (ad : Nat → Nat) (tN : Nat) (fN : Nat → Int64) (cB cI cJ cZ : ClassId) (h0 : Nat) (p1 : Int32) (q2 : Int64) (r0 : Nat → Nat) (fc0 : Int32) (dc0 : Int32) (rk0 : Nat → Int32) (w0 : va_W) (o0 : ok_plan ad cB cI cJ cZ h0 r0 fc0 dc0 rk0 w0) (sz : Nat) (up11 : 0 ≤ p1.toInt) (up12 : p1.toInt ≤ 3) : Met l yX7_rodCalled wsX7_rodCalled ({ frames := 1, cells := 0, slots := 0, locals := 25 } : Room) (va_Pc [.ref h0, .int p1, .long q2] (fun U => U.heap.size = sz ∧ va_P (dC, dI) vwCl (List.flatten [w0]) U.heap ∧ va_K (dC, dI) vwCl [(cB, .byte), (cI, .int), (cJ, .long), (cZ, .boolean)] U ∧ va_D (fun _ => True) (List.flatten [w0]) ∧ ex_Y ad tN fN (va_A (List.flatten [w0]) sz) U)) (va_Qi (fun (r : Int32) (_ : Unit) => -1 ≤ r.toInt ∧ r.toInt ≤ 39) (fun (_ : Unit) (t : State) => va_P (dC, dI) vwCl (List.flatten [w0]) t.heap ∧ va_D (va_A (List.flatten [w0]) sz) (List.flatten [w0])) (va_A (List.flatten [w0]) sz)) 0 0 (va_A (List.flatten [w0]) sz) := by
  refine Met.ofW (cc := cX7_rodCalled) (maxL := 5) (ret := (some .int)) (by decide) rfl ?_
  intro p e s m args below meth c s₁ B hml hv
  obtain ⟨rfl, hsz, hP, hK, hD0, hE⟩ := hv
  have hx := B.exec
  have hb := B.bytes
  have hr := B.returns
  have hts := atoms_spec (ws := wsX7_rodCalled) B.pre
  have hown : s.vm.findClass RX7 = some m.cls := findClass_of_methodNamed B.named
  have hlocks := B.notSynchronized
  subst hsz
  have hD := hD0.self (sz := s.heap.size)
  generalize hAe : va_A (List.flatten [w0]) s.heap.size = A at hD hE ⊢
  have hA : ∀ q : Nat, s.heap.size ≤ q → A q := fun q h => by rw [← hAe]; exact Or.inr h
  have hS : va_S A s.heap s.heap [] := va_S.rf
  have hl := lv_entry ([.ref h0, .int p1, .long q2]) (n := 5) (Nat.le_of_ble_eq_true rfl)
  rw [lg_entry_eq]
  generalize (lg_sl ([.ref h0, .int p1, .long q2]) ++ List.replicate (5 - (lg_sl ([.ref h0, .int p1, .long q2])).length) Slot.unset).toArray = ls at hl ⊢
  have hl : lv_has ls 5 [(0, .ref h0), (1, .int p1), (2, .long q2)] := hl
  clear hAe
  refine W_name (fun Q0 hQ0 => ?_)
  refine lv_iload_n hx hb dX7_rodCalled_0 rfl (lv_at hl 1 rfl) ?_
  refine lv_bipush (v := 10) hx hb dX7_rodCalled_1 (by decide) ?_
  refine lv_imul hx hb dX7_rodCalled_3 ?_
  refine lv_topi (fun z_1 ez_1 => ?_)
  have hz_1 : z_1.toInt = p1.toInt * 10 := by rw [ez_1]; exact t_mul rfl tI_10 (by omega) (by omega)
  have fz_1 : z_1 = (p1 * 10) := by rw [ez_1]
  refine lv_istore (lv' := [(4, .int z_1), (0, .ref h0), (1, .int p1), (2, .long q2)]) hx hb dX7_rodCalled_4 hl (by decide) rfl (fun ls hl => ?_)
  refine lv_lload_n hx hb dX7_rodCalled_6 rfl (lv_at hl 3 rfl) ?_
  refine lv_aload_n hx hb dX7_rodCalled_7 rfl (lv_at hl 1 rfl) ?_
  obtain ⟨f_4, f_5, f_6, f_7, f_10, f_12, f_13, f_15, f_16, rfl, hl_2, hh_3, hl_8, hh_9, hr_11, hr_14⟩ := o0
  refine va_get (D := (dC, dI)) (ci := 5) (v := .ref (r0 6)) (C := RX7) (T := TX7) (N := 12) hx hb hts iw_X7_rodCalled_X7 hown hK hP 0 rfl rfl 8 (by decide) (hts (.fieldLink RX7 38 "HungFloors$Plan" "rodName" "[J") (by decide +kernel)) (fun _ h9 => h9) rfl dX7_rodCalled_8 ?_
  refine lv_iload hx hb dX7_rodCalled_11 (lv_at hl 0 rfl) ?_
  refine lv_iload hx hb dX7_rodCalled_13 (lv_at hl 0 rfl) ?_
  refine lv_aload_n hx hb dX7_rodCalled_15 rfl (lv_at hl 1 rfl) ?_
  refine va_get (D := (dC, dI)) (ci := 5) (v := .ref (r0 5)) (C := RX7) (T := TX7) (N := 12) hx hb hts iw_X7_rodCalled_X7 hown hK hP 0 rfl rfl 7 (by decide) (hts (.fieldLink RX7 35 "HungFloors$Plan" "rodCount" "[I") (by decide +kernel)) (fun _ h9 => h9) rfl dX7_rodCalled_16 ?_
  refine lv_iload_n hx hb dX7_rodCalled_19 rfl (lv_at hl 2 rfl) ?_
  refine va_iald hx hb hK hP 6 1 rfl rfl (v_in rfl (by omega) (by omega)) dX7_rodCalled_20 ?_
  refine lv_topi (fun z_17 ez_17 => ?_)
  have gz_17 := rg_at hr_11 ez_17
  have g1z_17 := gz_17.1
  have g2z_17 := gz_17.2
  have fz_17 : z_17 = (rk0 (p1 : Int32).toNatClampNeg) := by rw [ez_17]
  refine lv_iadd hx hb dX7_rodCalled_21 ?_
  refine lv_topi (fun z_18 ez_18 => ?_)
  have hz_18 : z_18.toInt = z_1.toInt + z_17.toInt := by rw [ez_18]; exact t_add rfl rfl (by omega) (by omega)
  have fz_18 : z_18 = ((p1 * 10) + (rk0 (p1 : Int32).toNatClampNeg)) := by rw [ez_18, fz_1, fz_17]
  have hpm : List.Perm ([[(h0, .inr (5, [.int fc0, .ref (r0 0), .ref (r0 1), .ref (r0 2), .ref (r0 3), .int dc0, .ref (r0 4), .ref (r0 5), .ref (r0 6), .ref (r0 7), .ref (r0 8), .ref (r0 9)]))], [(r0 0, .inl (cJ, 6, .inr (.inl f_4)))], [(r0 1, .inl (cI, 6, .inl f_5))], [(r0 2, .inl (cI, 6, .inl f_6))], [(r0 3, .inl (cI, 6, .inl f_7))], [(r0 4, .inl (cJ, 4, .inr (.inl f_10)))], [(r0 5, .inl (cI, 4, .inl rk0))], [(r0 6, .inl (cJ, 40, .inr (.inl f_12)))], [(r0 7, .inl (cI, 40, .inl f_13))], [(r0 8, .inl (cI, 40, .inl f_15))], [(r0 9, .inl (cI, 40, .inl f_16))]] : List va_W) (([[(r0 6, .inl (cJ, 40, .inr (.inl f_12)))]] : List va_W) ++ ([[(h0, .inr (5, [.int fc0, .ref (r0 0), .ref (r0 1), .ref (r0 2), .ref (r0 3), .int dc0, .ref (r0 4), .ref (r0 5), .ref (r0 6), .ref (r0 7), .ref (r0 8), .ref (r0 9)]))], [(r0 0, .inl (cJ, 6, .inr (.inl f_4)))], [(r0 1, .inl (cI, 6, .inl f_5))], [(r0 2, .inl (cI, 6, .inl f_6))], [(r0 3, .inl (cI, 6, .inl f_7))], [(r0 4, .inl (cJ, 4, .inr (.inl f_10)))], [(r0 5, .inl (cI, 4, .inl rk0))], [(r0 7, .inl (cI, 40, .inl f_13))], [(r0 8, .inl (cI, 40, .inl f_15))], [(r0 9, .inl (cI, 40, .inl f_16))]] : List va_W)) := pm_n 11 [7, 0, 1, 2, 3, 4, 5, 6, 8, 9, 10] (by decide) rfl rfl
  have hPc := bk_P hpm hP
  have hDc := bk_D hpm hD
  have hFc := bk_F hpm hD hS hA
  refine va_calli (va_runS (As := [.long q2, .ref (r0 6), .int z_1, .int z_18]) (rest := []) ⟨hx, hb, hml, hown, hts⟩ (c_X7_placeOf_n40 l dC dI ad tN fN cB cI cJ cZ q2 (r0 6) z_1 z_18 _ s.heap.size (by omega) (by omega)) (va_cwS 4 hts gX7_rodCalled_X7_placeOf rfl rfl rfl (by decide +kernel) ⟨(Nat.le_of_ble_eq_true rfl), (Nat.le_of_ble_eq_true rfl)⟩) ⟨fun a U g mk q => by obtain ⟨q0, q1, qP, qK, qD, qE⟩ := q; exact ⟨q0, q1, qP, va_K.moved (u := U) (U := U.calling g mk a) (Vm.Alike.refl U.vm) qK, qD, ey_blind qE⟩, fun U hU hW => ⟨rfl, by rw [hU], by rw [hU]; exact hPc, va_K.moved hW.alike hK, hDc.weaken (fun _ _ _ _ => trivial), ey_call hE hS hFc hU hW⟩⟩ rfl rfl hl.1 rfl (lv_room (Nat.le_of_ble_eq_true rfl)) dX7_rodCalled_22 ⟨(Nat.le_of_ble_eq_true rfl), (Nat.le_of_ble_eq_true rfl)⟩) hS (fun q _ h => hFc q h) hFc (fun r_19 u t H locs ht hvm hw hB hz1 hk1 hS => ?_)
  obtain ⟨hP1, hD1⟩ := hB
  rw [ht] at hP1
  obtain ⟨hP, hD⟩ := bk_join hpm hP hD hk1 hFc (Cs1 := [[(r0 6, .inl (cJ, 40, .inr (.inl f_12)))]]) hP1 hD1
  have hpm2 : List.Perm (([[(r0 6, .inl (cJ, 40, .inr (.inl f_12)))]] : List va_W) ++ ([[(h0, .inr (5, [.int fc0, .ref (r0 0), .ref (r0 1), .ref (r0 2), .ref (r0 3), .int dc0, .ref (r0 4), .ref (r0 5), .ref (r0 6), .ref (r0 7), .ref (r0 8), .ref (r0 9)]))], [(r0 0, .inl (cJ, 6, .inr (.inl f_4)))], [(r0 1, .inl (cI, 6, .inl f_5))], [(r0 2, .inl (cI, 6, .inl f_6))], [(r0 3, .inl (cI, 6, .inl f_7))], [(r0 4, .inl (cJ, 4, .inr (.inl f_10)))], [(r0 5, .inl (cI, 4, .inl rk0))], [(r0 7, .inl (cI, 40, .inl f_13))], [(r0 8, .inl (cI, 40, .inl f_15))], [(r0 9, .inl (cI, 40, .inl f_16))]] : List va_W)) ([[(h0, .inr (5, [.int fc0, .ref (r0 0), .ref (r0 1), .ref (r0 2), .ref (r0 3), .int dc0, .ref (r0 4), .ref (r0 5), .ref (r0 6), .ref (r0 7), .ref (r0 8), .ref (r0 9)]))], [(r0 0, .inl (cJ, 6, .inr (.inl f_4)))], [(r0 1, .inl (cI, 6, .inl f_5))], [(r0 2, .inl (cI, 6, .inl f_6))], [(r0 3, .inl (cI, 6, .inl f_7))], [(r0 4, .inl (cJ, 4, .inr (.inl f_10)))], [(r0 5, .inl (cI, 4, .inl rk0))], [(r0 6, .inl (cJ, 40, .inr (.inl f_12)))], [(r0 7, .inl (cI, 40, .inl f_13))], [(r0 8, .inl (cI, 40, .inl f_15))], [(r0 9, .inl (cI, 40, .inl f_16))]] : List va_W) := pm_n 11 [1, 2, 3, 4, 5, 6, 7, 0, 8, 9, 10] (by decide) rfl rfl
  have hP := bk_reP hpm2 hP
  have hD := bk_reD hpm2 hD
  have hP : va_P (dC, dI) vwCl (List.flatten [[(h0, .inr (5, [.int fc0, .ref (r0 0), .ref (r0 1), .ref (r0 2), .ref (r0 3), .int dc0, .ref (r0 4), .ref (r0 5), .ref (r0 6), .ref (r0 7), .ref (r0 8), .ref (r0 9)])), (r0 0, .inl (cJ, 6, .inr (.inl f_4))), (r0 1, .inl (cI, 6, .inl f_5)), (r0 2, .inl (cI, 6, .inl f_6)), (r0 3, .inl (cI, 6, .inl f_7)), (r0 4, .inl (cJ, 4, .inr (.inl f_10))), (r0 5, .inl (cI, 4, .inl rk0)), (r0 6, .inl (cJ, 40, .inr (.inl f_12))), (r0 7, .inl (cI, 40, .inl f_13)), (r0 8, .inl (cI, 40, .inl f_15)), (r0 9, .inl (cI, 40, .inl f_16))]]) H := hP
  have hD : va_D A (List.flatten [[(h0, .inr (5, [.int fc0, .ref (r0 0), .ref (r0 1), .ref (r0 2), .ref (r0 3), .int dc0, .ref (r0 4), .ref (r0 5), .ref (r0 6), .ref (r0 7), .ref (r0 8), .ref (r0 9)])), (r0 0, .inl (cJ, 6, .inr (.inl f_4))), (r0 1, .inl (cI, 6, .inl f_5)), (r0 2, .inl (cI, 6, .inl f_6)), (r0 3, .inl (cI, 6, .inl f_7)), (r0 4, .inl (cJ, 4, .inr (.inl f_10))), (r0 5, .inl (cI, 4, .inl rk0)), (r0 6, .inl (cJ, 40, .inr (.inl f_12))), (r0 7, .inl (cI, 40, .inl f_13)), (r0 8, .inl (cI, 40, .inl f_15)), (r0 9, .inl (cI, 40, .inl f_16))]]) := hD
  obtain ⟨hlr_19, hhr_19⟩ := hw
  rw [hQ0]
  exact W.iret (v := r_19) hx hb hr (fun t ht hW => ⟨⟨r_19, (), rfl, ⟨by omega, by omega⟩, ⟨by rw [ht]; exact hP, hD⟩⟩, hS.F ht⟩) hS.2.2 dX7_rodCalled_25
