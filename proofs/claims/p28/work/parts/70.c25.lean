theorem okx_plan {ad : Nat → Nat} {cB cI cJ cZ : ClassId} {a : Nat} {r : Nat → Nat} {fc : Int32} {dc : Int32} {rk : Nat → Int32} {w : va_W} (h : ok_plan ad cB cI cJ cZ a r fc dc rk w) : 0 ≤ fc.toInt ∧ fc.toInt ≤ 6 ∧ 0 ≤ dc.toInt ∧ dc.toInt ≤ 4 := by
  obtain ⟨_, _, _, _, _, _, _, _, _, _, h0, h1, h2, h3, _, _, _⟩ := h
  exact ⟨h0, h1, h2, h3⟩
theorem iw_X4_readHouse_X4 : ∀ w ∈ wsX40, w ∈ wsX4_readHouse := fun _ h => List.mem_cons_of_mem _ (List.mem_append_left _ (List.mem_append_left _ (List.mem_append_right _ h)))
theorem iw_X4_readHouse_X9 : ∀ w ∈ wsX90, w ∈ wsX4_readHouse := fun _ h => List.mem_cons_of_mem _ (List.mem_append_left _ (List.mem_append_right _ h))
set_option maxHeartbeats 4000000 in
set_option maxRecDepth 100000 in
theorem c_X4_readHouse (l : Launch) (dC : Nat → ClassId) (dI : Nat → Nat → Nat) (ad : Nat → Nat) (tN : Nat) (fN : Nat → Int64) (cB cI cJ cZ : ClassId) (h0 : Nat) (h1 : Nat) (p2 : Int32) (h3 : Nat) (r0 : Nat → Nat) (tk0 : Nat) (rp0 : Nat) (w0 : va_W) (r1 : Nat → Nat) (tx1 : Nat) (w1 : va_W) (f2 : Nat → Int32) (r3 : Nat → Nat) (fc3 : Int32) (dc3 : Int32) (rk3 : Nat → Int32) (w3 : va_W) (o0 : ok_read ad cB cI cJ cZ h0 r0 tk0 rp0 w0) (o1 : ok_tok ad cB cI cJ cZ tk0 r1 tx1 w1) (o3 : ok_plan ad cB cI cJ cZ h3 r3 fc3 dc3 rk3 w3) (sz : Nat) (up21 : 0 ≤ p2.toInt) (up22 : p2.toInt ≤ 1600) : Met l yX4_readHouse wsX4_readHouse ({ frames := 6, cells := 0, slots := 0, locals := 139 } : Room) (va_Pc [.ref h0, .ref h1, .int p2, .ref h3] (fun U => U.heap.size = sz ∧ va_P (dC, dI) vwCl (List.flatten [w0, w1, [(h1, .inl (cB, 1600, .inl f2))], w3]) U.heap ∧ va_K (dC, dI) vwCl [(cB, .byte), (cI, .int), (cJ, .long), (cZ, .boolean)] U ∧ va_D (fun _ => True) (List.flatten [w0, w1, [(h1, .inl (cB, 1600, .inl f2))], w3]) ∧ ex_Y ad tN fN (va_A (List.flatten [w0, w1, [(h1, .inl (cB, 1600, .inl f2))], w3]) sz) U)) (va_Qi (fun (r : Int32) (_ : Unit) => 0 ≤ r.toInt ∧ r.toInt ≤ 1) (fun (_ : Unit) (t : State) => ∃ (w09 : va_W) (w19 : va_W) (fc39 : Int32) (dc39 : Int32) (rk39 : Nat → Int32) (w39 : va_W), ok_read ad cB cI cJ cZ h0 r0 tk0 h3 w09 ∧ ok_tok ad cB cI cJ cZ tk0 r1 h1 w19 ∧ ok_plan ad cB cI cJ cZ h3 r3 fc39 dc39 rk39 w39 ∧ va_P (dC, dI) vwCl (List.flatten [w09, w19, [(h1, .inl (cB, 1600, .inl f2))], w39]) t.heap ∧ va_D (va_A (List.flatten [w0, w1, [(h1, .inl (cB, 1600, .inl f2))], w3]) sz) (List.flatten [w09, w19, [(h1, .inl (cB, 1600, .inl f2))], w39])) (va_A (List.flatten [w0, w1, [(h1, .inl (cB, 1600, .inl f2))], w3]) sz)) 0 0 (va_A (List.flatten [w0, w1, [(h1, .inl (cB, 1600, .inl f2))], w3]) sz) := by
  refine Met.ofW (cc := cX4_readHouse) (maxL := 5) (ret := (some .boolean)) (by decide) rfl ?_
  intro p e s m args below meth c s₁ B hml hv
  obtain ⟨rfl, hsz, hP, hK, hD0, hE⟩ := hv
  have hx := B.exec
  have hb := B.bytes
  have hr := B.returns
  have hts := atoms_spec (ws := wsX4_readHouse) B.pre
  have hown : s.vm.findClass RX4 = some m.cls := findClass_of_methodNamed B.named
  have hlocks := B.notSynchronized
  subst hsz
  have hD := hD0.self (sz := s.heap.size)
  generalize hAe : va_A (List.flatten [w0, w1, [(h1, .inl (cB, 1600, .inl f2))], w3]) s.heap.size = A at hD hE ⊢
  have hA : ∀ q : Nat, s.heap.size ≤ q → A q := fun q h => by rw [← hAe]; exact Or.inr h
  have hS : va_S A s.heap s.heap [] := va_S.rf
  have hl := lv_entry ([.ref h0, .ref h1, .int p2, .ref h3]) (n := 5) (Nat.le_of_ble_eq_true rfl)
  rw [lg_entry_eq]
  generalize (lg_sl ([.ref h0, .ref h1, .int p2, .ref h3]) ++ List.replicate (5 - (lg_sl ([.ref h0, .ref h1, .int p2, .ref h3])).length) Slot.unset).toArray = ls at hl ⊢
  have hl : lv_has ls 5 [(0, .ref h0), (1, .ref h1), (2, .int p2), (3, .ref h3)] := hl
  clear hAe
  refine W_name (fun Q0 hQ0 => ?_)
  obtain ⟨hx_1, hx_2, hx_3, hx_4⟩ := okx_plan o3
  refine lv_aload_n hx hb dX4_readHouse_0 rfl (lv_at hl 0 rfl) ?_
  refine lv_aload_n hx hb dX4_readHouse_1 rfl (lv_at hl 3 rfl) ?_
  obtain ⟨fk_5, fp_6, rfl⟩ := o0
  refine va_put (D := (dC, dI)) (ci := 3) (v := .ref h3) (ty := .object "HungFloors$Plan") (C := RX4) (T := TX4) (N := 4) hx hb hts iw_X4_readHouse_X4 tyX4 tyX4_ok nmX4 hown hK hP hD hS 0 rfl rfl 1 (by decide) (hts (.fieldLink RX4 21 "HungFloors$HouseReader" "plan" "LHungFloors$Plan;") (by decide +kernel)) (fun _ h9 => h9) rfl (by decide +kernel) rfl rfl (Nat.le_of_ble_eq_true rfl) dX4_readHouse_2 (fun H locs hP hD hS => ?_)
  have hP : va_P (dC, dI) vwCl (List.flatten [[(h0, .inr (3, [.ref tk0, .ref h3, .int fk_5, .int fp_6]))], w1, [(h1, .inl (cB, 1600, .inl f2))], w3]) H := hP
  have hD : va_D A (List.flatten [[(h0, .inr (3, [.ref tk0, .ref h3, .int fk_5, .int fp_6]))], w1, [(h1, .inl (cB, 1600, .inl f2))], w3]) := hD
  refine lv_aload_n hx hb dX4_readHouse_5 rfl (lv_at hl 0 rfl) ?_
  refine va_get (D := (dC, dI)) (ci := 3) (v := .ref h3) (C := RX4) (T := TX4) (N := 4) hx hb hts iw_X4_readHouse_X4 hown hK hP 0 rfl rfl 1 (by decide) (hts (.fieldLink RX4 21 "HungFloors$HouseReader" "plan" "LHungFloors$Plan;") (by decide +kernel)) (fun _ h9 => h9) rfl dX4_readHouse_6 ?_
  obtain ⟨f_9, f_10, f_11, f_12, f_15, f_17, f_18, f_20, f_22, rfl, hl_7, hh_8, hl_13, hh_14, hr_16, hr_19, hr_21⟩ := o3
  have hpm : List.Perm ([[(h0, .inr (3, [.ref tk0, .ref h3, .int fk_5, .int fp_6]))], w1, [(h1, .inl (cB, 1600, .inl f2))], [(h3, .inr (5, [.int fc3, .ref (r3 0), .ref (r3 1), .ref (r3 2), .ref (r3 3), .int dc3, .ref (r3 4), .ref (r3 5), .ref (r3 6), .ref (r3 7), .ref (r3 8), .ref (r3 9)])), (r3 0, .inl (cJ, 6, .inr (.inl f_9))), (r3 1, .inl (cI, 6, .inl f_10)), (r3 2, .inl (cI, 6, .inl f_11)), (r3 3, .inl (cI, 6, .inl f_12)), (r3 4, .inl (cJ, 4, .inr (.inl f_15))), (r3 5, .inl (cI, 4, .inl rk3)), (r3 6, .inl (cJ, 40, .inr (.inl f_17))), (r3 7, .inl (cI, 40, .inl f_18)), (r3 8, .inl (cI, 40, .inl f_20)), (r3 9, .inl (cI, 40, .inl f_22))]] : List va_W) (([[(h3, .inr (5, [.int fc3, .ref (r3 0), .ref (r3 1), .ref (r3 2), .ref (r3 3), .int dc3, .ref (r3 4), .ref (r3 5), .ref (r3 6), .ref (r3 7), .ref (r3 8), .ref (r3 9)])), (r3 0, .inl (cJ, 6, .inr (.inl f_9))), (r3 1, .inl (cI, 6, .inl f_10)), (r3 2, .inl (cI, 6, .inl f_11)), (r3 3, .inl (cI, 6, .inl f_12)), (r3 4, .inl (cJ, 4, .inr (.inl f_15))), (r3 5, .inl (cI, 4, .inl rk3)), (r3 6, .inl (cJ, 40, .inr (.inl f_17))), (r3 7, .inl (cI, 40, .inl f_18)), (r3 8, .inl (cI, 40, .inl f_20)), (r3 9, .inl (cI, 40, .inl f_22))]] : List va_W) ++ ([[(h0, .inr (3, [.ref tk0, .ref h3, .int fk_5, .int fp_6]))], w1, [(h1, .inl (cB, 1600, .inl f2))]] : List va_W)) := pm_n 4 [3, 0, 1, 2] (by decide) rfl rfl
  have hPc := bk_P hpm hP
  have hDc := bk_D hpm hD
  have hFc := bk_F hpm hD hS hA
  refine va_callv (va_runV (As := []) (rest := []) ⟨hx, hb, hml, hown, hts⟩ (c_X7_empty l dC dI ad tN fN cB cI cJ cZ h3 r3 fc3 dc3 rk3 _ ⟨f_9, f_10, f_11, f_12, f_15, f_17, f_18, f_20, f_22, rfl, by omega, by omega, by omega, by omega, hr_16, hr_19, hr_21⟩ H.size) (cwV 0 hts gX4_readHouse_X7_empty rfl rfl rfl (by decide +kernel) ⟨(Nat.le_of_ble_eq_true rfl), (Nat.le_of_ble_eq_true rfl)⟩) ⟨fun a U g mk q => by obtain ⟨q0, q1, qP, qK, qD, qE⟩ := q; exact ⟨q0, q1, qP, va_K.moved (u := U) (U := U.calling g mk a) (Vm.Alike.refl U.vm) qK, qD, ey_blind qE⟩, va_recv hK hPc (ci := 5) (q0 := 0) rfl rfl, fun U hU hW => ⟨rfl, by rw [hU], by rw [hU]; exact hPc, va_K.moved hW.alike hK, hDc.weaken (fun _ _ _ _ => trivial), ey_call hE hS hFc hU hW⟩⟩ rfl rfl hl.1 rfl (lv_room (Nat.le_of_ble_eq_true rfl)) dX4_readHouse_9 ⟨(Nat.le_of_ble_eq_true rfl), (Nat.le_of_ble_eq_true rfl)⟩) hS (fun q _ h => hFc q h) hFc (fun u t H locs ht hvm hw hB hz1 hk1 hS => ?_)
  obtain ⟨w_24, o_25, hP1, hD1⟩ := hB
  rw [ht] at hP1
  obtain ⟨hP, hD⟩ := bk_join hpm hP hD hk1 hFc (Cs1 := [w_24]) hP1 hD1
  have hpm2 : List.Perm (([w_24] : List va_W) ++ ([[(h0, .inr (3, [.ref tk0, .ref h3, .int fk_5, .int fp_6]))], w1, [(h1, .inl (cB, 1600, .inl f2))]] : List va_W)) ([[(h0, .inr (3, [.ref tk0, .ref h3, .int fk_5, .int fp_6]))], w1, [(h1, .inl (cB, 1600, .inl f2))], w_24] : List va_W) := pm_n 4 [1, 2, 3, 0] (by decide) rfl rfl
  have hP := bk_reP hpm2 hP
  have hD := bk_reD hpm2 hD
  have hP : va_P (dC, dI) vwCl (List.flatten [[(h0, .inr (3, [.ref tk0, .ref h3, .int fk_5, .int fp_6]))], w1, [(h1, .inl (cB, 1600, .inl f2))], w_24]) H := hP
  have hD : va_D A (List.flatten [[(h0, .inr (3, [.ref tk0, .ref h3, .int fk_5, .int fp_6]))], w1, [(h1, .inl (cB, 1600, .inl f2))], w_24]) := hD
  obtain ⟨hx_26, hx_27, hx_28, hx_29⟩ := okx_plan o_25
  refine lv_aload_n hx hb dX4_readHouse_12 rfl (lv_at hl 0 rfl) ?_
  refine lv_iconst (v := 0) hx hb dX4_readHouse_13 (by decide) ?_
  refine va_put (D := (dC, dI)) (ci := 3) (v := .int 0) (ty := .int) (C := RX4) (T := TX4) (N := 4) hx hb hts iw_X4_readHouse_X4 tyX4 tyX4_ok nmX4 hown hK hP hD hS 0 rfl rfl 2 (by decide) (hts (.fieldLink RX4 25 "HungFloors$HouseReader" "faultKind" "I") (by decide +kernel)) (fun _ h9 => h9) rfl (by decide +kernel) rfl rfl (Nat.le_of_ble_eq_true rfl) dX4_readHouse_14 (fun H locs hP hD hS => ?_)
  have hP : va_P (dC, dI) vwCl (List.flatten [[(h0, .inr (3, [.ref tk0, .ref h3, .int 0, .int fp_6]))], w1, [(h1, .inl (cB, 1600, .inl f2))], w_24]) H := hP
  have hD : va_D A (List.flatten [[(h0, .inr (3, [.ref tk0, .ref h3, .int 0, .int fp_6]))], w1, [(h1, .inl (cB, 1600, .inl f2))], w_24]) := hD
  refine lv_aload_n hx hb dX4_readHouse_17 rfl (lv_at hl 0 rfl) ?_
  refine lv_iconst (v := (-1)) hx hb dX4_readHouse_18 (by decide) ?_
  refine va_put (D := (dC, dI)) (ci := 3) (v := .int (-1)) (ty := .int) (C := RX4) (T := TX4) (N := 4) hx hb hts iw_X4_readHouse_X4 tyX4 tyX4_ok nmX4 hown hK hP hD hS 0 rfl rfl 3 (by decide) (hts (.fieldLink RX4 29 "HungFloors$HouseReader" "faultPlace" "I") (by decide +kernel)) (fun _ h9 => h9) rfl (by decide +kernel) rfl rfl (Nat.le_of_ble_eq_true rfl) dX4_readHouse_19 (fun H locs hP hD hS => ?_)
  have hP : va_P (dC, dI) vwCl (List.flatten [[(h0, .inr (3, [.ref tk0, .ref h3, .int 0, .int (-1)]))], w1, [(h1, .inl (cB, 1600, .inl f2))], w_24]) H := hP
  have hD : va_D A (List.flatten [[(h0, .inr (3, [.ref tk0, .ref h3, .int 0, .int (-1)]))], w1, [(h1, .inl (cB, 1600, .inl f2))], w_24]) := hD
  refine lv_aload_n hx hb dX4_readHouse_22 rfl (lv_at hl 0 rfl) ?_
  refine va_get (D := (dC, dI)) (ci := 3) (v := .ref tk0) (C := RX4) (T := TX4) (N := 4) hx hb hts iw_X4_readHouse_X4 hown hK hP 0 rfl rfl 0 (by decide) (hts (.fieldLink RX4 12 "HungFloors$HouseReader" "tokens" "LHungFloors$Tokens;") (by decide +kernel)) (fun _ h9 => h9) rfl dX4_readHouse_23 ?_
  refine lv_aload_n hx hb dX4_readHouse_26 rfl (lv_at hl 1 rfl) ?_
  refine lv_iload_n hx hb dX4_readHouse_27 rfl (lv_at hl 2 rfl) ?_
  obtain ⟨ln_30, ap_33, kd_36, sa_37, wd_38, nu_39, rfl, hl_31, hh_32, hl_34, hh_35⟩ := o1
  have hpm : List.Perm ([[(h0, .inr (3, [.ref tk0, .ref h3, .int 0, .int (-1)]))], [(tk0, .inr (7, [.ref tx1, .int ln_30, .int ap_33, .ref (ad kd_36), .int sa_37, .long wd_38, .int nu_39]))], [(h1, .inl (cB, 1600, .inl f2))], w_24] : List va_W) (([[(tk0, .inr (7, [.ref tx1, .int ln_30, .int ap_33, .ref (ad kd_36), .int sa_37, .long wd_38, .int nu_39]))], [(h1, .inl (cB, 1600, .inl f2))]] : List va_W) ++ ([[(h0, .inr (3, [.ref tk0, .ref h3, .int 0, .int (-1)]))], w_24] : List va_W)) := pm_n 4 [1, 2, 0, 3] (by decide) rfl rfl
  have hPc := bk_P hpm hP
  have hDc := bk_D hpm hD
  have hFc := bk_F hpm hD hS hA
  refine va_callv (va_runV (As := [.ref h1, .int p2]) (rest := []) ⟨hx, hb, hml, hown, hts⟩ (c_X9_begin l dC dI ad tN fN cB cI cJ cZ tk0 h1 p2 r1 tx1 _ _ ⟨ln_30, ap_33, kd_36, sa_37, wd_38, nu_39, rfl, by omega, by omega, by omega, by omega⟩ H.size (by omega) (by omega)) (cwV 2 hts gX4_readHouse_X9_begin rfl rfl rfl (by decide +kernel) ⟨(Nat.le_of_ble_eq_true rfl), (Nat.le_of_ble_eq_true rfl)⟩) ⟨fun a U g mk q => by obtain ⟨q0, q1, qP, qK, qD, qE⟩ := q; exact ⟨q0, q1, qP, va_K.moved (u := U) (U := U.calling g mk a) (Vm.Alike.refl U.vm) qK, qD, ey_blind qE⟩, va_recv hK hPc (ci := 7) (q0 := 0) rfl rfl, fun U hU hW => ⟨rfl, by rw [hU], by rw [hU]; exact hPc, va_K.moved hW.alike hK, hDc.weaken (fun _ _ _ _ => trivial), ey_call hE hS hFc hU hW⟩⟩ rfl rfl hl.1 rfl (lv_room (Nat.le_of_ble_eq_true rfl)) dX4_readHouse_28 ⟨(Nat.le_of_ble_eq_true rfl), (Nat.le_of_ble_eq_true rfl)⟩) hS (fun q _ h => hFc q h) hFc (fun u t H locs ht hvm hw hB hz1 hk1 hS => ?_)
  obtain ⟨w_41, o_42, hP1, hD1⟩ := hB
  rw [ht] at hP1
  obtain ⟨hP, hD⟩ := bk_join hpm hP hD hk1 hFc (Cs1 := [w_41, [(h1, .inl (cB, 1600, .inl f2))]]) hP1 hD1
  have hpm2 : List.Perm (([w_41, [(h1, .inl (cB, 1600, .inl f2))]] : List va_W) ++ ([[(h0, .inr (3, [.ref tk0, .ref h3, .int 0, .int (-1)]))], w_24] : List va_W)) ([[(h0, .inr (3, [.ref tk0, .ref h3, .int 0, .int (-1)]))], w_41, [(h1, .inl (cB, 1600, .inl f2))], w_24] : List va_W) := pm_n 4 [2, 0, 1, 3] (by decide) rfl rfl
  have hP := bk_reP hpm2 hP
  have hD := bk_reD hpm2 hD
  have hP : va_P (dC, dI) vwCl (List.flatten [[(h0, .inr (3, [.ref tk0, .ref h3, .int 0, .int (-1)]))], w_41, [(h1, .inl (cB, 1600, .inl f2))], w_24]) H := hP
  have hD : va_D A (List.flatten [[(h0, .inr (3, [.ref tk0, .ref h3, .int 0, .int (-1)]))], w_41, [(h1, .inl (cB, 1600, .inl f2))], w_24]) := hD
  refine lv_iconst (v := 0) hx hb dX4_readHouse_31 (by decide) ?_
  refine lv_istore (lv' := [(4, .int 0), (0, .ref h0), (1, .ref h1), (2, .int p2), (3, .ref h3)]) hx hb dX4_readHouse_32 hl (by decide) rfl (fun ls hl => ?_)
  obtain ⟨ln_72, ap_75, kd_78, sa_79, wd_80, nu_81, rfl, hl_73, hh_74, hl_76, hh_77⟩ := o_42
  have lp_565 : ∀ (n : Nat) (g_43 : Int32) (gw_100 : va_W) (gw_101 : va_W) (g_133 : Int32) (g_134 : Int32) (gf_135 : Nat → Int32) (gw_102 : va_W), ok_read ad cB cI cJ cZ h0 r0 tk0 h3 gw_100 → ok_tok ad cB cI cJ cZ tk0 r1 h1 gw_101 → ok_plan ad cB cI cJ cZ h3 r3 g_133 g_134 gf_135 gw_102 → 0 ≤ g_43.toInt → g_43.toInt ≤ 1600 → 0 ≤ g_133.toInt → g_133.toInt ≤ 6 → 0 ≤ g_134.toInt → g_134.toInt ≤ 4 → g_134.toInt - g_43.toInt ≤ 3 → g_134.toInt - p2.toInt ≤ 3 → g_43.toInt - p2.toInt ≤ 0 → (1600 - g_43.toInt).toNat < n → ∀ (H : Heap) (locs : List Loc), va_P (dC, dI) vwCl (List.flatten [gw_100, gw_101, [(h1, .inl (cB, 1600, .inl f2))], gw_102]) H → va_D A (List.flatten [gw_100, gw_101, [(h1, .inl (cB, 1600, .inl f2))], gw_102]) → va_S A s.heap H locs → ∀ (ls : Array Slot), lv_has ls 5 [(4, .int g_43), (0, .ref h0), (1, .ref h1), (2, .int p2), (3, .ref h3)] → W p l e (headSpec wsX4_readHouse ({ frames := 6, cells := 0, slots := 0, locals := 139 } : Room)).room s m ([.ref h0, .ref h1, .int p2, .ref h3] : List Value).toArray below meth c H locs 0 0 Q0 (F0 m 34 ls []) := by
    intro n
    induction n with
    | zero => intro g_43 gw_100 gw_101 g_133 g_134 gf_135 gw_102 okgw_100 okgw_101 okgw_102 iv_556 iv_557 iv_558 iv_559 iv_560 iv_561 iv_562 iv_563 iv_564 hm; exact absurd hm (Nat.not_lt_zero _)
    | succ n ih_566 =>
      intro g_43 gw_100 gw_101 g_133 g_134 gf_135 gw_102 okgw_100 okgw_101 okgw_102 iv_556 iv_557 iv_558 iv_559 iv_560 iv_561 iv_562 iv_563 iv_564 hm H locs hP hD hS ls hl
      obtain ⟨hx_567, hx_568, hx_569, hx_570⟩ := okx_plan okgw_102
      refine lv_iload hx hb dX4_readHouse_34 (lv_at hl 0 rfl) ?_
      refine lv_iload_n hx hb dX4_readHouse_36 rfl (lv_at hl 3 rfl) ?_
      refine lv_icmp_ge (tgt := 68) hx hb dX4_readHouse_37 (by decide) (fun c_571 => ?_) (fun c_571 => ?_)
      · have c_571 : p2.toInt ≤ g_43.toInt := f_le rfl rfl c_571
        refine lv_iconst (v := 1) hx hb dX4_readHouse_68 (by decide) ?_
        rw [hQ0]
        exact W.zret (v := 1) hx hb hr (by decide) (fun t ht hW => ⟨⟨1, (), rfl, ⟨by decide, by decide⟩, ⟨_, _, g_133, g_134, gf_135, _, okgw_100, okgw_101, okgw_102, by rw [ht]; exact hP, hD⟩⟩, hS.F ht⟩) hS.2.2 dX4_readHouse_69
      · have c_571 : g_43.toInt < p2.toInt := f_nle rfl rfl c_571
        refine lv_aload_n hx hb dX4_readHouse_40 rfl (lv_at hl 1 rfl) ?_
        obtain ⟨fk_572, fp_573, rfl⟩ := okgw_100
        refine va_get (D := (dC, dI)) (ci := 3) (v := .ref tk0) (C := RX4) (T := TX4) (N := 4) hx hb hts iw_X4_readHouse_X4 hown hK hP 0 rfl rfl 0 (by decide) (hts (.fieldLink RX4 12 "HungFloors$HouseReader" "tokens" "LHungFloors$Tokens;") (by decide +kernel)) (fun _ h9 => h9) rfl dX4_readHouse_41 ?_
        obtain ⟨ln_574, ap_577, kd_580, sa_581, wd_582, nu_583, rfl, hl_575, hh_576, hl_578, hh_579⟩ := okgw_101
        refine va_get (D := (dC, dI)) (ci := 7) (v := .ref (ad kd_580)) (C := RX9) (T := TX9) (N := 7) hx hb hts iw_X4_readHouse_X9 hown hK hP 1 rfl rfl 3 (by decide) (hts (.fieldLink RX4 39 "HungFloors$Tokens" "kind" "LHungFloors$Kind;") (by decide +kernel)) (fun _ h9 => h9) rfl dX4_readHouse_44 ?_
        refine va_gets hx hb (hE.2.1.1 3 (by decide)).1 hS hown (hts (.fieldLink RX4 43 "HungFloors$Kind" "END" "LHungFloors$Kind;") (by decide +kernel)) (fun _ h9 => h9) dX4_readHouse_47 ?_
        refine lv_acmp_eq (rx := some (ad kd_580)) (ry := some (ad 3)) (tgt := 68) hx hb dX4_readHouse_50 (by decide) (fun c_584 => ?_) (fun c_584 => ?_)
        · refine lv_iconst (v := 1) hx hb dX4_readHouse_68 (by decide) ?_
          rw [hQ0]
          exact W.zret (v := 1) hx hb hr (by decide) (fun t ht hW => ⟨⟨1, (), rfl, ⟨by decide, by decide⟩, ⟨_, _, g_133, g_134, gf_135, _, ⟨fk_572, fp_573, rfl⟩, ⟨ln_574, ap_577, kd_580, sa_581, wd_582, nu_583, rfl, by omega, by omega, by omega, by omega⟩, okgw_102, by rw [ht]; exact hP, hD⟩⟩, hS.F ht⟩) hS.2.2 dX4_readHouse_69
        · refine lv_aload_n hx hb dX4_readHouse_53 rfl (lv_at hl 1 rfl) ?_
          have hpm : List.Perm ([[(h0, .inr (3, [.ref tk0, .ref h3, .int fk_572, .int fp_573]))], [(tk0, .inr (7, [.ref h1, .int ln_574, .int ap_577, .ref (ad kd_580), .int sa_581, .long wd_582, .int nu_583]))], [(h1, .inl (cB, 1600, .inl f2))], gw_102] : List va_W) (([[(h0, .inr (3, [.ref tk0, .ref h3, .int fk_572, .int fp_573]))], [(tk0, .inr (7, [.ref h1, .int ln_574, .int ap_577, .ref (ad kd_580), .int sa_581, .long wd_582, .int nu_583]))], [(h1, .inl (cB, 1600, .inl f2))], gw_102] : List va_W) ++ ([] : List va_W)) := pm_n 4 [0, 1, 2, 3] (by decide) rfl rfl
          have hPc := bk_P hpm hP
          have hDc := bk_D hpm hD
          have hFc := bk_F hpm hD hS hA
          refine va_calli (va_runV (As := []) (rest := []) ⟨hx, hb, hml, hown, hts⟩ (c_X4_readLine l dC dI ad tN fN cB cI cJ cZ h0 r0 tk0 h3 _ r1 h1 _ _ r3 g_133 g_134 gf_135 _ ⟨fk_572, fp_573, rfl⟩ ⟨ln_574, ap_577, kd_580, sa_581, wd_582, nu_583, rfl, by omega, by omega, by omega, by omega⟩ okgw_102 H.size) (cwV 0 hts gX4_readHouse_X4_readLine rfl rfl rfl (by decide +kernel) ⟨(Nat.le_of_ble_eq_true rfl), (Nat.le_of_ble_eq_true rfl)⟩) ⟨fun a U g mk q => by obtain ⟨q0, q1, qP, qK, qD, qE⟩ := q; exact ⟨q0, q1, qP, va_K.moved (u := U) (U := U.calling g mk a) (Vm.Alike.refl U.vm) qK, qD, ey_blind qE⟩, va_recv hK hPc (ci := 3) (q0 := 0) rfl rfl, fun U hU hW => ⟨rfl, by rw [hU], by rw [hU]; exact hPc, va_K.moved hW.alike hK, hDc.weaken (fun _ _ _ _ => trivial), ey_call hE hS hFc hU hW⟩⟩ rfl rfl hl.1 rfl (lv_room (Nat.le_of_ble_eq_true rfl)) dX4_readHouse_54 ⟨(Nat.le_of_ble_eq_true rfl), (Nat.le_of_ble_eq_true rfl)⟩) hS (fun q _ h => hFc q h) hFc (fun r_585 u t H locs ht hvm hw hB hz1 hk1 hS => ?_)
          obtain ⟨w_586, w_588, fc_592, dc_593, fx_594, w_590, o_587, o_589, o_591, hP1, hD1⟩ := hB
          rw [ht] at hP1
          obtain ⟨hP, hD⟩ := bk_join hpm hP hD hk1 hFc (Cs1 := [w_586, w_588, [(h1, .inl (cB, 1600, .inl f2))], w_590]) hP1 hD1
          have hpm2 : List.Perm (([w_586, w_588, [(h1, .inl (cB, 1600, .inl f2))], w_590] : List va_W) ++ ([] : List va_W)) ([w_586, w_588, [(h1, .inl (cB, 1600, .inl f2))], w_590] : List va_W) := pm_n 4 [0, 1, 2, 3] (by decide) rfl rfl
          have hP := bk_reP hpm2 hP
          have hD := bk_reD hpm2 hD
          have hP : va_P (dC, dI) vwCl (List.flatten [w_586, w_588, [(h1, .inl (cB, 1600, .inl f2))], w_590]) H := hP
          have hD : va_D A (List.flatten [w_586, w_588, [(h1, .inl (cB, 1600, .inl f2))], w_590]) := hD
          obtain ⟨hx_595, hx_596, hx_597, hx_598⟩ := okx_plan o_591
          obtain ⟨hlr_585, hhr_585⟩ := hw
          refine lv_if_ne (tgt := 62) hx hb dX4_readHouse_57 (by decide) (fun c_599 => ?_) (fun c_599 => ?_)
          · have c_599 : ¬ r_585.toInt = 0 := f_ne rfl tI_0 c_599
            obtain ⟨z_600, ez_600⟩ : ∃ y : Int32, y = g_43 + 1 := ⟨_, rfl⟩
            have hz_600 : z_600.toInt = g_43.toInt + 1 := by rw [ez_600]; exact t_add rfl tI_1 (by omega) (by omega)
            refine lv_iinc (v := z_600) (lv' := [(4, .int z_600), (0, .ref h0), (1, .ref h1), (2, .int p2), (3, .ref h3)]) hx hb dX4_readHouse_62 hl (k := 0) rfl (by rw [ez_600]; rfl) (by decide) rfl (fun ls hl => ?_)
            refine lv_goto (tgt := 34) hx hb dX4_readHouse_65 (by decide) ?_
            exact ih_566 z_600 _ _ fc_592 dc_593 fx_594 _ o_587 o_589 o_591 (by omega) (by omega) (by omega) (by omega) (by omega) (by omega) (by omega) (by omega) (by omega) (by omega) _ _ hP hD hS ls (lv_sub hl [0, 1, 2, 3, 4] rfl)
          · have c_599 : r_585.toInt = 0 := f_eq rfl tI_0 c_599
            refine lv_iconst (v := 0) hx hb dX4_readHouse_60 (by decide) ?_
            rw [hQ0]
            exact W.zret (v := 0) hx hb hr (by decide) (fun t ht hW => ⟨⟨0, (), rfl, ⟨by decide, by decide⟩, ⟨_, _, fc_592, dc_593, fx_594, _, o_587, o_589, o_591, by rw [ht]; exact hP, hD⟩⟩, hS.F ht⟩) hS.2.2 dX4_readHouse_61
  exact lp_565 _ 0 _ _ 0 0 rk3 _ ⟨0, (-1), rfl⟩ ⟨ln_72, ap_75, kd_78, sa_79, wd_80, nu_81, rfl, by omega, by omega, by omega, by omega⟩ o_25 (by have := tI_0; omega) (by have := tI_0; omega) (by have := tI_0; omega) (by have := tI_0; omega) (by have := tI_0; omega) (by have := tI_0; omega) (by have := tI_0; omega) (by have := tI_0; omega) (by have := tI_0; omega) (Nat.lt_succ_self _) _ _ hP hD hS ls (lv_sub hl [0, 1, 2, 3, 4] rfl)
theorem iw_X3_loadPeople_X3 : ∀ w ∈ wsX30, w ∈ wsX3_loadPeople := fun _ h => List.mem_cons_of_mem _ (List.mem_append_left _ (List.mem_append_right _ h))
theorem iw_X3_loadPeople_X7 : ∀ w ∈ wsX70, w ∈ wsX3_loadPeople := fun _ h => List.mem_cons_of_mem _ (List.mem_append_right _ h)
set_option maxHeartbeats 4000000 in
set_option maxRecDepth 100000 in
theorem c_X3_loadPeople (l : Launch) (dC : Nat → ClassId) (dI : Nat → Nat → Nat) (ad : Nat → Nat) (tN : Nat) (fN : Nat → Int64) (cB cI cJ cZ : ClassId) (h0 : Nat) (h1 : Nat) (p2 : Int32) (r0 : Nat → Nat) (pl0 : Nat) (w0 : va_W) (r1 : Nat → Nat) (fc1 : Int32) (dc1 : Int32) (rk1 : Nat → Int32) (w1 : va_W) (f2 : Nat → Int32) (o0 : ok_frame ad cB cI cJ cZ h0 r0 pl0 w0) (o1 : ok_plan ad cB cI cJ cZ pl0 r1 fc1 dc1 rk1 w1) (sz : Nat) : Met l yX3_loadPeople wsX3_loadPeople ({ frames := 1, cells := 0, slots := 0, locals := 21 } : Room) (va_Pc [.ref h0, .ref h1, .int p2] (fun U => U.heap.size = sz ∧ va_P (dC, dI) vwCl (List.flatten [w0, w1, [(h1, .inl (cI, 6, .inl f2))]]) U.heap ∧ va_K (dC, dI) vwCl [(cB, .byte), (cI, .int), (cJ, .long), (cZ, .boolean)] U ∧ va_D (fun _ => True) (List.flatten [w0, w1, [(h1, .inl (cI, 6, .inl f2))]]) ∧ ex_Y ad tN fN (va_A (List.flatten [w0, w1, [(h1, .inl (cI, 6, .inl f2))]]) sz) U)) (va_Qv (fun _ : Unit => True) (fun (_ : Unit) (t : State) => ∃ (w09 : va_W), ok_frame ad cB cI cJ cZ h0 r0 pl0 w09 ∧ va_P (dC, dI) vwCl (List.flatten [w09, w1, [(h1, .inl (cI, 6, .inl f2))]]) t.heap ∧ va_D (va_A (List.flatten [w0, w1, [(h1, .inl (cI, 6, .inl f2))]]) sz) (List.flatten [w09, w1, [(h1, .inl (cI, 6, .inl f2))]])) (va_A (List.flatten [w0, w1, [(h1, .inl (cI, 6, .inl f2))]]) sz)) 0 0 (va_A (List.flatten [w0, w1, [(h1, .inl (cI, 6, .inl f2))]]) sz) := by
  refine Met.ofW (cc := cX3_loadPeople) (maxL := 4) (ret := none) (by decide) rfl ?_
  intro p e s m args below meth c s₁ B hml hv
  obtain ⟨rfl, hsz, hP, hK, hD0, hE⟩ := hv
  have hx := B.exec
  have hb := B.bytes
  have hr := B.returns
  have hts := atoms_spec (ws := wsX3_loadPeople) B.pre
  have hown : s.vm.findClass RX3 = some m.cls := findClass_of_methodNamed B.named
  have hlocks := B.notSynchronized
  subst hsz
  have hD := hD0.self (sz := s.heap.size)
  generalize hAe : va_A (List.flatten [w0, w1, [(h1, .inl (cI, 6, .inl f2))]]) s.heap.size = A at hD hE ⊢
  have hA : ∀ q : Nat, s.heap.size ≤ q → A q := fun q h => by rw [← hAe]; exact Or.inr h
  have hS : va_S A s.heap s.heap [] := va_S.rf
  have hl := lv_entry ([.ref h0, .ref h1, .int p2]) (n := 4) (Nat.le_of_ble_eq_true rfl)
  rw [lg_entry_eq]
  generalize (lg_sl ([.ref h0, .ref h1, .int p2]) ++ List.replicate (4 - (lg_sl ([.ref h0, .ref h1, .int p2])).length) Slot.unset).toArray = ls at hl ⊢
  have hl : lv_has ls 4 [(0, .ref h0), (1, .ref h1), (2, .int p2)] := hl
  clear hAe
  refine W_name (fun Q0 hQ0 => ?_)
  refine lv_aload_n hx hb dX3_loadPeople_0 rfl (lv_at hl 0 rfl) ?_
  obtain ⟨fr_1, dr_4, rc_7, f_10, f_12, gn_13, f_14, f_15, f_16, f_17, f_18, sc_19, jc_20, f_23, f_25, rfl, hl_2, hh_3, hl_5, hh_6, hl_8, hh_9, hr_11, hl_21, hh_22, hr_24, hr_26⟩ := o0
  have hpm : List.Perm ([[(h0, .inr (2, [.ref pl0, .int fr_1, .int dr_4, .int rc_7, .ref (r0 0), .ref (r0 1), .int gn_13, .ref (r0 2), .ref (r0 3), .ref (r0 4), .ref (r0 5), .ref (r0 6), .long sc_19, .int jc_20, .ref (r0 7), .ref (r0 8)])), (r0 0, .inl (cI, 10, .inl f_10)), (r0 1, .inl (cI, 10, .inl f_12)), (r0 2, .inl (cI, 6, .inl f_14)), (r0 3, .inl (cJ, 6, .inr (.inl f_15))), (r0 4, .inl (cJ, 6, .inr (.inl f_16))), (r0 5, .inl (cJ, 6, .inr (.inl f_17))), (r0 6, .inl (cJ, 10, .inr (.inl f_18))), (r0 7, .inl (cI, 70, .inl f_23)), (r0 8, .inl (cI, 70, .inl f_25))], w1, [(h1, .inl (cI, 6, .inl f2))]] : List va_W) (([[(h0, .inr (2, [.ref pl0, .int fr_1, .int dr_4, .int rc_7, .ref (r0 0), .ref (r0 1), .int gn_13, .ref (r0 2), .ref (r0 3), .ref (r0 4), .ref (r0 5), .ref (r0 6), .long sc_19, .int jc_20, .ref (r0 7), .ref (r0 8)])), (r0 0, .inl (cI, 10, .inl f_10)), (r0 1, .inl (cI, 10, .inl f_12)), (r0 2, .inl (cI, 6, .inl f_14)), (r0 3, .inl (cJ, 6, .inr (.inl f_15))), (r0 4, .inl (cJ, 6, .inr (.inl f_16))), (r0 5, .inl (cJ, 6, .inr (.inl f_17))), (r0 6, .inl (cJ, 10, .inr (.inl f_18))), (r0 7, .inl (cI, 70, .inl f_23)), (r0 8, .inl (cI, 70, .inl f_25))], w1] : List va_W) ++ ([[(h1, .inl (cI, 6, .inl f2))]] : List va_W)) := pm_n 3 [0, 1, 2] (by decide) rfl rfl
  have hPc := bk_P hpm hP
  have hDc := bk_D hpm hD
  have hFc := bk_F hpm hD hS hA
  refine va_callv (va_runV (As := []) (rest := []) ⟨hx, hb, hml, hown, hts⟩ (c_X3_loadNobody l dC dI ad tN fN cB cI cJ cZ h0 r0 pl0 _ r1 fc1 dc1 rk1 _ ⟨fr_1, dr_4, rc_7, f_10, f_12, gn_13, f_14, f_15, f_16, f_17, f_18, sc_19, jc_20, f_23, f_25, rfl, by omega, by omega, by omega, by omega, by omega, by omega, hr_11, by omega, by omega, hr_24, hr_26⟩ o1 s.heap.size) (cwV 0 hts gX3_loadPeople_X3_loadNobody rfl rfl rfl (by decide +kernel) ⟨(Nat.le_of_ble_eq_true rfl), (Nat.le_of_ble_eq_true rfl)⟩) ⟨fun a U g mk q => by obtain ⟨q0, q1, qP, qK, qD, qE⟩ := q; exact ⟨q0, q1, qP, va_K.moved (u := U) (U := U.calling g mk a) (Vm.Alike.refl U.vm) qK, qD, ey_blind qE⟩, va_recv hK hPc (ci := 2) (q0 := 0) rfl rfl, fun U hU hW => ⟨rfl, by rw [hU], by rw [hU]; exact hPc, va_K.moved hW.alike hK, hDc.weaken (fun _ _ _ _ => trivial), ey_call hE hS hFc hU hW⟩⟩ rfl rfl hl.1 rfl (lv_room (Nat.le_of_ble_eq_true rfl)) dX3_loadPeople_1 ⟨(Nat.le_of_ble_eq_true rfl), (Nat.le_of_ble_eq_true rfl)⟩) hS (fun q _ h => hFc q h) hFc (fun u t H locs ht hvm hw hB hz1 hk1 hS => ?_)
  obtain ⟨w_28, o_29, hP1, hD1⟩ := hB
  rw [ht] at hP1
  obtain ⟨hP, hD⟩ := bk_join hpm hP hD hk1 hFc (Cs1 := [w_28, w1]) hP1 hD1
  have hpm2 : List.Perm (([w_28, w1] : List va_W) ++ ([[(h1, .inl (cI, 6, .inl f2))]] : List va_W)) ([w_28, w1, [(h1, .inl (cI, 6, .inl f2))]] : List va_W) := pm_n 3 [0, 1, 2] (by decide) rfl rfl
  have hP := bk_reP hpm2 hP
  have hD := bk_reD hpm2 hD
  have hP : va_P (dC, dI) vwCl (List.flatten [w_28, w1, [(h1, .inl (cI, 6, .inl f2))]]) H := hP
  have hD : va_D A (List.flatten [w_28, w1, [(h1, .inl (cI, 6, .inl f2))]]) := hD
  refine lv_iconst (v := 0) hx hb dX3_loadPeople_4 (by decide) ?_
  refine lv_istore_n (lv' := [(3, .int 0), (0, .ref h0), (1, .ref h1), (2, .int p2)]) hx hb dX3_loadPeople_5 rfl hl (by decide) rfl (fun ls hl => ?_)
  obtain ⟨fr_84, dr_87, rc_90, f_93, f_95, gn_96, f_97, f_98, f_99, f_100, f_101, sc_102, jc_103, f_106, f_108, rfl, hl_85, hh_86, hl_88, hh_89, hl_91, hh_92, hr_94, hl_104, hh_105, hr_107, hr_109⟩ := o_29
  obtain ⟨f_112, f_113, f_114, f_115, f_118, f_120, f_121, f_123, f_125, rfl, hl_110, hh_111, hl_116, hh_117, hr_119, hr_122, hr_124⟩ := o1
  have lp_218 : ∀ (n : Nat) (g_30 : Int32) (gf_137 : Nat → Int64), 0 ≤ g_30.toInt → g_30.toInt ≤ 6 → g_30.toInt - fc1.toInt ≤ 0 → (6 - g_30.toInt).toNat < n → ∀ (H : Heap) (locs : List Loc), va_P (dC, dI) vwCl (List.flatten [[(h0, .inr (2, [.ref pl0, .int fr_84, .int dr_87, .int rc_90, .ref (r0 0), .ref (r0 1), .int gn_96, .ref (r0 2), .ref (r0 3), .ref (r0 4), .ref (r0 5), .ref (r0 6), .long sc_102, .int jc_103, .ref (r0 7), .ref (r0 8)])), (r0 0, .inl (cI, 10, .inl f_93)), (r0 1, .inl (cI, 10, .inl f_95)), (r0 2, .inl (cI, 6, .inl f_97)), (r0 3, .inl (cJ, 6, .inr (.inl gf_137))), (r0 4, .inl (cJ, 6, .inr (.inl f_99))), (r0 5, .inl (cJ, 6, .inr (.inl f_100))), (r0 6, .inl (cJ, 10, .inr (.inl f_101))), (r0 7, .inl (cI, 70, .inl f_106)), (r0 8, .inl (cI, 70, .inl f_108))], [(pl0, .inr (5, [.int fc1, .ref (r1 0), .ref (r1 1), .ref (r1 2), .ref (r1 3), .int dc1, .ref (r1 4), .ref (r1 5), .ref (r1 6), .ref (r1 7), .ref (r1 8), .ref (r1 9)])), (r1 0, .inl (cJ, 6, .inr (.inl f_112))), (r1 1, .inl (cI, 6, .inl f_113)), (r1 2, .inl (cI, 6, .inl f_114)), (r1 3, .inl (cI, 6, .inl f_115)), (r1 4, .inl (cJ, 4, .inr (.inl f_118))), (r1 5, .inl (cI, 4, .inl rk1)), (r1 6, .inl (cJ, 40, .inr (.inl f_120))), (r1 7, .inl (cI, 40, .inl f_121)), (r1 8, .inl (cI, 40, .inl f_123)), (r1 9, .inl (cI, 40, .inl f_125))], [(h1, .inl (cI, 6, .inl f2))]]) H → va_D A (List.flatten [[(h0, .inr (2, [.ref pl0, .int fr_84, .int dr_87, .int rc_90, .ref (r0 0), .ref (r0 1), .int gn_96, .ref (r0 2), .ref (r0 3), .ref (r0 4), .ref (r0 5), .ref (r0 6), .long sc_102, .int jc_103, .ref (r0 7), .ref (r0 8)])), (r0 0, .inl (cI, 10, .inl f_93)), (r0 1, .inl (cI, 10, .inl f_95)), (r0 2, .inl (cI, 6, .inl f_97)), (r0 3, .inl (cJ, 6, .inr (.inl gf_137))), (r0 4, .inl (cJ, 6, .inr (.inl f_99))), (r0 5, .inl (cJ, 6, .inr (.inl f_100))), (r0 6, .inl (cJ, 10, .inr (.inl f_101))), (r0 7, .inl (cI, 70, .inl f_106)), (r0 8, .inl (cI, 70, .inl f_108))], [(pl0, .inr (5, [.int fc1, .ref (r1 0), .ref (r1 1), .ref (r1 2), .ref (r1 3), .int dc1, .ref (r1 4), .ref (r1 5), .ref (r1 6), .ref (r1 7), .ref (r1 8), .ref (r1 9)])), (r1 0, .inl (cJ, 6, .inr (.inl f_112))), (r1 1, .inl (cI, 6, .inl f_113)), (r1 2, .inl (cI, 6, .inl f_114)), (r1 3, .inl (cI, 6, .inl f_115)), (r1 4, .inl (cJ, 4, .inr (.inl f_118))), (r1 5, .inl (cI, 4, .inl rk1)), (r1 6, .inl (cJ, 40, .inr (.inl f_120))), (r1 7, .inl (cI, 40, .inl f_121)), (r1 8, .inl (cI, 40, .inl f_123)), (r1 9, .inl (cI, 40, .inl f_125))], [(h1, .inl (cI, 6, .inl f2))]]) → va_S A s.heap H locs → ∀ (ls : Array Slot), lv_has ls 4 [(3, .int g_30), (0, .ref h0), (1, .ref h1), (2, .int p2)] → W p l e (headSpec wsX3_loadPeople ({ frames := 1, cells := 0, slots := 0, locals := 21 } : Room)).room s m ([.ref h0, .ref h1, .int p2] : List Value).toArray below meth c H locs 0 0 Q0 (F0 m 6 ls []) := by
    intro n
    induction n with
    | zero => intro g_30 gf_137 iv_215 iv_216 iv_217 hm; exact absurd hm (Nat.not_lt_zero _)
    | succ n ih_219 =>
      intro g_30 gf_137 iv_215 iv_216 iv_217 hm H locs hP hD hS ls hl
      refine lv_iload_n hx hb dX3_loadPeople_6 rfl (lv_at hl 0 rfl) ?_
      refine lv_aload_n hx hb dX3_loadPeople_7 rfl (lv_at hl 1 rfl) ?_
      refine va_get (D := (dC, dI)) (ci := 2) (v := .ref pl0) (C := RX3) (T := TX3) (N := 16) hx hb hts iw_X3_loadPeople_X3 hown hK hP 0 rfl rfl 0 (by decide) (hts (.fieldLink RX3 12 "HungFloors$Frame" "plan" "LHungFloors$Plan;") (by decide +kernel)) (fun _ h9 => h9) rfl dX3_loadPeople_8 ?_
      refine va_get (D := (dC, dI)) (ci := 5) (v := .int fc1) (C := RX7) (T := TX7) (N := 12) hx hb hts iw_X3_loadPeople_X7 hown hK hP 10 rfl rfl 0 (by decide) (hts (.fieldLink RX3 79 "HungFloors$Plan" "floorCount" "I") (by decide +kernel)) (fun _ h9 => h9) rfl dX3_loadPeople_11 ?_
      refine lv_icmp_ge (tgt := 48) hx hb dX3_loadPeople_14 (by decide) (fun c_220 => ?_) (fun c_220 => ?_)
      · have c_220 : fc1.toInt ≤ g_30.toInt := f_le rfl rfl c_220
        rw [hQ0]
        exact W.vret hx hb hr (fun t ht hW => ⟨⟨(), rfl, trivial, ⟨_, ⟨fr_84, dr_87, rc_90, f_93, f_95, gn_96, f_97, gf_137, f_99, f_100, f_101, sc_102, jc_103, f_106, f_108, rfl, by omega, by omega, by omega, by omega, by omega, by omega, hr_94, by omega, by omega, hr_107, hr_109⟩, by rw [ht]; exact hP, hD⟩⟩, hS.F ht⟩) hS.2.2 dX3_loadPeople_48
      · have c_220 : g_30.toInt < fc1.toInt := f_nle rfl rfl c_220
        refine lv_iload_n hx hb dX3_loadPeople_17 rfl (lv_at hl 0 rfl) ?_
        refine lv_aload_n hx hb dX3_loadPeople_18 rfl (lv_at hl 2 rfl) ?_
        refine va_alen hx hb hK hP 21 1 rfl rfl (v := 6) (show Int32.ofNat 6 = 6 by decide) dX3_loadPeople_19 ?_
        refine lv_icmp_ge (tgt := 48) hx hb dX3_loadPeople_20 (by decide) (fun c_221 => False.elim (by have c_221 := f_le tI_6 rfl c_221; omega)) (fun c_221 => ?_)
        have c_221 : g_30.toInt < 6 := f_nle tI_6 rfl c_221
        refine lv_aload_n hx hb dX3_loadPeople_23 rfl (lv_at hl 1 rfl) ?_
        refine va_get (D := (dC, dI)) (ci := 2) (v := .ref (r0 3)) (C := RX3) (T := TX3) (N := 16) hx hb hts iw_X3_loadPeople_X3 hown hK hP 0 rfl rfl 8 (by decide) (hts (.fieldLink RX3 41 "HungFloors$Frame" "own" "[J") (by decide +kernel)) (fun _ h9 => h9) rfl dX3_loadPeople_24 ?_
        refine lv_iload_n hx hb dX3_loadPeople_27 rfl (lv_at hl 0 rfl) ?_
        refine lv_dup2_11 hx hb dX3_loadPeople_28 rfl rfl ?_
        refine va_lald hx hb hK hP 4 2 rfl rfl (v_in rfl (by omega) (by omega)) dX3_loadPeople_29 ?_
        refine lv_topl (fun z_222 ez_222 => ?_)
        refine lv_aload_n hx hb dX3_loadPeople_30 rfl (lv_at hl 2 rfl) ?_
        refine lv_iload_n hx hb dX3_loadPeople_31 rfl (lv_at hl 0 rfl) ?_
        refine va_iald hx hb hK hP 21 1 rfl rfl (v_in rfl (by omega) (by omega)) dX3_loadPeople_32 ?_
        refine lv_topi (fun z_223 ez_223 => ?_)
        obtain ⟨z_224, ez_224⟩ : ∃ y : Int64, (z_223 : Int32).toInt64 = y := ⟨_, rfl⟩
        refine lv_i2l (v := z_224) hx hb dX3_loadPeople_33 ez_224 ?_
        refine lv_bipush (v := 10) hx hb dX3_loadPeople_34 (by decide) ?_
        refine lv_iload_n hx hb dX3_loadPeople_36 rfl (lv_at hl 3 rfl) ?_
        refine lv_iadd hx hb dX3_loadPeople_37 ?_
        refine lv_topi (fun z_225 ez_225 => ?_)
        have fz_225 : z_225 = (10 + p2) := by rw [ez_225]
        obtain ⟨z_226, ez_226⟩ : ∃ y : Int64, (z_225 : Int32).toInt64 = y := ⟨_, rfl⟩
        refine lv_i2l (v := z_226) hx hb dX3_loadPeople_38 ez_226 ?_
        refine lv_lmul hx hb dX3_loadPeople_39 ?_
        refine lv_topl (fun z_227 ez_227 => ?_)
        refine lv_ladd hx hb dX3_loadPeople_40 ?_
        refine lv_topl (fun z_228 ez_228 => ?_)
        refine va_last hx hb hK hP hD hS 4 2 rfl rfl (v_in rfl (by omega) (by omega)) dX3_loadPeople_41 (fun H locs hP hD hS => ?_)
        obtain ⟨f_229, hP, hD⟩ : ∃ f_229 : Nat → Int64, va_P (dC, dI) vwCl (List.flatten [[(h0, .inr (2, [.ref pl0, .int fr_84, .int dr_87, .int rc_90, .ref (r0 0), .ref (r0 1), .int gn_96, .ref (r0 2), .ref (r0 3), .ref (r0 4), .ref (r0 5), .ref (r0 6), .long sc_102, .int jc_103, .ref (r0 7), .ref (r0 8)])), (r0 0, .inl (cI, 10, .inl f_93)), (r0 1, .inl (cI, 10, .inl f_95)), (r0 2, .inl (cI, 6, .inl f_97)), (r0 3, .inl (cJ, 6, .inr (.inl f_229))), (r0 4, .inl (cJ, 6, .inr (.inl f_99))), (r0 5, .inl (cJ, 6, .inr (.inl f_100))), (r0 6, .inl (cJ, 10, .inr (.inl f_101))), (r0 7, .inl (cI, 70, .inl f_106)), (r0 8, .inl (cI, 70, .inl f_108))], [(pl0, .inr (5, [.int fc1, .ref (r1 0), .ref (r1 1), .ref (r1 2), .ref (r1 3), .int dc1, .ref (r1 4), .ref (r1 5), .ref (r1 6), .ref (r1 7), .ref (r1 8), .ref (r1 9)])), (r1 0, .inl (cJ, 6, .inr (.inl f_112))), (r1 1, .inl (cI, 6, .inl f_113)), (r1 2, .inl (cI, 6, .inl f_114)), (r1 3, .inl (cI, 6, .inl f_115)), (r1 4, .inl (cJ, 4, .inr (.inl f_118))), (r1 5, .inl (cI, 4, .inl rk1)), (r1 6, .inl (cJ, 40, .inr (.inl f_120))), (r1 7, .inl (cI, 40, .inl f_121)), (r1 8, .inl (cI, 40, .inl f_123)), (r1 9, .inl (cI, 40, .inl f_125))], [(h1, .inl (cI, 6, .inl f2))]]) H ∧ va_D A (List.flatten [[(h0, .inr (2, [.ref pl0, .int fr_84, .int dr_87, .int rc_90, .ref (r0 0), .ref (r0 1), .int gn_96, .ref (r0 2), .ref (r0 3), .ref (r0 4), .ref (r0 5), .ref (r0 6), .long sc_102, .int jc_103, .ref (r0 7), .ref (r0 8)])), (r0 0, .inl (cI, 10, .inl f_93)), (r0 1, .inl (cI, 10, .inl f_95)), (r0 2, .inl (cI, 6, .inl f_97)), (r0 3, .inl (cJ, 6, .inr (.inl f_229))), (r0 4, .inl (cJ, 6, .inr (.inl f_99))), (r0 5, .inl (cJ, 6, .inr (.inl f_100))), (r0 6, .inl (cJ, 10, .inr (.inl f_101))), (r0 7, .inl (cI, 70, .inl f_106)), (r0 8, .inl (cI, 70, .inl f_108))], [(pl0, .inr (5, [.int fc1, .ref (r1 0), .ref (r1 1), .ref (r1 2), .ref (r1 3), .int dc1, .ref (r1 4), .ref (r1 5), .ref (r1 6), .ref (r1 7), .ref (r1 8), .ref (r1 9)])), (r1 0, .inl (cJ, 6, .inr (.inl f_112))), (r1 1, .inl (cI, 6, .inl f_113)), (r1 2, .inl (cI, 6, .inl f_114)), (r1 3, .inl (cI, 6, .inl f_115)), (r1 4, .inl (cJ, 4, .inr (.inl f_118))), (r1 5, .inl (cI, 4, .inl rk1)), (r1 6, .inl (cJ, 40, .inr (.inl f_120))), (r1 7, .inl (cI, 40, .inl f_121)), (r1 8, .inl (cI, 40, .inl f_123)), (r1 9, .inl (cI, 40, .inl f_125))], [(h1, .inl (cI, 6, .inl f2))]]) := ⟨_, hP, hD⟩
        obtain ⟨z_230, ez_230⟩ : ∃ y : Int32, y = g_30 + 1 := ⟨_, rfl⟩
        have hz_230 : z_230.toInt = g_30.toInt + 1 := by rw [ez_230]; exact t_add rfl tI_1 (by omega) (by omega)
        refine lv_iinc (v := z_230) (lv' := [(3, .int z_230), (0, .ref h0), (1, .ref h1), (2, .int p2)]) hx hb dX3_loadPeople_42 hl (k := 0) rfl (by rw [ez_230]; rfl) (by decide) rfl (fun ls hl => ?_)
        refine lv_goto (tgt := 6) hx hb dX3_loadPeople_45 (by decide) ?_
        exact ih_219 z_230 f_229 (by omega) (by omega) (by omega) (by omega) _ _ hP hD hS ls (lv_sub hl [0, 1, 2, 3] rfl)
  exact lp_218 _ 0 f_98 (by have := tI_0; omega) (by have := tI_0; omega) (by have := tI_0; omega) (Nat.lt_succ_self _) _ _ hP hD hS ls (lv_sub hl [0, 1, 2, 3] rfl)
set_option maxHeartbeats 4000000 in
set_option maxRecDepth 100000 in
theorem c_X0_power (l : Launch) (dC : Nat → ClassId) (dI : Nat → Nat → Nat) (ad : Nat → Nat) (tN : Nat) (fN : Nat → Int64) (cB cI cJ cZ cQ : ClassId) (p1 : Int32) (p2 : Int32) (sz : Nat) (up21 : 0 ≤ p2.toInt) (up22 : p2.toInt ≤ 10) : Met l yX0_power wsX0_power ({ frames := 0, cells := 0, slots := 0, locals := 0 } : Room) (va_Pc [.int p1, .int p2] (fun U => U.heap.size = sz ∧ va_P (dC, dI) vwCl (List.flatten []) U.heap ∧ va_K (dC, dI) vwCl [(cB, .byte), (cI, .int), (cJ, .long), (cZ, .boolean), (cQ, .array .long)] U ∧ va_D (fun _ => True) (List.flatten []) ∧ ex_Y ad tN fN (va_A (List.flatten []) sz) U)) (va_Ql (fun (r : Int64) (_ : Unit) => True) (fun (_ : Unit) (t : State) => va_P (dC, dI) vwCl (List.flatten []) t.heap ∧ va_D (va_A (List.flatten []) sz) (List.flatten [])) (va_A (List.flatten []) sz)) 0 0 (va_A (List.flatten []) sz) := by
  refine Met.ofW (cc := cX0_power) (maxL := 5) (ret := (some .long)) (by decide) rfl ?_
  intro p e s m args below meth c s₁ B hml hv
  obtain ⟨rfl, hsz, hP, hK, hD0, hE⟩ := hv
  have hx := B.exec
  have hb := B.bytes
  have hr := B.returns
  have hts := atoms_spec (ws := wsX0_power) B.pre
  have hown : s.vm.findClass RX0 = some m.cls := findClass_of_methodNamed B.named
  have hlocks := B.notSynchronized
  subst hsz
  have hD := hD0.self (sz := s.heap.size)
  generalize hAe : va_A (List.flatten []) s.heap.size = A at hD hE ⊢
  have hA : ∀ q : Nat, s.heap.size ≤ q → A q := fun q h => by rw [← hAe]; exact Or.inr h
  have hS : va_S A s.heap s.heap [] := va_S.rf
  have hl := lv_entry ([.int p1, .int p2]) (n := 5) (Nat.le_of_ble_eq_true rfl)
  rw [lg_entry_eq]
  generalize (lg_sl ([.int p1, .int p2]) ++ List.replicate (5 - (lg_sl ([.int p1, .int p2])).length) Slot.unset).toArray = ls at hl ⊢
  have hl : lv_has ls 5 [(0, .int p1), (1, .int p2)] := hl
  clear hAe
  refine W_name (fun Q0 hQ0 => ?_)
  refine lv_lconst (v := 1) hx hb dX0_power_0 (by decide) ?_
  refine lv_lstore_n (lv' := [(2, .long 1), (0, .int p1), (1, .int p2)]) hx hb dX0_power_1 rfl hl (by decide) rfl (fun ls hl => ?_)
  refine lv_iconst (v := 0) hx hb dX0_power_2 (by decide) ?_
  refine lv_istore (lv' := [(4, .int 0), (2, .long 1), (0, .int p1), (1, .int p2)]) hx hb dX0_power_3 hl (by decide) rfl (fun ls hl => ?_)
  have lp_50 : ∀ (n : Nat) (g_1 : Int32) (g_2 : Int64), 0 ≤ g_1.toInt → g_1.toInt ≤ 10 → g_1.toInt - p2.toInt ≤ 0 → (10 - g_1.toInt).toNat < n → ∀ (H : Heap) (locs : List Loc), va_P (dC, dI) vwCl (List.flatten []) H → va_D A (List.flatten []) → va_S A s.heap H locs → ∀ (ls : Array Slot), lv_has ls 5 [(4, .int g_1), (2, .long g_2), (0, .int p1), (1, .int p2)] → W p l e (headSpec wsX0_power ({ frames := 0, cells := 0, slots := 0, locals := 0 } : Room)).room s m ([.int p1, .int p2] : List Value).toArray below meth c H locs 0 0 Q0 (F0 m 5 ls []) := by
    intro n
    induction n with
    | zero => intro g_1 g_2 iv_47 iv_48 iv_49 hm; exact absurd hm (Nat.not_lt_zero _)
    | succ n ih_51 =>
      intro g_1 g_2 iv_47 iv_48 iv_49 hm H locs hP hD hS ls hl
      refine lv_iload hx hb dX0_power_5 (lv_at hl 0 rfl) ?_
      refine lv_iload_n hx hb dX0_power_7 rfl (lv_at hl 3 rfl) ?_
      refine lv_icmp_ge (tgt := 22) hx hb dX0_power_8 (by decide) (fun c_52 => ?_) (fun c_52 => ?_)
      · have c_52 : p2.toInt ≤ g_1.toInt := f_le rfl rfl c_52
        refine lv_lload_n hx hb dX0_power_22 rfl (lv_at hl 1 rfl) ?_
        rw [hQ0]
        exact W.lret (v := g_2) hx hb hr (fun t ht hW => ⟨⟨g_2, (), rfl, trivial, ⟨by rw [ht]; exact hP, hD⟩⟩, hS.F ht⟩) hS.2.2 dX0_power_23
      · have c_52 : g_1.toInt < p2.toInt := f_nle rfl rfl c_52
        refine lv_lload_n hx hb dX0_power_11 rfl (lv_at hl 1 rfl) ?_
        refine lv_iload_n hx hb dX0_power_12 rfl (lv_at hl 2 rfl) ?_
        obtain ⟨z_53, ez_53⟩ : ∃ y : Int64, (p1 : Int32).toInt64 = y := ⟨_, rfl⟩
        refine lv_i2l (v := z_53) hx hb dX0_power_13 ez_53 ?_
        refine lv_lmul hx hb dX0_power_14 ?_
        refine lv_topl (fun z_54 ez_54 => ?_)
        refine lv_lstore_n (lv' := [(2, .long z_54), (4, .int g_1), (0, .int p1), (1, .int p2)]) hx hb dX0_power_15 rfl hl (by decide) rfl (fun ls hl => ?_)
        obtain ⟨z_55, ez_55⟩ : ∃ y : Int32, y = g_1 + 1 := ⟨_, rfl⟩
        have hz_55 : z_55.toInt = g_1.toInt + 1 := by rw [ez_55]; exact t_add rfl tI_1 (by omega) (by omega)
        refine lv_iinc (v := z_55) (lv' := [(4, .int z_55), (2, .long z_54), (0, .int p1), (1, .int p2)]) hx hb dX0_power_16 hl (k := 1) rfl (by rw [ez_55]; rfl) (by decide) rfl (fun ls hl => ?_)
        refine lv_goto (tgt := 5) hx hb dX0_power_19 (by decide) ?_
        exact ih_51 z_55 z_54 (by omega) (by omega) (by omega) (by omega) _ _ hP hD hS ls (lv_sub hl [0, 1, 2, 3] rfl)
  exact lp_50 _ 0 1 (by have := tI_0; omega) (by have := tI_0; omega) (by have := tI_0; omega) (Nat.lt_succ_self _) _ _ hP hD hS ls (lv_sub hl [0, 1, 2, 3] rfl)
theorem iw_X0_isBadAt_X0 : ∀ w ∈ wsX00, w ∈ wsX0_isBadAt := fun _ h => List.mem_cons_of_mem _ (List.mem_append_right _ h)
set_option maxHeartbeats 4000000 in
set_option maxRecDepth 100000 in
theorem c_X0_isBadAt (l : Launch) (dC : Nat → ClassId) (dI : Nat → Nat → Nat) (ad : Nat → Nat) (tN : Nat) (fN : Nat → Int64) (cB cI cJ cZ cQ : ClassId) (h0 : Nat) (p1 : Int32) (r0 : Nat → Nat) (st0 : Nat) (w0 : va_W) (o0 : ok_crowd ad cB cI cJ cZ cQ h0 r0 st0 w0) (sz : Nat) (up11 : 0 ≤ p1.toInt) (up12 : p1.toInt ≤ 6) : Met l yX0_isBadAt wsX0_isBadAt ({ frames := 0, cells := 0, slots := 0, locals := 0 } : Room) (va_Pc [.ref h0, .int p1] (fun U => U.heap.size = sz ∧ va_P (dC, dI) vwCl (List.flatten [w0]) U.heap ∧ va_K (dC, dI) vwCl [(cB, .byte), (cI, .int), (cJ, .long), (cZ, .boolean), (cQ, .array .long)] U ∧ va_D (fun _ => True) (List.flatten [w0]) ∧ ex_Y ad tN fN (va_A (List.flatten [w0]) sz) U)) (va_Qi (fun (r : Int32) (_ : Unit) => 0 ≤ r.toInt ∧ r.toInt ≤ 1) (fun (_ : Unit) (t : State) => va_P (dC, dI) vwCl (List.flatten [w0]) t.heap ∧ va_D (va_A (List.flatten [w0]) sz) (List.flatten [w0])) (va_A (List.flatten [w0]) sz)) 0 0 (va_A (List.flatten [w0]) sz) := by
  refine Met.ofW (cc := cX0_isBadAt) (maxL := 3) (ret := (some .boolean)) (by decide) rfl ?_
  intro p e s m args below meth c s₁ B hml hv
  obtain ⟨rfl, hsz, hP, hK, hD0, hE⟩ := hv
  have hx := B.exec
  have hb := B.bytes
  have hr := B.returns
  have hts := atoms_spec (ws := wsX0_isBadAt) B.pre
  have hown : s.vm.findClass RX0 = some m.cls := findClass_of_methodNamed B.named
  have hlocks := B.notSynchronized
  subst hsz
  have hD := hD0.self (sz := s.heap.size)
  generalize hAe : va_A (List.flatten [w0]) s.heap.size = A at hD hE ⊢
  have hA : ∀ q : Nat, s.heap.size ≤ q → A q := fun q h => by rw [← hAe]; exact Or.inr h
  have hS : va_S A s.heap s.heap [] := va_S.rf
  have hl := lv_entry ([.ref h0, .int p1]) (n := 3) (Nat.le_of_ble_eq_true rfl)
  rw [lg_entry_eq]
  generalize (lg_sl ([.ref h0, .int p1]) ++ List.replicate (3 - (lg_sl ([.ref h0, .int p1])).length) Slot.unset).toArray = ls at hl ⊢
  have hl : lv_has ls 3 [(0, .ref h0), (1, .int p1)] := hl
  clear hAe
  refine W_name (fun Q0 hQ0 => ?_)
  refine lv_iconst (v := 0) hx hb dX0_isBadAt_0 (by decide) ?_
  refine lv_istore_n (lv' := [(2, .int 0), (0, .ref h0), (1, .int p1)]) hx hb dX0_isBadAt_1 rfl hl (by decide) rfl (fun ls hl => ?_)
  obtain ⟨f_62, f_63, f_64, f_65, f_66, f_67, f_68, f_69, f_70, f_71, f_72, f_73, f_74, f_75, ck_76, fn_79, f_82, bd_83, al_84, rfl, hl_77, hh_78, hl_80, hh_81⟩ := o0
  have lp_606 : ∀ (n : Nat) (g_1 : Int32), 0 ≤ g_1.toInt → g_1.toInt ≤ 70 → g_1.toInt - ck_76.toInt ≤ 0 → (70 - g_1.toInt).toNat < n → ∀ (H : Heap) (locs : List Loc), va_P (dC, dI) vwCl (List.flatten [[(h0, .inr (0, [.ref (r0 0), .ref (r0 8), .ref (r0 15), .int ck_76, .ref st0, .int fn_79, .ref (r0 16), .long bd_83, .long al_84])), (r0 0, .inl (cQ, 7, .inr (.inr (.inr (.inr (fun j => some (r0 (j + 1)))))))), (r0 1, .inl (cJ, 16, .inr (.inl f_62))), (r0 2, .inl (cJ, 16, .inr (.inl f_63))), (r0 3, .inl (cJ, 16, .inr (.inl f_64))), (r0 4, .inl (cJ, 16, .inr (.inl f_65))), (r0 5, .inl (cJ, 16, .inr (.inl f_66))), (r0 6, .inl (cJ, 16, .inr (.inl f_67))), (r0 7, .inl (cJ, 16, .inr (.inl f_68))), (r0 8, .inl (cQ, 6, .inr (.inr (.inr (.inr (fun j => some (r0 (j + 9)))))))), (r0 9, .inl (cJ, 16, .inr (.inl f_69))), (r0 10, .inl (cJ, 16, .inr (.inl f_70))), (r0 11, .inl (cJ, 16, .inr (.inl f_71))), (r0 12, .inl (cJ, 16, .inr (.inl f_72))), (r0 13, .inl (cJ, 16, .inr (.inl f_73))), (r0 14, .inl (cJ, 16, .inr (.inl f_74))), (r0 15, .inl (cJ, 16, .inr (.inl f_75))), (r0 16, .inl (cI, 7, .inl f_82))]]) H → va_D A (List.flatten [[(h0, .inr (0, [.ref (r0 0), .ref (r0 8), .ref (r0 15), .int ck_76, .ref st0, .int fn_79, .ref (r0 16), .long bd_83, .long al_84])), (r0 0, .inl (cQ, 7, .inr (.inr (.inr (.inr (fun j => some (r0 (j + 1)))))))), (r0 1, .inl (cJ, 16, .inr (.inl f_62))), (r0 2, .inl (cJ, 16, .inr (.inl f_63))), (r0 3, .inl (cJ, 16, .inr (.inl f_64))), (r0 4, .inl (cJ, 16, .inr (.inl f_65))), (r0 5, .inl (cJ, 16, .inr (.inl f_66))), (r0 6, .inl (cJ, 16, .inr (.inl f_67))), (r0 7, .inl (cJ, 16, .inr (.inl f_68))), (r0 8, .inl (cQ, 6, .inr (.inr (.inr (.inr (fun j => some (r0 (j + 9)))))))), (r0 9, .inl (cJ, 16, .inr (.inl f_69))), (r0 10, .inl (cJ, 16, .inr (.inl f_70))), (r0 11, .inl (cJ, 16, .inr (.inl f_71))), (r0 12, .inl (cJ, 16, .inr (.inl f_72))), (r0 13, .inl (cJ, 16, .inr (.inl f_73))), (r0 14, .inl (cJ, 16, .inr (.inl f_74))), (r0 15, .inl (cJ, 16, .inr (.inl f_75))), (r0 16, .inl (cI, 7, .inl f_82))]]) → va_S A s.heap H locs → ∀ (ls : Array Slot), lv_has ls 3 [(2, .int g_1), (0, .ref h0), (1, .int p1)] → W p l e (headSpec wsX0_isBadAt ({ frames := 0, cells := 0, slots := 0, locals := 0 } : Room)).room s m ([.ref h0, .int p1] : List Value).toArray below meth c H locs 0 0 Q0 (F0 m 2 ls []) := by
    intro n
    induction n with
    | zero => intro g_1 iv_603 iv_604 iv_605 hm; exact absurd hm (Nat.not_lt_zero _)
    | succ n ih_607 =>
      intro g_1 iv_603 iv_604 iv_605 hm H locs hP hD hS ls hl
      refine lv_iload_n hx hb dX0_isBadAt_2 rfl (lv_at hl 0 rfl) ?_
      refine lv_aload_n hx hb dX0_isBadAt_3 rfl (lv_at hl 1 rfl) ?_
      refine va_get (D := (dC, dI)) (ci := 0) (v := .int ck_76) (C := RX0) (T := TX0) (N := 9) hx hb hts iw_X0_isBadAt_X0 hown hK hP 0 rfl rfl 3 (by decide) (hts (.fieldLink RX0 23 "HungFloors$Crowd" "checks" "I") (by decide +kernel)) (fun _ h9 => h9) rfl dX0_isBadAt_4 ?_
      refine lv_icmp_ge (tgt := 36) hx hb dX0_isBadAt_7 (by decide) (fun c_608 => ?_) (fun c_608 => ?_)
      · have c_608 : ck_76.toInt ≤ g_1.toInt := f_le rfl rfl c_608
        refine lv_iconst (v := 0) hx hb dX0_isBadAt_36 (by decide) ?_
        rw [hQ0]
        exact W.zret (v := 0) hx hb hr (by decide) (fun t ht hW => ⟨⟨0, (), rfl, ⟨by decide, by decide⟩, ⟨by rw [ht]; exact hP, hD⟩⟩, hS.F ht⟩) hS.2.2 dX0_isBadAt_37
      · have c_608 : g_1.toInt < ck_76.toInt := f_nle rfl rfl c_608
        refine lv_aload_n hx hb dX0_isBadAt_10 rfl (lv_at hl 1 rfl) ?_
        refine va_get (D := (dC, dI)) (ci := 0) (v := .ref (r0 0)) (C := RX0) (T := TX0) (N := 9) hx hb hts iw_X0_isBadAt_X0 hown hK hP 0 rfl rfl 0 (by decide) (hts (.fieldLink RX0 13 "HungFloors$Crowd" "borne" "[[J") (by decide +kernel)) (fun _ h9 => h9) rfl dX0_isBadAt_11 ?_
        refine lv_iload_n hx hb dX0_isBadAt_14 rfl (lv_at hl 2 rfl) ?_
        rcases (show p1.toInt = 0 ∨ p1.toInt = 1 ∨ p1.toInt = 2 ∨ p1.toInt = 3 ∨ p1.toInt = 4 ∨ p1.toInt = 5 ∨ p1.toInt = 6 by omega) with c_609 | c_609 | c_609 | c_609 | c_609 | c_609 | c_609
        · refine va_aldr hx hb hK hP 1 4 rfl rfl (v_in rfl (by omega) (by omega)) 0 (by omega) rfl dX0_isBadAt_15 ?_
          refine lv_iload_n hx hb dX0_isBadAt_16 rfl (lv_at hl 0 rfl) ?_
          refine va_lald hx hb hK hP 2 2 rfl rfl (v_in rfl (by omega) (by omega)) dX0_isBadAt_17 ?_
          refine lv_topl (fun z_610 ez_610 => ?_)
          refine lv_aload_n hx hb dX0_isBadAt_18 rfl (lv_at hl 1 rfl) ?_
          refine va_get (D := (dC, dI)) (ci := 0) (v := .ref (r0 15)) (C := RX0) (T := TX0) (N := 9) hx hb hts iw_X0_isBadAt_X0 hown hK hP 0 rfl rfl 2 (by decide) (hts (.fieldLink RX0 19 "HungFloors$Crowd" "limit" "[J") (by decide +kernel)) (fun _ h9 => h9) rfl dX0_isBadAt_19 ?_
          refine lv_iload_n hx hb dX0_isBadAt_22 rfl (lv_at hl 0 rfl) ?_
          refine va_lald hx hb hK hP 16 2 rfl rfl (v_in rfl (by omega) (by omega)) dX0_isBadAt_23 ?_
          refine lv_topl (fun z_611 ez_611 => ?_)
          refine W.lcmp hx hb dX0_isBadAt_24 ?_
          refine lv_topi (fun z_612 ez_612 => ?_)
          refine lv_if_le (tgt := 30) hx hb dX0_isBadAt_25 (by decide) (fun c_613 => ?_) (fun c_613 => ?_)
          · have c_613 : z_612.toInt ≤ 0 := f_le rfl tI_0 c_613
            obtain ⟨z_614, ez_614⟩ : ∃ y : Int32, y = g_1 + 1 := ⟨_, rfl⟩
            have hz_614 : z_614.toInt = g_1.toInt + 1 := by rw [ez_614]; exact t_add rfl tI_1 (by omega) (by omega)
            refine lv_iinc (v := z_614) (lv' := [(2, .int z_614), (0, .ref h0), (1, .int p1)]) hx hb dX0_isBadAt_30 hl (k := 0) rfl (by rw [ez_614]; rfl) (by decide) rfl (fun ls hl => ?_)
            refine lv_goto (tgt := 2) hx hb dX0_isBadAt_33 (by decide) ?_
            exact ih_607 z_614 (by omega) (by omega) (by omega) (by omega) _ _ hP hD hS ls (lv_sub hl [0, 1, 2] rfl)
          · have c_613 : 0 < z_612.toInt := f_nle rfl tI_0 c_613
            refine lv_iconst (v := 1) hx hb dX0_isBadAt_28 (by decide) ?_
            rw [hQ0]
            exact W.zret (v := 1) hx hb hr (by decide) (fun t ht hW => ⟨⟨1, (), rfl, ⟨by decide, by decide⟩, ⟨by rw [ht]; exact hP, hD⟩⟩, hS.F ht⟩) hS.2.2 dX0_isBadAt_29
        · refine va_aldr hx hb hK hP 1 4 rfl rfl (v_in rfl (by omega) (by omega)) 1 (by omega) rfl dX0_isBadAt_15 ?_
          refine lv_iload_n hx hb dX0_isBadAt_16 rfl (lv_at hl 0 rfl) ?_
          refine va_lald hx hb hK hP 3 2 rfl rfl (v_in rfl (by omega) (by omega)) dX0_isBadAt_17 ?_
          refine lv_topl (fun z_615 ez_615 => ?_)
          refine lv_aload_n hx hb dX0_isBadAt_18 rfl (lv_at hl 1 rfl) ?_
          refine va_get (D := (dC, dI)) (ci := 0) (v := .ref (r0 15)) (C := RX0) (T := TX0) (N := 9) hx hb hts iw_X0_isBadAt_X0 hown hK hP 0 rfl rfl 2 (by decide) (hts (.fieldLink RX0 19 "HungFloors$Crowd" "limit" "[J") (by decide +kernel)) (fun _ h9 => h9) rfl dX0_isBadAt_19 ?_
          refine lv_iload_n hx hb dX0_isBadAt_22 rfl (lv_at hl 0 rfl) ?_
          refine va_lald hx hb hK hP 16 2 rfl rfl (v_in rfl (by omega) (by omega)) dX0_isBadAt_23 ?_
          refine lv_topl (fun z_616 ez_616 => ?_)
          refine W.lcmp hx hb dX0_isBadAt_24 ?_
          refine lv_topi (fun z_617 ez_617 => ?_)
          refine lv_if_le (tgt := 30) hx hb dX0_isBadAt_25 (by decide) (fun c_618 => ?_) (fun c_618 => ?_)
          · have c_618 : z_617.toInt ≤ 0 := f_le rfl tI_0 c_618
            obtain ⟨z_619, ez_619⟩ : ∃ y : Int32, y = g_1 + 1 := ⟨_, rfl⟩
            have hz_619 : z_619.toInt = g_1.toInt + 1 := by rw [ez_619]; exact t_add rfl tI_1 (by omega) (by omega)
            refine lv_iinc (v := z_619) (lv' := [(2, .int z_619), (0, .ref h0), (1, .int p1)]) hx hb dX0_isBadAt_30 hl (k := 0) rfl (by rw [ez_619]; rfl) (by decide) rfl (fun ls hl => ?_)
            refine lv_goto (tgt := 2) hx hb dX0_isBadAt_33 (by decide) ?_
            exact ih_607 z_619 (by omega) (by omega) (by omega) (by omega) _ _ hP hD hS ls (lv_sub hl [0, 1, 2] rfl)
          · have c_618 : 0 < z_617.toInt := f_nle rfl tI_0 c_618
            refine lv_iconst (v := 1) hx hb dX0_isBadAt_28 (by decide) ?_
            rw [hQ0]
            exact W.zret (v := 1) hx hb hr (by decide) (fun t ht hW => ⟨⟨1, (), rfl, ⟨by decide, by decide⟩, ⟨by rw [ht]; exact hP, hD⟩⟩, hS.F ht⟩) hS.2.2 dX0_isBadAt_29
        · refine va_aldr hx hb hK hP 1 4 rfl rfl (v_in rfl (by omega) (by omega)) 2 (by omega) rfl dX0_isBadAt_15 ?_
          refine lv_iload_n hx hb dX0_isBadAt_16 rfl (lv_at hl 0 rfl) ?_
          refine va_lald hx hb hK hP 4 2 rfl rfl (v_in rfl (by omega) (by omega)) dX0_isBadAt_17 ?_
          refine lv_topl (fun z_620 ez_620 => ?_)
          refine lv_aload_n hx hb dX0_isBadAt_18 rfl (lv_at hl 1 rfl) ?_
          refine va_get (D := (dC, dI)) (ci := 0) (v := .ref (r0 15)) (C := RX0) (T := TX0) (N := 9) hx hb hts iw_X0_isBadAt_X0 hown hK hP 0 rfl rfl 2 (by decide) (hts (.fieldLink RX0 19 "HungFloors$Crowd" "limit" "[J") (by decide +kernel)) (fun _ h9 => h9) rfl dX0_isBadAt_19 ?_
          refine lv_iload_n hx hb dX0_isBadAt_22 rfl (lv_at hl 0 rfl) ?_
          refine va_lald hx hb hK hP 16 2 rfl rfl (v_in rfl (by omega) (by omega)) dX0_isBadAt_23 ?_
          refine lv_topl (fun z_621 ez_621 => ?_)
          refine W.lcmp hx hb dX0_isBadAt_24 ?_
          refine lv_topi (fun z_622 ez_622 => ?_)
          refine lv_if_le (tgt := 30) hx hb dX0_isBadAt_25 (by decide) (fun c_623 => ?_) (fun c_623 => ?_)
          · have c_623 : z_622.toInt ≤ 0 := f_le rfl tI_0 c_623
            obtain ⟨z_624, ez_624⟩ : ∃ y : Int32, y = g_1 + 1 := ⟨_, rfl⟩
            have hz_624 : z_624.toInt = g_1.toInt + 1 := by rw [ez_624]; exact t_add rfl tI_1 (by omega) (by omega)
            refine lv_iinc (v := z_624) (lv' := [(2, .int z_624), (0, .ref h0), (1, .int p1)]) hx hb dX0_isBadAt_30 hl (k := 0) rfl (by rw [ez_624]; rfl) (by decide) rfl (fun ls hl => ?_)
            refine lv_goto (tgt := 2) hx hb dX0_isBadAt_33 (by decide) ?_
            exact ih_607 z_624 (by omega) (by omega) (by omega) (by omega) _ _ hP hD hS ls (lv_sub hl [0, 1, 2] rfl)
          · have c_623 : 0 < z_622.toInt := f_nle rfl tI_0 c_623
            refine lv_iconst (v := 1) hx hb dX0_isBadAt_28 (by decide) ?_
            rw [hQ0]
            exact W.zret (v := 1) hx hb hr (by decide) (fun t ht hW => ⟨⟨1, (), rfl, ⟨by decide, by decide⟩, ⟨by rw [ht]; exact hP, hD⟩⟩, hS.F ht⟩) hS.2.2 dX0_isBadAt_29
        · refine va_aldr hx hb hK hP 1 4 rfl rfl (v_in rfl (by omega) (by omega)) 3 (by omega) rfl dX0_isBadAt_15 ?_
          refine lv_iload_n hx hb dX0_isBadAt_16 rfl (lv_at hl 0 rfl) ?_
          refine va_lald hx hb hK hP 5 2 rfl rfl (v_in rfl (by omega) (by omega)) dX0_isBadAt_17 ?_
          refine lv_topl (fun z_625 ez_625 => ?_)
          refine lv_aload_n hx hb dX0_isBadAt_18 rfl (lv_at hl 1 rfl) ?_
          refine va_get (D := (dC, dI)) (ci := 0) (v := .ref (r0 15)) (C := RX0) (T := TX0) (N := 9) hx hb hts iw_X0_isBadAt_X0 hown hK hP 0 rfl rfl 2 (by decide) (hts (.fieldLink RX0 19 "HungFloors$Crowd" "limit" "[J") (by decide +kernel)) (fun _ h9 => h9) rfl dX0_isBadAt_19 ?_
          refine lv_iload_n hx hb dX0_isBadAt_22 rfl (lv_at hl 0 rfl) ?_
          refine va_lald hx hb hK hP 16 2 rfl rfl (v_in rfl (by omega) (by omega)) dX0_isBadAt_23 ?_
          refine lv_topl (fun z_626 ez_626 => ?_)
          refine W.lcmp hx hb dX0_isBadAt_24 ?_
          refine lv_topi (fun z_627 ez_627 => ?_)
          refine lv_if_le (tgt := 30) hx hb dX0_isBadAt_25 (by decide) (fun c_628 => ?_) (fun c_628 => ?_)
          · have c_628 : z_627.toInt ≤ 0 := f_le rfl tI_0 c_628
            obtain ⟨z_629, ez_629⟩ : ∃ y : Int32, y = g_1 + 1 := ⟨_, rfl⟩
            have hz_629 : z_629.toInt = g_1.toInt + 1 := by rw [ez_629]; exact t_add rfl tI_1 (by omega) (by omega)
            refine lv_iinc (v := z_629) (lv' := [(2, .int z_629), (0, .ref h0), (1, .int p1)]) hx hb dX0_isBadAt_30 hl (k := 0) rfl (by rw [ez_629]; rfl) (by decide) rfl (fun ls hl => ?_)
            refine lv_goto (tgt := 2) hx hb dX0_isBadAt_33 (by decide) ?_
            exact ih_607 z_629 (by omega) (by omega) (by omega) (by omega) _ _ hP hD hS ls (lv_sub hl [0, 1, 2] rfl)
          · have c_628 : 0 < z_627.toInt := f_nle rfl tI_0 c_628
            refine lv_iconst (v := 1) hx hb dX0_isBadAt_28 (by decide) ?_
            rw [hQ0]
            exact W.zret (v := 1) hx hb hr (by decide) (fun t ht hW => ⟨⟨1, (), rfl, ⟨by decide, by decide⟩, ⟨by rw [ht]; exact hP, hD⟩⟩, hS.F ht⟩) hS.2.2 dX0_isBadAt_29
        · refine va_aldr hx hb hK hP 1 4 rfl rfl (v_in rfl (by omega) (by omega)) 4 (by omega) rfl dX0_isBadAt_15 ?_
          refine lv_iload_n hx hb dX0_isBadAt_16 rfl (lv_at hl 0 rfl) ?_
          refine va_lald hx hb hK hP 6 2 rfl rfl (v_in rfl (by omega) (by omega)) dX0_isBadAt_17 ?_
          refine lv_topl (fun z_630 ez_630 => ?_)
          refine lv_aload_n hx hb dX0_isBadAt_18 rfl (lv_at hl 1 rfl) ?_
          refine va_get (D := (dC, dI)) (ci := 0) (v := .ref (r0 15)) (C := RX0) (T := TX0) (N := 9) hx hb hts iw_X0_isBadAt_X0 hown hK hP 0 rfl rfl 2 (by decide) (hts (.fieldLink RX0 19 "HungFloors$Crowd" "limit" "[J") (by decide +kernel)) (fun _ h9 => h9) rfl dX0_isBadAt_19 ?_
          refine lv_iload_n hx hb dX0_isBadAt_22 rfl (lv_at hl 0 rfl) ?_
          refine va_lald hx hb hK hP 16 2 rfl rfl (v_in rfl (by omega) (by omega)) dX0_isBadAt_23 ?_
          refine lv_topl (fun z_631 ez_631 => ?_)
          refine W.lcmp hx hb dX0_isBadAt_24 ?_
          refine lv_topi (fun z_632 ez_632 => ?_)
          refine lv_if_le (tgt := 30) hx hb dX0_isBadAt_25 (by decide) (fun c_633 => ?_) (fun c_633 => ?_)
          · have c_633 : z_632.toInt ≤ 0 := f_le rfl tI_0 c_633
            obtain ⟨z_634, ez_634⟩ : ∃ y : Int32, y = g_1 + 1 := ⟨_, rfl⟩
            have hz_634 : z_634.toInt = g_1.toInt + 1 := by rw [ez_634]; exact t_add rfl tI_1 (by omega) (by omega)
            refine lv_iinc (v := z_634) (lv' := [(2, .int z_634), (0, .ref h0), (1, .int p1)]) hx hb dX0_isBadAt_30 hl (k := 0) rfl (by rw [ez_634]; rfl) (by decide) rfl (fun ls hl => ?_)
            refine lv_goto (tgt := 2) hx hb dX0_isBadAt_33 (by decide) ?_
            exact ih_607 z_634 (by omega) (by omega) (by omega) (by omega) _ _ hP hD hS ls (lv_sub hl [0, 1, 2] rfl)
          · have c_633 : 0 < z_632.toInt := f_nle rfl tI_0 c_633
            refine lv_iconst (v := 1) hx hb dX0_isBadAt_28 (by decide) ?_
            rw [hQ0]
            exact W.zret (v := 1) hx hb hr (by decide) (fun t ht hW => ⟨⟨1, (), rfl, ⟨by decide, by decide⟩, ⟨by rw [ht]; exact hP, hD⟩⟩, hS.F ht⟩) hS.2.2 dX0_isBadAt_29
        · refine va_aldr hx hb hK hP 1 4 rfl rfl (v_in rfl (by omega) (by omega)) 5 (by omega) rfl dX0_isBadAt_15 ?_
          refine lv_iload_n hx hb dX0_isBadAt_16 rfl (lv_at hl 0 rfl) ?_
          refine va_lald hx hb hK hP 7 2 rfl rfl (v_in rfl (by omega) (by omega)) dX0_isBadAt_17 ?_
          refine lv_topl (fun z_635 ez_635 => ?_)
          refine lv_aload_n hx hb dX0_isBadAt_18 rfl (lv_at hl 1 rfl) ?_
          refine va_get (D := (dC, dI)) (ci := 0) (v := .ref (r0 15)) (C := RX0) (T := TX0) (N := 9) hx hb hts iw_X0_isBadAt_X0 hown hK hP 0 rfl rfl 2 (by decide) (hts (.fieldLink RX0 19 "HungFloors$Crowd" "limit" "[J") (by decide +kernel)) (fun _ h9 => h9) rfl dX0_isBadAt_19 ?_
          refine lv_iload_n hx hb dX0_isBadAt_22 rfl (lv_at hl 0 rfl) ?_
          refine va_lald hx hb hK hP 16 2 rfl rfl (v_in rfl (by omega) (by omega)) dX0_isBadAt_23 ?_
          refine lv_topl (fun z_636 ez_636 => ?_)
          refine W.lcmp hx hb dX0_isBadAt_24 ?_
          refine lv_topi (fun z_637 ez_637 => ?_)
          refine lv_if_le (tgt := 30) hx hb dX0_isBadAt_25 (by decide) (fun c_638 => ?_) (fun c_638 => ?_)
          · have c_638 : z_637.toInt ≤ 0 := f_le rfl tI_0 c_638
            obtain ⟨z_639, ez_639⟩ : ∃ y : Int32, y = g_1 + 1 := ⟨_, rfl⟩
            have hz_639 : z_639.toInt = g_1.toInt + 1 := by rw [ez_639]; exact t_add rfl tI_1 (by omega) (by omega)
            refine lv_iinc (v := z_639) (lv' := [(2, .int z_639), (0, .ref h0), (1, .int p1)]) hx hb dX0_isBadAt_30 hl (k := 0) rfl (by rw [ez_639]; rfl) (by decide) rfl (fun ls hl => ?_)
            refine lv_goto (tgt := 2) hx hb dX0_isBadAt_33 (by decide) ?_
            exact ih_607 z_639 (by omega) (by omega) (by omega) (by omega) _ _ hP hD hS ls (lv_sub hl [0, 1, 2] rfl)
          · have c_638 : 0 < z_637.toInt := f_nle rfl tI_0 c_638
            refine lv_iconst (v := 1) hx hb dX0_isBadAt_28 (by decide) ?_
            rw [hQ0]
            exact W.zret (v := 1) hx hb hr (by decide) (fun t ht hW => ⟨⟨1, (), rfl, ⟨by decide, by decide⟩, ⟨by rw [ht]; exact hP, hD⟩⟩, hS.F ht⟩) hS.2.2 dX0_isBadAt_29
        · refine va_aldr hx hb hK hP 1 4 rfl rfl (v_in rfl (by omega) (by omega)) 6 (by omega) rfl dX0_isBadAt_15 ?_
          refine lv_iload_n hx hb dX0_isBadAt_16 rfl (lv_at hl 0 rfl) ?_
          refine va_lald hx hb hK hP 8 2 rfl rfl (v_in rfl (by omega) (by omega)) dX0_isBadAt_17 ?_
          refine lv_topl (fun z_640 ez_640 => ?_)
          refine lv_aload_n hx hb dX0_isBadAt_18 rfl (lv_at hl 1 rfl) ?_
          refine va_get (D := (dC, dI)) (ci := 0) (v := .ref (r0 15)) (C := RX0) (T := TX0) (N := 9) hx hb hts iw_X0_isBadAt_X0 hown hK hP 0 rfl rfl 2 (by decide) (hts (.fieldLink RX0 19 "HungFloors$Crowd" "limit" "[J") (by decide +kernel)) (fun _ h9 => h9) rfl dX0_isBadAt_19 ?_
          refine lv_iload_n hx hb dX0_isBadAt_22 rfl (lv_at hl 0 rfl) ?_
          refine va_lald hx hb hK hP 16 2 rfl rfl (v_in rfl (by omega) (by omega)) dX0_isBadAt_23 ?_
          refine lv_topl (fun z_641 ez_641 => ?_)
          refine W.lcmp hx hb dX0_isBadAt_24 ?_
          refine lv_topi (fun z_642 ez_642 => ?_)
          refine lv_if_le (tgt := 30) hx hb dX0_isBadAt_25 (by decide) (fun c_643 => ?_) (fun c_643 => ?_)
          · have c_643 : z_642.toInt ≤ 0 := f_le rfl tI_0 c_643
            obtain ⟨z_644, ez_644⟩ : ∃ y : Int32, y = g_1 + 1 := ⟨_, rfl⟩
            have hz_644 : z_644.toInt = g_1.toInt + 1 := by rw [ez_644]; exact t_add rfl tI_1 (by omega) (by omega)
            refine lv_iinc (v := z_644) (lv' := [(2, .int z_644), (0, .ref h0), (1, .int p1)]) hx hb dX0_isBadAt_30 hl (k := 0) rfl (by rw [ez_644]; rfl) (by decide) rfl (fun ls hl => ?_)
            refine lv_goto (tgt := 2) hx hb dX0_isBadAt_33 (by decide) ?_
            exact ih_607 z_644 (by omega) (by omega) (by omega) (by omega) _ _ hP hD hS ls (lv_sub hl [0, 1, 2] rfl)
          · have c_643 : 0 < z_642.toInt := f_nle rfl tI_0 c_643
            refine lv_iconst (v := 1) hx hb dX0_isBadAt_28 (by decide) ?_
            rw [hQ0]
            exact W.zret (v := 1) hx hb hr (by decide) (fun t ht hW => ⟨⟨1, (), rfl, ⟨by decide, by decide⟩, ⟨by rw [ht]; exact hP, hD⟩⟩, hS.F ht⟩) hS.2.2 dX0_isBadAt_29
  exact lp_606 _ 0 (by have := tI_0; omega) (by have := tI_0; omega) (by have := tI_0; omega) (Nat.lt_succ_self _) _ _ hP hD hS ls (lv_sub hl [0, 1, 2] rfl)
theorem iw_X0_standHere_X0 : ∀ w ∈ wsX00, w ∈ wsX0_standHere := fun _ h => List.mem_cons_of_mem _ (List.mem_append_right _ h)
set_option maxHeartbeats 4000000 in
set_option maxRecDepth 100000 in
theorem c_X0_standHere (l : Launch) (dC : Nat → ClassId) (dI : Nat → Nat → Nat) (ad : Nat → Nat) (tN : Nat) (fN : Nat → Int64) (cB cI cJ cZ cQ : ClassId) (h0 : Nat) (p1 : Int32) (p2 : Int32) (r0 : Nat → Nat) (st0 : Nat) (w0 : va_W) (o0 : ok_crowd ad cB cI cJ cZ cQ h0 r0 st0 w0) (sz : Nat) (up11 : 0 ≤ p1.toInt) (up12 : p1.toInt ≤ 5) : Met l yX0_standHere wsX0_standHere ({ frames := 0, cells := 0, slots := 0, locals := 0 } : Room) (va_Pc [.ref h0, .int p1, .int p2] (fun U => U.heap.size = sz ∧ va_P (dC, dI) vwCl (List.flatten [w0]) U.heap ∧ va_K (dC, dI) vwCl [(cB, .byte), (cI, .int), (cJ, .long), (cZ, .boolean), (cQ, .array .long)] U ∧ va_D (fun _ => True) (List.flatten [w0]) ∧ ex_Y ad tN fN (va_A (List.flatten [w0]) sz) U)) (va_Qv (fun _ : Unit => True) (fun (_ : Unit) (t : State) => ∃ (w09 : va_W), ok_crowd ad cB cI cJ cZ cQ h0 r0 st0 w09 ∧ va_P (dC, dI) vwCl (List.flatten [w09]) t.heap ∧ va_D (va_A (List.flatten [w0]) sz) (List.flatten [w09])) (va_A (List.flatten [w0]) sz)) 0 0 (va_A (List.flatten [w0]) sz) := by
  refine Met.ofW (cc := cX0_standHere) (maxL := 4) (ret := none) (by decide) rfl ?_
  intro p e s m args below meth c s₁ B hml hv
  obtain ⟨rfl, hsz, hP, hK, hD0, hE⟩ := hv
  have hx := B.exec
  have hb := B.bytes
  have hr := B.returns
  have hts := atoms_spec (ws := wsX0_standHere) B.pre
  have hown : s.vm.findClass RX0 = some m.cls := findClass_of_methodNamed B.named
  have hlocks := B.notSynchronized
  subst hsz
  have hD := hD0.self (sz := s.heap.size)
  generalize hAe : va_A (List.flatten [w0]) s.heap.size = A at hD hE ⊢
  have hA : ∀ q : Nat, s.heap.size ≤ q → A q := fun q h => by rw [← hAe]; exact Or.inr h
  have hS : va_S A s.heap s.heap [] := va_S.rf
  have hl := lv_entry ([.ref h0, .int p1, .int p2]) (n := 4) (Nat.le_of_ble_eq_true rfl)
  rw [lg_entry_eq]
  generalize (lg_sl ([.ref h0, .int p1, .int p2]) ++ List.replicate (4 - (lg_sl ([.ref h0, .int p1, .int p2])).length) Slot.unset).toArray = ls at hl ⊢
  have hl : lv_has ls 4 [(0, .ref h0), (1, .int p1), (2, .int p2)] := hl
  clear hAe
  refine W_name (fun Q0 hQ0 => ?_)
  refine lv_iconst (v := 0) hx hb dX0_standHere_0 (by decide) ?_
  refine lv_istore_n (lv' := [(3, .int 0), (0, .ref h0), (1, .int p1), (2, .int p2)]) hx hb dX0_standHere_1 rfl hl (by decide) rfl (fun ls hl => ?_)
  obtain ⟨f_70, f_71, f_72, f_73, f_74, f_75, f_76, f_77, f_78, f_79, f_80, f_81, f_82, f_83, ck_84, fn_87, f_90, bd_91, al_92, rfl, hl_85, hh_86, hl_88, hh_89⟩ := o0
  have lp_732 : ∀ (n : Nat) (g_1 : Int32) (gf_138 : Nat → Int64) (gf_139 : Nat → Int64) (gf_140 : Nat → Int64) (gf_141 : Nat → Int64) (gf_142 : Nat → Int64) (gf_143 : Nat → Int64), 0 ≤ g_1.toInt → g_1.toInt ≤ 70 → g_1.toInt - ck_84.toInt ≤ 0 → (70 - g_1.toInt).toNat < n → ∀ (H : Heap) (locs : List Loc), va_P (dC, dI) vwCl (List.flatten [[(h0, .inr (0, [.ref (r0 0), .ref (r0 8), .ref (r0 15), .int ck_84, .ref st0, .int fn_87, .ref (r0 16), .long bd_91, .long al_92])), (r0 0, .inl (cQ, 7, .inr (.inr (.inr (.inr (fun j => some (r0 (j + 1)))))))), (r0 1, .inl (cJ, 16, .inr (.inl f_70))), (r0 2, .inl (cJ, 16, .inr (.inl gf_138))), (r0 3, .inl (cJ, 16, .inr (.inl gf_139))), (r0 4, .inl (cJ, 16, .inr (.inl gf_140))), (r0 5, .inl (cJ, 16, .inr (.inl gf_141))), (r0 6, .inl (cJ, 16, .inr (.inl gf_142))), (r0 7, .inl (cJ, 16, .inr (.inl gf_143))), (r0 8, .inl (cQ, 6, .inr (.inr (.inr (.inr (fun j => some (r0 (j + 9)))))))), (r0 9, .inl (cJ, 16, .inr (.inl f_77))), (r0 10, .inl (cJ, 16, .inr (.inl f_78))), (r0 11, .inl (cJ, 16, .inr (.inl f_79))), (r0 12, .inl (cJ, 16, .inr (.inl f_80))), (r0 13, .inl (cJ, 16, .inr (.inl f_81))), (r0 14, .inl (cJ, 16, .inr (.inl f_82))), (r0 15, .inl (cJ, 16, .inr (.inl f_83))), (r0 16, .inl (cI, 7, .inl f_90))]]) H → va_D A (List.flatten [[(h0, .inr (0, [.ref (r0 0), .ref (r0 8), .ref (r0 15), .int ck_84, .ref st0, .int fn_87, .ref (r0 16), .long bd_91, .long al_92])), (r0 0, .inl (cQ, 7, .inr (.inr (.inr (.inr (fun j => some (r0 (j + 1)))))))), (r0 1, .inl (cJ, 16, .inr (.inl f_70))), (r0 2, .inl (cJ, 16, .inr (.inl gf_138))), (r0 3, .inl (cJ, 16, .inr (.inl gf_139))), (r0 4, .inl (cJ, 16, .inr (.inl gf_140))), (r0 5, .inl (cJ, 16, .inr (.inl gf_141))), (r0 6, .inl (cJ, 16, .inr (.inl gf_142))), (r0 7, .inl (cJ, 16, .inr (.inl gf_143))), (r0 8, .inl (cQ, 6, .inr (.inr (.inr (.inr (fun j => some (r0 (j + 9)))))))), (r0 9, .inl (cJ, 16, .inr (.inl f_77))), (r0 10, .inl (cJ, 16, .inr (.inl f_78))), (r0 11, .inl (cJ, 16, .inr (.inl f_79))), (r0 12, .inl (cJ, 16, .inr (.inl f_80))), (r0 13, .inl (cJ, 16, .inr (.inl f_81))), (r0 14, .inl (cJ, 16, .inr (.inl f_82))), (r0 15, .inl (cJ, 16, .inr (.inl f_83))), (r0 16, .inl (cI, 7, .inl f_90))]]) → va_S A s.heap H locs → ∀ (ls : Array Slot), lv_has ls 4 [(3, .int g_1), (0, .ref h0), (1, .int p1), (2, .int p2)] → W p l e (headSpec wsX0_standHere ({ frames := 0, cells := 0, slots := 0, locals := 0 } : Room)).room s m ([.ref h0, .int p1, .int p2] : List Value).toArray below meth c H locs 0 0 Q0 (F0 m 2 ls []) := by
    intro n
    induction n with
    | zero => intro g_1 gf_138 gf_139 gf_140 gf_141 gf_142 gf_143 iv_729 iv_730 iv_731 hm; exact absurd hm (Nat.not_lt_zero _)
    | succ n ih_733 =>
      intro g_1 gf_138 gf_139 gf_140 gf_141 gf_142 gf_143 iv_729 iv_730 iv_731 hm H locs hP hD hS ls hl
      refine lv_iload_n hx hb dX0_standHere_2 rfl (lv_at hl 0 rfl) ?_
      refine lv_aload_n hx hb dX0_standHere_3 rfl (lv_at hl 1 rfl) ?_
      refine va_get (D := (dC, dI)) (ci := 0) (v := .int ck_84) (C := RX0) (T := TX0) (N := 9) hx hb hts iw_X0_standHere_X0 hown hK hP 0 rfl rfl 3 (by decide) (hts (.fieldLink RX0 23 "HungFloors$Crowd" "checks" "I") (by decide +kernel)) (fun _ h9 => h9) rfl dX0_standHere_4 ?_
      refine lv_icmp_ge (tgt := 46) hx hb dX0_standHere_7 (by decide) (fun c_734 => ?_) (fun c_734 => ?_)
      · have c_734 : ck_84.toInt ≤ g_1.toInt := f_le rfl rfl c_734
        rw [hQ0]
        exact W.vret hx hb hr (fun t ht hW => ⟨⟨(), rfl, trivial, ⟨_, ⟨f_70, gf_138, gf_139, gf_140, gf_141, gf_142, gf_143, f_77, f_78, f_79, f_80, f_81, f_82, f_83, ck_84, fn_87, f_90, bd_91, al_92, rfl, by omega, by omega, by omega, by omega⟩, by rw [ht]; exact hP, hD⟩⟩, hS.F ht⟩) hS.2.2 dX0_standHere_46
      · have c_734 : g_1.toInt < ck_84.toInt := f_nle rfl rfl c_734
        refine lv_aload_n hx hb dX0_standHere_10 rfl (lv_at hl 1 rfl) ?_
        refine va_get (D := (dC, dI)) (ci := 0) (v := .ref (r0 0)) (C := RX0) (T := TX0) (N := 9) hx hb hts iw_X0_standHere_X0 hown hK hP 0 rfl rfl 0 (by decide) (hts (.fieldLink RX0 13 "HungFloors$Crowd" "borne" "[[J") (by decide +kernel)) (fun _ h9 => h9) rfl dX0_standHere_11 ?_
        refine lv_iload_n hx hb dX0_standHere_14 rfl (lv_at hl 2 rfl) ?_
        refine lv_iconst (v := 1) hx hb dX0_standHere_15 (by decide) ?_
        refine lv_iadd hx hb dX0_standHere_16 ?_
        refine lv_topi (fun z_735 ez_735 => ?_)
        have hz_735 : z_735.toInt = p1.toInt + 1 := by rw [ez_735]; exact t_add rfl tI_1 (by omega) (by omega)
        have fz_735 : z_735 = (p1 + 1) := by rw [ez_735]
        rcases (show z_735.toInt = 1 ∨ z_735.toInt = 2 ∨ z_735.toInt = 3 ∨ z_735.toInt = 4 ∨ z_735.toInt = 5 ∨ z_735.toInt = 6 by omega) with c_736 | c_736 | c_736 | c_736 | c_736 | c_736
        · refine va_aldr hx hb hK hP 1 4 rfl rfl (v_in rfl (by omega) (by omega)) 1 (by omega) rfl dX0_standHere_17 ?_
          refine lv_iload_n hx hb dX0_standHere_18 rfl (lv_at hl 0 rfl) ?_
          refine lv_aload_n hx hb dX0_standHere_19 rfl (lv_at hl 1 rfl) ?_
          refine va_get (D := (dC, dI)) (ci := 0) (v := .ref (r0 0)) (C := RX0) (T := TX0) (N := 9) hx hb hts iw_X0_standHere_X0 hown hK hP 0 rfl rfl 0 (by decide) (hts (.fieldLink RX0 13 "HungFloors$Crowd" "borne" "[[J") (by decide +kernel)) (fun _ h9 => h9) rfl dX0_standHere_20 ?_
          refine lv_iload_n hx hb dX0_standHere_23 rfl (lv_at hl 2 rfl) ?_
          refine va_aldr hx hb hK hP 1 4 rfl rfl (v_in rfl (by omega) (by omega)) 0 (by omega) rfl dX0_standHere_24 ?_
          refine lv_iload_n hx hb dX0_standHere_25 rfl (lv_at hl 0 rfl) ?_
          refine va_lald hx hb hK hP 2 2 rfl rfl (v_in rfl (by omega) (by omega)) dX0_standHere_26 ?_
          refine lv_topl (fun z_737 ez_737 => ?_)
          refine lv_iload_n hx hb dX0_standHere_27 rfl (lv_at hl 3 rfl) ?_
          obtain ⟨z_738, ez_738⟩ : ∃ y : Int64, (p2 : Int32).toInt64 = y := ⟨_, rfl⟩
          refine lv_i2l (v := z_738) hx hb dX0_standHere_28 ez_738 ?_
          refine lv_aload_n hx hb dX0_standHere_29 rfl (lv_at hl 1 rfl) ?_
          refine va_get (D := (dC, dI)) (ci := 0) (v := .ref (r0 8)) (C := RX0) (T := TX0) (N := 9) hx hb hts iw_X0_standHere_X0 hown hK hP 0 rfl rfl 1 (by decide) (hts (.fieldLink RX0 16 "HungFloors$Crowd" "added" "[[J") (by decide +kernel)) (fun _ h9 => h9) rfl dX0_standHere_30 ?_
          refine lv_iload_n hx hb dX0_standHere_33 rfl (lv_at hl 2 rfl) ?_
          refine va_aldr hx hb hK hP 9 4 rfl rfl (v_in rfl (by omega) (by omega)) 0 (by omega) rfl dX0_standHere_34 ?_
          refine lv_iload_n hx hb dX0_standHere_35 rfl (lv_at hl 0 rfl) ?_
          refine va_lald hx hb hK hP 10 2 rfl rfl (v_in rfl (by omega) (by omega)) dX0_standHere_36 ?_
          refine lv_topl (fun z_739 ez_739 => ?_)
          refine lv_lmul hx hb dX0_standHere_37 ?_
          refine lv_topl (fun z_740 ez_740 => ?_)
          refine lv_ladd hx hb dX0_standHere_38 ?_
          refine lv_topl (fun z_741 ez_741 => ?_)
          refine va_last hx hb hK hP hD hS 3 2 rfl rfl (v_in rfl (by omega) (by omega)) dX0_standHere_39 (fun H locs hP hD hS => ?_)
          obtain ⟨f_742, hP, hD⟩ : ∃ f_742 : Nat → Int64, va_P (dC, dI) vwCl (List.flatten [[(h0, .inr (0, [.ref (r0 0), .ref (r0 8), .ref (r0 15), .int ck_84, .ref st0, .int fn_87, .ref (r0 16), .long bd_91, .long al_92])), (r0 0, .inl (cQ, 7, .inr (.inr (.inr (.inr (fun j => some (r0 (j + 1)))))))), (r0 1, .inl (cJ, 16, .inr (.inl f_70))), (r0 2, .inl (cJ, 16, .inr (.inl f_742))), (r0 3, .inl (cJ, 16, .inr (.inl gf_139))), (r0 4, .inl (cJ, 16, .inr (.inl gf_140))), (r0 5, .inl (cJ, 16, .inr (.inl gf_141))), (r0 6, .inl (cJ, 16, .inr (.inl gf_142))), (r0 7, .inl (cJ, 16, .inr (.inl gf_143))), (r0 8, .inl (cQ, 6, .inr (.inr (.inr (.inr (fun j => some (r0 (j + 9)))))))), (r0 9, .inl (cJ, 16, .inr (.inl f_77))), (r0 10, .inl (cJ, 16, .inr (.inl f_78))), (r0 11, .inl (cJ, 16, .inr (.inl f_79))), (r0 12, .inl (cJ, 16, .inr (.inl f_80))), (r0 13, .inl (cJ, 16, .inr (.inl f_81))), (r0 14, .inl (cJ, 16, .inr (.inl f_82))), (r0 15, .inl (cJ, 16, .inr (.inl f_83))), (r0 16, .inl (cI, 7, .inl f_90))]]) H ∧ va_D A (List.flatten [[(h0, .inr (0, [.ref (r0 0), .ref (r0 8), .ref (r0 15), .int ck_84, .ref st0, .int fn_87, .ref (r0 16), .long bd_91, .long al_92])), (r0 0, .inl (cQ, 7, .inr (.inr (.inr (.inr (fun j => some (r0 (j + 1)))))))), (r0 1, .inl (cJ, 16, .inr (.inl f_70))), (r0 2, .inl (cJ, 16, .inr (.inl f_742))), (r0 3, .inl (cJ, 16, .inr (.inl gf_139))), (r0 4, .inl (cJ, 16, .inr (.inl gf_140))), (r0 5, .inl (cJ, 16, .inr (.inl gf_141))), (r0 6, .inl (cJ, 16, .inr (.inl gf_142))), (r0 7, .inl (cJ, 16, .inr (.inl gf_143))), (r0 8, .inl (cQ, 6, .inr (.inr (.inr (.inr (fun j => some (r0 (j + 9)))))))), (r0 9, .inl (cJ, 16, .inr (.inl f_77))), (r0 10, .inl (cJ, 16, .inr (.inl f_78))), (r0 11, .inl (cJ, 16, .inr (.inl f_79))), (r0 12, .inl (cJ, 16, .inr (.inl f_80))), (r0 13, .inl (cJ, 16, .inr (.inl f_81))), (r0 14, .inl (cJ, 16, .inr (.inl f_82))), (r0 15, .inl (cJ, 16, .inr (.inl f_83))), (r0 16, .inl (cI, 7, .inl f_90))]]) := ⟨_, hP, hD⟩
          obtain ⟨z_743, ez_743⟩ : ∃ y : Int32, y = g_1 + 1 := ⟨_, rfl⟩
          have hz_743 : z_743.toInt = g_1.toInt + 1 := by rw [ez_743]; exact t_add rfl tI_1 (by omega) (by omega)
          refine lv_iinc (v := z_743) (lv' := [(3, .int z_743), (0, .ref h0), (1, .int p1), (2, .int p2)]) hx hb dX0_standHere_40 hl (k := 0) rfl (by rw [ez_743]; rfl) (by decide) rfl (fun ls hl => ?_)
          refine lv_goto (tgt := 2) hx hb dX0_standHere_43 (by decide) ?_
          exact ih_733 z_743 f_742 gf_139 gf_140 gf_141 gf_142 gf_143 (by omega) (by omega) (by omega) (by omega) _ _ hP hD hS ls (lv_sub hl [0, 1, 2, 3] rfl)
        · refine va_aldr hx hb hK hP 1 4 rfl rfl (v_in rfl (by omega) (by omega)) 2 (by omega) rfl dX0_standHere_17 ?_
          refine lv_iload_n hx hb dX0_standHere_18 rfl (lv_at hl 0 rfl) ?_
          refine lv_aload_n hx hb dX0_standHere_19 rfl (lv_at hl 1 rfl) ?_
          refine va_get (D := (dC, dI)) (ci := 0) (v := .ref (r0 0)) (C := RX0) (T := TX0) (N := 9) hx hb hts iw_X0_standHere_X0 hown hK hP 0 rfl rfl 0 (by decide) (hts (.fieldLink RX0 13 "HungFloors$Crowd" "borne" "[[J") (by decide +kernel)) (fun _ h9 => h9) rfl dX0_standHere_20 ?_
          refine lv_iload_n hx hb dX0_standHere_23 rfl (lv_at hl 2 rfl) ?_
          refine va_aldr hx hb hK hP 1 4 rfl rfl (v_in rfl (by omega) (by omega)) 1 (by omega) rfl dX0_standHere_24 ?_
          refine lv_iload_n hx hb dX0_standHere_25 rfl (lv_at hl 0 rfl) ?_
          refine va_lald hx hb hK hP 3 2 rfl rfl (v_in rfl (by omega) (by omega)) dX0_standHere_26 ?_
          refine lv_topl (fun z_744 ez_744 => ?_)
          refine lv_iload_n hx hb dX0_standHere_27 rfl (lv_at hl 3 rfl) ?_
          obtain ⟨z_745, ez_745⟩ : ∃ y : Int64, (p2 : Int32).toInt64 = y := ⟨_, rfl⟩
          refine lv_i2l (v := z_745) hx hb dX0_standHere_28 ez_745 ?_
          refine lv_aload_n hx hb dX0_standHere_29 rfl (lv_at hl 1 rfl) ?_
          refine va_get (D := (dC, dI)) (ci := 0) (v := .ref (r0 8)) (C := RX0) (T := TX0) (N := 9) hx hb hts iw_X0_standHere_X0 hown hK hP 0 rfl rfl 1 (by decide) (hts (.fieldLink RX0 16 "HungFloors$Crowd" "added" "[[J") (by decide +kernel)) (fun _ h9 => h9) rfl dX0_standHere_30 ?_
          refine lv_iload_n hx hb dX0_standHere_33 rfl (lv_at hl 2 rfl) ?_
          refine va_aldr hx hb hK hP 9 4 rfl rfl (v_in rfl (by omega) (by omega)) 1 (by omega) rfl dX0_standHere_34 ?_
          refine lv_iload_n hx hb dX0_standHere_35 rfl (lv_at hl 0 rfl) ?_
          refine va_lald hx hb hK hP 11 2 rfl rfl (v_in rfl (by omega) (by omega)) dX0_standHere_36 ?_
          refine lv_topl (fun z_746 ez_746 => ?_)
          refine lv_lmul hx hb dX0_standHere_37 ?_
          refine lv_topl (fun z_747 ez_747 => ?_)
          refine lv_ladd hx hb dX0_standHere_38 ?_
          refine lv_topl (fun z_748 ez_748 => ?_)
          refine va_last hx hb hK hP hD hS 4 2 rfl rfl (v_in rfl (by omega) (by omega)) dX0_standHere_39 (fun H locs hP hD hS => ?_)
          obtain ⟨f_749, hP, hD⟩ : ∃ f_749 : Nat → Int64, va_P (dC, dI) vwCl (List.flatten [[(h0, .inr (0, [.ref (r0 0), .ref (r0 8), .ref (r0 15), .int ck_84, .ref st0, .int fn_87, .ref (r0 16), .long bd_91, .long al_92])), (r0 0, .inl (cQ, 7, .inr (.inr (.inr (.inr (fun j => some (r0 (j + 1)))))))), (r0 1, .inl (cJ, 16, .inr (.inl f_70))), (r0 2, .inl (cJ, 16, .inr (.inl gf_138))), (r0 3, .inl (cJ, 16, .inr (.inl f_749))), (r0 4, .inl (cJ, 16, .inr (.inl gf_140))), (r0 5, .inl (cJ, 16, .inr (.inl gf_141))), (r0 6, .inl (cJ, 16, .inr (.inl gf_142))), (r0 7, .inl (cJ, 16, .inr (.inl gf_143))), (r0 8, .inl (cQ, 6, .inr (.inr (.inr (.inr (fun j => some (r0 (j + 9)))))))), (r0 9, .inl (cJ, 16, .inr (.inl f_77))), (r0 10, .inl (cJ, 16, .inr (.inl f_78))), (r0 11, .inl (cJ, 16, .inr (.inl f_79))), (r0 12, .inl (cJ, 16, .inr (.inl f_80))), (r0 13, .inl (cJ, 16, .inr (.inl f_81))), (r0 14, .inl (cJ, 16, .inr (.inl f_82))), (r0 15, .inl (cJ, 16, .inr (.inl f_83))), (r0 16, .inl (cI, 7, .inl f_90))]]) H ∧ va_D A (List.flatten [[(h0, .inr (0, [.ref (r0 0), .ref (r0 8), .ref (r0 15), .int ck_84, .ref st0, .int fn_87, .ref (r0 16), .long bd_91, .long al_92])), (r0 0, .inl (cQ, 7, .inr (.inr (.inr (.inr (fun j => some (r0 (j + 1)))))))), (r0 1, .inl (cJ, 16, .inr (.inl f_70))), (r0 2, .inl (cJ, 16, .inr (.inl gf_138))), (r0 3, .inl (cJ, 16, .inr (.inl f_749))), (r0 4, .inl (cJ, 16, .inr (.inl gf_140))), (r0 5, .inl (cJ, 16, .inr (.inl gf_141))), (r0 6, .inl (cJ, 16, .inr (.inl gf_142))), (r0 7, .inl (cJ, 16, .inr (.inl gf_143))), (r0 8, .inl (cQ, 6, .inr (.inr (.inr (.inr (fun j => some (r0 (j + 9)))))))), (r0 9, .inl (cJ, 16, .inr (.inl f_77))), (r0 10, .inl (cJ, 16, .inr (.inl f_78))), (r0 11, .inl (cJ, 16, .inr (.inl f_79))), (r0 12, .inl (cJ, 16, .inr (.inl f_80))), (r0 13, .inl (cJ, 16, .inr (.inl f_81))), (r0 14, .inl (cJ, 16, .inr (.inl f_82))), (r0 15, .inl (cJ, 16, .inr (.inl f_83))), (r0 16, .inl (cI, 7, .inl f_90))]]) := ⟨_, hP, hD⟩
          obtain ⟨z_750, ez_750⟩ : ∃ y : Int32, y = g_1 + 1 := ⟨_, rfl⟩
          have hz_750 : z_750.toInt = g_1.toInt + 1 := by rw [ez_750]; exact t_add rfl tI_1 (by omega) (by omega)
          refine lv_iinc (v := z_750) (lv' := [(3, .int z_750), (0, .ref h0), (1, .int p1), (2, .int p2)]) hx hb dX0_standHere_40 hl (k := 0) rfl (by rw [ez_750]; rfl) (by decide) rfl (fun ls hl => ?_)
          refine lv_goto (tgt := 2) hx hb dX0_standHere_43 (by decide) ?_
          exact ih_733 z_750 gf_138 f_749 gf_140 gf_141 gf_142 gf_143 (by omega) (by omega) (by omega) (by omega) _ _ hP hD hS ls (lv_sub hl [0, 1, 2, 3] rfl)
        · refine va_aldr hx hb hK hP 1 4 rfl rfl (v_in rfl (by omega) (by omega)) 3 (by omega) rfl dX0_standHere_17 ?_
          refine lv_iload_n hx hb dX0_standHere_18 rfl (lv_at hl 0 rfl) ?_
          refine lv_aload_n hx hb dX0_standHere_19 rfl (lv_at hl 1 rfl) ?_
          refine va_get (D := (dC, dI)) (ci := 0) (v := .ref (r0 0)) (C := RX0) (T := TX0) (N := 9) hx hb hts iw_X0_standHere_X0 hown hK hP 0 rfl rfl 0 (by decide) (hts (.fieldLink RX0 13 "HungFloors$Crowd" "borne" "[[J") (by decide +kernel)) (fun _ h9 => h9) rfl dX0_standHere_20 ?_
          refine lv_iload_n hx hb dX0_standHere_23 rfl (lv_at hl 2 rfl) ?_
          refine va_aldr hx hb hK hP 1 4 rfl rfl (v_in rfl (by omega) (by omega)) 2 (by omega) rfl dX0_standHere_24 ?_
          refine lv_iload_n hx hb dX0_standHere_25 rfl (lv_at hl 0 rfl) ?_
          refine va_lald hx hb hK hP 4 2 rfl rfl (v_in rfl (by omega) (by omega)) dX0_standHere_26 ?_
          refine lv_topl (fun z_751 ez_751 => ?_)
          refine lv_iload_n hx hb dX0_standHere_27 rfl (lv_at hl 3 rfl) ?_
          obtain ⟨z_752, ez_752⟩ : ∃ y : Int64, (p2 : Int32).toInt64 = y := ⟨_, rfl⟩
          refine lv_i2l (v := z_752) hx hb dX0_standHere_28 ez_752 ?_
          refine lv_aload_n hx hb dX0_standHere_29 rfl (lv_at hl 1 rfl) ?_
          refine va_get (D := (dC, dI)) (ci := 0) (v := .ref (r0 8)) (C := RX0) (T := TX0) (N := 9) hx hb hts iw_X0_standHere_X0 hown hK hP 0 rfl rfl 1 (by decide) (hts (.fieldLink RX0 16 "HungFloors$Crowd" "added" "[[J") (by decide +kernel)) (fun _ h9 => h9) rfl dX0_standHere_30 ?_
          refine lv_iload_n hx hb dX0_standHere_33 rfl (lv_at hl 2 rfl) ?_
          refine va_aldr hx hb hK hP 9 4 rfl rfl (v_in rfl (by omega) (by omega)) 2 (by omega) rfl dX0_standHere_34 ?_
          refine lv_iload_n hx hb dX0_standHere_35 rfl (lv_at hl 0 rfl) ?_
          refine va_lald hx hb hK hP 12 2 rfl rfl (v_in rfl (by omega) (by omega)) dX0_standHere_36 ?_
          refine lv_topl (fun z_753 ez_753 => ?_)
          refine lv_lmul hx hb dX0_standHere_37 ?_
          refine lv_topl (fun z_754 ez_754 => ?_)
          refine lv_ladd hx hb dX0_standHere_38 ?_
          refine lv_topl (fun z_755 ez_755 => ?_)
          refine va_last hx hb hK hP hD hS 5 2 rfl rfl (v_in rfl (by omega) (by omega)) dX0_standHere_39 (fun H locs hP hD hS => ?_)
          obtain ⟨f_756, hP, hD⟩ : ∃ f_756 : Nat → Int64, va_P (dC, dI) vwCl (List.flatten [[(h0, .inr (0, [.ref (r0 0), .ref (r0 8), .ref (r0 15), .int ck_84, .ref st0, .int fn_87, .ref (r0 16), .long bd_91, .long al_92])), (r0 0, .inl (cQ, 7, .inr (.inr (.inr (.inr (fun j => some (r0 (j + 1)))))))), (r0 1, .inl (cJ, 16, .inr (.inl f_70))), (r0 2, .inl (cJ, 16, .inr (.inl gf_138))), (r0 3, .inl (cJ, 16, .inr (.inl gf_139))), (r0 4, .inl (cJ, 16, .inr (.inl f_756))), (r0 5, .inl (cJ, 16, .inr (.inl gf_141))), (r0 6, .inl (cJ, 16, .inr (.inl gf_142))), (r0 7, .inl (cJ, 16, .inr (.inl gf_143))), (r0 8, .inl (cQ, 6, .inr (.inr (.inr (.inr (fun j => some (r0 (j + 9)))))))), (r0 9, .inl (cJ, 16, .inr (.inl f_77))), (r0 10, .inl (cJ, 16, .inr (.inl f_78))), (r0 11, .inl (cJ, 16, .inr (.inl f_79))), (r0 12, .inl (cJ, 16, .inr (.inl f_80))), (r0 13, .inl (cJ, 16, .inr (.inl f_81))), (r0 14, .inl (cJ, 16, .inr (.inl f_82))), (r0 15, .inl (cJ, 16, .inr (.inl f_83))), (r0 16, .inl (cI, 7, .inl f_90))]]) H ∧ va_D A (List.flatten [[(h0, .inr (0, [.ref (r0 0), .ref (r0 8), .ref (r0 15), .int ck_84, .ref st0, .int fn_87, .ref (r0 16), .long bd_91, .long al_92])), (r0 0, .inl (cQ, 7, .inr (.inr (.inr (.inr (fun j => some (r0 (j + 1)))))))), (r0 1, .inl (cJ, 16, .inr (.inl f_70))), (r0 2, .inl (cJ, 16, .inr (.inl gf_138))), (r0 3, .inl (cJ, 16, .inr (.inl gf_139))), (r0 4, .inl (cJ, 16, .inr (.inl f_756))), (r0 5, .inl (cJ, 16, .inr (.inl gf_141))), (r0 6, .inl (cJ, 16, .inr (.inl gf_142))), (r0 7, .inl (cJ, 16, .inr (.inl gf_143))), (r0 8, .inl (cQ, 6, .inr (.inr (.inr (.inr (fun j => some (r0 (j + 9)))))))), (r0 9, .inl (cJ, 16, .inr (.inl f_77))), (r0 10, .inl (cJ, 16, .inr (.inl f_78))), (r0 11, .inl (cJ, 16, .inr (.inl f_79))), (r0 12, .inl (cJ, 16, .inr (.inl f_80))), (r0 13, .inl (cJ, 16, .inr (.inl f_81))), (r0 14, .inl (cJ, 16, .inr (.inl f_82))), (r0 15, .inl (cJ, 16, .inr (.inl f_83))), (r0 16, .inl (cI, 7, .inl f_90))]]) := ⟨_, hP, hD⟩
          obtain ⟨z_757, ez_757⟩ : ∃ y : Int32, y = g_1 + 1 := ⟨_, rfl⟩
          have hz_757 : z_757.toInt = g_1.toInt + 1 := by rw [ez_757]; exact t_add rfl tI_1 (by omega) (by omega)
          refine lv_iinc (v := z_757) (lv' := [(3, .int z_757), (0, .ref h0), (1, .int p1), (2, .int p2)]) hx hb dX0_standHere_40 hl (k := 0) rfl (by rw [ez_757]; rfl) (by decide) rfl (fun ls hl => ?_)
          refine lv_goto (tgt := 2) hx hb dX0_standHere_43 (by decide) ?_
          exact ih_733 z_757 gf_138 gf_139 f_756 gf_141 gf_142 gf_143 (by omega) (by omega) (by omega) (by omega) _ _ hP hD hS ls (lv_sub hl [0, 1, 2, 3] rfl)
        · refine va_aldr hx hb hK hP 1 4 rfl rfl (v_in rfl (by omega) (by omega)) 4 (by omega) rfl dX0_standHere_17 ?_
          refine lv_iload_n hx hb dX0_standHere_18 rfl (lv_at hl 0 rfl) ?_
          refine lv_aload_n hx hb dX0_standHere_19 rfl (lv_at hl 1 rfl) ?_
          refine va_get (D := (dC, dI)) (ci := 0) (v := .ref (r0 0)) (C := RX0) (T := TX0) (N := 9) hx hb hts iw_X0_standHere_X0 hown hK hP 0 rfl rfl 0 (by decide) (hts (.fieldLink RX0 13 "HungFloors$Crowd" "borne" "[[J") (by decide +kernel)) (fun _ h9 => h9) rfl dX0_standHere_20 ?_
          refine lv_iload_n hx hb dX0_standHere_23 rfl (lv_at hl 2 rfl) ?_
          refine va_aldr hx hb hK hP 1 4 rfl rfl (v_in rfl (by omega) (by omega)) 3 (by omega) rfl dX0_standHere_24 ?_
          refine lv_iload_n hx hb dX0_standHere_25 rfl (lv_at hl 0 rfl) ?_
          refine va_lald hx hb hK hP 5 2 rfl rfl (v_in rfl (by omega) (by omega)) dX0_standHere_26 ?_
          refine lv_topl (fun z_758 ez_758 => ?_)
          refine lv_iload_n hx hb dX0_standHere_27 rfl (lv_at hl 3 rfl) ?_
          obtain ⟨z_759, ez_759⟩ : ∃ y : Int64, (p2 : Int32).toInt64 = y := ⟨_, rfl⟩
          refine lv_i2l (v := z_759) hx hb dX0_standHere_28 ez_759 ?_
          refine lv_aload_n hx hb dX0_standHere_29 rfl (lv_at hl 1 rfl) ?_
          refine va_get (D := (dC, dI)) (ci := 0) (v := .ref (r0 8)) (C := RX0) (T := TX0) (N := 9) hx hb hts iw_X0_standHere_X0 hown hK hP 0 rfl rfl 1 (by decide) (hts (.fieldLink RX0 16 "HungFloors$Crowd" "added" "[[J") (by decide +kernel)) (fun _ h9 => h9) rfl dX0_standHere_30 ?_
          refine lv_iload_n hx hb dX0_standHere_33 rfl (lv_at hl 2 rfl) ?_
          refine va_aldr hx hb hK hP 9 4 rfl rfl (v_in rfl (by omega) (by omega)) 3 (by omega) rfl dX0_standHere_34 ?_
          refine lv_iload_n hx hb dX0_standHere_35 rfl (lv_at hl 0 rfl) ?_
          refine va_lald hx hb hK hP 13 2 rfl rfl (v_in rfl (by omega) (by omega)) dX0_standHere_36 ?_
          refine lv_topl (fun z_760 ez_760 => ?_)
          refine lv_lmul hx hb dX0_standHere_37 ?_
          refine lv_topl (fun z_761 ez_761 => ?_)
          refine lv_ladd hx hb dX0_standHere_38 ?_
          refine lv_topl (fun z_762 ez_762 => ?_)
          refine va_last hx hb hK hP hD hS 6 2 rfl rfl (v_in rfl (by omega) (by omega)) dX0_standHere_39 (fun H locs hP hD hS => ?_)
          obtain ⟨f_763, hP, hD⟩ : ∃ f_763 : Nat → Int64, va_P (dC, dI) vwCl (List.flatten [[(h0, .inr (0, [.ref (r0 0), .ref (r0 8), .ref (r0 15), .int ck_84, .ref st0, .int fn_87, .ref (r0 16), .long bd_91, .long al_92])), (r0 0, .inl (cQ, 7, .inr (.inr (.inr (.inr (fun j => some (r0 (j + 1)))))))), (r0 1, .inl (cJ, 16, .inr (.inl f_70))), (r0 2, .inl (cJ, 16, .inr (.inl gf_138))), (r0 3, .inl (cJ, 16, .inr (.inl gf_139))), (r0 4, .inl (cJ, 16, .inr (.inl gf_140))), (r0 5, .inl (cJ, 16, .inr (.inl f_763))), (r0 6, .inl (cJ, 16, .inr (.inl gf_142))), (r0 7, .inl (cJ, 16, .inr (.inl gf_143))), (r0 8, .inl (cQ, 6, .inr (.inr (.inr (.inr (fun j => some (r0 (j + 9)))))))), (r0 9, .inl (cJ, 16, .inr (.inl f_77))), (r0 10, .inl (cJ, 16, .inr (.inl f_78))), (r0 11, .inl (cJ, 16, .inr (.inl f_79))), (r0 12, .inl (cJ, 16, .inr (.inl f_80))), (r0 13, .inl (cJ, 16, .inr (.inl f_81))), (r0 14, .inl (cJ, 16, .inr (.inl f_82))), (r0 15, .inl (cJ, 16, .inr (.inl f_83))), (r0 16, .inl (cI, 7, .inl f_90))]]) H ∧ va_D A (List.flatten [[(h0, .inr (0, [.ref (r0 0), .ref (r0 8), .ref (r0 15), .int ck_84, .ref st0, .int fn_87, .ref (r0 16), .long bd_91, .long al_92])), (r0 0, .inl (cQ, 7, .inr (.inr (.inr (.inr (fun j => some (r0 (j + 1)))))))), (r0 1, .inl (cJ, 16, .inr (.inl f_70))), (r0 2, .inl (cJ, 16, .inr (.inl gf_138))), (r0 3, .inl (cJ, 16, .inr (.inl gf_139))), (r0 4, .inl (cJ, 16, .inr (.inl gf_140))), (r0 5, .inl (cJ, 16, .inr (.inl f_763))), (r0 6, .inl (cJ, 16, .inr (.inl gf_142))), (r0 7, .inl (cJ, 16, .inr (.inl gf_143))), (r0 8, .inl (cQ, 6, .inr (.inr (.inr (.inr (fun j => some (r0 (j + 9)))))))), (r0 9, .inl (cJ, 16, .inr (.inl f_77))), (r0 10, .inl (cJ, 16, .inr (.inl f_78))), (r0 11, .inl (cJ, 16, .inr (.inl f_79))), (r0 12, .inl (cJ, 16, .inr (.inl f_80))), (r0 13, .inl (cJ, 16, .inr (.inl f_81))), (r0 14, .inl (cJ, 16, .inr (.inl f_82))), (r0 15, .inl (cJ, 16, .inr (.inl f_83))), (r0 16, .inl (cI, 7, .inl f_90))]]) := ⟨_, hP, hD⟩
          obtain ⟨z_764, ez_764⟩ : ∃ y : Int32, y = g_1 + 1 := ⟨_, rfl⟩
          have hz_764 : z_764.toInt = g_1.toInt + 1 := by rw [ez_764]; exact t_add rfl tI_1 (by omega) (by omega)
          refine lv_iinc (v := z_764) (lv' := [(3, .int z_764), (0, .ref h0), (1, .int p1), (2, .int p2)]) hx hb dX0_standHere_40 hl (k := 0) rfl (by rw [ez_764]; rfl) (by decide) rfl (fun ls hl => ?_)
          refine lv_goto (tgt := 2) hx hb dX0_standHere_43 (by decide) ?_
          exact ih_733 z_764 gf_138 gf_139 gf_140 f_763 gf_142 gf_143 (by omega) (by omega) (by omega) (by omega) _ _ hP hD hS ls (lv_sub hl [0, 1, 2, 3] rfl)
        · refine va_aldr hx hb hK hP 1 4 rfl rfl (v_in rfl (by omega) (by omega)) 5 (by omega) rfl dX0_standHere_17 ?_
          refine lv_iload_n hx hb dX0_standHere_18 rfl (lv_at hl 0 rfl) ?_
          refine lv_aload_n hx hb dX0_standHere_19 rfl (lv_at hl 1 rfl) ?_
          refine va_get (D := (dC, dI)) (ci := 0) (v := .ref (r0 0)) (C := RX0) (T := TX0) (N := 9) hx hb hts iw_X0_standHere_X0 hown hK hP 0 rfl rfl 0 (by decide) (hts (.fieldLink RX0 13 "HungFloors$Crowd" "borne" "[[J") (by decide +kernel)) (fun _ h9 => h9) rfl dX0_standHere_20 ?_
          refine lv_iload_n hx hb dX0_standHere_23 rfl (lv_at hl 2 rfl) ?_
          refine va_aldr hx hb hK hP 1 4 rfl rfl (v_in rfl (by omega) (by omega)) 4 (by omega) rfl dX0_standHere_24 ?_
          refine lv_iload_n hx hb dX0_standHere_25 rfl (lv_at hl 0 rfl) ?_
          refine va_lald hx hb hK hP 6 2 rfl rfl (v_in rfl (by omega) (by omega)) dX0_standHere_26 ?_
          refine lv_topl (fun z_765 ez_765 => ?_)
          refine lv_iload_n hx hb dX0_standHere_27 rfl (lv_at hl 3 rfl) ?_
          obtain ⟨z_766, ez_766⟩ : ∃ y : Int64, (p2 : Int32).toInt64 = y := ⟨_, rfl⟩
          refine lv_i2l (v := z_766) hx hb dX0_standHere_28 ez_766 ?_
          refine lv_aload_n hx hb dX0_standHere_29 rfl (lv_at hl 1 rfl) ?_
          refine va_get (D := (dC, dI)) (ci := 0) (v := .ref (r0 8)) (C := RX0) (T := TX0) (N := 9) hx hb hts iw_X0_standHere_X0 hown hK hP 0 rfl rfl 1 (by decide) (hts (.fieldLink RX0 16 "HungFloors$Crowd" "added" "[[J") (by decide +kernel)) (fun _ h9 => h9) rfl dX0_standHere_30 ?_
          refine lv_iload_n hx hb dX0_standHere_33 rfl (lv_at hl 2 rfl) ?_
          refine va_aldr hx hb hK hP 9 4 rfl rfl (v_in rfl (by omega) (by omega)) 4 (by omega) rfl dX0_standHere_34 ?_
          refine lv_iload_n hx hb dX0_standHere_35 rfl (lv_at hl 0 rfl) ?_
          refine va_lald hx hb hK hP 14 2 rfl rfl (v_in rfl (by omega) (by omega)) dX0_standHere_36 ?_
          refine lv_topl (fun z_767 ez_767 => ?_)
          refine lv_lmul hx hb dX0_standHere_37 ?_
          refine lv_topl (fun z_768 ez_768 => ?_)
          refine lv_ladd hx hb dX0_standHere_38 ?_
          refine lv_topl (fun z_769 ez_769 => ?_)
          refine va_last hx hb hK hP hD hS 7 2 rfl rfl (v_in rfl (by omega) (by omega)) dX0_standHere_39 (fun H locs hP hD hS => ?_)
          obtain ⟨f_770, hP, hD⟩ : ∃ f_770 : Nat → Int64, va_P (dC, dI) vwCl (List.flatten [[(h0, .inr (0, [.ref (r0 0), .ref (r0 8), .ref (r0 15), .int ck_84, .ref st0, .int fn_87, .ref (r0 16), .long bd_91, .long al_92])), (r0 0, .inl (cQ, 7, .inr (.inr (.inr (.inr (fun j => some (r0 (j + 1)))))))), (r0 1, .inl (cJ, 16, .inr (.inl f_70))), (r0 2, .inl (cJ, 16, .inr (.inl gf_138))), (r0 3, .inl (cJ, 16, .inr (.inl gf_139))), (r0 4, .inl (cJ, 16, .inr (.inl gf_140))), (r0 5, .inl (cJ, 16, .inr (.inl gf_141))), (r0 6, .inl (cJ, 16, .inr (.inl f_770))), (r0 7, .inl (cJ, 16, .inr (.inl gf_143))), (r0 8, .inl (cQ, 6, .inr (.inr (.inr (.inr (fun j => some (r0 (j + 9)))))))), (r0 9, .inl (cJ, 16, .inr (.inl f_77))), (r0 10, .inl (cJ, 16, .inr (.inl f_78))), (r0 11, .inl (cJ, 16, .inr (.inl f_79))), (r0 12, .inl (cJ, 16, .inr (.inl f_80))), (r0 13, .inl (cJ, 16, .inr (.inl f_81))), (r0 14, .inl (cJ, 16, .inr (.inl f_82))), (r0 15, .inl (cJ, 16, .inr (.inl f_83))), (r0 16, .inl (cI, 7, .inl f_90))]]) H ∧ va_D A (List.flatten [[(h0, .inr (0, [.ref (r0 0), .ref (r0 8), .ref (r0 15), .int ck_84, .ref st0, .int fn_87, .ref (r0 16), .long bd_91, .long al_92])), (r0 0, .inl (cQ, 7, .inr (.inr (.inr (.inr (fun j => some (r0 (j + 1)))))))), (r0 1, .inl (cJ, 16, .inr (.inl f_70))), (r0 2, .inl (cJ, 16, .inr (.inl gf_138))), (r0 3, .inl (cJ, 16, .inr (.inl gf_139))), (r0 4, .inl (cJ, 16, .inr (.inl gf_140))), (r0 5, .inl (cJ, 16, .inr (.inl gf_141))), (r0 6, .inl (cJ, 16, .inr (.inl f_770))), (r0 7, .inl (cJ, 16, .inr (.inl gf_143))), (r0 8, .inl (cQ, 6, .inr (.inr (.inr (.inr (fun j => some (r0 (j + 9)))))))), (r0 9, .inl (cJ, 16, .inr (.inl f_77))), (r0 10, .inl (cJ, 16, .inr (.inl f_78))), (r0 11, .inl (cJ, 16, .inr (.inl f_79))), (r0 12, .inl (cJ, 16, .inr (.inl f_80))), (r0 13, .inl (cJ, 16, .inr (.inl f_81))), (r0 14, .inl (cJ, 16, .inr (.inl f_82))), (r0 15, .inl (cJ, 16, .inr (.inl f_83))), (r0 16, .inl (cI, 7, .inl f_90))]]) := ⟨_, hP, hD⟩
          obtain ⟨z_771, ez_771⟩ : ∃ y : Int32, y = g_1 + 1 := ⟨_, rfl⟩
          have hz_771 : z_771.toInt = g_1.toInt + 1 := by rw [ez_771]; exact t_add rfl tI_1 (by omega) (by omega)
          refine lv_iinc (v := z_771) (lv' := [(3, .int z_771), (0, .ref h0), (1, .int p1), (2, .int p2)]) hx hb dX0_standHere_40 hl (k := 0) rfl (by rw [ez_771]; rfl) (by decide) rfl (fun ls hl => ?_)
          refine lv_goto (tgt := 2) hx hb dX0_standHere_43 (by decide) ?_
          exact ih_733 z_771 gf_138 gf_139 gf_140 gf_141 f_770 gf_143 (by omega) (by omega) (by omega) (by omega) _ _ hP hD hS ls (lv_sub hl [0, 1, 2, 3] rfl)
        · refine va_aldr hx hb hK hP 1 4 rfl rfl (v_in rfl (by omega) (by omega)) 6 (by omega) rfl dX0_standHere_17 ?_
          refine lv_iload_n hx hb dX0_standHere_18 rfl (lv_at hl 0 rfl) ?_
          refine lv_aload_n hx hb dX0_standHere_19 rfl (lv_at hl 1 rfl) ?_
          refine va_get (D := (dC, dI)) (ci := 0) (v := .ref (r0 0)) (C := RX0) (T := TX0) (N := 9) hx hb hts iw_X0_standHere_X0 hown hK hP 0 rfl rfl 0 (by decide) (hts (.fieldLink RX0 13 "HungFloors$Crowd" "borne" "[[J") (by decide +kernel)) (fun _ h9 => h9) rfl dX0_standHere_20 ?_
          refine lv_iload_n hx hb dX0_standHere_23 rfl (lv_at hl 2 rfl) ?_
          refine va_aldr hx hb hK hP 1 4 rfl rfl (v_in rfl (by omega) (by omega)) 5 (by omega) rfl dX0_standHere_24 ?_
          refine lv_iload_n hx hb dX0_standHere_25 rfl (lv_at hl 0 rfl) ?_
          refine va_lald hx hb hK hP 7 2 rfl rfl (v_in rfl (by omega) (by omega)) dX0_standHere_26 ?_
          refine lv_topl (fun z_772 ez_772 => ?_)
          refine lv_iload_n hx hb dX0_standHere_27 rfl (lv_at hl 3 rfl) ?_
          obtain ⟨z_773, ez_773⟩ : ∃ y : Int64, (p2 : Int32).toInt64 = y := ⟨_, rfl⟩
          refine lv_i2l (v := z_773) hx hb dX0_standHere_28 ez_773 ?_
          refine lv_aload_n hx hb dX0_standHere_29 rfl (lv_at hl 1 rfl) ?_
          refine va_get (D := (dC, dI)) (ci := 0) (v := .ref (r0 8)) (C := RX0) (T := TX0) (N := 9) hx hb hts iw_X0_standHere_X0 hown hK hP 0 rfl rfl 1 (by decide) (hts (.fieldLink RX0 16 "HungFloors$Crowd" "added" "[[J") (by decide +kernel)) (fun _ h9 => h9) rfl dX0_standHere_30 ?_
          refine lv_iload_n hx hb dX0_standHere_33 rfl (lv_at hl 2 rfl) ?_
          refine va_aldr hx hb hK hP 9 4 rfl rfl (v_in rfl (by omega) (by omega)) 5 (by omega) rfl dX0_standHere_34 ?_
          refine lv_iload_n hx hb dX0_standHere_35 rfl (lv_at hl 0 rfl) ?_
          refine va_lald hx hb hK hP 15 2 rfl rfl (v_in rfl (by omega) (by omega)) dX0_standHere_36 ?_
          refine lv_topl (fun z_774 ez_774 => ?_)
          refine lv_lmul hx hb dX0_standHere_37 ?_
          refine lv_topl (fun z_775 ez_775 => ?_)
          refine lv_ladd hx hb dX0_standHere_38 ?_
          refine lv_topl (fun z_776 ez_776 => ?_)
          refine va_last hx hb hK hP hD hS 8 2 rfl rfl (v_in rfl (by omega) (by omega)) dX0_standHere_39 (fun H locs hP hD hS => ?_)
          obtain ⟨f_777, hP, hD⟩ : ∃ f_777 : Nat → Int64, va_P (dC, dI) vwCl (List.flatten [[(h0, .inr (0, [.ref (r0 0), .ref (r0 8), .ref (r0 15), .int ck_84, .ref st0, .int fn_87, .ref (r0 16), .long bd_91, .long al_92])), (r0 0, .inl (cQ, 7, .inr (.inr (.inr (.inr (fun j => some (r0 (j + 1)))))))), (r0 1, .inl (cJ, 16, .inr (.inl f_70))), (r0 2, .inl (cJ, 16, .inr (.inl gf_138))), (r0 3, .inl (cJ, 16, .inr (.inl gf_139))), (r0 4, .inl (cJ, 16, .inr (.inl gf_140))), (r0 5, .inl (cJ, 16, .inr (.inl gf_141))), (r0 6, .inl (cJ, 16, .inr (.inl gf_142))), (r0 7, .inl (cJ, 16, .inr (.inl f_777))), (r0 8, .inl (cQ, 6, .inr (.inr (.inr (.inr (fun j => some (r0 (j + 9)))))))), (r0 9, .inl (cJ, 16, .inr (.inl f_77))), (r0 10, .inl (cJ, 16, .inr (.inl f_78))), (r0 11, .inl (cJ, 16, .inr (.inl f_79))), (r0 12, .inl (cJ, 16, .inr (.inl f_80))), (r0 13, .inl (cJ, 16, .inr (.inl f_81))), (r0 14, .inl (cJ, 16, .inr (.inl f_82))), (r0 15, .inl (cJ, 16, .inr (.inl f_83))), (r0 16, .inl (cI, 7, .inl f_90))]]) H ∧ va_D A (List.flatten [[(h0, .inr (0, [.ref (r0 0), .ref (r0 8), .ref (r0 15), .int ck_84, .ref st0, .int fn_87, .ref (r0 16), .long bd_91, .long al_92])), (r0 0, .inl (cQ, 7, .inr (.inr (.inr (.inr (fun j => some (r0 (j + 1)))))))), (r0 1, .inl (cJ, 16, .inr (.inl f_70))), (r0 2, .inl (cJ, 16, .inr (.inl gf_138))), (r0 3, .inl (cJ, 16, .inr (.inl gf_139))), (r0 4, .inl (cJ, 16, .inr (.inl gf_140))), (r0 5, .inl (cJ, 16, .inr (.inl gf_141))), (r0 6, .inl (cJ, 16, .inr (.inl gf_142))), (r0 7, .inl (cJ, 16, .inr (.inl f_777))), (r0 8, .inl (cQ, 6, .inr (.inr (.inr (.inr (fun j => some (r0 (j + 9)))))))), (r0 9, .inl (cJ, 16, .inr (.inl f_77))), (r0 10, .inl (cJ, 16, .inr (.inl f_78))), (r0 11, .inl (cJ, 16, .inr (.inl f_79))), (r0 12, .inl (cJ, 16, .inr (.inl f_80))), (r0 13, .inl (cJ, 16, .inr (.inl f_81))), (r0 14, .inl (cJ, 16, .inr (.inl f_82))), (r0 15, .inl (cJ, 16, .inr (.inl f_83))), (r0 16, .inl (cI, 7, .inl f_90))]]) := ⟨_, hP, hD⟩
          obtain ⟨z_778, ez_778⟩ : ∃ y : Int32, y = g_1 + 1 := ⟨_, rfl⟩
          have hz_778 : z_778.toInt = g_1.toInt + 1 := by rw [ez_778]; exact t_add rfl tI_1 (by omega) (by omega)
          refine lv_iinc (v := z_778) (lv' := [(3, .int z_778), (0, .ref h0), (1, .int p1), (2, .int p2)]) hx hb dX0_standHere_40 hl (k := 0) rfl (by rw [ez_778]; rfl) (by decide) rfl (fun ls hl => ?_)
          refine lv_goto (tgt := 2) hx hb dX0_standHere_43 (by decide) ?_
          exact ih_733 z_778 gf_138 gf_139 gf_140 gf_141 gf_142 f_777 (by omega) (by omega) (by omega) (by omega) _ _ hP hD hS ls (lv_sub hl [0, 1, 2, 3] rfl)
  exact lp_732 _ 0 f_71 f_72 f_73 f_74 f_75 f_76 (by have := tI_0; omega) (by have := tI_0; omega) (by have := tI_0; omega) (Nat.lt_succ_self _) _ _ hP hD hS ls (lv_sub hl [0, 1, 2, 3] rfl)
