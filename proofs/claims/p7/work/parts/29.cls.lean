theorem okx_plan {ad : Nat → Nat} {cB cI cJ cZ : ClassId} {a : Nat} {r : Nat → Nat} {fc : Int32} {dc : Int32} {rk : Nat → Int32} {w : va_W} (h : ok_plan ad cB cI cJ cZ a r fc dc rk w) : 0 ≤ fc.toInt ∧ fc.toInt ≤ 6 ∧ 0 ≤ dc.toInt ∧ dc.toInt ≤ 4 := by
  obtain ⟨_, _, _, _, _, _, _, _, _, _, h0, h1, h2, h3, h4, h5⟩ := h
  exact ⟨h0, h1, h2, h3⟩
theorem iw_X4_readHouse_X4 : ∀ w ∈ wsX40, w ∈ wsX4_readHouse := fun _ h => List.mem_cons_of_mem _ (List.mem_append_left _ (List.mem_append_left _ (List.mem_append_right _ h)))
theorem iw_X4_readHouse_X9 : ∀ w ∈ wsX90, w ∈ wsX4_readHouse := fun _ h => List.mem_cons_of_mem _ (List.mem_append_left _ (List.mem_append_right _ h))
set_option maxHeartbeats 4000000 in
set_option maxRecDepth 100000 in
theorem c_X4_readHouse (l : Launch) (dC : Nat → ClassId) (dI : Nat → Nat → Nat) (ad : Nat → Nat) (tN : Nat) (fN : Nat → Int64) (cB cI cJ cZ : ClassId) (h0 : Nat) (h1 : Nat) (p2 : Int32) (h3 : Nat) (r0 : Nat → Nat) (tk0 : Nat) (rp0 : Nat) (w0 : va_W) (r1 : Nat → Nat) (tx1 : Nat) (w1 : va_W) (f2 : Nat → Int32) (r3 : Nat → Nat) (fc3 : Int32) (dc3 : Int32) (rk3 : Nat → Int32) (w3 : va_W) (o0 : ok_read ad cB cI cJ cZ h0 r0 tk0 rp0 w0) (o1 : ok_tok ad cB cI cJ cZ tk0 r1 tx1 w1) (o3 : ok_plan ad cB cI cJ cZ h3 r3 fc3 dc3 rk3 w3) (sz : Nat) (up21 : 0 ≤ p2.toInt) (up22 : p2.toInt ≤ 1600) : Met l yX4_readHouse wsX4_readHouse ({ frames := 6, cells := 0, slots := 0, locals := 139 } : Room) (va_Pc [.ref h0, .ref h1, .int p2, .ref h3] (fun U => U.heap.size = sz ∧ va_P (dC, dI) vwCl (List.flatten [w0, w1, [(h1, .inl (cB, 1600, .inl f2))], w3]) U.heap ∧ va_K (dC, dI) vwCl [(cB, .byte), (cI, .int), (cJ, .long), (cZ, .boolean)] U ∧ va_D (fun _ => True) (List.flatten [w0, w1, [(h1, .inl (cB, 1600, .inl f2))], w3]) ∧ ex_Y ad tN fN (va_A (List.flatten [w0, w1, [(h1, .inl (cB, 1600, .inl f2))], w3]) sz) U)) (va_Qi (fun (r : Int32) (_ : Unit) => 0 ≤ r.toInt ∧ r.toInt ≤ 1) (fun (_ : Unit) (t : State) => ∃ (w09 : va_W) (w19 : va_W) (fc39 : Int32) (dc39 : Int32) (rk39 : Nat → Int32) (w39 : va_W), ok_read ad cB cI cJ cZ h0 r0 tk0 h3 w09 ∧ ok_tok ad cB cI cJ cZ tk0 r1 h1 w19 ∧ ok_plan ad cB cI cJ cZ h3 r3 fc39 dc39 rk39 w39 ∧ va_P (dC, dI) vwCl (List.flatten [w09, w19, [(h1, .inl (cB, 1600, .inl f2))], w39]) t.heap ∧ va_D (va_A (List.flatten [w0, w1, [(h1, .inl (cB, 1600, .inl f2))], w3]) sz) (List.flatten [w09, w19, [(h1, .inl (cB, 1600, .inl f2))], w39])) (va_A (List.flatten [w0, w1, [(h1, .inl (cB, 1600, .inl f2))], w3]) sz)) 0 0 (va_A (List.flatten [w0, w1, [(h1, .inl (cB, 1600, .inl f2))], w3]) sz) := by
  refine Met.ofW (cc := cX4_readHouse) (maxL := 5) (ret := (some .boolean)) (by decide) rfl ?_
  intro p e s m args below meth c s₁ B hml hv
  obtain ⟨rfl, hsz, hP, hK, hD0, hE⟩ := hv
  have hx := B.exec
  have hb := B.bytes
  have hr := B.returns
  have hts := atoms_spec (ws := wsX4_readHouse) B.pre
  have hown : s.vm.findClass RX4 = some m.cls := findClass_of_methodNamed B.named
  have hlocks := B.notSynchronized
  subst hsz
  have hD := hD0.self (sz := s.heap.size)
  generalize hAe : va_A (List.flatten [w0, w1, [(h1, .inl (cB, 1600, .inl f2))], w3]) s.heap.size = A at hD hE ⊢
  have hA : ∀ q : Nat, s.heap.size ≤ q → A q := fun q h => by rw [← hAe]; exact Or.inr h
  have hS : va_S A s.heap s.heap [] := va_S.rf
  have hl := lv_entry ([.ref h0, .ref h1, .int p2, .ref h3]) (n := 5) (Nat.le_of_ble_eq_true rfl)
  rw [lg_entry_eq]
  generalize (lg_sl ([.ref h0, .ref h1, .int p2, .ref h3]) ++ List.replicate (5 - (lg_sl ([.ref h0, .ref h1, .int p2, .ref h3])).length) Slot.unset).toArray = ls at hl ⊢
  have hl : lv_has ls 5 [(0, .ref h0), (1, .ref h1), (2, .int p2), (3, .ref h3)] := hl
  clear hAe
  refine W_name (fun Q0 hQ0 => ?_)
  obtain ⟨hx_1, hx_2, hx_3, hx_4⟩ := okx_plan o3
  refine lv_aload_n hx hb dX4_readHouse_0 rfl (lv_at hl 0 rfl) ?_
  refine lv_aload_n hx hb dX4_readHouse_1 rfl (lv_at hl 3 rfl) ?_
  obtain ⟨fk_5, fp_6, rfl⟩ := o0
  refine va_put (D := (dC, dI)) (ci := 3) (v := .ref h3) (ty := .object "HungFloors$Plan") (C := RX4) (T := TX4) (N := 4) hx hb hts iw_X4_readHouse_X4 tyX4 tyX4_ok nmX4 hown hK hP hD hS 0 rfl rfl 1 (by decide) (hts (.fieldLink RX4 21 "HungFloors$HouseReader" "plan" "LHungFloors$Plan;") (by decide +kernel)) (fun _ h9 => h9) rfl (by decide +kernel) rfl rfl (Nat.le_of_ble_eq_true rfl) dX4_readHouse_2 (fun H locs hP hD hS => ?_)
  have hP : va_P (dC, dI) vwCl (List.flatten [[(h0, .inr (3, [.ref tk0, .ref h3, .int fk_5, .int fp_6]))], w1, [(h1, .inl (cB, 1600, .inl f2))], w3]) H := hP
  have hD : va_D A (List.flatten [[(h0, .inr (3, [.ref tk0, .ref h3, .int fk_5, .int fp_6]))], w1, [(h1, .inl (cB, 1600, .inl f2))], w3]) := hD
  refine lv_aload_n hx hb dX4_readHouse_5 rfl (lv_at hl 0 rfl) ?_
  refine va_get (D := (dC, dI)) (ci := 3) (v := .ref h3) (C := RX4) (T := TX4) (N := 4) hx hb hts iw_X4_readHouse_X4 hown hK hP 0 rfl rfl 1 (by decide) (hts (.fieldLink RX4 21 "HungFloors$HouseReader" "plan" "LHungFloors$Plan;") (by decide +kernel)) (fun _ h9 => h9) rfl dX4_readHouse_6 ?_
  obtain ⟨f_9, f_10, f_11, f_12, f_15, f_17, f_18, f_20, f_21, rfl, hl_7, hh_8, hl_13, hh_14, hr_16, hr_19⟩ := o3
  have hpm : List.Perm ([[(h0, .inr (3, [.ref tk0, .ref h3, .int fk_5, .int fp_6]))], w1, [(h1, .inl (cB, 1600, .inl f2))], [(h3, .inr (5, [.int fc3, .ref (r3 0), .ref (r3 1), .ref (r3 2), .ref (r3 3), .int dc3, .ref (r3 4), .ref (r3 5), .ref (r3 6), .ref (r3 7), .ref (r3 8), .ref (r3 9)])), (r3 0, .inl (cJ, 6, .inr (.inl f_9))), (r3 1, .inl (cI, 6, .inl f_10)), (r3 2, .inl (cI, 6, .inl f_11)), (r3 3, .inl (cI, 6, .inl f_12)), (r3 4, .inl (cJ, 4, .inr (.inl f_15))), (r3 5, .inl (cI, 4, .inl rk3)), (r3 6, .inl (cJ, 40, .inr (.inl f_17))), (r3 7, .inl (cI, 40, .inl f_18)), (r3 8, .inl (cI, 40, .inl f_20)), (r3 9, .inl (cI, 40, .inl f_21))]] : List va_W) (([[(h3, .inr (5, [.int fc3, .ref (r3 0), .ref (r3 1), .ref (r3 2), .ref (r3 3), .int dc3, .ref (r3 4), .ref (r3 5), .ref (r3 6), .ref (r3 7), .ref (r3 8), .ref (r3 9)])), (r3 0, .inl (cJ, 6, .inr (.inl f_9))), (r3 1, .inl (cI, 6, .inl f_10)), (r3 2, .inl (cI, 6, .inl f_11)), (r3 3, .inl (cI, 6, .inl f_12)), (r3 4, .inl (cJ, 4, .inr (.inl f_15))), (r3 5, .inl (cI, 4, .inl rk3)), (r3 6, .inl (cJ, 40, .inr (.inl f_17))), (r3 7, .inl (cI, 40, .inl f_18)), (r3 8, .inl (cI, 40, .inl f_20)), (r3 9, .inl (cI, 40, .inl f_21))]] : List va_W) ++ ([[(h0, .inr (3, [.ref tk0, .ref h3, .int fk_5, .int fp_6]))], w1, [(h1, .inl (cB, 1600, .inl f2))]] : List va_W)) := pm_n 4 [3, 0, 1, 2] (by decide) rfl rfl
  have hPc := bk_P hpm hP
  have hDc := bk_D hpm hD
  have hFc := bk_F hpm hD hS hA
  refine va_callv (va_runV (As := []) (rest := []) ⟨hx, hb, hml, hown, hts⟩ (c_X7_empty l dC dI ad tN fN cB cI cJ cZ h3 r3 fc3 dc3 rk3 _ ⟨f_9, f_10, f_11, f_12, f_15, f_17, f_18, f_20, f_21, rfl, by omega, by omega, by omega, by omega, hr_16, hr_19⟩ H.size) (cwV 0 hts gX4_readHouse_X7_empty rfl rfl rfl (by decide +kernel) ⟨(Nat.le_of_ble_eq_true rfl), (Nat.le_of_ble_eq_true rfl)⟩) ⟨fun a U g mk q => by obtain ⟨q0, q1, qP, qK, qD, qE⟩ := q; exact ⟨q0, q1, qP, va_K.moved (u := U) (U := U.calling g mk a) (Vm.Alike.refl U.vm) qK, qD, ey_blind qE⟩, va_recv hK hPc (ci := 5) (q0 := 0) rfl rfl, fun U hU hW => ⟨rfl, by rw [hU], by rw [hU]; exact hPc, va_K.moved hW.alike hK, hDc.weaken (fun _ _ _ _ => trivial), ey_call hE hS hFc hU hW⟩⟩ rfl rfl hl.1 rfl (lv_room (Nat.le_of_ble_eq_true rfl)) dX4_readHouse_9 ⟨(Nat.le_of_ble_eq_true rfl), (Nat.le_of_ble_eq_true rfl)⟩) hS (fun q _ h => hFc q h) hFc (fun u t H locs ht hvm hw hB hz1 hk1 hS => ?_)
  obtain ⟨w_23, o_24, hP1, hD1⟩ := hB
  rw [ht] at hP1
  obtain ⟨hP, hD⟩ := bk_join hpm hP hD hk1 hFc (Cs1 := [w_23]) hP1 hD1
  have hpm2 : List.Perm (([w_23] : List va_W) ++ ([[(h0, .inr (3, [.ref tk0, .ref h3, .int fk_5, .int fp_6]))], w1, [(h1, .inl (cB, 1600, .inl f2))]] : List va_W)) ([[(h0, .inr (3, [.ref tk0, .ref h3, .int fk_5, .int fp_6]))], w1, [(h1, .inl (cB, 1600, .inl f2))], w_23] : List va_W) := pm_n 4 [1, 2, 3, 0] (by decide) rfl rfl
  have hP := bk_reP hpm2 hP
  have hD := bk_reD hpm2 hD
  obtain ⟨hx_25, hx_26, hx_27, hx_28⟩ := okx_plan o_24
  have hP : va_P (dC, dI) vwCl (List.flatten [[(h0, .inr (3, [.ref tk0, .ref h3, .int fk_5, .int fp_6]))], w1, [(h1, .inl (cB, 1600, .inl f2))], w_23]) H := hP
  have hD : va_D A (List.flatten [[(h0, .inr (3, [.ref tk0, .ref h3, .int fk_5, .int fp_6]))], w1, [(h1, .inl (cB, 1600, .inl f2))], w_23]) := hD
  refine lv_aload_n hx hb dX4_readHouse_12 rfl (lv_at hl 0 rfl) ?_
  refine lv_iconst (v := 0) hx hb dX4_readHouse_13 (by decide) ?_
  refine va_put (D := (dC, dI)) (ci := 3) (v := .int 0) (ty := .int) (C := RX4) (T := TX4) (N := 4) hx hb hts iw_X4_readHouse_X4 tyX4 tyX4_ok nmX4 hown hK hP hD hS 0 rfl rfl 2 (by decide) (hts (.fieldLink RX4 25 "HungFloors$HouseReader" "faultKind" "I") (by decide +kernel)) (fun _ h9 => h9) rfl (by decide +kernel) rfl rfl (Nat.le_of_ble_eq_true rfl) dX4_readHouse_14 (fun H locs hP hD hS => ?_)
  have hP : va_P (dC, dI) vwCl (List.flatten [[(h0, .inr (3, [.ref tk0, .ref h3, .int 0, .int fp_6]))], w1, [(h1, .inl (cB, 1600, .inl f2))], w_23]) H := hP
  have hD : va_D A (List.flatten [[(h0, .inr (3, [.ref tk0, .ref h3, .int 0, .int fp_6]))], w1, [(h1, .inl (cB, 1600, .inl f2))], w_23]) := hD
  refine lv_aload_n hx hb dX4_readHouse_17 rfl (lv_at hl 0 rfl) ?_
  refine lv_iconst (v := (-1)) hx hb dX4_readHouse_18 (by decide) ?_
  refine va_put (D := (dC, dI)) (ci := 3) (v := .int (-1)) (ty := .int) (C := RX4) (T := TX4) (N := 4) hx hb hts iw_X4_readHouse_X4 tyX4 tyX4_ok nmX4 hown hK hP hD hS 0 rfl rfl 3 (by decide) (hts (.fieldLink RX4 29 "HungFloors$HouseReader" "faultPlace" "I") (by decide +kernel)) (fun _ h9 => h9) rfl (by decide +kernel) rfl rfl (Nat.le_of_ble_eq_true rfl) dX4_readHouse_19 (fun H locs hP hD hS => ?_)
  have hP : va_P (dC, dI) vwCl (List.flatten [[(h0, .inr (3, [.ref tk0, .ref h3, .int 0, .int (-1)]))], w1, [(h1, .inl (cB, 1600, .inl f2))], w_23]) H := hP
  have hD : va_D A (List.flatten [[(h0, .inr (3, [.ref tk0, .ref h3, .int 0, .int (-1)]))], w1, [(h1, .inl (cB, 1600, .inl f2))], w_23]) := hD
  refine lv_aload_n hx hb dX4_readHouse_22 rfl (lv_at hl 0 rfl) ?_
  refine va_get (D := (dC, dI)) (ci := 3) (v := .ref tk0) (C := RX4) (T := TX4) (N := 4) hx hb hts iw_X4_readHouse_X4 hown hK hP 0 rfl rfl 0 (by decide) (hts (.fieldLink RX4 12 "HungFloors$HouseReader" "tokens" "LHungFloors$Tokens;") (by decide +kernel)) (fun _ h9 => h9) rfl dX4_readHouse_23 ?_
  refine lv_aload_n hx hb dX4_readHouse_26 rfl (lv_at hl 1 rfl) ?_
  refine lv_iload_n hx hb dX4_readHouse_27 rfl (lv_at hl 2 rfl) ?_
  obtain ⟨ln_29, ap_32, kd_35, sa_36, wd_37, nu_38, rfl, hl_30, hh_31, hl_33, hh_34⟩ := o1
  have hpm : List.Perm ([[(h0, .inr (3, [.ref tk0, .ref h3, .int 0, .int (-1)]))], [(tk0, .inr (7, [.ref tx1, .int ln_29, .int ap_32, .ref (ad kd_35), .int sa_36, .long wd_37, .int nu_38]))], [(h1, .inl (cB, 1600, .inl f2))], w_23] : List va_W) (([[(tk0, .inr (7, [.ref tx1, .int ln_29, .int ap_32, .ref (ad kd_35), .int sa_36, .long wd_37, .int nu_38]))], [(h1, .inl (cB, 1600, .inl f2))]] : List va_W) ++ ([[(h0, .inr (3, [.ref tk0, .ref h3, .int 0, .int (-1)]))], w_23] : List va_W)) := pm_n 4 [1, 2, 0, 3] (by decide) rfl rfl
  have hPc := bk_P hpm hP
  have hDc := bk_D hpm hD
  have hFc := bk_F hpm hD hS hA
  refine va_callv (va_runV (As := [.ref h1, .int p2]) (rest := []) ⟨hx, hb, hml, hown, hts⟩ (c_X9_begin l dC dI ad tN fN cB cI cJ cZ tk0 h1 p2 r1 tx1 _ _ ⟨ln_29, ap_32, kd_35, sa_36, wd_37, nu_38, rfl, by omega, by omega, by omega, by omega⟩ H.size (by omega) (by omega)) (cwV 2 hts gX4_readHouse_X9_begin rfl rfl rfl (by decide +kernel) ⟨(Nat.le_of_ble_eq_true rfl), (Nat.le_of_ble_eq_true rfl)⟩) ⟨fun a U g mk q => by obtain ⟨q0, q1, qP, qK, qD, qE⟩ := q; exact ⟨q0, q1, qP, va_K.moved (u := U) (U := U.calling g mk a) (Vm.Alike.refl U.vm) qK, qD, ey_blind qE⟩, va_recv hK hPc (ci := 7) (q0 := 0) rfl rfl, fun U hU hW => ⟨rfl, by rw [hU], by rw [hU]; exact hPc, va_K.moved hW.alike hK, hDc.weaken (fun _ _ _ _ => trivial), ey_call hE hS hFc hU hW⟩⟩ rfl rfl hl.1 rfl (lv_room (Nat.le_of_ble_eq_true rfl)) dX4_readHouse_28 ⟨(Nat.le_of_ble_eq_true rfl), (Nat.le_of_ble_eq_true rfl)⟩) hS (fun q _ h => hFc q h) hFc (fun u t H locs ht hvm hw hB hz1 hk1 hS => ?_)
  obtain ⟨w_40, o_41, hP1, hD1⟩ := hB
  rw [ht] at hP1
  obtain ⟨hP, hD⟩ := bk_join hpm hP hD hk1 hFc (Cs1 := [w_40, [(h1, .inl (cB, 1600, .inl f2))]]) hP1 hD1
  have hpm2 : List.Perm (([w_40, [(h1, .inl (cB, 1600, .inl f2))]] : List va_W) ++ ([[(h0, .inr (3, [.ref tk0, .ref h3, .int 0, .int (-1)]))], w_23] : List va_W)) ([[(h0, .inr (3, [.ref tk0, .ref h3, .int 0, .int (-1)]))], w_40, [(h1, .inl (cB, 1600, .inl f2))], w_23] : List va_W) := pm_n 4 [2, 0, 1, 3] (by decide) rfl rfl
  have hP := bk_reP hpm2 hP
  have hD := bk_reD hpm2 hD
  have hP : va_P (dC, dI) vwCl (List.flatten [[(h0, .inr (3, [.ref tk0, .ref h3, .int 0, .int (-1)]))], w_40, [(h1, .inl (cB, 1600, .inl f2))], w_23]) H := hP
  have hD : va_D A (List.flatten [[(h0, .inr (3, [.ref tk0, .ref h3, .int 0, .int (-1)]))], w_40, [(h1, .inl (cB, 1600, .inl f2))], w_23]) := hD
  refine lv_iconst (v := 0) hx hb dX4_readHouse_31 (by decide) ?_
  refine lv_istore (lv' := [(4, .int 0), (0, .ref h0), (1, .ref h1), (2, .int p2), (3, .ref h3)]) hx hb dX4_readHouse_32 hl (by decide) rfl (fun ls hl => ?_)
  obtain ⟨ln_71, ap_74, kd_77, sa_78, wd_79, nu_80, rfl, hl_72, hh_73, hl_75, hh_76⟩ := o_41
  have lp_564 : ∀ (n : Nat) (g_42 : Int32) (gw_99 : va_W) (gw_100 : va_W) (g_132 : Int32) (g_133 : Int32) (gf_134 : Nat → Int32) (gw_101 : va_W), ok_read ad cB cI cJ cZ h0 r0 tk0 h3 gw_99 → ok_tok ad cB cI cJ cZ tk0 r1 h1 gw_100 → ok_plan ad cB cI cJ cZ h3 r3 g_132 g_133 gf_134 gw_101 → 0 ≤ g_42.toInt → g_42.toInt ≤ 1600 → 0 ≤ g_132.toInt → g_132.toInt ≤ 6 → 0 ≤ g_133.toInt → g_133.toInt ≤ 4 → g_133.toInt - g_42.toInt ≤ 3 → g_133.toInt - p2.toInt ≤ 3 → g_42.toInt - p2.toInt ≤ 0 → (1600 - g_42.toInt).toNat < n → ∀ (H : Heap) (locs : List Loc), va_P (dC, dI) vwCl (List.flatten [gw_99, gw_100, [(h1, .inl (cB, 1600, .inl f2))], gw_101]) H → va_D A (List.flatten [gw_99, gw_100, [(h1, .inl (cB, 1600, .inl f2))], gw_101]) → va_S A s.heap H locs → ∀ (ls : Array Slot), lv_has ls 5 [(4, .int g_42), (0, .ref h0), (1, .ref h1), (2, .int p2), (3, .ref h3)] → W p l e (headSpec wsX4_readHouse ({ frames := 6, cells := 0, slots := 0, locals := 139 } : Room)).room s m ([.ref h0, .ref h1, .int p2, .ref h3] : List Value).toArray below meth c H locs 0 0 Q0 (F0 m 34 ls []) := by
    intro n
    induction n with
    | zero => intro g_42 gw_99 gw_100 g_132 g_133 gf_134 gw_101 okgw_99 okgw_100 okgw_101 iv_555 iv_556 iv_557 iv_558 iv_559 iv_560 iv_561 iv_562 iv_563 hm; exact absurd hm (Nat.not_lt_zero _)
    | succ n ih_565 =>
      intro g_42 gw_99 gw_100 g_132 g_133 gf_134 gw_101 okgw_99 okgw_100 okgw_101 iv_555 iv_556 iv_557 iv_558 iv_559 iv_560 iv_561 iv_562 iv_563 hm H locs hP hD hS ls hl
      obtain ⟨hx_566, hx_567, hx_568, hx_569⟩ := okx_plan okgw_101
      refine lv_iload hx hb dX4_readHouse_34 (lv_at hl 0 rfl) ?_
      refine lv_iload_n hx hb dX4_readHouse_36 rfl (lv_at hl 3 rfl) ?_
      refine lv_icmp_ge (tgt := 68) hx hb dX4_readHouse_37 (by decide) (fun c_570 => ?_) (fun c_570 => ?_)
      · have c_570 : p2.toInt ≤ g_42.toInt := f_le rfl rfl c_570
        refine lv_iconst (v := 1) hx hb dX4_readHouse_68 (by decide) ?_
        rw [hQ0]
        exact W.zret (v := 1) hx hb hr (by decide) (fun t ht hW => ⟨⟨1, (), rfl, ⟨by decide, by decide⟩, ⟨_, _, g_132, g_133, gf_134, _, okgw_99, okgw_100, okgw_101, by rw [ht]; exact hP, hD⟩⟩, hS.F ht⟩) hS.2.2 dX4_readHouse_69
      · have c_570 : g_42.toInt < p2.toInt := f_nle rfl rfl c_570
        refine lv_aload_n hx hb dX4_readHouse_40 rfl (lv_at hl 1 rfl) ?_
        obtain ⟨fk_571, fp_572, rfl⟩ := okgw_99
        refine va_get (D := (dC, dI)) (ci := 3) (v := .ref tk0) (C := RX4) (T := TX4) (N := 4) hx hb hts iw_X4_readHouse_X4 hown hK hP 0 rfl rfl 0 (by decide) (hts (.fieldLink RX4 12 "HungFloors$HouseReader" "tokens" "LHungFloors$Tokens;") (by decide +kernel)) (fun _ h9 => h9) rfl dX4_readHouse_41 ?_
        obtain ⟨ln_573, ap_576, kd_579, sa_580, wd_581, nu_582, rfl, hl_574, hh_575, hl_577, hh_578⟩ := okgw_100
        refine va_get (D := (dC, dI)) (ci := 7) (v := .ref (ad kd_579)) (C := RX9) (T := TX9) (N := 7) hx hb hts iw_X4_readHouse_X9 hown hK hP 1 rfl rfl 3 (by decide) (hts (.fieldLink RX4 39 "HungFloors$Tokens" "kind" "LHungFloors$Kind;") (by decide +kernel)) (fun _ h9 => h9) rfl dX4_readHouse_44 ?_
        refine va_gets hx hb (hE.2.1.1 3 (by decide)).1 hS hown (hts (.fieldLink RX4 43 "HungFloors$Kind" "END" "LHungFloors$Kind;") (by decide +kernel)) (fun _ h9 => h9) dX4_readHouse_47 ?_
        refine lv_acmp_eq (rx := some (ad kd_579)) (ry := some (ad 3)) (tgt := 68) hx hb dX4_readHouse_50 (by decide) (fun c_583 => ?_) (fun c_583 => ?_)
        · refine lv_iconst (v := 1) hx hb dX4_readHouse_68 (by decide) ?_
          rw [hQ0]
          exact W.zret (v := 1) hx hb hr (by decide) (fun t ht hW => ⟨⟨1, (), rfl, ⟨by decide, by decide⟩, ⟨_, _, g_132, g_133, gf_134, _, ⟨fk_571, fp_572, rfl⟩, ⟨ln_573, ap_576, kd_579, sa_580, wd_581, nu_582, rfl, by omega, by omega, by omega, by omega⟩, okgw_101, by rw [ht]; exact hP, hD⟩⟩, hS.F ht⟩) hS.2.2 dX4_readHouse_69
        · refine lv_aload_n hx hb dX4_readHouse_53 rfl (lv_at hl 1 rfl) ?_
          have hpm : List.Perm ([[(h0, .inr (3, [.ref tk0, .ref h3, .int fk_571, .int fp_572]))], [(tk0, .inr (7, [.ref h1, .int ln_573, .int ap_576, .ref (ad kd_579), .int sa_580, .long wd_581, .int nu_582]))], [(h1, .inl (cB, 1600, .inl f2))], gw_101] : List va_W) (([[(h0, .inr (3, [.ref tk0, .ref h3, .int fk_571, .int fp_572]))], [(tk0, .inr (7, [.ref h1, .int ln_573, .int ap_576, .ref (ad kd_579), .int sa_580, .long wd_581, .int nu_582]))], [(h1, .inl (cB, 1600, .inl f2))], gw_101] : List va_W) ++ ([] : List va_W)) := pm_n 4 [0, 1, 2, 3] (by decide) rfl rfl
          have hPc := bk_P hpm hP
          have hDc := bk_D hpm hD
          have hFc := bk_F hpm hD hS hA
          refine va_calli (va_runV (As := []) (rest := []) ⟨hx, hb, hml, hown, hts⟩ (c_X4_readLine l dC dI ad tN fN cB cI cJ cZ h0 r0 tk0 h3 _ r1 h1 _ _ r3 g_132 g_133 gf_134 _ ⟨fk_571, fp_572, rfl⟩ ⟨ln_573, ap_576, kd_579, sa_580, wd_581, nu_582, rfl, by omega, by omega, by omega, by omega⟩ okgw_101 H.size) (cwV 0 hts gX4_readHouse_X4_readLine rfl rfl rfl (by decide +kernel) ⟨(Nat.le_of_ble_eq_true rfl), (Nat.le_of_ble_eq_true rfl)⟩) ⟨fun a U g mk q => by obtain ⟨q0, q1, qP, qK, qD, qE⟩ := q; exact ⟨q0, q1, qP, va_K.moved (u := U) (U := U.calling g mk a) (Vm.Alike.refl U.vm) qK, qD, ey_blind qE⟩, va_recv hK hPc (ci := 3) (q0 := 0) rfl rfl, fun U hU hW => ⟨rfl, by rw [hU], by rw [hU]; exact hPc, va_K.moved hW.alike hK, hDc.weaken (fun _ _ _ _ => trivial), ey_call hE hS hFc hU hW⟩⟩ rfl rfl hl.1 rfl (lv_room (Nat.le_of_ble_eq_true rfl)) dX4_readHouse_54 ⟨(Nat.le_of_ble_eq_true rfl), (Nat.le_of_ble_eq_true rfl)⟩) hS (fun q _ h => hFc q h) hFc (fun r_584 u t H locs ht hvm hw hB hz1 hk1 hS => ?_)
          obtain ⟨w_585, w_587, fc_591, dc_592, fx_593, w_589, o_586, o_588, o_590, hP1, hD1⟩ := hB
          rw [ht] at hP1
          obtain ⟨hP, hD⟩ := bk_join hpm hP hD hk1 hFc (Cs1 := [w_585, w_587, [(h1, .inl (cB, 1600, .inl f2))], w_589]) hP1 hD1
          have hpm2 : List.Perm (([w_585, w_587, [(h1, .inl (cB, 1600, .inl f2))], w_589] : List va_W) ++ ([] : List va_W)) ([w_585, w_587, [(h1, .inl (cB, 1600, .inl f2))], w_589] : List va_W) := pm_n 4 [0, 1, 2, 3] (by decide) rfl rfl
          have hP := bk_reP hpm2 hP
          have hD := bk_reD hpm2 hD
          obtain ⟨hx_594, hx_595, hx_596, hx_597⟩ := okx_plan o_590
          have hP : va_P (dC, dI) vwCl (List.flatten [w_585, w_587, [(h1, .inl (cB, 1600, .inl f2))], w_589]) H := hP
          have hD : va_D A (List.flatten [w_585, w_587, [(h1, .inl (cB, 1600, .inl f2))], w_589]) := hD
          obtain ⟨hlr_584, hhr_584⟩ := hw
          refine lv_if_ne (tgt := 62) hx hb dX4_readHouse_57 (by decide) (fun c_598 => ?_) (fun c_598 => ?_)
          · have c_598 : ¬ r_584.toInt = 0 := f_ne rfl tI_0 c_598
            obtain ⟨z_599, ez_599⟩ : ∃ y : Int32, y = g_42 + 1 := ⟨_, rfl⟩
            have hz_599 : z_599.toInt = g_42.toInt + 1 := by rw [ez_599]; exact t_add rfl tI_1 (by omega) (by omega)
            refine lv_iinc (v := z_599) (lv' := [(4, .int z_599), (0, .ref h0), (1, .ref h1), (2, .int p2), (3, .ref h3)]) hx hb dX4_readHouse_62 hl (k := 0) rfl (by rw [ez_599]; rfl) (by decide) rfl (fun ls hl => ?_)
            refine lv_goto (tgt := 34) hx hb dX4_readHouse_65 (by decide) ?_
            exact ih_565 z_599 _ _ fc_591 dc_592 fx_593 _ o_586 o_588 o_590 (by omega) (by omega) (by omega) (by omega) (by omega) (by omega) (by omega) (by omega) (by omega) (by omega) _ _ hP hD hS ls (lv_sub hl [0, 1, 2, 3, 4] rfl)
          · have c_598 : r_584.toInt = 0 := f_eq rfl tI_0 c_598
            refine lv_iconst (v := 0) hx hb dX4_readHouse_60 (by decide) ?_
            rw [hQ0]
            exact W.zret (v := 0) hx hb hr (by decide) (fun t ht hW => ⟨⟨0, (), rfl, ⟨by decide, by decide⟩, ⟨_, _, fc_591, dc_592, fx_593, _, o_586, o_588, o_590, by rw [ht]; exact hP, hD⟩⟩, hS.F ht⟩) hS.2.2 dX4_readHouse_61
  exact lp_564 _ 0 _ _ 0 0 rk3 _ ⟨0, (-1), rfl⟩ ⟨ln_71, ap_74, kd_77, sa_78, wd_79, nu_80, rfl, by omega, by omega, by omega, by omega⟩ o_24 (by have := tI_0; omega) (by have := tI_0; omega) (by have := tI_0; omega) (by have := tI_0; omega) (by have := tI_0; omega) (by have := tI_0; omega) (by have := tI_0; omega) (by have := tI_0; omega) (by have := tI_0; omega) (Nat.lt_succ_self _) _ _ hP hD hS ls (lv_sub hl [0, 1, 2, 3, 4] rfl)
