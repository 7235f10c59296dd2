set_option maxHeartbeats 4000000 in
set_option maxRecDepth 100000 in
theorem law_16 {p : Program} {e : Env} {s : State} {m : MethodId} {below : List Frame} {meth : Method} {c : Code} (l : Launch) {dC : Nat → ClassId} {dI : Nat → Nat → Nat} {kE b : Nat} {xs : Nat → Int32} {ua : Nat} {ux0 : Nat} {ux1 : Nat} {ux2 : Nat} {ux3 : Nat} {ux4 : Nat} {ux5 : Nat} {ux6 : Nat} {ux7 : Nat} {ux8 : Nat} {ux9 : Nat} {ux10 : Nat} {ux12 : Nat} {ux13 : Nat} {ux14 : Nat} {ux15 : Nat} {ux16 : Nat} {ux17 : Nat} {ux18 : Nat} {ux19 : Nat} {ux20 : Nat} {ux21 : Nat} {ux22 : Nat} {ux23 : Nat} {ux24 : Nat} {ux25 : Nat} {ux26 : Nat} {ux27 : Nat} {ux28 : Nat} {ux29 : Nat} {ux30 : Nat} {ux31 : Nat} {ux32 : Nat} {ux33 : Nat} {ux34 : Nat} {ux36 : Nat} {ux37 : Nat} {ux38 : Nat} {ux39 : Nat} {ux40 : Nat} {ux41 : Nat} {ux42 : Nat} {ux43 : Nat} {ux44 : Nat} {ux45 : Nat} {wa : Nat} {wx0 : Nat → Nat} {ux11 ux35 wx1 wx2 wx3 wx4 : ClassId} (C0 : lw_At p s m meth c b 6 xs) (hE : ex_X kE (fun q : Nat => s.heap.size ≤ q) s) (hK : va_K (dC, dI) vwCl [(ux11, .byte), (ux35, .int), (wx1, .byte), (wx2, .int), (wx3, .int), (wx4, .int)] s) {H : Heap} {locs : List Loc} (hP : va_P (dC, dI) vwCl [(ua, .inr (8, [.ref ux0, .int 0, .ref ux1, .ref ux2, .ref ux3, .ref ux4, .int 0, .ref ux5, .ref ux6, .ref ux7, .ref ux8, .ref ux9, .ref ux10, .int 0])), (ux0, .inl (ux11, 1600, .inl (fun _ => 0))), (ux1, .inr (5, [.int 0, .ref ux12, .ref ux13, .ref ux14, .ref ux15, .int 0, .ref ux16, .ref ux17, .ref ux18, .ref ux19, .ref ux20, .ref ux21])), (ux2, .inr (5, [.int 0, .ref ux22, .ref ux23, .ref ux24, .ref ux25, .int 0, .ref ux26, .ref ux27, .ref ux28, .ref ux29, .ref ux30, .ref ux31])), (ux3, .inr (3, [.ref ux32, .ref ux33, .int 0, .int (-1)])), (ux32, .inr (7, [.ref ux34, .int 0, .int 0, .ref kE, .int 0, .long 0, .int 0])), (ux4, .inl (ux35, 6, .inl (fun _ => 0))), (ux10, .inr (4, [.int 0, .ref ux36, .ref ux37, .ref ux38, .ref ux39, .ref ux40, .ref ux41, .ref ux42, .int 0, .ref ux43, .ref ux44, .ref ux45])), (wa, .inr (9, mF wx0 0 0 0 (-1) 0 0 0 0 0 0 0 0 0 0 0 0 0 0 0 0 0 0 0 0 0)), ((wx0 0), .inl (wx1, 1620, .inl (fun _ => 0))), ((wx0 2), .inl (wx2, 2, .inl (fun _ => 0))), ((wx0 3), .inl (wx3, 2, .inl (fun _ => 0))), ((wx0 14), .inl (wx4, 6, .inl (fun _ => 0)))] H) (hD : va_D (fun q : Nat => s.heap.size ≤ q) [(ua, .inr (8, [.ref ux0, .int 0, .ref ux1, .ref ux2, .ref ux3, .ref ux4, .int 0, .ref ux5, .ref ux6, .ref ux7, .ref ux8, .ref ux9, .ref ux10, .int 0])), (ux0, .inl (ux11, 1600, .inl (fun _ => 0))), (ux1, .inr (5, [.int 0, .ref ux12, .ref ux13, .ref ux14, .ref ux15, .int 0, .ref ux16, .ref ux17, .ref ux18, .ref ux19, .ref ux20, .ref ux21])), (ux2, .inr (5, [.int 0, .ref ux22, .ref ux23, .ref ux24, .ref ux25, .int 0, .ref ux26, .ref ux27, .ref ux28, .ref ux29, .ref ux30, .ref ux31])), (ux3, .inr (3, [.ref ux32, .ref ux33, .int 0, .int (-1)])), (ux32, .inr (7, [.ref ux34, .int 0, .int 0, .ref kE, .int 0, .long 0, .int 0])), (ux4, .inl (ux35, 6, .inl (fun _ => 0))), (ux10, .inr (4, [.int 0, .ref ux36, .ref ux37, .ref ux38, .ref ux39, .ref ux40, .ref ux41, .ref ux42, .int 0, .ref ux43, .ref ux44, .ref ux45])), (wa, .inr (9, mF wx0 0 0 0 (-1) 0 0 0 0 0 0 0 0 0 0 0 0 0 0 0 0 0 0 0 0 0)), ((wx0 0), .inl (wx1, 1620, .inl (fun _ => 0))), ((wx0 2), .inl (wx2, 2, .inl (fun _ => 0))), ((wx0 3), .inl (wx3, 2, .inl (fun _ => 0))), ((wx0 14), .inl (wx4, 6, .inl (fun _ => 0)))]) (hS : va_S (fun q : Nat => s.heap.size ≤ q) s.heap H locs) {ls : Array Slot} (hl : lv_has ls 4 [(3, .int 0), (2, .ref wa), (1, .ref ua), (0, .ref b)]) : W p l e room_1 s m #[Value.ref b] below meth c H locs 162 9883 (lw_Z below #[Value.ref b] s) (F0 m 672 ls []) := by
  obtain ⟨hx, hb, hr, hml, hown, hts0, hX, hbl, hlocks, hgv⟩ := C0
  have hts := hts0
  have hown : s.vm.findClass RL = some m.cls := hown
  have hA : ∀ q : Nat, s.heap.size ≤ q → (fun q : Nat => s.heap.size ≤ q) q := fun _ h => h
  have hbA : ¬ (fun q : Nat => s.heap.size ≤ q) b := Nat.not_le.mpr hbl
  refine lv_aload_n hx hb dL_law_672 rfl (lv_at hl 2 rfl) ?_
  refine lv_aload_n hx hb dL_law_673 rfl (lv_at hl 3 rfl) ?_
  refine lv_iload_n hx hb dL_law_674 rfl (lv_at hl 0 rfl) ?_
  refine lv_iconst (v := 1) hx hb dL_law_675 (by decide) ?_
  refine lv_iadd hx hb dL_law_676 ?_
  refine lv_topi (fun z_1 ez_1 => ?_)
  obtain rfl : z_1 = (1 : Int32) := ez_1.trans (by decide)
  refine va_sld hx hb hX hbl hbA hS (by unfold vp_in; decide) dL_law_677 ?_
  refine lv_aload_n hx hb dL_law_678 rfl (lv_at hl 3 rfl) ?_
  refine lv_iload_n hx hb dL_law_679 rfl (lv_at hl 0 rfl) ?_
  refine lv_iconst (v := 2) hx hb dL_law_680 (by decide) ?_
  refine lv_iadd hx hb dL_law_681 ?_
  refine lv_topi (fun z_2 ez_2 => ?_)
  obtain rfl : z_2 = (2 : Int32) := ez_2.trans (by decide)
  refine va_sld hx hb hX hbl hbA hS (by unfold vp_in; decide) dL_law_682 ?_
  have hPc := hP.sub (ws' := [(ua, .inr (8, [.ref ux0, .int 0, .ref ux1, .ref ux2, .ref ux3, .ref ux4, .int 0, .ref ux5, .ref ux6, .ref ux7, .ref ux8, .ref ux9, .ref ux10, .int 0])), (ux1, .inr (5, [.int 0, .ref ux12, .ref ux13, .ref ux14, .ref ux15, .int 0, .ref ux16, .ref ux17, .ref ux18, .ref ux19, .ref ux20, .ref ux21]))]) [0, 2] rfl
  have hDc := hD.sub (ws' := [(ua, .inr (8, [.ref ux0, .int 0, .ref ux1, .ref ux2, .ref ux3, .ref ux4, .int 0, .ref ux5, .ref ux6, .ref ux7, .ref ux8, .ref ux9, .ref ux10, .int 0])), (ux1, .inr (5, [.int 0, .ref ux12, .ref ux13, .ref ux14, .ref ux15, .int 0, .ref ux16, .ref ux17, .ref ux18, .ref ux19, .ref ux20, .ref ux21]))]) [0, 2] (by decide) rfl
  have hKc := hK.sub (tys' := []) [] rfl
  have hFc := va_free (wc := [(ua, .inr (8, [.ref ux0, .int 0, .ref ux1, .ref ux2, .ref ux3, .ref ux4, .int 0, .ref ux5, .ref ux6, .ref ux7, .ref ux8, .ref ux9, .ref ux10, .int 0])), (ux1, .inr (5, [.int 0, .ref ux12, .ref ux13, .ref ux14, .ref ux15, .int 0, .ref ux16, .ref ux17, .ref ux18, .ref ux19, .ref ux20, .ref ux21]))]) hD hS hA [0, 2] rfl
  refine va_calli (va_runV (As := [.int (xs (1 : Int32).toNatClampNeg), .int (xs (2 : Int32).toNatClampNeg)]) (rest := []) ⟨hx, hb, hml, hown, hts⟩ (c_X10_floors l dC dI kE ua ux0 ux1 ux2 ux3 ux4 ux5 ux6 ux7 ux8 ux9 ux10 ux12 ux13 ux14 ux15 ux16 ux17 ux18 ux19 ux20 ux21 H.size ((xs (1 : Int32).toNatClampNeg)) ((xs (2 : Int32).toNatClampNeg))) (cwV 2 hts gL_law_X10_floors rfl rfl rfl (by decide +kernel) ⟨(Nat.le_of_ble_eq_true rfl), (Nat.le_of_ble_eq_true rfl)⟩) ⟨fun a U g mk q => by obtain ⟨q0, q1, qP, qK, qD, qE⟩ := q; exact ⟨q0, q1, qP, va_K.moved (u := U) (U := U.calling g mk a) (Vm.Alike.refl U.vm) qK, qD, ex_blind qE⟩, va_recv hKc hPc (ci := 8) (q0 := 0) rfl rfl, fun U hU hW => ⟨rfl, by rw [hU], by rw [hU]; exact hPc, va_K.moved hW.alike hKc, hDc.weaken (fun _ _ _ _ => trivial), ex_call hE hS hFc hU hW⟩⟩ rfl rfl hl.1 rfl (lv_room (Nat.le_of_ble_eq_true rfl)) dL_law_683 ⟨(Nat.le_of_ble_eq_true rfl), (Nat.le_of_ble_eq_true rfl)⟩) hS (fun q _ h => hFc q h) hFc (fun r_3 u t H locs ht hvm hw hB hz1 hk1 hS => ?_)
  obtain ⟨hP, hD⟩ := va_join (wr := [(ux0, .inl (ux11, 1600, .inl (fun _ => 0))), (ux2, .inr (5, [.int 0, .ref ux22, .ref ux23, .ref ux24, .ref ux25, .int 0, .ref ux26, .ref ux27, .ref ux28, .ref ux29, .ref ux30, .ref ux31])), (ux3, .inr (3, [.ref ux32, .ref ux33, .int 0, .int (-1)])), (ux32, .inr (7, [.ref ux34, .int 0, .int 0, .ref kE, .int 0, .long 0, .int 0])), (ux4, .inl (ux35, 6, .inl (fun _ => 0))), (ux10, .inr (4, [.int 0, .ref ux36, .ref ux37, .ref ux38, .ref ux39, .ref ux40, .ref ux41, .ref ux42, .int 0, .ref ux43, .ref ux44, .ref ux45])), (wa, .inr (9, mF wx0 0 0 0 (-1) 0 0 0 0 0 0 0 0 0 0 0 0 0 0 0 0 0 0 0 0 0)), ((wx0 0), .inl (wx1, 1620, .inl (fun _ => 0))), ((wx0 2), .inl (wx2, 2, .inl (fun _ => 0))), ((wx0 3), .inl (wx3, 2, .inl (fun _ => 0))), ((wx0 14), .inl (wx4, 6, .inl (fun _ => 0)))]) (w1 := []) hP hD [0, 2] [1, 3, 4, 5, 6, 7, 8, 9, 10, 11, 12] rfl rfl (by decide) (by decide) hk1 hFc ex_P0 ex_D0
  have hP : va_P (dC, dI) vwCl [(ux0, .inl (ux11, 1600, .inl (fun _ => 0))), (ux2, .inr (5, [.int 0, .ref ux22, .ref ux23, .ref ux24, .ref ux25, .int 0, .ref ux26, .ref ux27, .ref ux28, .ref ux29, .ref ux30, .ref ux31])), (ux3, .inr (3, [.ref ux32, .ref ux33, .int 0, .int (-1)])), (ux32, .inr (7, [.ref ux34, .int 0, .int 0, .ref kE, .int 0, .long 0, .int 0])), (ux4, .inl (ux35, 6, .inl (fun _ => 0))), (ux10, .inr (4, [.int 0, .ref ux36, .ref ux37, .ref ux38, .ref ux39, .ref ux40, .ref ux41, .ref ux42, .int 0, .ref ux43, .ref ux44, .ref ux45])), (wa, .inr (9, mF wx0 0 0 0 (-1) 0 0 0 0 0 0 0 0 0 0 0 0 0 0 0 0 0 0 0 0 0)), ((wx0 0), .inl (wx1, 1620, .inl (fun _ => 0))), ((wx0 2), .inl (wx2, 2, .inl (fun _ => 0))), ((wx0 3), .inl (wx3, 2, .inl (fun _ => 0))), ((wx0 14), .inl (wx4, 6, .inl (fun _ => 0)))] H := hP
  have hD : va_D (fun q : Nat => s.heap.size ≤ q) [(ux0, .inl (ux11, 1600, .inl (fun _ => 0))), (ux2, .inr (5, [.int 0, .ref ux22, .ref ux23, .ref ux24, .ref ux25, .int 0, .ref ux26, .ref ux27, .ref ux28, .ref ux29, .ref ux30, .ref ux31])), (ux3, .inr (3, [.ref ux32, .ref ux33, .int 0, .int (-1)])), (ux32, .inr (7, [.ref ux34, .int 0, .int 0, .ref kE, .int 0, .long 0, .int 0])), (ux4, .inl (ux35, 6, .inl (fun _ => 0))), (ux10, .inr (4, [.int 0, .ref ux36, .ref ux37, .ref ux38, .ref ux39, .ref ux40, .ref ux41, .ref ux42, .int 0, .ref ux43, .ref ux44, .ref ux45])), (wa, .inr (9, mF wx0 0 0 0 (-1) 0 0 0 0 0 0 0 0 0 0 0 0 0 0 0 0 0 0 0 0 0)), ((wx0 0), .inl (wx1, 1620, .inl (fun _ => 0))), ((wx0 2), .inl (wx2, 2, .inl (fun _ => 0))), ((wx0 3), .inl (wx3, 2, .inl (fun _ => 0))), ((wx0 14), .inl (wx4, 6, .inl (fun _ => 0)))] := hD
  refine W.widen (k := 162) (n := 9883) (by omega) (by omega) ?_
  obtain rfl : r_3 = ((-1) : Int32) := hw
  refine lv_aload_n hx hb dL_law_686 rfl (lv_at hl 1 rfl) ?_
  refine lv_aload_n hx hb dL_law_687 rfl (lv_at hl 3 rfl) ?_
  refine lv_iload_n hx hb dL_law_688 rfl (lv_at hl 0 rfl) ?_
  refine lv_iconst (v := 1) hx hb dL_law_689 (by decide) ?_
  refine lv_iadd hx hb dL_law_690 ?_
  refine lv_topi (fun z_4 ez_4 => ?_)
  obtain rfl : z_4 = (1 : Int32) := ez_4.trans (by decide)
  refine va_sld hx hb hX hbl hbA hS (by unfold vp_in; decide) dL_law_691 ?_
  refine lv_aload_n hx hb dL_law_692 rfl (lv_at hl 3 rfl) ?_
  refine lv_iload_n hx hb dL_law_693 rfl (lv_at hl 0 rfl) ?_
  refine lv_iconst (v := 2) hx hb dL_law_694 (by decide) ?_
  refine lv_iadd hx hb dL_law_695 ?_
  refine lv_topi (fun z_5 ez_5 => ?_)
  obtain rfl : z_5 = (2 : Int32) := ez_5.trans (by decide)
  refine va_sld hx hb hX hbl hbA hS (by unfold vp_in; decide) dL_law_696 ?_
  have hPc := hP.sub (ws' := [(wa, .inr (9, mF wx0 0 0 0 (-1) 0 0 0 0 0 0 0 0 0 0 0 0 0 0 0 0 0 0 0 0 0)), ((wx0 2), .inl (wx2, 2, .inl (fun _ => 0))), ((wx0 3), .inl (wx3, 2, .inl (fun _ => 0)))]) [6, 8, 9] rfl
  have hDc := hD.sub (ws' := [(wa, .inr (9, mF wx0 0 0 0 (-1) 0 0 0 0 0 0 0 0 0 0 0 0 0 0 0 0 0 0 0 0 0)), ((wx0 2), .inl (wx2, 2, .inl (fun _ => 0))), ((wx0 3), .inl (wx3, 2, .inl (fun _ => 0)))]) [6, 8, 9] (by decide) rfl
  have hKc := hK.sub (tys' := [(wx2, .int), (wx3, .int)]) [3, 4] rfl
  have hFc := va_free (wc := [(wa, .inr (9, mF wx0 0 0 0 (-1) 0 0 0 0 0 0 0 0 0 0 0 0 0 0 0 0 0 0 0 0 0)), ((wx0 2), .inl (wx2, 2, .inl (fun _ => 0))), ((wx0 3), .inl (wx3, 2, .inl (fun _ => 0)))]) hD hS hA [6, 8, 9] rfl
  refine va_calli (va_runV (As := [.int (xs (1 : Int32).toNatClampNeg), .int (xs (2 : Int32).toNatClampNeg)]) (rest := [.int (-1)]) ⟨hx, hb, hml, hown, hts⟩ (c_X11_floors l dC dI kE wa wx0 wx2 wx3 H.size ((xs (1 : Int32).toNatClampNeg)) ((xs (2 : Int32).toNatClampNeg))) (cwV 2 hts gL_law_X11_floors rfl rfl rfl (by decide +kernel) ⟨(Nat.le_of_ble_eq_true rfl), (Nat.le_of_ble_eq_true rfl)⟩) ⟨fun a U g mk q => by obtain ⟨q0, q1, qP, qK, qD, qE⟩ := q; exact ⟨q0, q1, qP, va_K.moved (u := U) (U := U.calling g mk a) (Vm.Alike.refl U.vm) qK, qD, ex_blind qE⟩, va_recv hKc hPc (ci := 9) (q0 := 0) rfl rfl, fun U hU hW => ⟨rfl, by rw [hU], by rw [hU]; exact hPc, va_K.moved hW.alike hKc, hDc.weaken (fun _ _ _ _ => trivial), ex_call hE hS hFc hU hW⟩⟩ rfl rfl hl.1 rfl (lv_room (Nat.le_of_ble_eq_true rfl)) dL_law_697 ⟨(Nat.le_of_ble_eq_true rfl), (Nat.le_of_ble_eq_true rfl)⟩) hS (fun q _ h => hFc q h) hFc (fun r_6 u t H locs ht hvm hw hB hz1 hk1 hS => ?_)
  obtain ⟨hP, hD⟩ := va_join (wr := [(ux0, .inl (ux11, 1600, .inl (fun _ => 0))), (ux2, .inr (5, [.int 0, .ref ux22, .ref ux23, .ref ux24, .ref ux25, .int 0, .ref ux26, .ref ux27, .ref ux28, .ref ux29, .ref ux30, .ref ux31])), (ux3, .inr (3, [.ref ux32, .ref ux33, .int 0, .int (-1)])), (ux32, .inr (7, [.ref ux34, .int 0, .int 0, .ref kE, .int 0, .long 0, .int 0])), (ux4, .inl (ux35, 6, .inl (fun _ => 0))), (ux10, .inr (4, [.int 0, .ref ux36, .ref ux37, .ref ux38, .ref ux39, .ref ux40, .ref ux41, .ref ux42, .int 0, .ref ux43, .ref ux44, .ref ux45])), ((wx0 0), .inl (wx1, 1620, .inl (fun _ => 0))), ((wx0 14), .inl (wx4, 6, .inl (fun _ => 0)))]) (w1 := []) hP hD [6, 8, 9] [0, 1, 2, 3, 4, 5, 7, 10] rfl rfl (by decide) (by decide) hk1 hFc ex_P0 ex_D0
  have hP : va_P (dC, dI) vwCl [(ux0, .inl (ux11, 1600, .inl (fun _ => 0))), (ux2, .inr (5, [.int 0, .ref ux22, .ref ux23, .ref ux24, .ref ux25, .int 0, .ref ux26, .ref ux27, .ref ux28, .ref ux29, .ref ux30, .ref ux31])), (ux3, .inr (3, [.ref ux32, .ref ux33, .int 0, .int (-1)])), (ux32, .inr (7, [.ref ux34, .int 0, .int 0, .ref kE, .int 0, .long 0, .int 0])), (ux4, .inl (ux35, 6, .inl (fun _ => 0))), (ux10, .inr (4, [.int 0, .ref ux36, .ref ux37, .ref ux38, .ref ux39, .ref ux40, .ref ux41, .ref ux42, .int 0, .ref ux43, .ref ux44, .ref ux45])), ((wx0 0), .inl (wx1, 1620, .inl (fun _ => 0))), ((wx0 14), .inl (wx4, 6, .inl (fun _ => 0)))] H := hP
  have hD : va_D (fun q : Nat => s.heap.size ≤ q) [(ux0, .inl (ux11, 1600, .inl (fun _ => 0))), (ux2, .inr (5, [.int 0, .ref ux22, .ref ux23, .ref ux24, .ref ux25, .int 0, .ref ux26, .ref ux27, .ref ux28, .ref ux29, .ref ux30, .ref ux31])), (ux3, .inr (3, [.ref ux32, .ref ux33, .int 0, .int (-1)])), (ux32, .inr (7, [.ref ux34, .int 0, .int 0, .ref kE, .int 0, .long 0, .int 0])), (ux4, .inl (ux35, 6, .inl (fun _ => 0))), (ux10, .inr (4, [.int 0, .ref ux36, .ref ux37, .ref ux38, .ref ux39, .ref ux40, .ref ux41, .ref ux42, .int 0, .ref ux43, .ref ux44, .ref ux45])), ((wx0 0), .inl (wx1, 1620, .inl (fun _ => 0))), ((wx0 14), .inl (wx4, 6, .inl (fun _ => 0)))] := hD
  refine W.widen (k := 162) (n := 9883) (by omega) (by omega) ?_
  obtain rfl : r_6 = ((-1) : Int32) := hw
  refine lv_icmp_eq (tgt := 1225) hx hb dL_law_700 (by decide) (fun c_7 => ?_) (fun c_7 => absurd c_7 (by decide))
  refine lv_iinc (v := 6) (lv' := [(3, .int 6), (2, .ref wa), (1, .ref ua), (0, .ref b)]) hx hb dL_law_1225 hl (k := 0) rfl (by decide) (by decide) rfl (fun ls hl => ?_)
  refine lv_goto (tgt := 18) hx hb dL_law_1228 (by decide) ?_
  refine lv_iload_n hx hb dL_law_18 rfl (lv_at hl 0 rfl) ?_
  refine lv_aload_n hx hb dL_law_19 rfl (lv_at hl 3 rfl) ?_
  refine va_slen hx hb hX hbl hbA hS dL_law_20 ?_
  refine lv_bipush (v := 6) hx hb dL_law_21 (by decide) ?_
  refine lv_isub hx hb dL_law_23 ?_
  refine lv_topi (fun z_8 ez_8 => ?_)
  obtain rfl : z_8 = (0 : Int32) := ez_8.trans (by decide)
  refine lv_icmp_gt (tgt := 1231) hx hb dL_law_24 (by decide) (fun c_9 => ?_) (fun c_9 => absurd c_9 (by decide))
  refine lv_iconst (v := 1) hx hb dL_law_1231 (by decide) ?_
  refine va_forget (fun q h => hS.2.2 q h) ?_
  refine W.widen (k := 600000) (n := 7302250) (by omega) (by omega) ?_
  exact lw_ret hx hb hr hlocks dL_law_1232
set_option maxHeartbeats 4000000 in
set_option maxRecDepth 100000 in
theorem law_17 {p : Program} {e : Env} {s : State} {m : MethodId} {below : List Frame} {meth : Method} {c : Code} (l : Launch) {dC : Nat → ClassId} {dI : Nat → Nat → Nat} {kE b : Nat} {xs : Nat → Int32} {ua : Nat} {ux0 : Nat} {ux1 : Nat} {ux2 : Nat} {ux3 : Nat} {ux4 : Nat} {ux5 : Nat} {ux6 : Nat} {ux7 : Nat} {ux8 : Nat} {ux9 : Nat} {ux10 : Nat} {ux12 : Nat} {ux13 : Nat} {ux14 : Nat} {ux15 : Nat} {ux16 : Nat} {ux17 : Nat} {ux18 : Nat} {ux19 : Nat} {ux20 : Nat} {ux21 : Nat} {ux22 : Nat} {ux23 : Nat} {ux24 : Nat} {ux25 : Nat} {ux26 : Nat} {ux27 : Nat} {ux28 : Nat} {ux29 : Nat} {ux30 : Nat} {ux31 : Nat} {ux32 : Nat} {ux33 : Nat} {ux34 : Nat} {ux36 : Nat} {ux37 : Nat} {ux38 : Nat} {ux39 : Nat} {ux40 : Nat} {ux41 : Nat} {ux42 : Nat} {ux43 : Nat} {ux44 : Nat} {ux45 : Nat} {wa : Nat} {wx0 : Nat → Nat} {ux11 ux35 wx1 wx2 wx3 wx4 : ClassId} (C0 : lw_At p s m meth c b 6 xs) (hE : ex_X kE (fun q : Nat => s.heap.size ≤ q) s) (hK : va_K (dC, dI) vwCl [(ux11, .byte), (ux35, .int), (wx1, .byte), (wx2, .int), (wx3, .int), (wx4, .int)] s) {H : Heap} {locs : List Loc} (hP : va_P (dC, dI) vwCl [(ua, .inr (8, [.ref ux0, .int 0, .ref ux1, .ref ux2, .ref ux3, .ref ux4, .int 0, .ref ux5, .ref ux6, .ref ux7, .ref ux8, .ref ux9, .ref ux10, .int 0])), (ux0, .inl (ux11, 1600, .inl (fun _ => 0))), (ux1, .inr (5, [.int 0, .ref ux12, .ref ux13, .ref ux14, .ref ux15, .int 0, .ref ux16, .ref ux17, .ref ux18, .ref ux19, .ref ux20, .ref ux21])), (ux2, .inr (5, [.int 0, .ref ux22, .ref ux23, .ref ux24, .ref ux25, .int 0, .ref ux26, .ref ux27, .ref ux28, .ref ux29, .ref ux30, .ref ux31])), (ux3, .inr (3, [.ref ux32, .ref ux33, .int 0, .int (-1)])), (ux32, .inr (7, [.ref ux34, .int 0, .int 0, .ref kE, .int 0, .long 0, .int 0])), (ux4, .inl (ux35, 6, .inl (fun _ => 0))), (ux10, .inr (4, [.int 0, .ref ux36, .ref ux37, .ref ux38, .ref ux39, .ref ux40, .ref ux41, .ref ux42, .int 0, .ref ux43, .ref ux44, .ref ux45])), (wa, .inr (9, mF wx0 0 0 0 (-1) 0 0 0 0 0 0 0 0 0 0 0 0 0 0 0 0 0 0 0 0 0)), ((wx0 0), .inl (wx1, 1620, .inl (fun _ => 0))), ((wx0 2), .inl (wx2, 2, .inl (fun _ => 0))), ((wx0 3), .inl (wx3, 2, .inl (fun _ => 0))), ((wx0 14), .inl (wx4, 6, .inl (fun _ => 0)))] H) (hD : va_D (fun q : Nat => s.heap.size ≤ q) [(ua, .inr (8, [.ref ux0, .int 0, .ref ux1, .ref ux2, .ref ux3, .ref ux4, .int 0, .ref ux5, .ref ux6, .ref ux7, .ref ux8, .ref ux9, .ref ux10, .int 0])), (ux0, .inl (ux11, 1600, .inl (fun _ => 0))), (ux1, .inr (5, [.int 0, .ref ux12, .ref ux13, .ref ux14, .ref ux15, .int 0, .ref ux16, .ref ux17, .ref ux18, .ref ux19, .ref ux20, .ref ux21])), (ux2, .inr (5, [.int 0, .ref ux22, .ref ux23, .ref ux24, .ref ux25, .int 0, .ref ux26, .ref ux27, .ref ux28, .ref ux29, .ref ux30, .ref ux31])), (ux3, .inr (3, [.ref ux32, .ref ux33, .int 0, .int (-1)])), (ux32, .inr (7, [.ref ux34, .int 0, .int 0, .ref kE, .int 0, .long 0, .int 0])), (ux4, .inl (ux35, 6, .inl (fun _ => 0))), (ux10, .inr (4, [.int 0, .ref ux36, .ref ux37, .ref ux38, .ref ux39, .ref ux40, .ref ux41, .ref ux42, .int 0, .ref ux43, .ref ux44, .ref ux45])), (wa, .inr (9, mF wx0 0 0 0 (-1) 0 0 0 0 0 0 0 0 0 0 0 0 0 0 0 0 0 0 0 0 0)), ((wx0 0), .inl (wx1, 1620, .inl (fun _ => 0))), ((wx0 2), .inl (wx2, 2, .inl (fun _ => 0))), ((wx0 3), .inl (wx3, 2, .inl (fun _ => 0))), ((wx0 14), .inl (wx4, 6, .inl (fun _ => 0)))]) (hS : va_S (fun q : Nat => s.heap.size ≤ q) s.heap H locs) {ls : Array Slot} (hl : lv_has ls 4 [(3, .int 0), (2, .ref wa), (1, .ref ua), (0, .ref b)]) : W p l e room_1 s m #[Value.ref b] below meth c H locs 162 9883 (lw_Z below #[Value.ref b] s) (F0 m 705 ls []) := by
  obtain ⟨hx, hb, hr, hml, hown, hts0, hX, hbl, hlocks, hgv⟩ := C0
  have hts := hts0
  have hown : s.vm.findClass RL = some m.cls := hown
  have hA : ∀ q : Nat, s.heap.size ≤ q → (fun q : Nat => s.heap.size ≤ q) q := fun _ h => h
  have hbA : ¬ (fun q : Nat => s.heap.size ≤ q) b := Nat.not_le.mpr hbl
  refine lv_aload_n hx hb dL_law_705 rfl (lv_at hl 2 rfl) ?_
  refine lv_aload_n hx hb dL_law_706 rfl (lv_at hl 3 rfl) ?_
  refine lv_iload_n hx hb dL_law_707 rfl (lv_at hl 0 rfl) ?_
  refine lv_iconst (v := 1) hx hb dL_law_708 (by decide) ?_
  refine lv_iadd hx hb dL_law_709 ?_
  refine lv_topi (fun z_1 ez_1 => ?_)
  obtain rfl : z_1 = (1 : Int32) := ez_1.trans (by decide)
  refine va_sld hx hb hX hbl hbA hS (by unfold vp_in; decide) dL_law_710 ?_
  refine lv_aload_n hx hb dL_law_711 rfl (lv_at hl 3 rfl) ?_
  refine lv_iload_n hx hb dL_law_712 rfl (lv_at hl 0 rfl) ?_
  refine lv_iconst (v := 2) hx hb dL_law_713 (by decide) ?_
  refine lv_iadd hx hb dL_law_714 ?_
  refine lv_topi (fun z_2 ez_2 => ?_)
  obtain rfl : z_2 = (2 : Int32) := ez_2.trans (by decide)
  refine va_sld hx hb hX hbl hbA hS (by unfold vp_in; decide) dL_law_715 ?_
  have hPc := hP.sub (ws' := [(ua, .inr (8, [.ref ux0, .int 0, .ref ux1, .ref ux2, .ref ux3, .ref ux4, .int 0, .ref ux5, .ref ux6, .ref ux7, .ref ux8, .ref ux9, .ref ux10, .int 0])), (ux1, .inr (5, [.int 0, .ref ux12, .ref ux13, .ref ux14, .ref ux15, .int 0, .ref ux16, .ref ux17, .ref ux18, .ref ux19, .ref ux20, .ref ux21]))]) [0, 2] rfl
  have hDc := hD.sub (ws' := [(ua, .inr (8, [.ref ux0, .int 0, .ref ux1, .ref ux2, .ref ux3, .ref ux4, .int 0, .ref ux5, .ref ux6, .ref ux7, .ref ux8, .ref ux9, .ref ux10, .int 0])), (ux1, .inr (5, [.int 0, .ref ux12, .ref ux13, .ref ux14, .ref ux15, .int 0, .ref ux16, .ref ux17, .ref ux18, .ref ux19, .ref ux20, .ref ux21]))]) [0, 2] (by decide) rfl
  have hKc := hK.sub (tys' := []) [] rfl
  have hFc := va_free (wc := [(ua, .inr (8, [.ref ux0, .int 0, .ref ux1, .ref ux2, .ref ux3, .ref ux4, .int 0, .ref ux5, .ref ux6, .ref ux7, .ref ux8, .ref ux9, .ref ux10, .int 0])), (ux1, .inr (5, [.int 0, .ref ux12, .ref ux13, .ref ux14, .ref ux15, .int 0, .ref ux16, .ref ux17, .ref ux18, .ref ux19, .ref ux20, .ref ux21]))]) hD hS hA [0, 2] rfl
  refine va_calli (va_runV (As := [.int (xs (1 : Int32).toNatClampNeg), .int (xs (2 : Int32).toNatClampNeg)]) (rest := []) ⟨hx, hb, hml, hown, hts⟩ (c_X10_mend l dC dI kE ua ux0 ux1 ux2 ux3 ux4 ux5 ux6 ux7 ux8 ux9 ux10 ux12 ux13 ux14 ux15 ux16 ux17 ux18 ux19 ux20 ux21 H.size ((xs (1 : Int32).toNatClampNeg)) ((xs (2 : Int32).toNatClampNeg))) (cwV 2 hts gL_law_X10_mend rfl rfl rfl (by decide +kernel) ⟨(Nat.le_of_ble_eq_true rfl), (Nat.le_of_ble_eq_true rfl)⟩) ⟨fun a U g mk q => by obtain ⟨q0, q1, qP, qK, qD, qE⟩ := q; exact ⟨q0, q1, qP, va_K.moved (u := U) (U := U.calling g mk a) (Vm.Alike.refl U.vm) qK, qD, ex_blind qE⟩, va_recv hKc hPc (ci := 8) (q0 := 0) rfl rfl, fun U hU hW => ⟨rfl, by rw [hU], by rw [hU]; exact hPc, va_K.moved hW.alike hKc, hDc.weaken (fun _ _ _ _ => trivial), ex_call hE hS hFc hU hW⟩⟩ rfl rfl hl.1 rfl (lv_room (Nat.le_of_ble_eq_true rfl)) dL_law_716 ⟨(Nat.le_of_ble_eq_true rfl), (Nat.le_of_ble_eq_true rfl)⟩) hS (fun q _ h => hFc q h) hFc (fun r_3 u t H locs ht hvm hw hB hz1 hk1 hS => ?_)
  obtain ⟨hP, hD⟩ := va_join (wr := [(ux0, .inl (ux11, 1600, .inl (fun _ => 0))), (ux2, .inr (5, [.int 0, .ref ux22, .ref ux23, .ref ux24, .ref ux25, .int 0, .ref ux26, .ref ux27, .ref ux28, .ref ux29, .ref ux30, .ref ux31])), (ux3, .inr (3, [.ref ux32, .ref ux33, .int 0, .int (-1)])), (ux32, .inr (7, [.ref ux34, .int 0, .int 0, .ref kE, .int 0, .long 0, .int 0])), (ux4, .inl (ux35, 6, .inl (fun _ => 0))), (ux10, .inr (4, [.int 0, .ref ux36, .ref ux37, .ref ux38, .ref ux39, .ref ux40, .ref ux41, .ref ux42, .int 0, .ref ux43, .ref ux44, .ref ux45])), (wa, .inr (9, mF wx0 0 0 0 (-1) 0 0 0 0 0 0 0 0 0 0 0 0 0 0 0 0 0 0 0 0 0)), ((wx0 0), .inl (wx1, 1620, .inl (fun _ => 0))), ((wx0 2), .inl (wx2, 2, .inl (fun _ => 0))), ((wx0 3), .inl (wx3, 2, .inl (fun _ => 0))), ((wx0 14), .inl (wx4, 6, .inl (fun _ => 0)))]) (w1 := []) hP hD [0, 2] [1, 3, 4, 5, 6, 7, 8, 9, 10, 11, 12] rfl rfl (by decide) (by decide) hk1 hFc ex_P0 ex_D0
  have hP : va_P (dC, dI) vwCl [(ux0, .inl (ux11, 1600, .inl (fun _ => 0))), (ux2, .inr (5, [.int 0, .ref ux22, .ref ux23, .ref ux24, .ref ux25, .int 0, .ref ux26, .ref ux27, .ref ux28, .ref ux29, .ref ux30, .ref ux31])), (ux3, .inr (3, [.ref ux32, .ref ux33, .int 0, .int (-1)])), (ux32, .inr (7, [.ref ux34, .int 0, .int 0, .ref kE, .int 0, .long 0, .int 0])), (ux4, .inl (ux35, 6, .inl (fun _ => 0))), (ux10, .inr (4, [.int 0, .ref ux36, .ref ux37, .ref ux38, .ref ux39, .ref ux40, .ref ux41, .ref ux42, .int 0, .ref ux43, .ref ux44, .ref ux45])), (wa, .inr (9, mF wx0 0 0 0 (-1) 0 0 0 0 0 0 0 0 0 0 0 0 0 0 0 0 0 0 0 0 0)), ((wx0 0), .inl (wx1, 1620, .inl (fun _ => 0))), ((wx0 2), .inl (wx2, 2, .inl (fun _ => 0))), ((wx0 3), .inl (wx3, 2, .inl (fun _ => 0))), ((wx0 14), .inl (wx4, 6, .inl (fun _ => 0)))] H := hP
  have hD : va_D (fun q : Nat => s.heap.size ≤ q) [(ux0, .inl (ux11, 1600, .inl (fun _ => 0))), (ux2, .inr (5, [.int 0, .ref ux22, .ref ux23, .ref ux24, .ref ux25, .int 0, .ref ux26, .ref ux27, .ref ux28, .ref ux29, .ref ux30, .ref ux31])), (ux3, .inr (3, [.ref ux32, .ref ux33, .int 0, .int (-1)])), (ux32, .inr (7, [.ref ux34, .int 0, .int 0, .ref kE, .int 0, .long 0, .int 0])), (ux4, .inl (ux35, 6, .inl (fun _ => 0))), (ux10, .inr (4, [.int 0, .ref ux36, .ref ux37, .ref ux38, .ref ux39, .ref ux40, .ref ux41, .ref ux42, .int 0, .ref ux43, .ref ux44, .ref ux45])), (wa, .inr (9, mF wx0 0 0 0 (-1) 0 0 0 0 0 0 0 0 0 0 0 0 0 0 0 0 0 0 0 0 0)), ((wx0 0), .inl (wx1, 1620, .inl (fun _ => 0))), ((wx0 2), .inl (wx2, 2, .inl (fun _ => 0))), ((wx0 3), .inl (wx3, 2, .inl (fun _ => 0))), ((wx0 14), .inl (wx4, 6, .inl (fun _ => 0)))] := hD
  refine W.widen (k := 162) (n := 9883) (by omega) (by omega) ?_
  obtain rfl : r_3 = ((-1) : Int32) := hw
  refine lv_aload_n hx hb dL_law_719 rfl (lv_at hl 1 rfl) ?_
  refine lv_aload_n hx hb dL_law_720 rfl (lv_at hl 3 rfl) ?_
  refine lv_iload_n hx hb dL_law_721 rfl (lv_at hl 0 rfl) ?_
  refine lv_iconst (v := 1) hx hb dL_law_722 (by decide) ?_
  refine lv_iadd hx hb dL_law_723 ?_
  refine lv_topi (fun z_4 ez_4 => ?_)
  obtain rfl : z_4 = (1 : Int32) := ez_4.trans (by decide)
  refine va_sld hx hb hX hbl hbA hS (by unfold vp_in; decide) dL_law_724 ?_
  refine lv_aload_n hx hb dL_law_725 rfl (lv_at hl 3 rfl) ?_
  refine lv_iload_n hx hb dL_law_726 rfl (lv_at hl 0 rfl) ?_
  refine lv_iconst (v := 2) hx hb dL_law_727 (by decide) ?_
  refine lv_iadd hx hb dL_law_728 ?_
  refine lv_topi (fun z_5 ez_5 => ?_)
  obtain rfl : z_5 = (2 : Int32) := ez_5.trans (by decide)
  refine va_sld hx hb hX hbl hbA hS (by unfold vp_in; decide) dL_law_729 ?_
  have hPc := hP.sub (ws' := [(wa, .inr (9, mF wx0 0 0 0 (-1) 0 0 0 0 0 0 0 0 0 0 0 0 0 0 0 0 0 0 0 0 0)), ((wx0 2), .inl (wx2, 2, .inl (fun _ => 0))), ((wx0 3), .inl (wx3, 2, .inl (fun _ => 0)))]) [6, 8, 9] rfl
  have hDc := hD.sub (ws' := [(wa, .inr (9, mF wx0 0 0 0 (-1) 0 0 0 0 0 0 0 0 0 0 0 0 0 0 0 0 0 0 0 0 0)), ((wx0 2), .inl (wx2, 2, .inl (fun _ => 0))), ((wx0 3), .inl (wx3, 2, .inl (fun _ => 0)))]) [6, 8, 9] (by decide) rfl
  have hKc := hK.sub (tys' := [(wx2, .int), (wx3, .int)]) [3, 4] rfl
  have hFc := va_free (wc := [(wa, .inr (9, mF wx0 0 0 0 (-1) 0 0 0 0 0 0 0 0 0 0 0 0 0 0 0 0 0 0 0 0 0)), ((wx0 2), .inl (wx2, 2, .inl (fun _ => 0))), ((wx0 3), .inl (wx3, 2, .inl (fun _ => 0)))]) hD hS hA [6, 8, 9] rfl
  refine va_calli (va_runV (As := [.int (xs (1 : Int32).toNatClampNeg), .int (xs (2 : Int32).toNatClampNeg)]) (rest := [.int (-1)]) ⟨hx, hb, hml, hown, hts⟩ (c_X11_mend l dC dI kE wa wx0 wx2 wx3 H.size ((xs (1 : Int32).toNatClampNeg)) ((xs (2 : Int32).toNatClampNeg))) (cwV 2 hts gL_law_X11_mend rfl rfl rfl (by decide +kernel) ⟨(Nat.le_of_ble_eq_true rfl), (Nat.le_of_ble_eq_true rfl)⟩) ⟨fun a U g mk q => by obtain ⟨q0, q1, qP, qK, qD, qE⟩ := q; exact ⟨q0, q1, qP, va_K.moved (u := U) (U := U.calling g mk a) (Vm.Alike.refl U.vm) qK, qD, ex_blind qE⟩, va_recv hKc hPc (ci := 9) (q0 := 0) rfl rfl, fun U hU hW => ⟨rfl, by rw [hU], by rw [hU]; exact hPc, va_K.moved hW.alike hKc, hDc.weaken (fun _ _ _ _ => trivial), ex_call hE hS hFc hU hW⟩⟩ rfl rfl hl.1 rfl (lv_room (Nat.le_of_ble_eq_true rfl)) dL_law_730 ⟨(Nat.le_of_ble_eq_true rfl), (Nat.le_of_ble_eq_true rfl)⟩) hS (fun q _ h => hFc q h) hFc (fun r_6 u t H locs ht hvm hw hB hz1 hk1 hS => ?_)
  obtain ⟨hP, hD⟩ := va_join (wr := [(ux0, .inl (ux11, 1600, .inl (fun _ => 0))), (ux2, .inr (5, [.int 0, .ref ux22, .ref ux23, .ref ux24, .ref ux25, .int 0, .ref ux26, .ref ux27, .ref ux28, .ref ux29, .ref ux30, .ref ux31])), (ux3, .inr (3, [.ref ux32, .ref ux33, .int 0, .int (-1)])), (ux32, .inr (7, [.ref ux34, .int 0, .int 0, .ref kE, .int 0, .long 0, .int 0])), (ux4, .inl (ux35, 6, .inl (fun _ => 0))), (ux10, .inr (4, [.int 0, .ref ux36, .ref ux37, .ref ux38, .ref ux39, .ref ux40, .ref ux41, .ref ux42, .int 0, .ref ux43, .ref ux44, .ref ux45])), ((wx0 0), .inl (wx1, 1620, .inl (fun _ => 0))), ((wx0 14), .inl (wx4, 6, .inl (fun _ => 0)))]) (w1 := []) hP hD [6, 8, 9] [0, 1, 2, 3, 4, 5, 7, 10] rfl rfl (by decide) (by decide) hk1 hFc ex_P0 ex_D0
  have hP : va_P (dC, dI) vwCl [(ux0, .inl (ux11, 1600, .inl (fun _ => 0))), (ux2, .inr (5, [.int 0, .ref ux22, .ref ux23, .ref ux24, .ref ux25, .int 0, .ref ux26, .ref ux27, .ref ux28, .ref ux29, .ref ux30, .ref ux31])), (ux3, .inr (3, [.ref ux32, .ref ux33, .int 0, .int (-1)])), (ux32, .inr (7, [.ref ux34, .int 0, .int 0, .ref kE, .int 0, .long 0, .int 0])), (ux4, .inl (ux35, 6, .inl (fun _ => 0))), (ux10, .inr (4, [.int 0, .ref ux36, .ref ux37, .ref ux38, .ref ux39, .ref ux40, .ref ux41, .ref ux42, .int 0, .ref ux43, .ref ux44, .ref ux45])), ((wx0 0), .inl (wx1, 1620, .inl (fun _ => 0))), ((wx0 14), .inl (wx4, 6, .inl (fun _ => 0)))] H := hP
  have hD : va_D (fun q : Nat => s.heap.size ≤ q) [(ux0, .inl (ux11, 1600, .inl (fun _ => 0))), (ux2, .inr (5, [.int 0, .ref ux22, .ref ux23, .ref ux24, .ref ux25, .int 0, .ref ux26, .ref ux27, .ref ux28, .ref ux29, .ref ux30, .ref ux31])), (ux3, .inr (3, [.ref ux32, .ref ux33, .int 0, .int (-1)])), (ux32, .inr (7, [.ref ux34, .int 0, .int 0, .ref kE, .int 0, .long 0, .int 0])), (ux4, .inl (ux35, 6, .inl (fun _ => 0))), (ux10, .inr (4, [.int 0, .ref ux36, .ref ux37, .ref ux38, .ref ux39, .ref ux40, .ref ux41, .ref ux42, .int 0, .ref ux43, .ref ux44, .ref ux45])), ((wx0 0), .inl (wx1, 1620, .inl (fun _ => 0))), ((wx0 14), .inl (wx4, 6, .inl (fun _ => 0)))] := hD
  refine W.widen (k := 162) (n := 9883) (by omega) (by omega) ?_
  obtain rfl : r_6 = ((-1) : Int32) := hw
  refine lv_icmp_eq (tgt := 1225) hx hb dL_law_733 (by decide) (fun c_7 => ?_) (fun c_7 => absurd c_7 (by decide))
  refine lv_iinc (v := 6) (lv' := [(3, .int 6), (2, .ref wa), (1, .ref ua), (0, .ref b)]) hx hb dL_law_1225 hl (k := 0) rfl (by decide) (by decide) rfl (fun ls hl => ?_)
  refine lv_goto (tgt := 18) hx hb dL_law_1228 (by decide) ?_
  refine lv_iload_n hx hb dL_law_18 rfl (lv_at hl 0 rfl) ?_
  refine lv_aload_n hx hb dL_law_19 rfl (lv_at hl 3 rfl) ?_
  refine va_slen hx hb hX hbl hbA hS dL_law_20 ?_
  refine lv_bipush (v := 6) hx hb dL_law_21 (by decide) ?_
  refine lv_isub hx hb dL_law_23 ?_
  refine lv_topi (fun z_8 ez_8 => ?_)
  obtain rfl : z_8 = (0 : Int32) := ez_8.trans (by decide)
  refine lv_icmp_gt (tgt := 1231) hx hb dL_law_24 (by decide) (fun c_9 => ?_) (fun c_9 => absurd c_9 (by decide))
  refine lv_iconst (v := 1) hx hb dL_law_1231 (by decide) ?_
  refine va_forget (fun q h => hS.2.2 q h) ?_
  refine W.widen (k := 600000) (n := 7302250) (by omega) (by omega) ?_
  exact lw_ret hx hb hr hlocks dL_law_1232
set_option maxHeartbeats 4000000 in
set_option maxRecDepth 100000 in
theorem law_18 {p : Program} {e : Env} {s : State} {m : MethodId} {below : List Frame} {meth : Method} {c : Code} (l : Launch) {dC : Nat → ClassId} {dI : Nat → Nat → Nat} {kE b : Nat} {xs : Nat → Int32} {ua : Nat} {ux0 : Nat} {ux1 : Nat} {ux2 : Nat} {ux3 : Nat} {ux4 : Nat} {ux5 : Nat} {ux6 : Nat} {ux7 : Nat} {ux8 : Nat} {ux9 : Nat} {ux10 : Nat} {ux12 : Nat} {ux13 : Nat} {ux14 : Nat} {ux15 : Nat} {ux16 : Nat} {ux17 : Nat} {ux18 : Nat} {ux19 : Nat} {ux20 : Nat} {ux21 : Nat} {ux22 : Nat} {ux23 : Nat} {ux24 : Nat} {ux25 : Nat} {ux26 : Nat} {ux27 : Nat} {ux28 : Nat} {ux29 : Nat} {ux30 : Nat} {ux31 : Nat} {ux32 : Nat} {ux33 : Nat} {ux34 : Nat} {ux36 : Nat} {ux37 : Nat} {ux38 : Nat} {ux39 : Nat} {ux40 : Nat} {ux41 : Nat} {ux42 : Nat} {ux43 : Nat} {ux44 : Nat} {ux45 : Nat} {wa : Nat} {wx0 : Nat → Nat} {ux11 ux35 wx1 wx2 wx3 wx4 : ClassId} (C0 : lw_At p s m meth c b 6 xs) (hE : ex_X kE (fun q : Nat => s.heap.size ≤ q) s) (hK : va_K (dC, dI) vwCl [(ux11, .byte), (ux35, .int), (wx1, .byte), (wx2, .int), (wx3, .int), (wx4, .int)] s) {H : Heap} {locs : List Loc} (hP : va_P (dC, dI) vwCl [(ua, .inr (8, [.ref ux0, .int 0, .ref ux1, .ref ux2, .ref ux3, .ref ux4, .int 0, .ref ux5, .ref ux6, .ref ux7, .ref ux8, .ref ux9, .ref ux10, .int 0])), (ux0, .inl (ux11, 1600, .inl (fun _ => 0))), (ux1, .inr (5, [.int 0, .ref ux12, .ref ux13, .ref ux14, .ref ux15, .int 0, .ref ux16, .ref ux17, .ref ux18, .ref ux19, .ref ux20, .ref ux21])), (ux2, .inr (5, [.int 0, .ref ux22, .ref ux23, .ref ux24, .ref ux25, .int 0, .ref ux26, .ref ux27, .ref ux28, .ref ux29, .ref ux30, .ref ux31])), (ux3, .inr (3, [.ref ux32, .ref ux33, .int 0, .int (-1)])), (ux32, .inr (7, [.ref ux34, .int 0, .int 0, .ref kE, .int 0, .long 0, .int 0])), (ux4, .inl (ux35, 6, .inl (fun _ => 0))), (ux10, .inr (4, [.int 0, .ref ux36, .ref ux37, .ref ux38, .ref ux39, .ref ux40, .ref ux41, .ref ux42, .int 0, .ref ux43, .ref ux44, .ref ux45])), (wa, .inr (9, mF wx0 0 0 0 (-1) 0 0 0 0 0 0 0 0 0 0 0 0 0 0 0 0 0 0 0 0 0)), ((wx0 0), .inl (wx1, 1620, .inl (fun _ => 0))), ((wx0 2), .inl (wx2, 2, .inl (fun _ => 0))), ((wx0 3), .inl (wx3, 2, .inl (fun _ => 0))), ((wx0 14), .inl (wx4, 6, .inl (fun _ => 0)))] H) (hD : va_D (fun q : Nat => s.heap.size ≤ q) [(ua, .inr (8, [.ref ux0, .int 0, .ref ux1, .ref ux2, .ref ux3, .ref ux4, .int 0, .ref ux5, .ref ux6, .ref ux7, .ref ux8, .ref ux9, .ref ux10, .int 0])), (ux0, .inl (ux11, 1600, .inl (fun _ => 0))), (ux1, .inr (5, [.int 0, .ref ux12, .ref ux13, .ref ux14, .ref ux15, .int 0, .ref ux16, .ref ux17, .ref ux18, .ref ux19, .ref ux20, .ref ux21])), (ux2, .inr (5, [.int 0, .ref ux22, .ref ux23, .ref ux24, .ref ux25, .int 0, .ref ux26, .ref ux27, .ref ux28, .ref ux29, .ref ux30, .ref ux31])), (ux3, .inr (3, [.ref ux32, .ref ux33, .int 0, .int (-1)])), (ux32, .inr (7, [.ref ux34, .int 0, .int 0, .ref kE, .int 0, .long 0, .int 0])), (ux4, .inl (ux35, 6, .inl (fun _ => 0))), (ux10, .inr (4, [.int 0, .ref ux36, .ref ux37, .ref ux38, .ref ux39, .ref ux40, .ref ux41, .ref ux42, .int 0, .ref ux43, .ref ux44, .ref ux45])), (wa, .inr (9, mF wx0 0 0 0 (-1) 0 0 0 0 0 0 0 0 0 0 0 0 0 0 0 0 0 0 0 0 0)), ((wx0 0), .inl (wx1, 1620, .inl (fun _ => 0))), ((wx0 2), .inl (wx2, 2, .inl (fun _ => 0))), ((wx0 3), .inl (wx3, 2, .inl (fun _ => 0))), ((wx0 14), .inl (wx4, 6, .inl (fun _ => 0)))]) (hS : va_S (fun q : Nat => s.heap.size ≤ q) s.heap H locs) {ls : Array Slot} (hl : lv_has ls 4 [(3, .int 0), (2, .ref wa), (1, .ref ua), (0, .ref b)]) : W p l e room_1 s m #[Value.ref b] below meth c H locs 162 9883 (lw_Z below #[Value.ref b] s) (F0 m 738 ls []) := by
  obtain ⟨hx, hb, hr, hml, hown, hts0, hX, hbl, hlocks, hgv⟩ := C0
  have hts := hts0
  have hown : s.vm.findClass RL = some m.cls := hown
  have hA : ∀ q : Nat, s.heap.size ≤ q → (fun q : Nat => s.heap.size ≤ q) q := fun _ h => h
  have hbA : ¬ (fun q : Nat => s.heap.size ≤ q) b := Nat.not_le.mpr hbl
  refine lv_aload_n hx hb dL_law_738 rfl (lv_at hl 2 rfl) ?_
  refine lv_aload_n hx hb dL_law_739 rfl (lv_at hl 3 rfl) ?_
  refine lv_iload_n hx hb dL_law_740 rfl (lv_at hl 0 rfl) ?_
  refine lv_iconst (v := 1) hx hb dL_law_741 (by decide) ?_
  refine lv_iadd hx hb dL_law_742 ?_
  refine lv_topi (fun z_1 ez_1 => ?_)
  obtain rfl : z_1 = (1 : Int32) := ez_1.trans (by decide)
  refine va_sld hx hb hX hbl hbA hS (by unfold vp_in; decide) dL_law_743 ?_
  refine lv_aload_n hx hb dL_law_744 rfl (lv_at hl 3 rfl) ?_
  refine lv_iload_n hx hb dL_law_745 rfl (lv_at hl 0 rfl) ?_
  refine lv_iconst (v := 2) hx hb dL_law_746 (by decide) ?_
  refine lv_iadd hx hb dL_law_747 ?_
  refine lv_topi (fun z_2 ez_2 => ?_)
  obtain rfl : z_2 = (2 : Int32) := ez_2.trans (by decide)
  refine va_sld hx hb hX hbl hbA hS (by unfold vp_in; decide) dL_law_748 ?_
  refine lv_aload_n hx hb dL_law_749 rfl (lv_at hl 3 rfl) ?_
  refine lv_iload_n hx hb dL_law_750 rfl (lv_at hl 0 rfl) ?_
  refine lv_iconst (v := 3) hx hb dL_law_751 (by decide) ?_
  refine lv_iadd hx hb dL_law_752 ?_
  refine lv_topi (fun z_3 ez_3 => ?_)
  obtain rfl : z_3 = (3 : Int32) := ez_3.trans (by decide)
  refine va_sld hx hb hX hbl hbA hS (by unfold vp_in; decide) dL_law_753 ?_
  refine lv_aload_n hx hb dL_law_754 rfl (lv_at hl 3 rfl) ?_
  refine lv_iload_n hx hb dL_law_755 rfl (lv_at hl 0 rfl) ?_
  refine lv_iconst (v := 4) hx hb dL_law_756 (by decide) ?_
  refine lv_iadd hx hb dL_law_757 ?_
  refine lv_topi (fun z_4 ez_4 => ?_)
  obtain rfl : z_4 = (4 : Int32) := ez_4.trans (by decide)
  refine va_sld hx hb hX hbl hbA hS (by unfold vp_in; decide) dL_law_758 ?_
  have hPc := hP.sub (ws' := [(ua, .inr (8, [.ref ux0, .int 0, .ref ux1, .ref ux2, .ref ux3, .ref ux4, .int 0, .ref ux5, .ref ux6, .ref ux7, .ref ux8, .ref ux9, .ref ux10, .int 0])), (ux1, .inr (5, [.int 0, .ref ux12, .ref ux13, .ref ux14, .ref ux15, .int 0, .ref ux16, .ref ux17, .ref ux18, .ref ux19, .ref ux20, .ref ux21]))]) [0, 2] rfl
  have hDc := hD.sub (ws' := [(ua, .inr (8, [.ref ux0, .int 0, .ref ux1, .ref ux2, .ref ux3, .ref ux4, .int 0, .ref ux5, .ref ux6, .ref ux7, .ref ux8, .ref ux9, .ref ux10, .int 0])), (ux1, .inr (5, [.int 0, .ref ux12, .ref ux13, .ref ux14, .ref ux15, .int 0, .ref ux16, .ref ux17, .ref ux18, .ref ux19, .ref ux20, .ref ux21]))]) [0, 2] (by decide) rfl
  have hKc := hK.sub (tys' := []) [] rfl
  have hFc := va_free (wc := [(ua, .inr (8, [.ref ux0, .int 0, .ref ux1, .ref ux2, .ref ux3, .ref ux4, .int 0, .ref ux5, .ref ux6, .ref ux7, .ref ux8, .ref ux9, .ref ux10, .int 0])), (ux1, .inr (5, [.int 0, .ref ux12, .ref ux13, .ref ux14, .ref ux15, .int 0, .ref ux16, .ref ux17, .ref ux18, .ref ux19, .ref ux20, .ref ux21]))]) hD hS hA [0, 2] rfl
  refine va_calll (va_runV (As := [.int (xs (1 : Int32).toNatClampNeg), .int (xs (2 : Int32).toNatClampNeg), .int (xs (3 : Int32).toNatClampNeg), .int (xs (4 : Int32).toNatClampNeg)]) (rest := []) ⟨hx, hb, hml, hown, hts⟩ (c_X10_odds l dC dI kE ua ux0 ux1 ux2 ux3 ux4 ux5 ux6 ux7 ux8 ux9 ux10 ux12 ux13 ux14 ux15 ux16 ux17 ux18 ux19 ux20 ux21 H.size ((xs (1 : Int32).toNatClampNeg)) ((xs (2 : Int32).toNatClampNeg)) ((xs (3 : Int32).toNatClampNeg)) ((xs (4 : Int32).toNatClampNeg))) (cwV 4 hts gL_law_X10_odds rfl rfl rfl (by decide +kernel) ⟨(Nat.le_of_ble_eq_true rfl), (Nat.le_of_ble_eq_true rfl)⟩) ⟨fun a U g mk q => by obtain ⟨q0, q1, qP, qK, qD, qE⟩ := q; exact ⟨q0, q1, qP, va_K.moved (u := U) (U := U.calling g mk a) (Vm.Alike.refl U.vm) qK, qD, ex_blind qE⟩, va_recv hKc hPc (ci := 8) (q0 := 0) rfl rfl, fun U hU hW => ⟨rfl, by rw [hU], by rw [hU]; exact hPc, va_K.moved hW.alike hKc, hDc.weaken (fun _ _ _ _ => trivial), ex_call hE hS hFc hU hW⟩⟩ rfl rfl hl.1 rfl (lv_room (Nat.le_of_ble_eq_true rfl)) dL_law_759 ⟨(Nat.le_of_ble_eq_true rfl), (Nat.le_of_ble_eq_true rfl)⟩) hS (fun q _ h => hFc q h) hFc (fun r_5 u t H locs ht hvm hw hB hz1 hk1 hS => ?_)
  obtain ⟨hP, hD⟩ := va_join (wr := [(ux0, .inl (ux11, 1600, .inl (fun _ => 0))), (ux2, .inr (5, [.int 0, .ref ux22, .ref ux23, .ref ux24, .ref ux25, .int 0, .ref ux26, .ref ux27, .ref ux28, .ref ux29, .ref ux30, .ref ux31])), (ux3, .inr (3, [.ref ux32, .ref ux33, .int 0, .int (-1)])), (ux32, .inr (7, [.ref ux34, .int 0, .int 0, .ref kE, .int 0, .long 0, .int 0])), (ux4, .inl (ux35, 6, .inl (fun _ => 0))), (ux10, .inr (4, [.int 0, .ref ux36, .ref ux37, .ref ux38, .ref ux39, .ref ux40, .ref ux41, .ref ux42, .int 0, .ref ux43, .ref ux44, .ref ux45])), (wa, .inr (9, mF wx0 0 0 0 (-1) 0 0 0 0 0 0 0 0 0 0 0 0 0 0 0 0 0 0 0 0 0)), ((wx0 0), .inl (wx1, 1620, .inl (fun _ => 0))), ((wx0 2), .inl (wx2, 2, .inl (fun _ => 0))), ((wx0 3), .inl (wx3, 2, .inl (fun _ => 0))), ((wx0 14), .inl (wx4, 6, .inl (fun _ => 0)))]) (w1 := []) hP hD [0, 2] [1, 3, 4, 5, 6, 7, 8, 9, 10, 11, 12] rfl rfl (by decide) (by decide) hk1 hFc ex_P0 ex_D0
  have hP : va_P (dC, dI) vwCl [(ux0, .inl (ux11, 1600, .inl (fun _ => 0))), (ux2, .inr (5, [.int 0, .ref ux22, .ref ux23, .ref ux24, .ref ux25, .int 0, .ref ux26, .ref ux27, .ref ux28, .ref ux29, .ref ux30, .ref ux31])), (ux3, .inr (3, [.ref ux32, .ref ux33, .int 0, .int (-1)])), (ux32, .inr (7, [.ref ux34, .int 0, .int 0, .ref kE, .int 0, .long 0, .int 0])), (ux4, .inl (ux35, 6, .inl (fun _ => 0))), (ux10, .inr (4, [.int 0, .ref ux36, .ref ux37, .ref ux38, .ref ux39, .ref ux40, .ref ux41, .ref ux42, .int 0, .ref ux43, .ref ux44, .ref ux45])), (wa, .inr (9, mF wx0 0 0 0 (-1) 0 0 0 0 0 0 0 0 0 0 0 0 0 0 0 0 0 0 0 0 0)), ((wx0 0), .inl (wx1, 1620, .inl (fun _ => 0))), ((wx0 2), .inl (wx2, 2, .inl (fun _ => 0))), ((wx0 3), .inl (wx3, 2, .inl (fun _ => 0))), ((wx0 14), .inl (wx4, 6, .inl (fun _ => 0)))] H := hP
  have hD : va_D (fun q : Nat => s.heap.size ≤ q) [(ux0, .inl (ux11, 1600, .inl (fun _ => 0))), (ux2, .inr (5, [.int 0, .ref ux22, .ref ux23, .ref ux24, .ref ux25, .int 0, .ref ux26, .ref ux27, .ref ux28, .ref ux29, .ref ux30, .ref ux31])), (ux3, .inr (3, [.ref ux32, .ref ux33, .int 0, .int (-1)])), (ux32, .inr (7, [.ref ux34, .int 0, .int 0, .ref kE, .int 0, .long 0, .int 0])), (ux4, .inl (ux35, 6, .inl (fun _ => 0))), (ux10, .inr (4, [.int 0, .ref ux36, .ref ux37, .ref ux38, .ref ux39, .ref ux40, .ref ux41, .ref ux42, .int 0, .ref ux43, .ref ux44, .ref ux45])), (wa, .inr (9, mF wx0 0 0 0 (-1) 0 0 0 0 0 0 0 0 0 0 0 0 0 0 0 0 0 0 0 0 0)), ((wx0 0), .inl (wx1, 1620, .inl (fun _ => 0))), ((wx0 2), .inl (wx2, 2, .inl (fun _ => 0))), ((wx0 3), .inl (wx3, 2, .inl (fun _ => 0))), ((wx0 14), .inl (wx4, 6, .inl (fun _ => 0)))] := hD
  refine W.widen (k := 162) (n := 9883) (by omega) (by omega) ?_
  obtain rfl : r_5 = ((-1) : Int64) := hw
  refine lv_aload_n hx hb dL_law_762 rfl (lv_at hl 1 rfl) ?_
  refine lv_aload_n hx hb dL_law_763 rfl (lv_at hl 3 rfl) ?_
  refine lv_iload_n hx hb dL_law_764 rfl (lv_at hl 0 rfl) ?_
  refine lv_iconst (v := 1) hx hb dL_law_765 (by decide) ?_
  refine lv_iadd hx hb dL_law_766 ?_
  refine lv_topi (fun z_6 ez_6 => ?_)
  obtain rfl : z_6 = (1 : Int32) := ez_6.trans (by decide)
  refine va_sld hx hb hX hbl hbA hS (by unfold vp_in; decide) dL_law_767 ?_
  refine lv_aload_n hx hb dL_law_768 rfl (lv_at hl 3 rfl) ?_
  refine lv_iload_n hx hb dL_law_769 rfl (lv_at hl 0 rfl) ?_
  refine lv_iconst (v := 2) hx hb dL_law_770 (by decide) ?_
  refine lv_iadd hx hb dL_law_771 ?_
  refine lv_topi (fun z_7 ez_7 => ?_)
  obtain rfl : z_7 = (2 : Int32) := ez_7.trans (by decide)
  refine va_sld hx hb hX hbl hbA hS (by unfold vp_in; decide) dL_law_772 ?_
  refine lv_aload_n hx hb dL_law_773 rfl (lv_at hl 3 rfl) ?_
  refine lv_iload_n hx hb dL_law_774 rfl (lv_at hl 0 rfl) ?_
  refine lv_iconst (v := 3) hx hb dL_law_775 (by decide) ?_
  refine lv_iadd hx hb dL_law_776 ?_
  refine lv_topi (fun z_8 ez_8 => ?_)
  obtain rfl : z_8 = (3 : Int32) := ez_8.trans (by decide)
  refine va_sld hx hb hX hbl hbA hS (by unfold vp_in; decide) dL_law_777 ?_
  refine lv_aload_n hx hb dL_law_778 rfl (lv_at hl 3 rfl) ?_
  refine lv_iload_n hx hb dL_law_779 rfl (lv_at hl 0 rfl) ?_
  refine lv_iconst (v := 4) hx hb dL_law_780 (by decide) ?_
  refine lv_iadd hx hb dL_law_781 ?_
  refine lv_topi (fun z_9 ez_9 => ?_)
  obtain rfl : z_9 = (4 : Int32) := ez_9.trans (by decide)
  refine va_sld hx hb hX hbl hbA hS (by unfold vp_in; decide) dL_law_782 ?_
  have hPc := hP.sub (ws' := [(wa, .inr (9, mF wx0 0 0 0 (-1) 0 0 0 0 0 0 0 0 0 0 0 0 0 0 0 0 0 0 0 0 0)), ((wx0 2), .inl (wx2, 2, .inl (fun _ => 0))), ((wx0 3), .inl (wx3, 2, .inl (fun _ => 0)))]) [6, 8, 9] rfl
  have hDc := hD.sub (ws' := [(wa, .inr (9, mF wx0 0 0 0 (-1) 0 0 0 0 0 0 0 0 0 0 0 0 0 0 0 0 0 0 0 0 0)), ((wx0 2), .inl (wx2, 2, .inl (fun _ => 0))), ((wx0 3), .inl (wx3, 2, .inl (fun _ => 0)))]) [6, 8, 9] (by decide) rfl
  have hKc := hK.sub (tys' := [(wx2, .int), (wx3, .int)]) [3, 4] rfl
  have hFc := va_free (wc := [(wa, .inr (9, mF wx0 0 0 0 (-1) 0 0 0 0 0 0 0 0 0 0 0 0 0 0 0 0 0 0 0 0 0)), ((wx0 2), .inl (wx2, 2, .inl (fun _ => 0))), ((wx0 3), .inl (wx3, 2, .inl (fun _ => 0)))]) hD hS hA [6, 8, 9] rfl
  refine va_calll (va_runV (As := [.int (xs (1 : Int32).toNatClampNeg), .int (xs (2 : Int32).toNatClampNeg), .int (xs (3 : Int32).toNatClampNeg), .int (xs (4 : Int32).toNatClampNeg)]) (rest := [.long (-1)]) ⟨hx, hb, hml, hown, hts⟩ (c_X11_odds l dC dI kE wa wx0 wx2 wx3 H.size ((xs (1 : Int32).toNatClampNeg)) ((xs (2 : Int32).toNatClampNeg)) ((xs (3 : Int32).toNatClampNeg)) ((xs (4 : Int32).toNatClampNeg))) (cwV 4 hts gL_law_X11_odds rfl rfl rfl (by decide +kernel) ⟨(Nat.le_of_ble_eq_true rfl), (Nat.le_of_ble_eq_true rfl)⟩) ⟨fun a U g mk q => by obtain ⟨q0, q1, qP, qK, qD, qE⟩ := q; exact ⟨q0, q1, qP, va_K.moved (u := U) (U := U.calling g mk a) (Vm.Alike.refl U.vm) qK, qD, ex_blind qE⟩, va_recv hKc hPc (ci := 9) (q0 := 0) rfl rfl, fun U hU hW => ⟨rfl, by rw [hU], by rw [hU]; exact hPc, va_K.moved hW.alike hKc, hDc.weaken (fun _ _ _ _ => trivial), ex_call hE hS hFc hU hW⟩⟩ rfl rfl hl.1 rfl (lv_room (Nat.le_of_ble_eq_true rfl)) dL_law_783 ⟨(Nat.le_of_ble_eq_true rfl), (Nat.le_of_ble_eq_true rfl)⟩) hS (fun q _ h => hFc q h) hFc (fun r_10 u t H locs ht hvm hw hB hz1 hk1 hS => ?_)
  obtain ⟨hP, hD⟩ := va_join (wr := [(ux0, .inl (ux11, 1600, .inl (fun _ => 0))), (ux2, .inr (5, [.int 0, .ref ux22, .ref ux23, .ref ux24, .ref ux25, .int 0, .ref ux26, .ref ux27, .ref ux28, .ref ux29, .ref ux30, .ref ux31])), (ux3, .inr (3, [.ref ux32, .ref ux33, .int 0, .int (-1)])), (ux32, .inr (7, [.ref ux34, .int 0, .int 0, .ref kE, .int 0, .long 0, .int 0])), (ux4, .inl (ux35, 6, .inl (fun _ => 0))), (ux10, .inr (4, [.int 0, .ref ux36, .ref ux37, .ref ux38, .ref ux39, .ref ux40, .ref ux41, .ref ux42, .int 0, .ref ux43, .ref ux44, .ref ux45])), ((wx0 0), .inl (wx1, 1620, .inl (fun _ => 0))), ((wx0 14), .inl (wx4, 6, .inl (fun _ => 0)))]) (w1 := []) hP hD [6, 8, 9] [0, 1, 2, 3, 4, 5, 7, 10] rfl rfl (by decide) (by decide) hk1 hFc ex_P0 ex_D0
  have hP : va_P (dC, dI) vwCl [(ux0, .inl (ux11, 1600, .inl (fun _ => 0))), (ux2, .inr (5, [.int 0, .ref ux22, .ref ux23, .ref ux24, .ref ux25, .int 0, .ref ux26, .ref ux27, .ref ux28, .ref ux29, .ref ux30, .ref ux31])), (ux3, .inr (3, [.ref ux32, .ref ux33, .int 0, .int (-1)])), (ux32, .inr (7, [.ref ux34, .int 0, .int 0, .ref kE, .int 0, .long 0, .int 0])), (ux4, .inl (ux35, 6, .inl (fun _ => 0))), (ux10, .inr (4, [.int 0, .ref ux36, .ref ux37, .ref ux38, .ref ux39, .ref ux40, .ref ux41, .ref ux42, .int 0, .ref ux43, .ref ux44, .ref ux45])), ((wx0 0), .inl (wx1, 1620, .inl (fun _ => 0))), ((wx0 14), .inl (wx4, 6, .inl (fun _ => 0)))] H := hP
  have hD : va_D (fun q : Nat => s.heap.size ≤ q) [(ux0, .inl (ux11, 1600, .inl (fun _ => 0))), (ux2, .inr (5, [.int 0, .ref ux22, .ref ux23, .ref ux24, .ref ux25, .int 0, .ref ux26, .ref ux27, .ref ux28, .ref ux29, .ref ux30, .ref ux31])), (ux3, .inr (3, [.ref ux32, .ref ux33, .int 0, .int (-1)])), (ux32, .inr (7, [.ref ux34, .int 0, .int 0, .ref kE, .int 0, .long 0, .int 0])), (ux4, .inl (ux35, 6, .inl (fun _ => 0))), (ux10, .inr (4, [.int 0, .ref ux36, .ref ux37, .ref ux38, .ref ux39, .ref ux40, .ref ux41, .ref ux42, .int 0, .ref ux43, .ref ux44, .ref ux45])), ((wx0 0), .inl (wx1, 1620, .inl (fun _ => 0))), ((wx0 14), .inl (wx4, 6, .inl (fun _ => 0)))] := hD
  refine W.widen (k := 162) (n := 9883) (by omega) (by omega) ?_
  obtain rfl : r_10 = ((-1) : Int64) := hw
  refine W.lcmp hx hb dL_law_786 ?_
  refine lv_topi (fun z_11 ez_11 => ?_)
  obtain rfl : z_11 = (0 : Int32) := ez_11.trans (by decide)
  refine lv_if_eq (tgt := 1225) hx hb dL_law_787 (by decide) (fun c_12 => ?_) (fun c_12 => absurd c_12 (by decide))
  refine lv_iinc (v := 6) (lv' := [(3, .int 6), (2, .ref wa), (1, .ref ua), (0, .ref b)]) hx hb dL_law_1225 hl (k := 0) rfl (by decide) (by decide) rfl (fun ls hl => ?_)
  refine lv_goto (tgt := 18) hx hb dL_law_1228 (by decide) ?_
  refine lv_iload_n hx hb dL_law_18 rfl (lv_at hl 0 rfl) ?_
  refine lv_aload_n hx hb dL_law_19 rfl (lv_at hl 3 rfl) ?_
  refine va_slen hx hb hX hbl hbA hS dL_law_20 ?_
  refine lv_bipush (v := 6) hx hb dL_law_21 (by decide) ?_
  refine lv_isub hx hb dL_law_23 ?_
  refine lv_topi (fun z_13 ez_13 => ?_)
  obtain rfl : z_13 = (0 : Int32) := ez_13.trans (by decide)
  refine lv_icmp_gt (tgt := 1231) hx hb dL_law_24 (by decide) (fun c_14 => ?_) (fun c_14 => absurd c_14 (by decide))
  refine lv_iconst (v := 1) hx hb dL_law_1231 (by decide) ?_
  refine va_forget (fun q h => hS.2.2 q h) ?_
  refine W.widen (k := 600000) (n := 7302250) (by omega) (by omega) ?_
  exact lw_ret hx hb hr hlocks dL_law_1232
set_option maxHeartbeats 4000000 in
set_option maxRecDepth 100000 in
theorem law_19 {p : Program} {e : Env} {s : State} {m : MethodId} {below : List Frame} {meth : Method} {c : Code} (l : Launch) {dC : Nat → ClassId} {dI : Nat → Nat → Nat} {kE b : Nat} {xs : Nat → Int32} {ua : Nat} {ux0 : Nat} {ux1 : Nat} {ux2 : Nat} {ux3 : Nat} {ux4 : Nat} {ux5 : Nat} {ux6 : Nat} {ux7 : Nat} {ux8 : Nat} {ux9 : Nat} {ux10 : Nat} {ux12 : Nat} {ux13 : Nat} {ux14 : Nat} {ux15 : Nat} {ux16 : Nat} {ux17 : Nat} {ux18 : Nat} {ux19 : Nat} {ux20 : Nat} {ux21 : Nat} {ux22 : Nat} {ux23 : Nat} {ux24 : Nat} {ux25 : Nat} {ux26 : Nat} {ux27 : Nat} {ux28 : Nat} {ux29 : Nat} {ux30 : Nat} {ux31 : Nat} {ux32 : Nat} {ux33 : Nat} {ux34 : Nat} {ux36 : Nat} {ux37 : Nat} {ux38 : Nat} {ux39 : Nat} {ux40 : Nat} {ux41 : Nat} {ux42 : Nat} {ux43 : Nat} {ux44 : Nat} {ux45 : Nat} {wa : Nat} {wx0 : Nat → Nat} {ux11 ux35 wx1 wx2 wx3 wx4 : ClassId} (C0 : lw_At p s m meth c b 6 xs) (hE : ex_X kE (fun q : Nat => s.heap.size ≤ q) s) (hK : va_K (dC, dI) vwCl [(ux11, .byte), (ux35, .int), (wx1, .byte), (wx2, .int), (wx3, .int), (wx4, .int)] s) {H : Heap} {locs : List Loc} (hP : va_P (dC, dI) vwCl [(ua, .inr (8, [.ref ux0, .int 0, .ref ux1, .ref ux2, .ref ux3, .ref ux4, .int 0, .ref ux5, .ref ux6, .ref ux7, .ref ux8, .ref ux9, .ref ux10, .int 0])), (ux0, .inl (ux11, 1600, .inl (fun _ => 0))), (ux1, .inr (5, [.int 0, .ref ux12, .ref ux13, .ref ux14, .ref ux15, .int 0, .ref ux16, .ref ux17, .ref ux18, .ref ux19, .ref ux20, .ref ux21])), (ux2, .inr (5, [.int 0, .ref ux22, .ref ux23, .ref ux24, .ref ux25, .int 0, .ref ux26, .ref ux27, .ref ux28, .ref ux29, .ref ux30, .ref ux31])), (ux3, .inr (3, [.ref ux32, .ref ux33, .int 0, .int (-1)])), (ux32, .inr (7, [.ref ux34, .int 0, .int 0, .ref kE, .int 0, .long 0, .int 0])), (ux4, .inl (ux35, 6, .inl (fun _ => 0))), (ux10, .inr (4, [.int 0, .ref ux36, .ref ux37, .ref ux38, .ref ux39, .ref ux40, .ref ux41, .ref ux42, .int 0, .ref ux43, .ref ux44, .ref ux45])), (wa, .inr (9, mF wx0 0 0 0 (-1) 0 0 0 0 0 0 0 0 0 0 0 0 0 0 0 0 0 0 0 0 0)), ((wx0 0), .inl (wx1, 1620, .inl (fun _ => 0))), ((wx0 2), .inl (wx2, 2, .inl (fun _ => 0))), ((wx0 3), .inl (wx3, 2, .inl (fun _ => 0))), ((wx0 14), .inl (wx4, 6, .inl (fun _ => 0)))] H) (hD : va_D (fun q : Nat => s.heap.size ≤ q) [(ua, .inr (8, [.ref ux0, .int 0, .ref ux1, .ref ux2, .ref ux3, .ref ux4, .int 0, .ref ux5, .ref ux6, .ref ux7, .ref ux8, .ref ux9, .ref ux10, .int 0])), (ux0, .inl (ux11, 1600, .inl (fun _ => 0))), (ux1, .inr (5, [.int 0, .ref ux12, .ref ux13, .ref ux14, .ref ux15, .int 0, .ref ux16, .ref ux17, .ref ux18, .ref ux19, .ref ux20, .ref ux21])), (ux2, .inr (5, [.int 0, .ref ux22, .ref ux23, .ref ux24, .ref ux25, .int 0, .ref ux26, .ref ux27, .ref ux28, .ref ux29, .ref ux30, .ref ux31])), (ux3, .inr (3, [.ref ux32, .ref ux33, .int 0, .int (-1)])), (ux32, .inr (7, [.ref ux34, .int 0, .int 0, .ref kE, .int 0, .long 0, .int 0])), (ux4, .inl (ux35, 6, .inl (fun _ => 0))), (ux10, .inr (4, [.int 0, .ref ux36, .ref ux37, .ref ux38, .ref ux39, .ref ux40, .ref ux41, .ref ux42, .int 0, .ref ux43, .ref ux44, .ref ux45])), (wa, .inr (9, mF wx0 0 0 0 (-1) 0 0 0 0 0 0 0 0 0 0 0 0 0 0 0 0 0 0 0 0 0)), ((wx0 0), .inl (wx1, 1620, .inl (fun _ => 0))), ((wx0 2), .inl (wx2, 2, .inl (fun _ => 0))), ((wx0 3), .inl (wx3, 2, .inl (fun _ => 0))), ((wx0 14), .inl (wx4, 6, .inl (fun _ => 0)))]) (hS : va_S (fun q : Nat => s.heap.size ≤ q) s.heap H locs) {ls : Array Slot} (hl : lv_has ls 4 [(3, .int 0), (2, .ref wa), (1, .ref ua), (0, .ref b)]) : W p l e room_1 s m #[Value.ref b] below meth c H locs 162 9883 (lw_Z below #[Value.ref b] s) (F0 m 792 ls []) := by
  obtain ⟨hx, hb, hr, hml, hown, hts0, hX, hbl, hlocks, hgv⟩ := C0
  have hts := hts0
  have hown : s.vm.findClass RL = some m.cls := hown
  have hA : ∀ q : Nat, s.heap.size ≤ q → (fun q : Nat => s.heap.size ≤ q) q := fun _ h => h
  have hbA : ¬ (fun q : Nat => s.heap.size ≤ q) b := Nat.not_le.mpr hbl
  refine lv_aload_n hx hb dL_law_792 rfl (lv_at hl 2 rfl) ?_
  refine lv_aload_n hx hb dL_law_793 rfl (lv_at hl 3 rfl) ?_
  refine lv_iload_n hx hb dL_law_794 rfl (lv_at hl 0 rfl) ?_
  refine lv_iconst (v := 1) hx hb dL_law_795 (by decide) ?_
  refine lv_iadd hx hb dL_law_796 ?_
  refine lv_topi (fun z_1 ez_1 => ?_)
  obtain rfl : z_1 = (1 : Int32) := ez_1.trans (by decide)
  refine va_sld hx hb hX hbl hbA hS (by unfold vp_in; decide) dL_law_797 ?_
  refine lv_aload_n hx hb dL_law_798 rfl (lv_at hl 3 rfl) ?_
  refine lv_iload_n hx hb dL_law_799 rfl (lv_at hl 0 rfl) ?_
  refine lv_iconst (v := 2) hx hb dL_law_800 (by decide) ?_
  refine lv_iadd hx hb dL_law_801 ?_
  refine lv_topi (fun z_2 ez_2 => ?_)
  obtain rfl : z_2 = (2 : Int32) := ez_2.trans (by decide)
  refine va_sld hx hb hX hbl hbA hS (by unfold vp_in; decide) dL_law_802 ?_
  have hPc := hP.sub (ws' := [(ua, .inr (8, [.ref ux0, .int 0, .ref ux1, .ref ux2, .ref ux3, .ref ux4, .int 0, .ref ux5, .ref ux6, .ref ux7, .ref ux8, .ref ux9, .ref ux10, .int 0])), (ux1, .inr (5, [.int 0, .ref ux12, .ref ux13, .ref ux14, .ref ux15, .int 0, .ref ux16, .ref ux17, .ref ux18, .ref ux19, .ref ux20, .ref ux21]))]) [0, 2] rfl
  have hDc := hD.sub (ws' := [(ua, .inr (8, [.ref ux0, .int 0, .ref ux1, .ref ux2, .ref ux3, .ref ux4, .int 0, .ref ux5, .ref ux6, .ref ux7, .ref ux8, .ref ux9, .ref ux10, .int 0])), (ux1, .inr (5, [.int 0, .ref ux12, .ref ux13, .ref ux14, .ref ux15, .int 0, .ref ux16, .ref ux17, .ref ux18, .ref ux19, .ref ux20, .ref ux21]))]) [0, 2] (by decide) rfl
  have hKc := hK.sub (tys' := []) [] rfl
  have hFc := va_free (wc := [(ua, .inr (8, [.ref ux0, .int 0, .ref ux1, .ref ux2, .ref ux3, .ref ux4, .int 0, .ref ux5, .ref ux6, .ref ux7, .ref ux8, .ref ux9, .ref ux10, .int 0])), (ux1, .inr (5, [.int 0, .ref ux12, .ref ux13, .ref ux14, .ref ux15, .int 0, .ref ux16, .ref ux17, .ref ux18, .ref ux19, .ref ux20, .ref ux21]))]) hD hS hA [0, 2] rfl
  refine va_calli (va_runV (As := [.int (xs (1 : Int32).toNatClampNeg), .int (xs (2 : Int32).toNatClampNeg)]) (rest := []) ⟨hx, hb, hml, hown, hts⟩ (c_X10_most l dC dI kE ua ux0 ux1 ux2 ux3 ux4 ux5 ux6 ux7 ux8 ux9 ux10 ux12 ux13 ux14 ux15 ux16 ux17 ux18 ux19 ux20 ux21 H.size ((xs (1 : Int32).toNatClampNeg)) ((xs (2 : Int32).toNatClampNeg))) (cwV 2 hts gL_law_X10_most rfl rfl rfl (by decide +kernel) ⟨(Nat.le_of_ble_eq_true rfl), (Nat.le_of_ble_eq_true rfl)⟩) ⟨fun a U g mk q => by obtain ⟨q0, q1, qP, qK, qD, qE⟩ := q; exact ⟨q0, q1, qP, va_K.moved (u := U) (U := U.calling g mk a) (Vm.Alike.refl U.vm) qK, qD, ex_blind qE⟩, va_recv hKc hPc (ci := 8) (q0 := 0) rfl rfl, fun U hU hW => ⟨rfl, by rw [hU], by rw [hU]; exact hPc, va_K.moved hW.alike hKc, hDc.weaken (fun _ _ _ _ => trivial), ex_call hE hS hFc hU hW⟩⟩ rfl rfl hl.1 rfl (lv_room (Nat.le_of_ble_eq_true rfl)) dL_law_803 ⟨(Nat.le_of_ble_eq_true rfl), (Nat.le_of_ble_eq_true rfl)⟩) hS (fun q _ h => hFc q h) hFc (fun r_3 u t H locs ht hvm hw hB hz1 hk1 hS => ?_)
  obtain ⟨hP, hD⟩ := va_join (wr := [(ux0, .inl (ux11, 1600, .inl (fun _ => 0))), (ux2, .inr (5, [.int 0, .ref ux22, .ref ux23, .ref ux24, .ref ux25, .int 0, .ref ux26, .ref ux27, .ref ux28, .ref ux29, .ref ux30, .ref ux31])), (ux3, .inr (3, [.ref ux32, .ref ux33, .int 0, .int (-1)])), (ux32, .inr (7, [.ref ux34, .int 0, .int 0, .ref kE, .int 0, .long 0, .int 0])), (ux4, .inl (ux35, 6, .inl (fun _ => 0))), (ux10, .inr (4, [.int 0, .ref ux36, .ref ux37, .ref ux38, .ref ux39, .ref ux40, .ref ux41, .ref ux42, .int 0, .ref ux43, .ref ux44, .ref ux45])), (wa, .inr (9, mF wx0 0 0 0 (-1) 0 0 0 0 0 0 0 0 0 0 0 0 0 0 0 0 0 0 0 0 0)), ((wx0 0), .inl (wx1, 1620, .inl (fun _ => 0))), ((wx0 2), .inl (wx2, 2, .inl (fun _ => 0))), ((wx0 3), .inl (wx3, 2, .inl (fun _ => 0))), ((wx0 14), .inl (wx4, 6, .inl (fun _ => 0)))]) (w1 := []) hP hD [0, 2] [1, 3, 4, 5, 6, 7, 8, 9, 10, 11, 12] rfl rfl (by decide) (by decide) hk1 hFc ex_P0 ex_D0
  have hP : va_P (dC, dI) vwCl [(ux0, .inl (ux11, 1600, .inl (fun _ => 0))), (ux2, .inr (5, [.int 0, .ref ux22, .ref ux23, .ref ux24, .ref ux25, .int 0, .ref ux26, .ref ux27, .ref ux28, .ref ux29, .ref ux30, .ref ux31])), (ux3, .inr (3, [.ref ux32, .ref ux33, .int 0, .int (-1)])), (ux32, .inr (7, [.ref ux34, .int 0, .int 0, .ref kE, .int 0, .long 0, .int 0])), (ux4, .inl (ux35, 6, .inl (fun _ => 0))), (ux10, .inr (4, [.int 0, .ref ux36, .ref ux37, .ref ux38, .ref ux39, .ref ux40, .ref ux41, .ref ux42, .int 0, .ref ux43, .ref ux44, .ref ux45])), (wa, .inr (9, mF wx0 0 0 0 (-1) 0 0 0 0 0 0 0 0 0 0 0 0 0 0 0 0 0 0 0 0 0)), ((wx0 0), .inl (wx1, 1620, .inl (fun _ => 0))), ((wx0 2), .inl (wx2, 2, .inl (fun _ => 0))), ((wx0 3), .inl (wx3, 2, .inl (fun _ => 0))), ((wx0 14), .inl (wx4, 6, .inl (fun _ => 0)))] H := hP
  have hD : va_D (fun q : Nat => s.heap.size ≤ q) [(ux0, .inl (ux11, 1600, .inl (fun _ => 0))), (ux2, .inr (5, [.int 0, .ref ux22, .ref ux23, .ref ux24, .ref ux25, .int 0, .ref ux26, .ref ux27, .ref ux28, .ref ux29, .ref ux30, .ref ux31])), (ux3, .inr (3, [.ref ux32, .ref ux33, .int 0, .int (-1)])), (ux32, .inr (7, [.ref ux34, .int 0, .int 0, .ref kE, .int 0, .long 0, .int 0])), (ux4, .inl (ux35, 6, .inl (fun _ => 0))), (ux10, .inr (4, [.int 0, .ref ux36, .ref ux37, .ref ux38, .ref ux39, .ref ux40, .ref ux41, .ref ux42, .int 0, .ref ux43, .ref ux44, .ref ux45])), (wa, .inr (9, mF wx0 0 0 0 (-1) 0 0 0 0 0 0 0 0 0 0 0 0 0 0 0 0 0 0 0 0 0)), ((wx0 0), .inl (wx1, 1620, .inl (fun _ => 0))), ((wx0 2), .inl (wx2, 2, .inl (fun _ => 0))), ((wx0 3), .inl (wx3, 2, .inl (fun _ => 0))), ((wx0 14), .inl (wx4, 6, .inl (fun _ => 0)))] := hD
  refine W.widen (k := 162) (n := 9883) (by omega) (by omega) ?_
  obtain rfl : r_3 = ((-1) : Int32) := hw
  refine lv_aload_n hx hb dL_law_806 rfl (lv_at hl 1 rfl) ?_
  refine lv_aload_n hx hb dL_law_807 rfl (lv_at hl 3 rfl) ?_
  refine lv_iload_n hx hb dL_law_808 rfl (lv_at hl 0 rfl) ?_
  refine lv_iconst (v := 1) hx hb dL_law_809 (by decide) ?_
  refine lv_iadd hx hb dL_law_810 ?_
  refine lv_topi (fun z_4 ez_4 => ?_)
  obtain rfl : z_4 = (1 : Int32) := ez_4.trans (by decide)
  refine va_sld hx hb hX hbl hbA hS (by unfold vp_in; decide) dL_law_811 ?_
  refine lv_aload_n hx hb dL_law_812 rfl (lv_at hl 3 rfl) ?_
  refine lv_iload_n hx hb dL_law_813 rfl (lv_at hl 0 rfl) ?_
  refine lv_iconst (v := 2) hx hb dL_law_814 (by decide) ?_
  refine lv_iadd hx hb dL_law_815 ?_
  refine lv_topi (fun z_5 ez_5 => ?_)
  obtain rfl : z_5 = (2 : Int32) := ez_5.trans (by decide)
  refine va_sld hx hb hX hbl hbA hS (by unfold vp_in; decide) dL_law_816 ?_
  have hPc := hP.sub (ws' := [(wa, .inr (9, mF wx0 0 0 0 (-1) 0 0 0 0 0 0 0 0 0 0 0 0 0 0 0 0 0 0 0 0 0)), ((wx0 2), .inl (wx2, 2, .inl (fun _ => 0))), ((wx0 3), .inl (wx3, 2, .inl (fun _ => 0)))]) [6, 8, 9] rfl
  have hDc := hD.sub (ws' := [(wa, .inr (9, mF wx0 0 0 0 (-1) 0 0 0 0 0 0 0 0 0 0 0 0 0 0 0 0 0 0 0 0 0)), ((wx0 2), .inl (wx2, 2, .inl (fun _ => 0))), ((wx0 3), .inl (wx3, 2, .inl (fun _ => 0)))]) [6, 8, 9] (by decide) rfl
  have hKc := hK.sub (tys' := [(wx2, .int), (wx3, .int)]) [3, 4] rfl
  have hFc := va_free (wc := [(wa, .inr (9, mF wx0 0 0 0 (-1) 0 0 0 0 0 0 0 0 0 0 0 0 0 0 0 0 0 0 0 0 0)), ((wx0 2), .inl (wx2, 2, .inl (fun _ => 0))), ((wx0 3), .inl (wx3, 2, .inl (fun _ => 0)))]) hD hS hA [6, 8, 9] rfl
  refine va_calli (va_runV (As := [.int (xs (1 : Int32).toNatClampNeg), .int (xs (2 : Int32).toNatClampNeg)]) (rest := [.int (-1)]) ⟨hx, hb, hml, hown, hts⟩ (c_X11_most l dC dI kE wa wx0 wx2 wx3 H.size ((xs (1 : Int32).toNatClampNeg)) ((xs (2 : Int32).toNatClampNeg))) (cwV 2 hts gL_law_X11_most rfl rfl rfl (by decide +kernel) ⟨(Nat.le_of_ble_eq_true rfl), (Nat.le_of_ble_eq_true rfl)⟩) ⟨fun a U g mk q => by obtain ⟨q0, q1, qP, qK, qD, qE⟩ := q; exact ⟨q0, q1, qP, va_K.moved (u := U) (U := U.calling g mk a) (Vm.Alike.refl U.vm) qK, qD, ex_blind qE⟩, va_recv hKc hPc (ci := 9) (q0 := 0) rfl rfl, fun U hU hW => ⟨rfl, by rw [hU], by rw [hU]; exact hPc, va_K.moved hW.alike hKc, hDc.weaken (fun _ _ _ _ => trivial), ex_call hE hS hFc hU hW⟩⟩ rfl rfl hl.1 rfl (lv_room (Nat.le_of_ble_eq_true rfl)) dL_law_817 ⟨(Nat.le_of_ble_eq_true rfl), (Nat.le_of_ble_eq_true rfl)⟩) hS (fun q _ h => hFc q h) hFc (fun r_6 u t H locs ht hvm hw hB hz1 hk1 hS => ?_)
  obtain ⟨hP, hD⟩ := va_join (wr := [(ux0, .inl (ux11, 1600, .inl (fun _ => 0))), (ux2, .inr (5, [.int 0, .ref ux22, .ref ux23, .ref ux24, .ref ux25, .int 0, .ref ux26, .ref ux27, .ref ux28, .ref ux29, .ref ux30, .ref ux31])), (ux3, .inr (3, [.ref ux32, .ref ux33, .int 0, .int (-1)])), (ux32, .inr (7, [.ref ux34, .int 0, .int 0, .ref kE, .int 0, .long 0, .int 0])), (ux4, .inl (ux35, 6, .inl (fun _ => 0))), (ux10, .inr (4, [.int 0, .ref ux36, .ref ux37, .ref ux38, .ref ux39, .ref ux40, .ref ux41, .ref ux42, .int 0, .ref ux43, .ref ux44, .ref ux45])), ((wx0 0), .inl (wx1, 1620, .inl (fun _ => 0))), ((wx0 14), .inl (wx4, 6, .inl (fun _ => 0)))]) (w1 := []) hP hD [6, 8, 9] [0, 1, 2, 3, 4, 5, 7, 10] rfl rfl (by decide) (by decide) hk1 hFc ex_P0 ex_D0
  have hP : va_P (dC, dI) vwCl [(ux0, .inl (ux11, 1600, .inl (fun _ => 0))), (ux2, .inr (5, [.int 0, .ref ux22, .ref ux23, .ref ux24, .ref ux25, .int 0, .ref ux26, .ref ux27, .ref ux28, .ref ux29, .ref ux30, .ref ux31])), (ux3, .inr (3, [.ref ux32, .ref ux33, .int 0, .int (-1)])), (ux32, .inr (7, [.ref ux34, .int 0, .int 0, .ref kE, .int 0, .long 0, .int 0])), (ux4, .inl (ux35, 6, .inl (fun _ => 0))), (ux10, .inr (4, [.int 0, .ref ux36, .ref ux37, .ref ux38, .ref ux39, .ref ux40, .ref ux41, .ref ux42, .int 0, .ref ux43, .ref ux44, .ref ux45])), ((wx0 0), .inl (wx1, 1620, .inl (fun _ => 0))), ((wx0 14), .inl (wx4, 6, .inl (fun _ => 0)))] H := hP
  have hD : va_D (fun q : Nat => s.heap.size ≤ q) [(ux0, .inl (ux11, 1600, .inl (fun _ => 0))), (ux2, .inr (5, [.int 0, .ref ux22, .ref ux23, .ref ux24, .ref ux25, .int 0, .ref ux26, .ref ux27, .ref ux28, .ref ux29, .ref ux30, .ref ux31])), (ux3, .inr (3, [.ref ux32, .ref ux33, .int 0, .int (-1)])), (ux32, .inr (7, [.ref ux34, .int 0, .int 0, .ref kE, .int 0, .long 0, .int 0])), (ux4, .inl (ux35, 6, .inl (fun _ => 0))), (ux10, .inr (4, [.int 0, .ref ux36, .ref ux37, .ref ux38, .ref ux39, .ref ux40, .ref ux41, .ref ux42, .int 0, .ref ux43, .ref ux44, .ref ux45])), ((wx0 0), .inl (wx1, 1620, .inl (fun _ => 0))), ((wx0 14), .inl (wx4, 6, .inl (fun _ => 0)))] := hD
  refine W.widen (k := 162) (n := 9883) (by omega) (by omega) ?_
  obtain rfl : r_6 = ((-1) : Int32) := hw
  refine lv_icmp_eq (tgt := 1225) hx hb dL_law_820 (by decide) (fun c_7 => ?_) (fun c_7 => absurd c_7 (by decide))
  refine lv_iinc (v := 6) (lv' := [(3, .int 6), (2, .ref wa), (1, .ref ua), (0, .ref b)]) hx hb dL_law_1225 hl (k := 0) rfl (by decide) (by decide) rfl (fun ls hl => ?_)
  refine lv_goto (tgt := 18) hx hb dL_law_1228 (by decide) ?_
  refine lv_iload_n hx hb dL_law_18 rfl (lv_at hl 0 rfl) ?_
  refine lv_aload_n hx hb dL_law_19 rfl (lv_at hl 3 rfl) ?_
  refine va_slen hx hb hX hbl hbA hS dL_law_20 ?_
  refine lv_bipush (v := 6) hx hb dL_law_21 (by decide) ?_
  refine lv_isub hx hb dL_law_23 ?_
  refine lv_topi (fun z_8 ez_8 => ?_)
  obtain rfl : z_8 = (0 : Int32) := ez_8.trans (by decide)
  refine lv_icmp_gt (tgt := 1231) hx hb dL_law_24 (by decide) (fun c_9 => ?_) (fun c_9 => absurd c_9 (by decide))
  refine lv_iconst (v := 1) hx hb dL_law_1231 (by decide) ?_
  refine va_forget (fun q h => hS.2.2 q h) ?_
  refine W.widen (k := 600000) (n := 7302250) (by omega) (by omega) ?_
  exact lw_ret hx hb hr hlocks dL_law_1232
set_option maxHeartbeats 4000000 in
set_option maxRecDepth 100000 in
theorem law_20 {p : Program} {e : Env} {s : State} {m : MethodId} {below : List Frame} {meth : Method} {c : Code} (l : Launch) {dC : Nat → ClassId} {dI : Nat → Nat → Nat} {kE b : Nat} {xs : Nat → Int32} {ua : Nat} {ux0 : Nat} {ux1 : Nat} {ux2 : Nat} {ux3 : Nat} {ux4 : Nat} {ux5 : Nat} {ux6 : Nat} {ux7 : Nat} {ux8 : Nat} {ux9 : Nat} {ux10 : Nat} {ux12 : Nat} {ux13 : Nat} {ux14 : Nat} {ux15 : Nat} {ux16 : Nat} {ux17 : Nat} {ux18 : Nat} {ux19 : Nat} {ux20 : Nat} {ux21 : Nat} {ux22 : Nat} {ux23 : Nat} {ux24 : Nat} {ux25 : Nat} {ux26 : Nat} {ux27 : Nat} {ux28 : Nat} {ux29 : Nat} {ux30 : Nat} {ux31 : Nat} {ux32 : Nat} {ux33 : Nat} {ux34 : Nat} {ux36 : Nat} {ux37 : Nat} {ux38 : Nat} {ux39 : Nat} {ux40 : Nat} {ux41 : Nat} {ux42 : Nat} {ux43 : Nat} {ux44 : Nat} {ux45 : Nat} {wa : Nat} {wx0 : Nat → Nat} {ux11 ux35 wx1 wx2 wx3 wx4 : ClassId} (C0 : lw_At p s m meth c b 6 xs) (hE : ex_X kE (fun q : Nat => s.heap.size ≤ q) s) (hK : va_K (dC, dI) vwCl [(ux11, .byte), (ux35, .int), (wx1, .byte), (wx2, .int), (wx3, .int), (wx4, .int)] s) {H : Heap} {locs : List Loc} (hP : va_P (dC, dI) vwCl [(ua, .inr (8, [.ref ux0, .int 0, .ref ux1, .ref ux2, .ref ux3, .ref ux4, .int 0, .ref ux5, .ref ux6, .ref ux7, .ref ux8, .ref ux9, .ref ux10, .int 0])), (ux0, .inl (ux11, 1600, .inl (fun _ => 0))), (ux1, .inr (5, [.int 0, .ref ux12, .ref ux13, .ref ux14, .ref ux15, .int 0, .ref ux16, .ref ux17, .ref ux18, .ref ux19, .ref ux20, .ref ux21])), (ux2, .inr (5, [.int 0, .ref ux22, .ref ux23, .ref ux24, .ref ux25, .int 0, .ref ux26, .ref ux27, .ref ux28, .ref ux29, .ref ux30, .ref ux31])), (ux3, .inr (3, [.ref ux32, .ref ux33, .int 0, .int (-1)])), (ux32, .inr (7, [.ref ux34, .int 0, .int 0, .ref kE, .int 0, .long 0, .int 0])), (ux4, .inl (ux35, 6, .inl (fun _ => 0))), (ux10, .inr (4, [.int 0, .ref ux36, .ref ux37, .ref ux38, .ref ux39, .ref ux40, .ref ux41, .ref ux42, .int 0, .ref ux43, .ref ux44, .ref ux45])), (wa, .inr (9, mF wx0 0 0 0 (-1) 0 0 0 0 0 0 0 0 0 0 0 0 0 0 0 0 0 0 0 0 0)), ((wx0 0), .inl (wx1, 1620, .inl (fun _ => 0))), ((wx0 2), .inl (wx2, 2, .inl (fun _ => 0))), ((wx0 3), .inl (wx3, 2, .inl (fun _ => 0))), ((wx0 14), .inl (wx4, 6, .inl (fun _ => 0)))] H) (hD : va_D (fun q : Nat => s.heap.size ≤ q) [(ua, .inr (8, [.ref ux0, .int 0, .ref ux1, .ref ux2, .ref ux3, .ref ux4, .int 0, .ref ux5, .ref ux6, .ref ux7, .ref ux8, .ref ux9, .ref ux10, .int 0])), (ux0, .inl (ux11, 1600, .inl (fun _ => 0))), (ux1, .inr (5, [.int 0, .ref ux12, .ref ux13, .ref ux14, .ref ux15, .int 0, .ref ux16, .ref ux17, .ref ux18, .ref ux19, .ref ux20, .ref ux21])), (ux2, .inr (5, [.int 0, .ref ux22, .ref ux23, .ref ux24, .ref ux25, .int 0, .ref ux26, .ref ux27, .ref ux28, .ref ux29, .ref ux30, .ref ux31])), (ux3, .inr (3, [.ref ux32, .ref ux33, .int 0, .int (-1)])), (ux32, .inr (7, [.ref ux34, .int 0, .int 0, .ref kE, .int 0, .long 0, .int 0])), (ux4, .inl (ux35, 6, .inl (fun _ => 0))), (ux10, .inr (4, [.int 0, .ref ux36, .ref ux37, .ref ux38, .ref ux39, .ref ux40, .ref ux41, .ref ux42, .int 0, .ref ux43, .ref ux44, .ref ux45])), (wa, .inr (9, mF wx0 0 0 0 (-1) 0 0 0 0 0 0 0 0 0 0 0 0 0 0 0 0 0 0 0 0 0)), ((wx0 0), .inl (wx1, 1620, .inl (fun _ => 0))), ((wx0 2), .inl (wx2, 2, .inl (fun _ => 0))), ((wx0 3), .inl (wx3, 2, .inl (fun _ => 0))), ((wx0 14), .inl (wx4, 6, .inl (fun _ => 0)))]) (hS : va_S (fun q : Nat => s.heap.size ≤ q) s.heap H locs) {ls : Array Slot} (hl : lv_has ls 4 [(3, .int 0), (2, .ref wa), (1, .ref ua), (0, .ref b)]) : W p l e room_1 s m #[Value.ref b] below meth c H locs 162 9883 (lw_Z below #[Value.ref b] s) (F0 m 825 ls []) := by
  obtain ⟨hx, hb, hr, hml, hown, hts0, hX, hbl, hlocks, hgv⟩ := C0
  have hts := hts0
  have hown : s.vm.findClass RL = some m.cls := hown
  have hA : ∀ q : Nat, s.heap.size ≤ q → (fun q : Nat => s.heap.size ≤ q) q := fun _ h => h
  have hbA : ¬ (fun q : Nat => s.heap.size ≤ q) b := Nat.not_le.mpr hbl
  refine lv_aload_n hx hb dL_law_825 rfl (lv_at hl 2 rfl) ?_
  refine lv_aload_n hx hb dL_law_826 rfl (lv_at hl 3 rfl) ?_
  refine lv_iload_n hx hb dL_law_827 rfl (lv_at hl 0 rfl) ?_
  refine lv_iconst (v := 1) hx hb dL_law_828 (by decide) ?_
  refine lv_iadd hx hb dL_law_829 ?_
  refine lv_topi (fun z_1 ez_1 => ?_)
  obtain rfl : z_1 = (1 : Int32) := ez_1.trans (by decide)
  refine va_sld hx hb hX hbl hbA hS (by unfold vp_in; decide) dL_law_830 ?_
  have hPc := hP.sub (ws' := [(ua, .inr (8, [.ref ux0, .int 0, .ref ux1, .ref ux2, .ref ux3, .ref ux4, .int 0, .ref ux5, .ref ux6, .ref ux7, .ref ux8, .ref ux9, .ref ux10, .int 0])), (ux1, .inr (5, [.int 0, .ref ux12, .ref ux13, .ref ux14, .ref ux15, .int 0, .ref ux16, .ref ux17, .ref ux18, .ref ux19, .ref ux20, .ref ux21]))]) [0, 2] rfl
  have hDc := hD.sub (ws' := [(ua, .inr (8, [.ref ux0, .int 0, .ref ux1, .ref ux2, .ref ux3, .ref ux4, .int 0, .ref ux5, .ref ux6, .ref ux7, .ref ux8, .ref ux9, .ref ux10, .int 0])), (ux1, .inr (5, [.int 0, .ref ux12, .ref ux13, .ref ux14, .ref ux15, .int 0, .ref ux16, .ref ux17, .ref ux18, .ref ux19, .ref ux20, .ref ux21]))]) [0, 2] (by decide) rfl
  have hKc := hK.sub (tys' := []) [] rfl
  have hFc := va_free (wc := [(ua, .inr (8, [.ref ux0, .int 0, .ref ux1, .ref ux2, .ref ux3, .ref ux4, .int 0, .ref ux5, .ref ux6, .ref ux7, .ref ux8, .ref ux9, .ref ux10, .int 0])), (ux1, .inr (5, [.int 0, .ref ux12, .ref ux13, .ref ux14, .ref ux15, .int 0, .ref ux16, .ref ux17, .ref ux18, .ref ux19, .ref ux20, .ref ux21]))]) hD hS hA [0, 2] rfl
  refine va_calli (va_runV (As := [.int (xs (1 : Int32).toNatClampNeg)]) (rest := []) ⟨hx, hb, hml, hown, hts⟩ (c_X10_rule l dC dI kE ua ux0 ux1 ux2 ux3 ux4 ux5 ux6 ux7 ux8 ux9 ux10 ux12 ux13 ux14 ux15 ux16 ux17 ux18 ux19 ux20 ux21 H.size ((xs (1 : Int32).toNatClampNeg))) (cwV 1 hts gL_law_X10_rule rfl rfl rfl (by decide +kernel) ⟨(Nat.le_of_ble_eq_true rfl), (Nat.le_of_ble_eq_true rfl)⟩) ⟨fun a U g mk q => by obtain ⟨q0, q1, qP, qK, qD, qE⟩ := q; exact ⟨q0, q1, qP, va_K.moved (u := U) (U := U.calling g mk a) (Vm.Alike.refl U.vm) qK, qD, ex_blind qE⟩, va_recv hKc hPc (ci := 8) (q0 := 0) rfl rfl, fun U hU hW => ⟨rfl, by rw [hU], by rw [hU]; exact hPc, va_K.moved hW.alike hKc, hDc.weaken (fun _ _ _ _ => trivial), ex_call hE hS hFc hU hW⟩⟩ rfl rfl hl.1 rfl (lv_room (Nat.le_of_ble_eq_true rfl)) dL_law_831 ⟨(Nat.le_of_ble_eq_true rfl), (Nat.le_of_ble_eq_true rfl)⟩) hS (fun q _ h => hFc q h) hFc (fun r_2 u t H locs ht hvm hw hB hz1 hk1 hS => ?_)
  obtain ⟨hP, hD⟩ := va_join (wr := [(ux0, .inl (ux11, 1600, .inl (fun _ => 0))), (ux2, .inr (5, [.int 0, .ref ux22, .ref ux23, .ref ux24, .ref ux25, .int 0, .ref ux26, .ref ux27, .ref ux28, .ref ux29, .ref ux30, .ref ux31])), (ux3, .inr (3, [.ref ux32, .ref ux33, .int 0, .int (-1)])), (ux32, .inr (7, [.ref ux34, .int 0, .int 0, .ref kE, .int 0, .long 0, .int 0])), (ux4, .inl (ux35, 6, .inl (fun _ => 0))), (ux10, .inr (4, [.int 0, .ref ux36, .ref ux37, .ref ux38, .ref ux39, .ref ux40, .ref ux41, .ref ux42, .int 0, .ref ux43, .ref ux44, .ref ux45])), (wa, .inr (9, mF wx0 0 0 0 (-1) 0 0 0 0 0 0 0 0 0 0 0 0 0 0 0 0 0 0 0 0 0)), ((wx0 0), .inl (wx1, 1620, .inl (fun _ => 0))), ((wx0 2), .inl (wx2, 2, .inl (fun _ => 0))), ((wx0 3), .inl (wx3, 2, .inl (fun _ => 0))), ((wx0 14), .inl (wx4, 6, .inl (fun _ => 0)))]) (w1 := []) hP hD [0, 2] [1, 3, 4, 5, 6, 7, 8, 9, 10, 11, 12] rfl rfl (by decide) (by decide) hk1 hFc ex_P0 ex_D0
  have hP : va_P (dC, dI) vwCl [(ux0, .inl (ux11, 1600, .inl (fun _ => 0))), (ux2, .inr (5, [.int 0, .ref ux22, .ref ux23, .ref ux24, .ref ux25, .int 0, .ref ux26, .ref ux27, .ref ux28, .ref ux29, .ref ux30, .ref ux31])), (ux3, .inr (3, [.ref ux32, .ref ux33, .int 0, .int (-1)])), (ux32, .inr (7, [.ref ux34, .int 0, .int 0, .ref kE, .int 0, .long 0, .int 0])), (ux4, .inl (ux35, 6, .inl (fun _ => 0))), (ux10, .inr (4, [.int 0, .ref ux36, .ref ux37, .ref ux38, .ref ux39, .ref ux40, .ref ux41, .ref ux42, .int 0, .ref ux43, .ref ux44, .ref ux45])), (wa, .inr (9, mF wx0 0 0 0 (-1) 0 0 0 0 0 0 0 0 0 0 0 0 0 0 0 0 0 0 0 0 0)), ((wx0 0), .inl (wx1, 1620, .inl (fun _ => 0))), ((wx0 2), .inl (wx2, 2, .inl (fun _ => 0))), ((wx0 3), .inl (wx3, 2, .inl (fun _ => 0))), ((wx0 14), .inl (wx4, 6, .inl (fun _ => 0)))] H := hP
  have hD : va_D (fun q : Nat => s.heap.size ≤ q) [(ux0, .inl (ux11, 1600, .inl (fun _ => 0))), (ux2, .inr (5, [.int 0, .ref ux22, .ref ux23, .ref ux24, .ref ux25, .int 0, .ref ux26, .ref ux27, .ref ux28, .ref ux29, .ref ux30, .ref ux31])), (ux3, .inr (3, [.ref ux32, .ref ux33, .int 0, .int (-1)])), (ux32, .inr (7, [.ref ux34, .int 0, .int 0, .ref kE, .int 0, .long 0, .int 0])), (ux4, .inl (ux35, 6, .inl (fun _ => 0))), (ux10, .inr (4, [.int 0, .ref ux36, .ref ux37, .ref ux38, .ref ux39, .ref ux40, .ref ux41, .ref ux42, .int 0, .ref ux43, .ref ux44, .ref ux45])), (wa, .inr (9, mF wx0 0 0 0 (-1) 0 0 0 0 0 0 0 0 0 0 0 0 0 0 0 0 0 0 0 0 0)), ((wx0 0), .inl (wx1, 1620, .inl (fun _ => 0))), ((wx0 2), .inl (wx2, 2, .inl (fun _ => 0))), ((wx0 3), .inl (wx3, 2, .inl (fun _ => 0))), ((wx0 14), .inl (wx4, 6, .inl (fun _ => 0)))] := hD
  refine W.widen (k := 162) (n := 9883) (by omega) (by omega) ?_
  rcases hw with ⟨rfl, c_3, c_4⟩ | ⟨rfl, c_5, c_6⟩ | ⟨rfl, c_7, c_8, c_9⟩
  · refine lv_aload_n hx hb dL_law_834 rfl (lv_at hl 1 rfl) ?_
    refine lv_aload_n hx hb dL_law_835 rfl (lv_at hl 3 rfl) ?_
    refine lv_iload_n hx hb dL_law_836 rfl (lv_at hl 0 rfl) ?_
    refine lv_iconst (v := 1) hx hb dL_law_837 (by decide) ?_
    refine lv_iadd hx hb dL_law_838 ?_
    refine lv_topi (fun z_10 ez_10 => ?_)
    obtain rfl : z_10 = (1 : Int32) := ez_10.trans (by decide)
    refine va_sld hx hb hX hbl hbA hS (by unfold vp_in; decide) dL_law_839 ?_
    have hPc := hP.sub (ws' := [(wa, .inr (9, mF wx0 0 0 0 (-1) 0 0 0 0 0 0 0 0 0 0 0 0 0 0 0 0 0 0 0 0 0)), ((wx0 2), .inl (wx2, 2, .inl (fun _ => 0))), ((wx0 3), .inl (wx3, 2, .inl (fun _ => 0)))]) [6, 8, 9] rfl
    have hDc := hD.sub (ws' := [(wa, .inr (9, mF wx0 0 0 0 (-1) 0 0 0 0 0 0 0 0 0 0 0 0 0 0 0 0 0 0 0 0 0)), ((wx0 2), .inl (wx2, 2, .inl (fun _ => 0))), ((wx0 3), .inl (wx3, 2, .inl (fun _ => 0)))]) [6, 8, 9] (by decide) rfl
    have hKc := hK.sub (tys' := [(wx2, .int), (wx3, .int)]) [3, 4] rfl
    have hFc := va_free (wc := [(wa, .inr (9, mF wx0 0 0 0 (-1) 0 0 0 0 0 0 0 0 0 0 0 0 0 0 0 0 0 0 0 0 0)), ((wx0 2), .inl (wx2, 2, .inl (fun _ => 0))), ((wx0 3), .inl (wx3, 2, .inl (fun _ => 0)))]) hD hS hA [6, 8, 9] rfl
    refine va_calli (va_runV (As := [.int (xs (1 : Int32).toNatClampNeg)]) (rest := [.int 0]) ⟨hx, hb, hml, hown, hts⟩ (c_X11_rule l dC dI kE wa wx0 wx2 wx3 H.size ((xs (1 : Int32).toNatClampNeg))) (cwV 1 hts gL_law_X11_rule rfl rfl rfl (by decide +kernel) ⟨(Nat.le_of_ble_eq_true rfl), (Nat.le_of_ble_eq_true rfl)⟩) ⟨fun a U g mk q => by obtain ⟨q0, q1, qP, qK, qD, qE⟩ := q; exact ⟨q0, q1, qP, va_K.moved (u := U) (U := U.calling g mk a) (Vm.Alike.refl U.vm) qK, qD, ex_blind qE⟩, va_recv hKc hPc (ci := 9) (q0 := 0) rfl rfl, fun U hU hW => ⟨rfl, by rw [hU], by rw [hU]; exact hPc, va_K.moved hW.alike hKc, hDc.weaken (fun _ _ _ _ => trivial), ex_call hE hS hFc hU hW⟩⟩ rfl rfl hl.1 rfl (lv_room (Nat.le_of_ble_eq_true rfl)) dL_law_840 ⟨(Nat.le_of_ble_eq_true rfl), (Nat.le_of_ble_eq_true rfl)⟩) hS (fun q _ h => hFc q h) hFc (fun r_11 u t H locs ht hvm hw hB hz1 hk1 hS => ?_)
    obtain ⟨hP, hD⟩ := va_join (wr := [(ux0, .inl (ux11, 1600, .inl (fun _ => 0))), (ux2, .inr (5, [.int 0, .ref ux22, .ref ux23, .ref ux24, .ref ux25, .int 0, .ref ux26, .ref ux27, .ref ux28, .ref ux29, .ref ux30, .ref ux31])), (ux3, .inr (3, [.ref ux32, .ref ux33, .int 0, .int (-1)])), (ux32, .inr (7, [.ref ux34, .int 0, .int 0, .ref kE, .int 0, .long 0, .int 0])), (ux4, .inl (ux35, 6, .inl (fun _ => 0))), (ux10, .inr (4, [.int 0, .ref ux36, .ref ux37, .ref ux38, .ref ux39, .ref ux40, .ref ux41, .ref ux42, .int 0, .ref ux43, .ref ux44, .ref ux45])), ((wx0 0), .inl (wx1, 1620, .inl (fun _ => 0))), ((wx0 14), .inl (wx4, 6, .inl (fun _ => 0)))]) (w1 := []) hP hD [6, 8, 9] [0, 1, 2, 3, 4, 5, 7, 10] rfl rfl (by decide) (by decide) hk1 hFc ex_P0 ex_D0
    have hP : va_P (dC, dI) vwCl [(ux0, .inl (ux11, 1600, .inl (fun _ => 0))), (ux2, .inr (5, [.int 0, .ref ux22, .ref ux23, .ref ux24, .ref ux25, .int 0, .ref ux26, .ref ux27, .ref ux28, .ref ux29, .ref ux30, .ref ux31])), (ux3, .inr (3, [.ref ux32, .ref ux33, .int 0, .int (-1)])), (ux32, .inr (7, [.ref ux34, .int 0, .int 0, .ref kE, .int 0, .long 0, .int 0])), (ux4, .inl (ux35, 6, .inl (fun _ => 0))), (ux10, .inr (4, [.int 0, .ref ux36, .ref ux37, .ref ux38, .ref ux39, .ref ux40, .ref ux41, .ref ux42, .int 0, .ref ux43, .ref ux44, .ref ux45])), ((wx0 0), .inl (wx1, 1620, .inl (fun _ => 0))), ((wx0 14), .inl (wx4, 6, .inl (fun _ => 0)))] H := hP
    have hD : va_D (fun q : Nat => s.heap.size ≤ q) [(ux0, .inl (ux11, 1600, .inl (fun _ => 0))), (ux2, .inr (5, [.int 0, .ref ux22, .ref ux23, .ref ux24, .ref ux25, .int 0, .ref ux26, .ref ux27, .ref ux28, .ref ux29, .ref ux30, .ref ux31])), (ux3, .inr (3, [.ref ux32, .ref ux33, .int 0, .int (-1)])), (ux32, .inr (7, [.ref ux34, .int 0, .int 0, .ref kE, .int 0, .long 0, .int 0])), (ux4, .inl (ux35, 6, .inl (fun _ => 0))), (ux10, .inr (4, [.int 0, .ref ux36, .ref ux37, .ref ux38, .ref ux39, .ref ux40, .ref ux41, .ref ux42, .int 0, .ref ux43, .ref ux44, .ref ux45])), ((wx0 0), .inl (wx1, 1620, .inl (fun _ => 0))), ((wx0 14), .inl (wx4, 6, .inl (fun _ => 0)))] := hD
    refine W.widen (k := 162) (n := 9883) (by omega) (by omega) ?_
    rcases hw with ⟨rfl, c_12⟩ | ⟨rfl, c_13, c_14⟩ | ⟨rfl, c_15, c_16, c_17⟩ | ⟨rfl, c_18, c_19, c_20⟩
    · exact False.elim (by simp only [x_lt, x_le, x_eq, tI_0] at c_3 c_4 c_12; omega)
    · exact False.elim (by simp only [x_lt, x_le, x_eq, tI_0, tI_1] at c_3 c_4 c_13 c_14; omega)
    · exact False.elim (c_17 c_4)
    · refine lv_icmp_eq (tgt := 1225) hx hb dL_law_843 (by decide) (fun c_21 => ?_) (fun c_21 => absurd c_21 (by decide))
      refine lv_iinc (v := 6) (lv' := [(3, .int 6), (2, .ref wa), (1, .ref ua), (0, .ref b)]) hx hb dL_law_1225 hl (k := 0) rfl (by decide) (by decide) rfl (fun ls hl => ?_)
      refine lv_goto (tgt := 18) hx hb dL_law_1228 (by decide) ?_
      refine lv_iload_n hx hb dL_law_18 rfl (lv_at hl 0 rfl) ?_
      refine lv_aload_n hx hb dL_law_19 rfl (lv_at hl 3 rfl) ?_
      refine va_slen hx hb hX hbl hbA hS dL_law_20 ?_
      refine lv_bipush (v := 6) hx hb dL_law_21 (by decide) ?_
      refine lv_isub hx hb dL_law_23 ?_
      refine lv_topi (fun z_22 ez_22 => ?_)
      obtain rfl : z_22 = (0 : Int32) := ez_22.trans (by decide)
      refine lv_icmp_gt (tgt := 1231) hx hb dL_law_24 (by decide) (fun c_23 => ?_) (fun c_23 => absurd c_23 (by decide))
      refine lv_iconst (v := 1) hx hb dL_law_1231 (by decide) ?_
      refine va_forget (fun q h => hS.2.2 q h) ?_
      refine W.widen (k := 600000) (n := 7302250) (by omega) (by omega) ?_
      exact lw_ret hx hb hr hlocks dL_law_1232
  · refine lv_aload_n hx hb dL_law_834 rfl (lv_at hl 1 rfl) ?_
    refine lv_aload_n hx hb dL_law_835 rfl (lv_at hl 3 rfl) ?_
    refine lv_iload_n hx hb dL_law_836 rfl (lv_at hl 0 rfl) ?_
    refine lv_iconst (v := 1) hx hb dL_law_837 (by decide) ?_
    refine lv_iadd hx hb dL_law_838 ?_
    refine lv_topi (fun z_24 ez_24 => ?_)
    obtain rfl : z_24 = (1 : Int32) := ez_24.trans (by decide)
    refine va_sld hx hb hX hbl hbA hS (by unfold vp_in; decide) dL_law_839 ?_
    have hPc := hP.sub (ws' := [(wa, .inr (9, mF wx0 0 0 0 (-1) 0 0 0 0 0 0 0 0 0 0 0 0 0 0 0 0 0 0 0 0 0)), ((wx0 2), .inl (wx2, 2, .inl (fun _ => 0))), ((wx0 3), .inl (wx3, 2, .inl (fun _ => 0)))]) [6, 8, 9] rfl
    have hDc := hD.sub (ws' := [(wa, .inr (9, mF wx0 0 0 0 (-1) 0 0 0 0 0 0 0 0 0 0 0 0 0 0 0 0 0 0 0 0 0)), ((wx0 2), .inl (wx2, 2, .inl (fun _ => 0))), ((wx0 3), .inl (wx3, 2, .inl (fun _ => 0)))]) [6, 8, 9] (by decide) rfl
    have hKc := hK.sub (tys' := [(wx2, .int), (wx3, .int)]) [3, 4] rfl
    have hFc := va_free (wc := [(wa, .inr (9, mF wx0 0 0 0 (-1) 0 0 0 0 0 0 0 0 0 0 0 0 0 0 0 0 0 0 0 0 0)), ((wx0 2), .inl (wx2, 2, .inl (fun _ => 0))), ((wx0 3), .inl (wx3, 2, .inl (fun _ => 0)))]) hD hS hA [6, 8, 9] rfl
    refine va_calli (va_runV (As := [.int (xs (1 : Int32).toNatClampNeg)]) (rest := [.int (-1)]) ⟨hx, hb, hml, hown, hts⟩ (c_X11_rule l dC dI kE wa wx0 wx2 wx3 H.size ((xs (1 : Int32).toNatClampNeg))) (cwV 1 hts gL_law_X11_rule rfl rfl rfl (by decide +kernel) ⟨(Nat.le_of_ble_eq_true rfl), (Nat.le_of_ble_eq_true rfl)⟩) ⟨fun a U g mk q => by obtain ⟨q0, q1, qP, qK, qD, qE⟩ := q; exact ⟨q0, q1, qP, va_K.moved (u := U) (U := U.calling g mk a) (Vm.Alike.refl U.vm) qK, qD, ex_blind qE⟩, va_recv hKc hPc (ci := 9) (q0 := 0) rfl rfl, fun U hU hW => ⟨rfl, by rw [hU], by rw [hU]; exact hPc, va_K.moved hW.alike hKc, hDc.weaken (fun _ _ _ _ => trivial), ex_call hE hS hFc hU hW⟩⟩ rfl rfl hl.1 rfl (lv_room (Nat.le_of_ble_eq_true rfl)) dL_law_840 ⟨(Nat.le_of_ble_eq_true rfl), (Nat.le_of_ble_eq_true rfl)⟩) hS (fun q _ h => hFc q h) hFc (fun r_25 u t H locs ht hvm hw hB hz1 hk1 hS => ?_)
    obtain ⟨hP, hD⟩ := va_join (wr := [(ux0, .inl (ux11, 1600, .inl (fun _ => 0))), (ux2, .inr (5, [.int 0, .ref ux22, .ref ux23, .ref ux24, .ref ux25, .int 0, .ref ux26, .ref ux27, .ref ux28, .ref ux29, .ref ux30, .ref ux31])), (ux3, .inr (3, [.ref ux32, .ref ux33, .int 0, .int (-1)])), (ux32, .inr (7, [.ref ux34, .int 0, .int 0, .ref kE, .int 0, .long 0, .int 0])), (ux4, .inl (ux35, 6, .inl (fun _ => 0))), (ux10, .inr (4, [.int 0, .ref ux36, .ref ux37, .ref ux38, .ref ux39, .ref ux40, .ref ux41, .ref ux42, .int 0, .ref ux43, .ref ux44, .ref ux45])), ((wx0 0), .inl (wx1, 1620, .inl (fun _ => 0))), ((wx0 14), .inl (wx4, 6, .inl (fun _ => 0)))]) (w1 := []) hP hD [6, 8, 9] [0, 1, 2, 3, 4, 5, 7, 10] rfl rfl (by decide) (by decide) hk1 hFc ex_P0 ex_D0
    have hP : va_P (dC, dI) vwCl [(ux0, .inl (ux11, 1600, .inl (fun _ => 0))), (ux2, .inr (5, [.int 0, .ref ux22, .ref ux23, .ref ux24, .ref ux25, .int 0, .ref ux26, .ref ux27, .ref ux28, .ref ux29, .ref ux30, .ref ux31])), (ux3, .inr (3, [.ref ux32, .ref ux33, .int 0, .int (-1)])), (ux32, .inr (7, [.ref ux34, .int 0, .int 0, .ref kE, .int 0, .long 0, .int 0])), (ux4, .inl (ux35, 6, .inl (fun _ => 0))), (ux10, .inr (4, [.int 0, .ref ux36, .ref ux37, .ref ux38, .ref ux39, .ref ux40, .ref ux41, .ref ux42, .int 0, .ref ux43, .ref ux44, .ref ux45])), ((wx0 0), .inl (wx1, 1620, .inl (fun _ => 0))), ((wx0 14), .inl (wx4, 6, .inl (fun _ => 0)))] H := hP
    have hD : va_D (fun q : Nat => s.heap.size ≤ q) [(ux0, .inl (ux11, 1600, .inl (fun _ => 0))), (ux2, .inr (5, [.int 0, .ref ux22, .ref ux23, .ref ux24, .ref ux25, .int 0, .ref ux26, .ref ux27, .ref ux28, .ref ux29, .ref ux30, .ref ux31])), (ux3, .inr (3, [.ref ux32, .ref ux33, .int 0, .int (-1)])), (ux32, .inr (7, [.ref ux34, .int 0, .int 0, .ref kE, .int 0, .long 0, .int 0])), (ux4, .inl (ux35, 6, .inl (fun _ => 0))), (ux10, .inr (4, [.int 0, .ref ux36, .ref ux37, .ref ux38, .ref ux39, .ref ux40, .ref ux41, .ref ux42, .int 0, .ref ux43, .ref ux44, .ref ux45])), ((wx0 0), .inl (wx1, 1620, .inl (fun _ => 0))), ((wx0 14), .inl (wx4, 6, .inl (fun _ => 0)))] := hD
    refine W.widen (k := 162) (n := 9883) (by omega) (by omega) ?_
    rcases hw with ⟨rfl, c_26⟩ | ⟨rfl, c_27, c_28⟩ | ⟨rfl, c_29, c_30, c_31⟩ | ⟨rfl, c_32, c_33, c_34⟩
    · refine lv_icmp_eq (tgt := 1225) hx hb dL_law_843 (by decide) (fun c_35 => ?_) (fun c_35 => absurd c_35 (by decide))
      refine lv_iinc (v := 6) (lv' := [(3, .int 6), (2, .ref wa), (1, .ref ua), (0, .ref b)]) hx hb dL_law_1225 hl (k := 0) rfl (by decide) (by decide) rfl (fun ls hl => ?_)
      refine lv_goto (tgt := 18) hx hb dL_law_1228 (by decide) ?_
      refine lv_iload_n hx hb dL_law_18 rfl (lv_at hl 0 rfl) ?_
      refine lv_aload_n hx hb dL_law_19 rfl (lv_at hl 3 rfl) ?_
      refine va_slen hx hb hX hbl hbA hS dL_law_20 ?_
      refine lv_bipush (v := 6) hx hb dL_law_21 (by decide) ?_
      refine lv_isub hx hb dL_law_23 ?_
      refine lv_topi (fun z_36 ez_36 => ?_)
      obtain rfl : z_36 = (0 : Int32) := ez_36.trans (by decide)
      refine lv_icmp_gt (tgt := 1231) hx hb dL_law_24 (by decide) (fun c_37 => ?_) (fun c_37 => absurd c_37 (by decide))
      refine lv_iconst (v := 1) hx hb dL_law_1231 (by decide) ?_
      refine va_forget (fun q h => hS.2.2 q h) ?_
      refine W.widen (k := 600000) (n := 7302250) (by omega) (by omega) ?_
      exact lw_ret hx hb hr hlocks dL_law_1232
    · refine lv_icmp_eq (tgt := 1225) hx hb dL_law_843 (by decide) (fun c_38 => ?_) (fun c_38 => absurd c_38 (by decide))
      refine lv_iinc (v := 6) (lv' := [(3, .int 6), (2, .ref wa), (1, .ref ua), (0, .ref b)]) hx hb dL_law_1225 hl (k := 0) rfl (by decide) (by decide) rfl (fun ls hl => ?_)
      refine lv_goto (tgt := 18) hx hb dL_law_1228 (by decide) ?_
      refine lv_iload_n hx hb dL_law_18 rfl (lv_at hl 0 rfl) ?_
      refine lv_aload_n hx hb dL_law_19 rfl (lv_at hl 3 rfl) ?_
      refine va_slen hx hb hX hbl hbA hS dL_law_20 ?_
      refine lv_bipush (v := 6) hx hb dL_law_21 (by decide) ?_
      refine lv_isub hx hb dL_law_23 ?_
      refine lv_topi (fun z_39 ez_39 => ?_)
      obtain rfl : z_39 = (0 : Int32) := ez_39.trans (by decide)
      refine lv_icmp_gt (tgt := 1231) hx hb dL_law_24 (by decide) (fun c_40 => ?_) (fun c_40 => absurd c_40 (by decide))
      refine lv_iconst (v := 1) hx hb dL_law_1231 (by decide) ?_
      refine va_forget (fun q h => hS.2.2 q h) ?_
      refine W.widen (k := 600000) (n := 7302250) (by omega) (by omega) ?_
      exact lw_ret hx hb hr hlocks dL_law_1232
    · exact False.elim (by simp only [x_lt, x_le, x_eq, tI_0, tI_1] at c_5 c_6 c_29 c_30 c_31; omega)
    · exact False.elim (c_5 c_34)
  · refine lv_aload_n hx hb dL_law_834 rfl (lv_at hl 1 rfl) ?_
    refine lv_aload_n hx hb dL_law_835 rfl (lv_at hl 3 rfl) ?_
    refine lv_iload_n hx hb dL_law_836 rfl (lv_at hl 0 rfl) ?_
    refine lv_iconst (v := 1) hx hb dL_law_837 (by decide) ?_
    refine lv_iadd hx hb dL_law_838 ?_
    refine lv_topi (fun z_41 ez_41 => ?_)
    obtain rfl : z_41 = (1 : Int32) := ez_41.trans (by decide)
    refine va_sld hx hb hX hbl hbA hS (by unfold vp_in; decide) dL_law_839 ?_
    have hPc := hP.sub (ws' := [(wa, .inr (9, mF wx0 0 0 0 (-1) 0 0 0 0 0 0 0 0 0 0 0 0 0 0 0 0 0 0 0 0 0)), ((wx0 2), .inl (wx2, 2, .inl (fun _ => 0))), ((wx0 3), .inl (wx3, 2, .inl (fun _ => 0)))]) [6, 8, 9] rfl
    have hDc := hD.sub (ws' := [(wa, .inr (9, mF wx0 0 0 0 (-1) 0 0 0 0 0 0 0 0 0 0 0 0 0 0 0 0 0 0 0 0 0)), ((wx0 2), .inl (wx2, 2, .inl (fun _ => 0))), ((wx0 3), .inl (wx3, 2, .inl (fun _ => 0)))]) [6, 8, 9] (by decide) rfl
    have hKc := hK.sub (tys' := [(wx2, .int), (wx3, .int)]) [3, 4] rfl
    have hFc := va_free (wc := [(wa, .inr (9, mF wx0 0 0 0 (-1) 0 0 0 0 0 0 0 0 0 0 0 0 0 0 0 0 0 0 0 0 0)), ((wx0 2), .inl (wx2, 2, .inl (fun _ => 0))), ((wx0 3), .inl (wx3, 2, .inl (fun _ => 0)))]) hD hS hA [6, 8, 9] rfl
    refine va_calli (va_runV (As := [.int (xs (1 : Int32).toNatClampNeg)]) (rest := [.int 0]) ⟨hx, hb, hml, hown, hts⟩ (c_X11_rule l dC dI kE wa wx0 wx2 wx3 H.size ((xs (1 : Int32).toNatClampNeg))) (cwV 1 hts gL_law_X11_rule rfl rfl rfl (by decide +kernel) ⟨(Nat.le_of_ble_eq_true rfl), (Nat.le_of_ble_eq_true rfl)⟩) ⟨fun a U g mk q => by obtain ⟨q0, q1, qP, qK, qD, qE⟩ := q; exact ⟨q0, q1, qP, va_K.moved (u := U) (U := U.calling g mk a) (Vm.Alike.refl U.vm) qK, qD, ex_blind qE⟩, va_recv hKc hPc (ci := 9) (q0 := 0) rfl rfl, fun U hU hW => ⟨rfl, by rw [hU], by rw [hU]; exact hPc, va_K.moved hW.alike hKc, hDc.weaken (fun _ _ _ _ => trivial), ex_call hE hS hFc hU hW⟩⟩ rfl rfl hl.1 rfl (lv_room (Nat.le_of_ble_eq_true rfl)) dL_law_840 ⟨(Nat.le_of_ble_eq_true rfl), (Nat.le_of_ble_eq_true rfl)⟩) hS (fun q _ h => hFc q h) hFc (fun r_42 u t H locs ht hvm hw hB hz1 hk1 hS => ?_)
    obtain ⟨hP, hD⟩ := va_join (wr := [(ux0, .inl (ux11, 1600, .inl (fun _ => 0))), (ux2, .inr (5, [.int 0, .ref ux22, .ref ux23, .ref ux24, .ref ux25, .int 0, .ref ux26, .ref ux27, .ref ux28, .ref ux29, .ref ux30, .ref ux31])), (ux3, .inr (3, [.ref ux32, .ref ux33, .int 0, .int (-1)])), (ux32, .inr (7, [.ref ux34, .int 0, .int 0, .ref kE, .int 0, .long 0, .int 0])), (ux4, .inl (ux35, 6, .inl (fun _ => 0))), (ux10, .inr (4, [.int 0, .ref ux36, .ref ux37, .ref ux38, .ref ux39, .ref ux40, .ref ux41, .ref ux42, .int 0, .ref ux43, .ref ux44, .ref ux45])), ((wx0 0), .inl (wx1, 1620, .inl (fun _ => 0))), ((wx0 14), .inl (wx4, 6, .inl (fun _ => 0)))]) (w1 := []) hP hD [6, 8, 9] [0, 1, 2, 3, 4, 5, 7, 10] rfl rfl (by decide) (by decide) hk1 hFc ex_P0 ex_D0
    have hP : va_P (dC, dI) vwCl [(ux0, .inl (ux11, 1600, .inl (fun _ => 0))), (ux2, .inr (5, [.int 0, .ref ux22, .ref ux23, .ref ux24, .ref ux25, .int 0, .ref ux26, .ref ux27, .ref ux28, .ref ux29, .ref ux30, .ref ux31])), (ux3, .inr (3, [.ref ux32, .ref ux33, .int 0, .int (-1)])), (ux32, .inr (7, [.ref ux34, .int 0, .int 0, .ref kE, .int 0, .long 0, .int 0])), (ux4, .inl (ux35, 6, .inl (fun _ => 0))), (ux10, .inr (4, [.int 0, .ref ux36, .ref ux37, .ref ux38, .ref ux39, .ref ux40, .ref ux41, .ref ux42, .int 0, .ref ux43, .ref ux44, .ref ux45])), ((wx0 0), .inl (wx1, 1620, .inl (fun _ => 0))), ((wx0 14), .inl (wx4, 6, .inl (fun _ => 0)))] H := hP
    have hD : va_D (fun q : Nat => s.heap.size ≤ q) [(ux0, .inl (ux11, 1600, .inl (fun _ => 0))), (ux2, .inr (5, [.int 0, .ref ux22, .ref ux23, .ref ux24, .ref ux25, .int 0, .ref ux26, .ref ux27, .ref ux28, .ref ux29, .ref ux30, .ref ux31])), (ux3, .inr (3, [.ref ux32, .ref ux33, .int 0, .int (-1)])), (ux32, .inr (7, [.ref ux34, .int 0, .int 0, .ref kE, .int 0, .long 0, .int 0])), (ux4, .inl (ux35, 6, .inl (fun _ => 0))), (ux10, .inr (4, [.int 0, .ref ux36, .ref ux37, .ref ux38, .ref ux39, .ref ux40, .ref ux41, .ref ux42, .int 0, .ref ux43, .ref ux44, .ref ux45])), ((wx0 0), .inl (wx1, 1620, .inl (fun _ => 0))), ((wx0 14), .inl (wx4, 6, .inl (fun _ => 0)))] := hD
    refine W.widen (k := 162) (n := 9883) (by omega) (by omega) ?_
    rcases hw with ⟨rfl, c_43⟩ | ⟨rfl, c_44, c_45⟩ | ⟨rfl, c_46, c_47, c_48⟩ | ⟨rfl, c_49, c_50, c_51⟩
    · exact False.elim (by simp only [x_lt, x_le, x_eq, tI_0, tI_1] at c_7 c_8 c_9 c_43; omega)
    · exact False.elim (by simp only [x_lt, x_le, x_eq, tI_0, tI_1] at c_7 c_8 c_9 c_44 c_45; omega)
    · refine lv_icmp_eq (tgt := 1225) hx hb dL_law_843 (by decide) (fun c_52 => ?_) (fun c_52 => absurd c_52 (by decide))
      refine lv_iinc (v := 6) (lv' := [(3, .int 6), (2, .ref wa), (1, .ref ua), (0, .ref b)]) hx hb dL_law_1225 hl (k := 0) rfl (by decide) (by decide) rfl (fun ls hl => ?_)
      refine lv_goto (tgt := 18) hx hb dL_law_1228 (by decide) ?_
      refine lv_iload_n hx hb dL_law_18 rfl (lv_at hl 0 rfl) ?_
      refine lv_aload_n hx hb dL_law_19 rfl (lv_at hl 3 rfl) ?_
      refine va_slen hx hb hX hbl hbA hS dL_law_20 ?_
      refine lv_bipush (v := 6) hx hb dL_law_21 (by decide) ?_
      refine lv_isub hx hb dL_law_23 ?_
      refine lv_topi (fun z_53 ez_53 => ?_)
      obtain rfl : z_53 = (0 : Int32) := ez_53.trans (by decide)
      refine lv_icmp_gt (tgt := 1231) hx hb dL_law_24 (by decide) (fun c_54 => ?_) (fun c_54 => absurd c_54 (by decide))
      refine lv_iconst (v := 1) hx hb dL_law_1231 (by decide) ?_
      refine va_forget (fun q h => hS.2.2 q h) ?_
      refine W.widen (k := 600000) (n := 7302250) (by omega) (by omega) ?_
      exact lw_ret hx hb hr hlocks dL_law_1232
    · exact False.elim (c_9 c_51)
set_option maxHeartbeats 4000000 in
set_option maxRecDepth 100000 in
theorem law_21 {p : Program} {e : Env} {s : State} {m : MethodId} {below : List Frame} {meth : Method} {c : Code} (l : Launch) {dC : Nat → ClassId} {dI : Nat → Nat → Nat} {kE b : Nat} {xs : Nat → Int32} {ua : Nat} {ux0 : Nat} {ux1 : Nat} {ux2 : Nat} {ux3 : Nat} {ux4 : Nat} {ux5 : Nat} {ux6 : Nat} {ux7 : Nat} {ux8 : Nat} {ux9 : Nat} {ux10 : Nat} {ux12 : Nat} {ux13 : Nat} {ux14 : Nat} {ux15 : Nat} {ux16 : Nat} {ux17 : Nat} {ux18 : Nat} {ux19 : Nat} {ux20 : Nat} {ux21 : Nat} {ux22 : Nat} {ux23 : Nat} {ux24 : Nat} {ux25 : Nat} {ux26 : Nat} {ux27 : Nat} {ux28 : Nat} {ux29 : Nat} {ux30 : Nat} {ux31 : Nat} {ux32 : Nat} {ux33 : Nat} {ux34 : Nat} {ux36 : Nat} {ux37 : Nat} {ux38 : Nat} {ux39 : Nat} {ux40 : Nat} {ux41 : Nat} {ux42 : Nat} {ux43 : Nat} {ux44 : Nat} {ux45 : Nat} {wa : Nat} {wx0 : Nat → Nat} {ux11 ux35 wx1 wx2 wx3 wx4 : ClassId} (C0 : lw_At p s m meth c b 6 xs) (hE : ex_X kE (fun q : Nat => s.heap.size ≤ q) s) (hK : va_K (dC, dI) vwCl [(ux11, .byte), (ux35, .int), (wx1, .byte), (wx2, .int), (wx3, .int), (wx4, .int)] s) {H : Heap} {locs : List Loc} (hP : va_P (dC, dI) vwCl [(ua, .inr (8, [.ref ux0, .int 0, .ref ux1, .ref ux2, .ref ux3, .ref ux4, .int 0, .ref ux5, .ref ux6, .ref ux7, .ref ux8, .ref ux9, .ref ux10, .int 0])), (ux0, .inl (ux11, 1600, .inl (fun _ => 0))), (ux1, .inr (5, [.int 0, .ref ux12, .ref ux13, .ref ux14, .ref ux15, .int 0, .ref ux16, .ref ux17, .ref ux18, .ref ux19, .ref ux20, .ref ux21])), (ux2, .inr (5, [.int 0, .ref ux22, .ref ux23, .ref ux24, .ref ux25, .int 0, .ref ux26, .ref ux27, .ref ux28, .ref ux29, .ref ux30, .ref ux31])), (ux3, .inr (3, [.ref ux32, .ref ux33, .int 0, .int (-1)])), (ux32, .inr (7, [.ref ux34, .int 0, .int 0, .ref kE, .int 0, .long 0, .int 0])), (ux4, .inl (ux35, 6, .inl (fun _ => 0))), (ux10, .inr (4, [.int 0, .ref ux36, .ref ux37, .ref ux38, .ref ux39, .ref ux40, .ref ux41, .ref ux42, .int 0, .ref ux43, .ref ux44, .ref ux45])), (wa, .inr (9, mF wx0 0 0 0 (-1) 0 0 0 0 0 0 0 0 0 0 0 0 0 0 0 0 0 0 0 0 0)), ((wx0 0), .inl (wx1, 1620, .inl (fun _ => 0))), ((wx0 2), .inl (wx2, 2, .inl (fun _ => 0))), ((wx0 3), .inl (wx3, 2, .inl (fun _ => 0))), ((wx0 14), .inl (wx4, 6, .inl (fun _ => 0)))] H) (hD : va_D (fun q : Nat => s.heap.size ≤ q) [(ua, .inr (8, [.ref ux0, .int 0, .ref ux1, .ref ux2, .ref ux3, .ref ux4, .int 0, .ref ux5, .ref ux6, .ref ux7, .ref ux8, .ref ux9, .ref ux10, .int 0])), (ux0, .inl (ux11, 1600, .inl (fun _ => 0))), (ux1, .inr (5, [.int 0, .ref ux12, .ref ux13, .ref ux14, .ref ux15, .int 0, .ref ux16, .ref ux17, .ref ux18, .ref ux19, .ref ux20, .ref ux21])), (ux2, .inr (5, [.int 0, .ref ux22, .ref ux23, .ref ux24, .ref ux25, .int 0, .ref ux26, .ref ux27, .ref ux28, .ref ux29, .ref ux30, .ref ux31])), (ux3, .inr (3, [.ref ux32, .ref ux33, .int 0, .int (-1)])), (ux32, .inr (7, [.ref ux34, .int 0, .int 0, .ref kE, .int 0, .long 0, .int 0])), (ux4, .inl (ux35, 6, .inl (fun _ => 0))), (ux10, .inr (4, [.int 0, .ref ux36, .ref ux37, .ref ux38, .ref ux39, .ref ux40, .ref ux41, .ref ux42, .int 0, .ref ux43, .ref ux44, .ref ux45])), (wa, .inr (9, mF wx0 0 0 0 (-1) 0 0 0 0 0 0 0 0 0 0 0 0 0 0 0 0 0 0 0 0 0)), ((wx0 0), .inl (wx1, 1620, .inl (fun _ => 0))), ((wx0 2), .inl (wx2, 2, .inl (fun _ => 0))), ((wx0 3), .inl (wx3, 2, .inl (fun _ => 0))), ((wx0 14), .inl (wx4, 6, .inl (fun _ => 0)))]) (hS : va_S (fun q : Nat => s.heap.size ≤ q) s.heap H locs) {ls : Array Slot} (hl : lv_has ls 4 [(3, .int 0), (2, .ref wa), (1, .ref ua), (0, .ref b)]) : W p l e room_1 s m #[Value.ref b] below meth c H locs 162 9883 (lw_Z below #[Value.ref b] s) (F0 m 848 ls []) := by
  obtain ⟨hx, hb, hr, hml, hown, hts0, hX, hbl, hlocks, hgv⟩ := C0
  have hts := hts0
  have hown : s.vm.findClass RL = some m.cls := hown
  have hA : ∀ q : Nat, s.heap.size ≤ q → (fun q : Nat => s.heap.size ≤ q) q := fun _ h => h
  have hbA : ¬ (fun q : Nat => s.heap.size ≤ q) b := Nat.not_le.mpr hbl
  refine lv_aload_n hx hb dL_law_848 rfl (lv_at hl 2 rfl) ?_
  refine lv_aload_n hx hb dL_law_849 rfl (lv_at hl 3 rfl) ?_
  refine lv_iload_n hx hb dL_law_850 rfl (lv_at hl 0 rfl) ?_
  refine lv_iconst (v := 1) hx hb dL_law_851 (by decide) ?_
  refine lv_iadd hx hb dL_law_852 ?_
  refine lv_topi (fun z_1 ez_1 => ?_)
  obtain rfl : z_1 = (1 : Int32) := ez_1.trans (by decide)
  refine va_sld hx hb hX hbl hbA hS (by unfold vp_in; decide) dL_law_853 ?_
  refine lv_aload_n hx hb dL_law_854 rfl (lv_at hl 3 rfl) ?_
  refine lv_iload_n hx hb dL_law_855 rfl (lv_at hl 0 rfl) ?_
  refine lv_iconst (v := 2) hx hb dL_law_856 (by decide) ?_
  refine lv_iadd hx hb dL_law_857 ?_
  refine lv_topi (fun z_2 ez_2 => ?_)
  obtain rfl : z_2 = (2 : Int32) := ez_2.trans (by decide)
  refine va_sld hx hb hX hbl hbA hS (by unfold vp_in; decide) dL_law_858 ?_
  have hPc := hP.sub (ws' := [(ua, .inr (8, [.ref ux0, .int 0, .ref ux1, .ref ux2, .ref ux3, .ref ux4, .int 0, .ref ux5, .ref ux6, .ref ux7, .ref ux8, .ref ux9, .ref ux10, .int 0])), (ux1, .inr (5, [.int 0, .ref ux12, .ref ux13, .ref ux14, .ref ux15, .int 0, .ref ux16, .ref ux17, .ref ux18, .ref ux19, .ref ux20, .ref ux21]))]) [0, 2] rfl
  have hDc := hD.sub (ws' := [(ua, .inr (8, [.ref ux0, .int 0, .ref ux1, .ref ux2, .ref ux3, .ref ux4, .int 0, .ref ux5, .ref ux6, .ref ux7, .ref ux8, .ref ux9, .ref ux10, .int 0])), (ux1, .inr (5, [.int 0, .ref ux12, .ref ux13, .ref ux14, .ref ux15, .int 0, .ref ux16, .ref ux17, .ref ux18, .ref ux19, .ref ux20, .ref ux21]))]) [0, 2] (by decide) rfl
  have hKc := hK.sub (tys' := []) [] rfl
  have hFc := va_free (wc := [(ua, .inr (8, [.ref ux0, .int 0, .ref ux1, .ref ux2, .ref ux3, .ref ux4, .int 0, .ref ux5, .ref ux6, .ref ux7, .ref ux8, .ref ux9, .ref ux10, .int 0])), (ux1, .inr (5, [.int 0, .ref ux12, .ref ux13, .ref ux14, .ref ux15, .int 0, .ref ux16, .ref ux17, .ref ux18, .ref ux19, .ref ux20, .ref ux21]))]) hD hS hA [0, 2] rfl
  refine va_calli (va_runV (As := [.int (xs (1 : Int32).toNatClampNeg), .int (xs (2 : Int32).toNatClampNeg)]) (rest := []) ⟨hx, hb, hml, hown, hts⟩ (c_X10_elsewhere l dC dI kE ua ux0 ux1 ux2 ux3 ux4 ux5 ux6 ux7 ux8 ux9 ux10 ux12 ux13 ux14 ux15 ux16 ux17 ux18 ux19 ux20 ux21 H.size ((xs (1 : Int32).toNatClampNeg)) ((xs (2 : Int32).toNatClampNeg))) (cwV 2 hts gL_law_X10_elsewhere rfl rfl rfl (by decide +kernel) ⟨(Nat.le_of_ble_eq_true rfl), (Nat.le_of_ble_eq_true rfl)⟩) ⟨fun a U g mk q => by obtain ⟨q0, q1, qP, qK, qD, qE⟩ := q; exact ⟨q0, q1, qP, va_K.moved (u := U) (U := U.calling g mk a) (Vm.Alike.refl U.vm) qK, qD, ex_blind qE⟩, va_recv hKc hPc (ci := 8) (q0 := 0) rfl rfl, fun U hU hW => ⟨rfl, by rw [hU], by rw [hU]; exact hPc, va_K.moved hW.alike hKc, hDc.weaken (fun _ _ _ _ => trivial), ex_call hE hS hFc hU hW⟩⟩ rfl rfl hl.1 rfl (lv_room (Nat.le_of_ble_eq_true rfl)) dL_law_859 ⟨(Nat.le_of_ble_eq_true rfl), (Nat.le_of_ble_eq_true rfl)⟩) hS (fun q _ h => hFc q h) hFc (fun r_3 u t H locs ht hvm hw hB hz1 hk1 hS => ?_)
  obtain ⟨hP, hD⟩ := va_join (wr := [(ux0, .inl (ux11, 1600, .inl (fun _ => 0))), (ux2, .inr (5, [.int 0, .ref ux22, .ref ux23, .ref ux24, .ref ux25, .int 0, .ref ux26, .ref ux27, .ref ux28, .ref ux29, .ref ux30, .ref ux31])), (ux3, .inr (3, [.ref ux32, .ref ux33, .int 0, .int (-1)])), (ux32, .inr (7, [.ref ux34, .int 0, .int 0, .ref kE, .int 0, .long 0, .int 0])), (ux4, .inl (ux35, 6, .inl (fun _ => 0))), (ux10, .inr (4, [.int 0, .ref ux36, .ref ux37, .ref ux38, .ref ux39, .ref ux40, .ref ux41, .ref ux42, .int 0, .ref ux43, .ref ux44, .ref ux45])), (wa, .inr (9, mF wx0 0 0 0 (-1) 0 0 0 0 0 0 0 0 0 0 0 0 0 0 0 0 0 0 0 0 0)), ((wx0 0), .inl (wx1, 1620, .inl (fun _ => 0))), ((wx0 2), .inl (wx2, 2, .inl (fun _ => 0))), ((wx0 3), .inl (wx3, 2, .inl (fun _ => 0))), ((wx0 14), .inl (wx4, 6, .inl (fun _ => 0)))]) (w1 := []) hP hD [0, 2] [1, 3, 4, 5, 6, 7, 8, 9, 10, 11, 12] rfl rfl (by decide) (by decide) hk1 hFc ex_P0 ex_D0
  have hP : va_P (dC, dI) vwCl [(ux0, .inl (ux11, 1600, .inl (fun _ => 0))), (ux2, .inr (5, [.int 0, .ref ux22, .ref ux23, .ref ux24, .ref ux25, .int 0, .ref ux26, .ref ux27, .ref ux28, .ref ux29, .ref ux30, .ref ux31])), (ux3, .inr (3, [.ref ux32, .ref ux33, .int 0, .int (-1)])), (ux32, .inr (7, [.ref ux34, .int 0, .int 0, .ref kE, .int 0, .long 0, .int 0])), (ux4, .inl (ux35, 6, .inl (fun _ => 0))), (ux10, .inr (4, [.int 0, .ref ux36, .ref ux37, .ref ux38, .ref ux39, .ref ux40, .ref ux41, .ref ux42, .int 0, .ref ux43, .ref ux44, .ref ux45])), (wa, .inr (9, mF wx0 0 0 0 (-1) 0 0 0 0 0 0 0 0 0 0 0 0 0 0 0 0 0 0 0 0 0)), ((wx0 0), .inl (wx1, 1620, .inl (fun _ => 0))), ((wx0 2), .inl (wx2, 2, .inl (fun _ => 0))), ((wx0 3), .inl (wx3, 2, .inl (fun _ => 0))), ((wx0 14), .inl (wx4, 6, .inl (fun _ => 0)))] H := hP
  have hD : va_D (fun q : Nat => s.heap.size ≤ q) [(ux0, .inl (ux11, 1600, .inl (fun _ => 0))), (ux2, .inr (5, [.int 0, .ref ux22, .ref ux23, .ref ux24, .ref ux25, .int 0, .ref ux26, .ref ux27, .ref ux28, .ref ux29, .ref ux30, .ref ux31])), (ux3, .inr (3, [.ref ux32, .ref ux33, .int 0, .int (-1)])), (ux32, .inr (7, [.ref ux34, .int 0, .int 0, .ref kE, .int 0, .long 0, .int 0])), (ux4, .inl (ux35, 6, .inl (fun _ => 0))), (ux10, .inr (4, [.int 0, .ref ux36, .ref ux37, .ref ux38, .ref ux39, .ref ux40, .ref ux41, .ref ux42, .int 0, .ref ux43, .ref ux44, .ref ux45])), (wa, .inr (9, mF wx0 0 0 0 (-1) 0 0 0 0 0 0 0 0 0 0 0 0 0 0 0 0 0 0 0 0 0)), ((wx0 0), .inl (wx1, 1620, .inl (fun _ => 0))), ((wx0 2), .inl (wx2, 2, .inl (fun _ => 0))), ((wx0 3), .inl (wx3, 2, .inl (fun _ => 0))), ((wx0 14), .inl (wx4, 6, .inl (fun _ => 0)))] := hD
  refine W.widen (k := 162) (n := 9883) (by omega) (by omega) ?_
  obtain rfl : r_3 = ((-1) : Int32) := hw
  refine lv_aload_n hx hb dL_law_862 rfl (lv_at hl 1 rfl) ?_
  refine lv_aload_n hx hb dL_law_863 rfl (lv_at hl 3 rfl) ?_
  refine lv_iload_n hx hb dL_law_864 rfl (lv_at hl 0 rfl) ?_
  refine lv_iconst (v := 1) hx hb dL_law_865 (by decide) ?_
  refine lv_iadd hx hb dL_law_866 ?_
  refine lv_topi (fun z_4 ez_4 => ?_)
  obtain rfl : z_4 = (1 : Int32) := ez_4.trans (by decide)
  refine va_sld hx hb hX hbl hbA hS (by unfold vp_in; decide) dL_law_867 ?_
  refine lv_aload_n hx hb dL_law_868 rfl (lv_at hl 3 rfl) ?_
  refine lv_iload_n hx hb dL_law_869 rfl (lv_at hl 0 rfl) ?_
  refine lv_iconst (v := 2) hx hb dL_law_870 (by decide) ?_
  refine lv_iadd hx hb dL_law_871 ?_
  refine lv_topi (fun z_5 ez_5 => ?_)
  obtain rfl : z_5 = (2 : Int32) := ez_5.trans (by decide)
  refine va_sld hx hb hX hbl hbA hS (by unfold vp_in; decide) dL_law_872 ?_
  have hPc := hP.sub (ws' := [(wa, .inr (9, mF wx0 0 0 0 (-1) 0 0 0 0 0 0 0 0 0 0 0 0 0 0 0 0 0 0 0 0 0)), ((wx0 2), .inl (wx2, 2, .inl (fun _ => 0))), ((wx0 3), .inl (wx3, 2, .inl (fun _ => 0)))]) [6, 8, 9] rfl
  have hDc := hD.sub (ws' := [(wa, .inr (9, mF wx0 0 0 0 (-1) 0 0 0 0 0 0 0 0 0 0 0 0 0 0 0 0 0 0 0 0 0)), ((wx0 2), .inl (wx2, 2, .inl (fun _ => 0))), ((wx0 3), .inl (wx3, 2, .inl (fun _ => 0)))]) [6, 8, 9] (by decide) rfl
  have hKc := hK.sub (tys' := [(wx2, .int), (wx3, .int)]) [3, 4] rfl
  have hFc := va_free (wc := [(wa, .inr (9, mF wx0 0 0 0 (-1) 0 0 0 0 0 0 0 0 0 0 0 0 0 0 0 0 0 0 0 0 0)), ((wx0 2), .inl (wx2, 2, .inl (fun _ => 0))), ((wx0 3), .inl (wx3, 2, .inl (fun _ => 0)))]) hD hS hA [6, 8, 9] rfl
  refine va_calli (va_runV (As := [.int (xs (1 : Int32).toNatClampNeg), .int (xs (2 : Int32).toNatClampNeg)]) (rest := [.int (-1)]) ⟨hx, hb, hml, hown, hts⟩ (c_X11_elsewhere l dC dI kE wa wx0 wx2 wx3 H.size ((xs (1 : Int32).toNatClampNeg)) ((xs (2 : Int32).toNatClampNeg))) (cwV 2 hts gL_law_X11_elsewhere rfl rfl rfl (by decide +kernel) ⟨(Nat.le_of_ble_eq_true rfl), (Nat.le_of_ble_eq_true rfl)⟩) ⟨fun a U g mk q => by obtain ⟨q0, q1, qP, qK, qD, qE⟩ := q; exact ⟨q0, q1, qP, va_K.moved (u := U) (U := U.calling g mk a) (Vm.Alike.refl U.vm) qK, qD, ex_blind qE⟩, va_recv hKc hPc (ci := 9) (q0 := 0) rfl rfl, fun U hU hW => ⟨rfl, by rw [hU], by rw [hU]; exact hPc, va_K.moved hW.alike hKc, hDc.weaken (fun _ _ _ _ => trivial), ex_call hE hS hFc hU hW⟩⟩ rfl rfl hl.1 rfl (lv_room (Nat.le_of_ble_eq_true rfl)) dL_law_873 ⟨(Nat.le_of_ble_eq_true rfl), (Nat.le_of_ble_eq_true rfl)⟩) hS (fun q _ h => hFc q h) hFc (fun r_6 u t H locs ht hvm hw hB hz1 hk1 hS => ?_)
  obtain ⟨hP, hD⟩ := va_join (wr := [(ux0, .inl (ux11, 1600, .inl (fun _ => 0))), (ux2, .inr (5, [.int 0, .ref ux22, .ref ux23, .ref ux24, .ref ux25, .int 0, .ref ux26, .ref ux27, .ref ux28, .ref ux29, .ref ux30, .ref ux31])), (ux3, .inr (3, [.ref ux32, .ref ux33, .int 0, .int (-1)])), (ux32, .inr (7, [.ref ux34, .int 0, .int 0, .ref kE, .int 0, .long 0, .int 0])), (ux4, .inl (ux35, 6, .inl (fun _ => 0))), (ux10, .inr (4, [.int 0, .ref ux36, .ref ux37, .ref ux38, .ref ux39, .ref ux40, .ref ux41, .ref ux42, .int 0, .ref ux43, .ref ux44, .ref ux45])), ((wx0 0), .inl (wx1, 1620, .inl (fun _ => 0))), ((wx0 14), .inl (wx4, 6, .inl (fun _ => 0)))]) (w1 := []) hP hD [6, 8, 9] [0, 1, 2, 3, 4, 5, 7, 10] rfl rfl (by decide) (by decide) hk1 hFc ex_P0 ex_D0
  have hP : va_P (dC, dI) vwCl [(ux0, .inl (ux11, 1600, .inl (fun _ => 0))), (ux2, .inr (5, [.int 0, .ref ux22, .ref ux23, .ref ux24, .ref ux25, .int 0, .ref ux26, .ref ux27, .ref ux28, .ref ux29, .ref ux30, .ref ux31])), (ux3, .inr (3, [.ref ux32, .ref ux33, .int 0, .int (-1)])), (ux32, .inr (7, [.ref ux34, .int 0, .int 0, .ref kE, .int 0, .long 0, .int 0])), (ux4, .inl (ux35, 6, .inl (fun _ => 0))), (ux10, .inr (4, [.int 0, .ref ux36, .ref ux37, .ref ux38, .ref ux39, .ref ux40, .ref ux41, .ref ux42, .int 0, .ref ux43, .ref ux44, .ref ux45])), ((wx0 0), .inl (wx1, 1620, .inl (fun _ => 0))), ((wx0 14), .inl (wx4, 6, .inl (fun _ => 0)))] H := hP
  have hD : va_D (fun q : Nat => s.heap.size ≤ q) [(ux0, .inl (ux11, 1600, .inl (fun _ => 0))), (ux2, .inr (5, [.int 0, .ref ux22, .ref ux23, .ref ux24, .ref ux25, .int 0, .ref ux26, .ref ux27, .ref ux28, .ref ux29, .ref ux30, .ref ux31])), (ux3, .inr (3, [.ref ux32, .ref ux33, .int 0, .int (-1)])), (ux32, .inr (7, [.ref ux34, .int 0, .int 0, .ref kE, .int 0, .long 0, .int 0])), (ux4, .inl (ux35, 6, .inl (fun _ => 0))), (ux10, .inr (4, [.int 0, .ref ux36, .ref ux37, .ref ux38, .ref ux39, .ref ux40, .ref ux41, .ref ux42, .int 0, .ref ux43, .ref ux44, .ref ux45])), ((wx0 0), .inl (wx1, 1620, .inl (fun _ => 0))), ((wx0 14), .inl (wx4, 6, .inl (fun _ => 0)))] := hD
  refine W.widen (k := 162) (n := 9883) (by omega) (by omega) ?_
  obtain rfl : r_6 = ((-1) : Int32) := hw
  refine lv_icmp_eq (tgt := 1225) hx hb dL_law_876 (by decide) (fun c_7 => ?_) (fun c_7 => absurd c_7 (by decide))
  refine lv_iinc (v := 6) (lv' := [(3, .int 6), (2, .ref wa), (1, .ref ua), (0, .ref b)]) hx hb dL_law_1225 hl (k := 0) rfl (by decide) (by decide) rfl (fun ls hl => ?_)
  refine lv_goto (tgt := 18) hx hb dL_law_1228 (by decide) ?_
  refine lv_iload_n hx hb dL_law_18 rfl (lv_at hl 0 rfl) ?_
  refine lv_aload_n hx hb dL_law_19 rfl (lv_at hl 3 rfl) ?_
  refine va_slen hx hb hX hbl hbA hS dL_law_20 ?_
  refine lv_bipush (v := 6) hx hb dL_law_21 (by decide) ?_
  refine lv_isub hx hb dL_law_23 ?_
  refine lv_topi (fun z_8 ez_8 => ?_)
  obtain rfl : z_8 = (0 : Int32) := ez_8.trans (by decide)
  refine lv_icmp_gt (tgt := 1231) hx hb dL_law_24 (by decide) (fun c_9 => ?_) (fun c_9 => absurd c_9 (by decide))
  refine lv_iconst (v := 1) hx hb dL_law_1231 (by decide) ?_
  refine va_forget (fun q h => hS.2.2 q h) ?_
  refine W.widen (k := 600000) (n := 7302250) (by omega) (by omega) ?_
  exact lw_ret hx hb hr hlocks dL_law_1232
set_option maxHeartbeats 4000000 in
set_option maxRecDepth 100000 in
theorem law_22 {p : Program} {e : Env} {s : State} {m : MethodId} {below : List Frame} {meth : Method} {c : Code} (l : Launch) {dC : Nat → ClassId} {dI : Nat → Nat → Nat} {kE b : Nat} {xs : Nat → Int32} {ua : Nat} {ux0 : Nat} {ux1 : Nat} {ux2 : Nat} {ux3 : Nat} {ux4 : Nat} {ux5 : Nat} {ux6 : Nat} {ux7 : Nat} {ux8 : Nat} {ux9 : Nat} {ux10 : Nat} {ux12 : Nat} {ux13 : Nat} {ux14 : Nat} {ux15 : Nat} {ux16 : Nat} {ux17 : Nat} {ux18 : Nat} {ux19 : Nat} {ux20 : Nat} {ux21 : Nat} {ux22 : Nat} {ux23 : Nat} {ux24 : Nat} {ux25 : Nat} {ux26 : Nat} {ux27 : Nat} {ux28 : Nat} {ux29 : Nat} {ux30 : Nat} {ux31 : Nat} {ux32 : Nat} {ux33 : Nat} {ux34 : Nat} {ux36 : Nat} {ux37 : Nat} {ux38 : Nat} {ux39 : Nat} {ux40 : Nat} {ux41 : Nat} {ux42 : Nat} {ux43 : Nat} {ux44 : Nat} {ux45 : Nat} {wa : Nat} {wx0 : Nat → Nat} {ux11 ux35 wx1 wx2 wx3 wx4 : ClassId} (C0 : lw_At p s m meth c b 6 xs) (hE : ex_X kE (fun q : Nat => s.heap.size ≤ q) s) (hK : va_K (dC, dI) vwCl [(ux11, .byte), (ux35, .int), (wx1, .byte), (wx2, .int), (wx3, .int), (wx4, .int)] s) {H : Heap} {locs : List Loc} (hP : va_P (dC, dI) vwCl [(ua, .inr (8, [.ref ux0, .int 0, .ref ux1, .ref ux2, .ref ux3, .ref ux4, .int 0, .ref ux5, .ref ux6, .ref ux7, .ref ux8, .ref ux9, .ref ux10, .int 0])), (ux0, .inl (ux11, 1600, .inl (fun _ => 0))), (ux1, .inr (5, [.int 0, .ref ux12, .ref ux13, .ref ux14, .ref ux15, .int 0, .ref ux16, .ref ux17, .ref ux18, .ref ux19, .ref ux20, .ref ux21])), (ux2, .inr (5, [.int 0, .ref ux22, .ref ux23, .ref ux24, .ref ux25, .int 0, .ref ux26, .ref ux27, .ref ux28, .ref ux29, .ref ux30, .ref ux31])), (ux3, .inr (3, [.ref ux32, .ref ux33, .int 0, .int (-1)])), (ux32, .inr (7, [.ref ux34, .int 0, .int 0, .ref kE, .int 0, .long 0, .int 0])), (ux4, .inl (ux35, 6, .inl (fun _ => 0))), (ux10, .inr (4, [.int 0, .ref ux36, .ref ux37, .ref ux38, .ref ux39, .ref ux40, .ref ux41, .ref ux42, .int 0, .ref ux43, .ref ux44, .ref ux45])), (wa, .inr (9, mF wx0 0 0 0 (-1) 0 0 0 0 0 0 0 0 0 0 0 0 0 0 0 0 0 0 0 0 0)), ((wx0 0), .inl (wx1, 1620, .inl (fun _ => 0))), ((wx0 2), .inl (wx2, 2, .inl (fun _ => 0))), ((wx0 3), .inl (wx3, 2, .inl (fun _ => 0))), ((wx0 14), .inl (wx4, 6, .inl (fun _ => 0)))] H) (hD : va_D (fun q : Nat => s.heap.size ≤ q) [(ua, .inr (8, [.ref ux0, .int 0, .ref ux1, .ref ux2, .ref ux3, .ref ux4, .int 0, .ref ux5, .ref ux6, .ref ux7, .ref ux8, .ref ux9, .ref ux10, .int 0])), (ux0, .inl (ux11, 1600, .inl (fun _ => 0))), (ux1, .inr (5, [.int 0, .ref ux12, .ref ux13, .ref ux14, .ref ux15, .int 0, .ref ux16, .ref ux17, .ref ux18, .ref ux19, .ref ux20, .ref ux21])), (ux2, .inr (5, [.int 0, .ref ux22, .ref ux23, .ref ux24, .ref ux25, .int 0, .ref ux26, .ref ux27, .ref ux28, .ref ux29, .ref ux30, .ref ux31])), (ux3, .inr (3, [.ref ux32, .ref ux33, .int 0, .int (-1)])), (ux32, .inr (7, [.ref ux34, .int 0, .int 0, .ref kE, .int 0, .long 0, .int 0])), (ux4, .inl (ux35, 6, .inl (fun _ => 0))), (ux10, .inr (4, [.int 0, .ref ux36, .ref ux37, .ref ux38, .ref ux39, .ref ux40, .ref ux41, .ref ux42, .int 0, .ref ux43, .ref ux44, .ref ux45])), (wa, .inr (9, mF wx0 0 0 0 (-1) 0 0 0 0 0 0 0 0 0 0 0 0 0 0 0 0 0 0 0 0 0)), ((wx0 0), .inl (wx1, 1620, .inl (fun _ => 0))), ((wx0 2), .inl (wx2, 2, .inl (fun _ => 0))), ((wx0 3), .inl (wx3, 2, .inl (fun _ => 0))), ((wx0 14), .inl (wx4, 6, .inl (fun _ => 0)))]) (hS : va_S (fun q : Nat => s.heap.size ≤ q) s.heap H locs) {ls : Array Slot} (hl : lv_has ls 4 [(3, .int 0), (2, .ref wa), (1, .ref ua), (0, .ref b)]) : W p l e room_1 s m #[Value.ref b] below meth c H locs 162 9883 (lw_Z below #[Value.ref b] s) (F0 m 881 ls []) := by
  obtain ⟨hx, hb, hr, hml, hown, hts0, hX, hbl, hlocks, hgv⟩ := C0
  have hts := hts0
  have hown : s.vm.findClass RL = some m.cls := hown
  have hA : ∀ q : Nat, s.heap.size ≤ q → (fun q : Nat => s.heap.size ≤ q) q := fun _ h => h
  have hbA : ¬ (fun q : Nat => s.heap.size ≤ q) b := Nat.not_le.mpr hbl
  refine lv_aload_n hx hb dL_law_881 rfl (lv_at hl 2 rfl) ?_
  refine lv_aload_n hx hb dL_law_882 rfl (lv_at hl 3 rfl) ?_
  refine lv_iload_n hx hb dL_law_883 rfl (lv_at hl 0 rfl) ?_
  refine lv_iconst (v := 1) hx hb dL_law_884 (by decide) ?_
  refine lv_iadd hx hb dL_law_885 ?_
  refine lv_topi (fun z_1 ez_1 => ?_)
  obtain rfl : z_1 = (1 : Int32) := ez_1.trans (by decide)
  refine va_sld hx hb hX hbl hbA hS (by unfold vp_in; decide) dL_law_886 ?_
  refine lv_aload_n hx hb dL_law_887 rfl (lv_at hl 3 rfl) ?_
  refine lv_iload_n hx hb dL_law_888 rfl (lv_at hl 0 rfl) ?_
  refine lv_iconst (v := 2) hx hb dL_law_889 (by decide) ?_
  refine lv_iadd hx hb dL_law_890 ?_
  refine lv_topi (fun z_2 ez_2 => ?_)
  obtain rfl : z_2 = (2 : Int32) := ez_2.trans (by decide)
  refine va_sld hx hb hX hbl hbA hS (by unfold vp_in; decide) dL_law_891 ?_
  refine lv_aload_n hx hb dL_law_892 rfl (lv_at hl 3 rfl) ?_
  refine lv_iload_n hx hb dL_law_893 rfl (lv_at hl 0 rfl) ?_
  refine lv_iconst (v := 3) hx hb dL_law_894 (by decide) ?_
  refine lv_iadd hx hb dL_law_895 ?_
  refine lv_topi (fun z_3 ez_3 => ?_)
  obtain rfl : z_3 = (3 : Int32) := ez_3.trans (by decide)
  refine va_sld hx hb hX hbl hbA hS (by unfold vp_in; decide) dL_law_896 ?_
  have hPc := hP.sub (ws' := [(ua, .inr (8, [.ref ux0, .int 0, .ref ux1, .ref ux2, .ref ux3, .ref ux4, .int 0, .ref ux5, .ref ux6, .ref ux7, .ref ux8, .ref ux9, .ref ux10, .int 0])), (ux10, .inr (4, [.int 0, .ref ux36, .ref ux37, .ref ux38, .ref ux39, .ref ux40, .ref ux41, .ref ux42, .int 0, .ref ux43, .ref ux44, .ref ux45]))]) [0, 7] rfl
  have hDc := hD.sub (ws' := [(ua, .inr (8, [.ref ux0, .int 0, .ref ux1, .ref ux2, .ref ux3, .ref ux4, .int 0, .ref ux5, .ref ux6, .ref ux7, .ref ux8, .ref ux9, .ref ux10, .int 0])), (ux10, .inr (4, [.int 0, .ref ux36, .ref ux37, .ref ux38, .ref ux39, .ref ux40, .ref ux41, .ref ux42, .int 0, .ref ux43, .ref ux44, .ref ux45]))]) [0, 7] (by decide) rfl
  have hKc := hK.sub (tys' := []) [] rfl
  have hFc := va_free (wc := [(ua, .inr (8, [.ref ux0, .int 0, .ref ux1, .ref ux2, .ref ux3, .ref ux4, .int 0, .ref ux5, .ref ux6, .ref ux7, .ref ux8, .ref ux9, .ref ux10, .int 0])), (ux10, .inr (4, [.int 0, .ref ux36, .ref ux37, .ref ux38, .ref ux39, .ref ux40, .ref ux41, .ref ux42, .int 0, .ref ux43, .ref ux44, .ref ux45]))]) hD hS hA [0, 7] rfl
  refine va_calli (va_runV (As := [.int (xs (1 : Int32).toNatClampNeg), .int (xs (2 : Int32).toNatClampNeg), .int (xs (3 : Int32).toNatClampNeg)]) (rest := []) ⟨hx, hb, hml, hown, hts⟩ (c_X10_story l dC dI kE ua ux0 ux1 ux2 ux3 ux4 ux5 ux6 ux7 ux8 ux9 ux10 ux36 ux37 ux38 ux39 ux40 ux41 ux42 ux43 ux44 ux45 H.size ((xs (1 : Int32).toNatClampNeg)) ((xs (2 : Int32).toNatClampNeg)) ((xs (3 : Int32).toNatClampNeg))) (cwV 3 hts gL_law_X10_story rfl rfl rfl (by decide +kernel) ⟨(Nat.le_of_ble_eq_true rfl), (Nat.le_of_ble_eq_true rfl)⟩) ⟨fun a U g mk q => by obtain ⟨q0, q1, qP, qK, qD, qE⟩ := q; exact ⟨q0, q1, qP, va_K.moved (u := U) (U := U.calling g mk a) (Vm.Alike.refl U.vm) qK, qD, ex_blind qE⟩, va_recv hKc hPc (ci := 8) (q0 := 0) rfl rfl, fun U hU hW => ⟨rfl, by rw [hU], by rw [hU]; exact hPc, va_K.moved hW.alike hKc, hDc.weaken (fun _ _ _ _ => trivial), ex_call hE hS hFc hU hW⟩⟩ rfl rfl hl.1 rfl (lv_room (Nat.le_of_ble_eq_true rfl)) dL_law_897 ⟨(Nat.le_of_ble_eq_true rfl), (Nat.le_of_ble_eq_true rfl)⟩) hS (fun q _ h => hFc q h) hFc (fun r_4 u t H locs ht hvm hw hB hz1 hk1 hS => ?_)
  obtain ⟨hP, hD⟩ := va_join (wr := [(ux0, .inl (ux11, 1600, .inl (fun _ => 0))), (ux1, .inr (5, [.int 0, .ref ux12, .ref ux13, .ref ux14, .ref ux15, .int 0, .ref ux16, .ref ux17, .ref ux18, .ref ux19, .ref ux20, .ref ux21])), (ux2, .inr (5, [.int 0, .ref ux22, .ref ux23, .ref ux24, .ref ux25, .int 0, .ref ux26, .ref ux27, .ref ux28, .ref ux29, .ref ux30, .ref ux31])), (ux3, .inr (3, [.ref ux32, .ref ux33, .int 0, .int (-1)])), (ux32, .inr (7, [.ref ux34, .int 0, .int 0, .ref kE, .int 0, .long 0, .int 0])), (ux4, .inl (ux35, 6, .inl (fun _ => 0))), (wa, .inr (9, mF wx0 0 0 0 (-1) 0 0 0 0 0 0 0 0 0 0 0 0 0 0 0 0 0 0 0 0 0)), ((wx0 0), .inl (wx1, 1620, .inl (fun _ => 0))), ((wx0 2), .inl (wx2, 2, .inl (fun _ => 0))), ((wx0 3), .inl (wx3, 2, .inl (fun _ => 0))), ((wx0 14), .inl (wx4, 6, .inl (fun _ => 0)))]) (w1 := []) hP hD [0, 7] [1, 2, 3, 4, 5, 6, 8, 9, 10, 11, 12] rfl rfl (by decide) (by decide) hk1 hFc ex_P0 ex_D0
  have hP : va_P (dC, dI) vwCl [(ux0, .inl (ux11, 1600, .inl (fun _ => 0))), (ux1, .inr (5, [.int 0, .ref ux12, .ref ux13, .ref ux14, .ref ux15, .int 0, .ref ux16, .ref ux17, .ref ux18, .ref ux19, .ref ux20, .ref ux21])), (ux2, .inr (5, [.int 0, .ref ux22, .ref ux23, .ref ux24, .ref ux25, .int 0, .ref ux26, .ref ux27, .ref ux28, .ref ux29, .ref ux30, .ref ux31])), (ux3, .inr (3, [.ref ux32, .ref ux33, .int 0, .int (-1)])), (ux32, .inr (7, [.ref ux34, .int 0, .int 0, .ref kE, .int 0, .long 0, .int 0])), (ux4, .inl (ux35, 6, .inl (fun _ => 0))), (wa, .inr (9, mF wx0 0 0 0 (-1) 0 0 0 0 0 0 0 0 0 0 0 0 0 0 0 0 0 0 0 0 0)), ((wx0 0), .inl (wx1, 1620, .inl (fun _ => 0))), ((wx0 2), .inl (wx2, 2, .inl (fun _ => 0))), ((wx0 3), .inl (wx3, 2, .inl (fun _ => 0))), ((wx0 14), .inl (wx4, 6, .inl (fun _ => 0)))] H := hP
  have hD : va_D (fun q : Nat => s.heap.size ≤ q) [(ux0, .inl (ux11, 1600, .inl (fun _ => 0))), (ux1, .inr (5, [.int 0, .ref ux12, .ref ux13, .ref ux14, .ref ux15, .int 0, .ref ux16, .ref ux17, .ref ux18, .ref ux19, .ref ux20, .ref ux21])), (ux2, .inr (5, [.int 0, .ref ux22, .ref ux23, .ref ux24, .ref ux25, .int 0, .ref ux26, .ref ux27, .ref ux28, .ref ux29, .ref ux30, .ref ux31])), (ux3, .inr (3, [.ref ux32, .ref ux33, .int 0, .int (-1)])), (ux32, .inr (7, [.ref ux34, .int 0, .int 0, .ref kE, .int 0, .long 0, .int 0])), (ux4, .inl (ux35, 6, .inl (fun _ => 0))), (wa, .inr (9, mF wx0 0 0 0 (-1) 0 0 0 0 0 0 0 0 0 0 0 0 0 0 0 0 0 0 0 0 0)), ((wx0 0), .inl (wx1, 1620, .inl (fun _ => 0))), ((wx0 2), .inl (wx2, 2, .inl (fun _ => 0))), ((wx0 3), .inl (wx3, 2, .inl (fun _ => 0))), ((wx0 14), .inl (wx4, 6, .inl (fun _ => 0)))] := hD
  refine W.widen (k := 162) (n := 9883) (by omega) (by omega) ?_
  obtain rfl : r_4 = (0 : Int32) := hw
  refine lv_aload_n hx hb dL_law_900 rfl (lv_at hl 1 rfl) ?_
  refine lv_aload_n hx hb dL_law_901 rfl (lv_at hl 3 rfl) ?_
  refine lv_iload_n hx hb dL_law_902 rfl (lv_at hl 0 rfl) ?_
  refine lv_iconst (v := 1) hx hb dL_law_903 (by decide) ?_
  refine lv_iadd hx hb dL_law_904 ?_
  refine lv_topi (fun z_5 ez_5 => ?_)
  obtain rfl : z_5 = (1 : Int32) := ez_5.trans (by decide)
  refine va_sld hx hb hX hbl hbA hS (by unfold vp_in; decide) dL_law_905 ?_
  refine lv_aload_n hx hb dL_law_906 rfl (lv_at hl 3 rfl) ?_
  refine lv_iload_n hx hb dL_law_907 rfl (lv_at hl 0 rfl) ?_
  refine lv_iconst (v := 2) hx hb dL_law_908 (by decide) ?_
  refine lv_iadd hx hb dL_law_909 ?_
  refine lv_topi (fun z_6 ez_6 => ?_)
  obtain rfl : z_6 = (2 : Int32) := ez_6.trans (by decide)
  refine va_sld hx hb hX hbl hbA hS (by unfold vp_in; decide) dL_law_910 ?_
  refine lv_aload_n hx hb dL_law_911 rfl (lv_at hl 3 rfl) ?_
  refine lv_iload_n hx hb dL_law_912 rfl (lv_at hl 0 rfl) ?_
  refine lv_iconst (v := 3) hx hb dL_law_913 (by decide) ?_
  refine lv_iadd hx hb dL_law_914 ?_
  refine lv_topi (fun z_7 ez_7 => ?_)
  obtain rfl : z_7 = (3 : Int32) := ez_7.trans (by decide)
  refine va_sld hx hb hX hbl hbA hS (by unfold vp_in; decide) dL_law_915 ?_
  have hPc := hP.sub (ws' := [(wa, .inr (9, mF wx0 0 0 0 (-1) 0 0 0 0 0 0 0 0 0 0 0 0 0 0 0 0 0 0 0 0 0)), ((wx0 2), .inl (wx2, 2, .inl (fun _ => 0))), ((wx0 3), .inl (wx3, 2, .inl (fun _ => 0)))]) [6, 8, 9] rfl
  have hDc := hD.sub (ws' := [(wa, .inr (9, mF wx0 0 0 0 (-1) 0 0 0 0 0 0 0 0 0 0 0 0 0 0 0 0 0 0 0 0 0)), ((wx0 2), .inl (wx2, 2, .inl (fun _ => 0))), ((wx0 3), .inl (wx3, 2, .inl (fun _ => 0)))]) [6, 8, 9] (by decide) rfl
  have hKc := hK.sub (tys' := [(wx2, .int), (wx3, .int)]) [3, 4] rfl
  have hFc := va_free (wc := [(wa, .inr (9, mF wx0 0 0 0 (-1) 0 0 0 0 0 0 0 0 0 0 0 0 0 0 0 0 0 0 0 0 0)), ((wx0 2), .inl (wx2, 2, .inl (fun _ => 0))), ((wx0 3), .inl (wx3, 2, .inl (fun _ => 0)))]) hD hS hA [6, 8, 9] rfl
  refine va_calli (va_runV (As := [.int (xs (1 : Int32).toNatClampNeg), .int (xs (2 : Int32).toNatClampNeg), .int (xs (3 : Int32).toNatClampNeg)]) (rest := [.int 0]) ⟨hx, hb, hml, hown, hts⟩ (c_X11_story l dC dI kE wa wx0 wx2 wx3 H.size ((xs (1 : Int32).toNatClampNeg)) ((xs (2 : Int32).toNatClampNeg)) ((xs (3 : Int32).toNatClampNeg))) (cwV 3 hts gL_law_X11_story rfl rfl rfl (by decide +kernel) ⟨(Nat.le_of_ble_eq_true rfl), (Nat.le_of_ble_eq_true rfl)⟩) ⟨fun a U g mk q => by obtain ⟨q0, q1, qP, qK, qD, qE⟩ := q; exact ⟨q0, q1, qP, va_K.moved (u := U) (U := U.calling g mk a) (Vm.Alike.refl U.vm) qK, qD, ex_blind qE⟩, va_recv hKc hPc (ci := 9) (q0 := 0) rfl rfl, fun U hU hW => ⟨rfl, by rw [hU], by rw [hU]; exact hPc, va_K.moved hW.alike hKc, hDc.weaken (fun _ _ _ _ => trivial), ex_call hE hS hFc hU hW⟩⟩ rfl rfl hl.1 rfl (lv_room (Nat.le_of_ble_eq_true rfl)) dL_law_916 ⟨(Nat.le_of_ble_eq_true rfl), (Nat.le_of_ble_eq_true rfl)⟩) hS (fun q _ h => hFc q h) hFc (fun r_8 u t H locs ht hvm hw hB hz1 hk1 hS => ?_)
  obtain ⟨hP, hD⟩ := va_join (wr := [(ux0, .inl (ux11, 1600, .inl (fun _ => 0))), (ux1, .inr (5, [.int 0, .ref ux12, .ref ux13, .ref ux14, .ref ux15, .int 0, .ref ux16, .ref ux17, .ref ux18, .ref ux19, .ref ux20, .ref ux21])), (ux2, .inr (5, [.int 0, .ref ux22, .ref ux23, .ref ux24, .ref ux25, .int 0, .ref ux26, .ref ux27, .ref ux28, .ref ux29, .ref ux30, .ref ux31])), (ux3, .inr (3, [.ref ux32, .ref ux33, .int 0, .int (-1)])), (ux32, .inr (7, [.ref ux34, .int 0, .int 0, .ref kE, .int 0, .long 0, .int 0])), (ux4, .inl (ux35, 6, .inl (fun _ => 0))), ((wx0 0), .inl (wx1, 1620, .inl (fun _ => 0))), ((wx0 14), .inl (wx4, 6, .inl (fun _ => 0)))]) (w1 := []) hP hD [6, 8, 9] [0, 1, 2, 3, 4, 5, 7, 10] rfl rfl (by decide) (by decide) hk1 hFc ex_P0 ex_D0
  have hP : va_P (dC, dI) vwCl [(ux0, .inl (ux11, 1600, .inl (fun _ => 0))), (ux1, .inr (5, [.int 0, .ref ux12, .ref ux13, .ref ux14, .ref ux15, .int 0, .ref ux16, .ref ux17, .ref ux18, .ref ux19, .ref ux20, .ref ux21])), (ux2, .inr (5, [.int 0, .ref ux22, .ref ux23, .ref ux24, .ref ux25, .int 0, .ref ux26, .ref ux27, .ref ux28, .ref ux29, .ref ux30, .ref ux31])), (ux3, .inr (3, [.ref ux32, .ref ux33, .int 0, .int (-1)])), (ux32, .inr (7, [.ref ux34, .int 0, .int 0, .ref kE, .int 0, .long 0, .int 0])), (ux4, .inl (ux35, 6, .inl (fun _ => 0))), ((wx0 0), .inl (wx1, 1620, .inl (fun _ => 0))), ((wx0 14), .inl (wx4, 6, .inl (fun _ => 0)))] H := hP
  have hD : va_D (fun q : Nat => s.heap.size ≤ q) [(ux0, .inl (ux11, 1600, .inl (fun _ => 0))), (ux1, .inr (5, [.int 0, .ref ux12, .ref ux13, .ref ux14, .ref ux15, .int 0, .ref ux16, .ref ux17, .ref ux18, .ref ux19, .ref ux20, .ref ux21])), (ux2, .inr (5, [.int 0, .ref ux22, .ref ux23, .ref ux24, .ref ux25, .int 0, .ref ux26, .ref ux27, .ref ux28, .ref ux29, .ref ux30, .ref ux31])), (ux3, .inr (3, [.ref ux32, .ref ux33, .int 0, .int (-1)])), (ux32, .inr (7, [.ref ux34, .int 0, .int 0, .ref kE, .int 0, .long 0, .int 0])), (ux4, .inl (ux35, 6, .inl (fun _ => 0))), ((wx0 0), .inl (wx1, 1620, .inl (fun _ => 0))), ((wx0 14), .inl (wx4, 6, .inl (fun _ => 0)))] := hD
  refine W.widen (k := 162) (n := 9883) (by omega) (by omega) ?_
  obtain rfl : r_8 = (0 : Int32) := hw
  refine lv_icmp_eq (tgt := 1225) hx hb dL_law_919 (by decide) (fun c_9 => ?_) (fun c_9 => absurd c_9 (by decide))
  refine lv_iinc (v := 6) (lv' := [(3, .int 6), (2, .ref wa), (1, .ref ua), (0, .ref b)]) hx hb dL_law_1225 hl (k := 0) rfl (by decide) (by decide) rfl (fun ls hl => ?_)
  refine lv_goto (tgt := 18) hx hb dL_law_1228 (by decide) ?_
  refine lv_iload_n hx hb dL_law_18 rfl (lv_at hl 0 rfl) ?_
  refine lv_aload_n hx hb dL_law_19 rfl (lv_at hl 3 rfl) ?_
  refine va_slen hx hb hX hbl hbA hS dL_law_20 ?_
  refine lv_bipush (v := 6) hx hb dL_law_21 (by decide) ?_
  refine lv_isub hx hb dL_law_23 ?_
  refine lv_topi (fun z_10 ez_10 => ?_)
  obtain rfl : z_10 = (0 : Int32) := ez_10.trans (by decide)
  refine lv_icmp_gt (tgt := 1231) hx hb dL_law_24 (by decide) (fun c_11 => ?_) (fun c_11 => absurd c_11 (by decide))
  refine lv_iconst (v := 1) hx hb dL_law_1231 (by decide) ?_
  refine va_forget (fun q h => hS.2.2 q h) ?_
  refine W.widen (k := 600000) (n := 7302250) (by omega) (by omega) ?_
  exact lw_ret hx hb hr hlocks dL_law_1232
set_option maxHeartbeats 4000000 in
set_option maxRecDepth 100000 in
theorem law_23 {p : Program} {e : Env} {s : State} {m : MethodId} {below : List Frame} {meth : Method} {c : Code} (l : Launch) {dC : Nat → ClassId} {dI : Nat → Nat → Nat} {kE b : Nat} {xs : Nat → Int32} {ua : Nat} {ux0 : Nat} {ux1 : Nat} {ux2 : Nat} {ux3 : Nat} {ux4 : Nat} {ux5 : Nat} {ux6 : Nat} {ux7 : Nat} {ux8 : Nat} {ux9 : Nat} {ux10 : Nat} {ux12 : Nat} {ux13 : Nat} {ux14 : Nat} {ux15 : Nat} {ux16 : Nat} {ux17 : Nat} {ux18 : Nat} {ux19 : Nat} {ux20 : Nat} {ux21 : Nat} {ux22 : Nat} {ux23 : Nat} {ux24 : Nat} {ux25 : Nat} {ux26 : Nat} {ux27 : Nat} {ux28 : Nat} {ux29 : Nat} {ux30 : Nat} {ux31 : Nat} {ux32 : Nat} {ux33 : Nat} {ux34 : Nat} {ux36 : Nat} {ux37 : Nat} {ux38 : Nat} {ux39 : Nat} {ux40 : Nat} {ux41 : Nat} {ux42 : Nat} {ux43 : Nat} {ux44 : Nat} {ux45 : Nat} {wa : Nat} {wx0 : Nat → Nat} {ux11 ux35 wx1 wx2 wx3 wx4 : ClassId} (C0 : lw_At p s m meth c b 6 xs) (hE : ex_X kE (fun q : Nat => s.heap.size ≤ q) s) (hK : va_K (dC, dI) vwCl [(ux11, .byte), (ux35, .int), (wx1, .byte), (wx2, .int), (wx3, .int), (wx4, .int)] s) {H : Heap} {locs : List Loc} (hP : va_P (dC, dI) vwCl [(ua, .inr (8, [.ref ux0, .int 0, .ref ux1, .ref ux2, .ref ux3, .ref ux4, .int 0, .ref ux5, .ref ux6, .ref ux7, .ref ux8, .ref ux9, .ref ux10, .int 0])), (ux0, .inl (ux11, 1600, .inl (fun _ => 0))), (ux1, .inr (5, [.int 0, .ref ux12, .ref ux13, .ref ux14, .ref ux15, .int 0, .ref ux16, .ref ux17, .ref ux18, .ref ux19, .ref ux20, .ref ux21])), (ux2, .inr (5, [.int 0, .ref ux22, .ref ux23, .ref ux24, .ref ux25, .int 0, .ref ux26, .ref ux27, .ref ux28, .ref ux29, .ref ux30, .ref ux31])), (ux3, .inr (3, [.ref ux32, .ref ux33, .int 0, .int (-1)])), (ux32, .inr (7, [.ref ux34, .int 0, .int 0, .ref kE, .int 0, .long 0, .int 0])), (ux4, .inl (ux35, 6, .inl (fun _ => 0))), (ux10, .inr (4, [.int 0, .ref ux36, .ref ux37, .ref ux38, .ref ux39, .ref ux40, .ref ux41, .ref ux42, .int 0, .ref ux43, .ref ux44, .ref ux45])), (wa, .inr (9, mF wx0 0 0 0 (-1) 0 0 0 0 0 0 0 0 0 0 0 0 0 0 0 0 0 0 0 0 0)), ((wx0 0), .inl (wx1, 1620, .inl (fun _ => 0))), ((wx0 2), .inl (wx2, 2, .inl (fun _ => 0))), ((wx0 3), .inl (wx3, 2, .inl (fun _ => 0))), ((wx0 14), .inl (wx4, 6, .inl (fun _ => 0)))] H) (hD : va_D (fun q : Nat => s.heap.size ≤ q) [(ua, .inr (8, [.ref ux0, .int 0, .ref ux1, .ref ux2, .ref ux3, .ref ux4, .int 0, .ref ux5, .ref ux6, .ref ux7, .ref ux8, .ref ux9, .ref ux10, .int 0])), (ux0, .inl (ux11, 1600, .inl (fun _ => 0))), (ux1, .inr (5, [.int 0, .ref ux12, .ref ux13, .ref ux14, .ref ux15, .int 0, .ref ux16, .ref ux17, .ref ux18, .ref ux19, .ref ux20, .ref ux21])), (ux2, .inr (5, [.int 0, .ref ux22, .ref ux23, .ref ux24, .ref ux25, .int 0, .ref ux26, .ref ux27, .ref ux28, .ref ux29, .ref ux30, .ref ux31])), (ux3, .inr (3, [.ref ux32, .ref ux33, .int 0, .int (-1)])), (ux32, .inr (7, [.ref ux34, .int 0, .int 0, .ref kE, .int 0, .long 0, .int 0])), (ux4, .inl (ux35, 6, .inl (fun _ => 0))), (ux10, .inr (4, [.int 0, .ref ux36, .ref ux37, .ref ux38, .ref ux39, .ref ux40, .ref ux41, .ref ux42, .int 0, .ref ux43, .ref ux44, .ref ux45])), (wa, .inr (9, mF wx0 0 0 0 (-1) 0 0 0 0 0 0 0 0 0 0 0 0 0 0 0 0 0 0 0 0 0)), ((wx0 0), .inl (wx1, 1620, .inl (fun _ => 0))), ((wx0 2), .inl (wx2, 2, .inl (fun _ => 0))), ((wx0 3), .inl (wx3, 2, .inl (fun _ => 0))), ((wx0 14), .inl (wx4, 6, .inl (fun _ => 0)))]) (hS : va_S (fun q : Nat => s.heap.size ≤ q) s.heap H locs) {ls : Array Slot} (hl : lv_has ls 4 [(3, .int 0), (2, .ref wa), (1, .ref ua), (0, .ref b)]) : W p l e room_1 s m #[Value.ref b] below meth c H locs 162 9883 (lw_Z below #[Value.ref b] s) (F0 m 924 ls []) := by
  obtain ⟨hx, hb, hr, hml, hown, hts0, hX, hbl, hlocks, hgv⟩ := C0
  have hts := hts0
  have hown : s.vm.findClass RL = some m.cls := hown
  have hA : ∀ q : Nat, s.heap.size ≤ q → (fun q : Nat => s.heap.size ≤ q) q := fun _ h => h
  have hbA : ¬ (fun q : Nat => s.heap.size ≤ q) b := Nat.not_le.mpr hbl
  refine lv_aload_n hx hb dL_law_924 rfl (lv_at hl 2 rfl) ?_
  refine lv_aload_n hx hb dL_law_925 rfl (lv_at hl 3 rfl) ?_
  refine lv_iload_n hx hb dL_law_926 rfl (lv_at hl 0 rfl) ?_
  refine lv_iconst (v := 1) hx hb dL_law_927 (by decide) ?_
  refine lv_iadd hx hb dL_law_928 ?_
  refine lv_topi (fun z_1 ez_1 => ?_)
  obtain rfl : z_1 = (1 : Int32) := ez_1.trans (by decide)
  refine va_sld hx hb hX hbl hbA hS (by unfold vp_in; decide) dL_law_929 ?_
  refine lv_aload_n hx hb dL_law_930 rfl (lv_at hl 3 rfl) ?_
  refine lv_iload_n hx hb dL_law_931 rfl (lv_at hl 0 rfl) ?_
  refine lv_iconst (v := 2) hx hb dL_law_932 (by decide) ?_
  refine lv_iadd hx hb dL_law_933 ?_
  refine lv_topi (fun z_2 ez_2 => ?_)
  obtain rfl : z_2 = (2 : Int32) := ez_2.trans (by decide)
  refine va_sld hx hb hX hbl hbA hS (by unfold vp_in; decide) dL_law_934 ?_
  have hPc := hP.sub (ws' := [(ua, .inr (8, [.ref ux0, .int 0, .ref ux1, .ref ux2, .ref ux3, .ref ux4, .int 0, .ref ux5, .ref ux6, .ref ux7, .ref ux8, .ref ux9, .ref ux10, .int 0])), (ux10, .inr (4, [.int 0, .ref ux36, .ref ux37, .ref ux38, .ref ux39, .ref ux40, .ref ux41, .ref ux42, .int 0, .ref ux43, .ref ux44, .ref ux45]))]) [0, 7] rfl
  have hDc := hD.sub (ws' := [(ua, .inr (8, [.ref ux0, .int 0, .ref ux1, .ref ux2, .ref ux3, .ref ux4, .int 0, .ref ux5, .ref ux6, .ref ux7, .ref ux8, .ref ux9, .ref ux10, .int 0])), (ux10, .inr (4, [.int 0, .ref ux36, .ref ux37, .ref ux38, .ref ux39, .ref ux40, .ref ux41, .ref ux42, .int 0, .ref ux43, .ref ux44, .ref ux45]))]) [0, 7] (by decide) rfl
  have hKc := hK.sub (tys' := []) [] rfl
  have hFc := va_free (wc := [(ua, .inr (8, [.ref ux0, .int 0, .ref ux1, .ref ux2, .ref ux3, .ref ux4, .int 0, .ref ux5, .ref ux6, .ref ux7, .ref ux8, .ref ux9, .ref ux10, .int 0])), (ux10, .inr (4, [.int 0, .ref ux36, .ref ux37, .ref ux38, .ref ux39, .ref ux40, .ref ux41, .ref ux42, .int 0, .ref ux43, .ref ux44, .ref ux45]))]) hD hS hA [0, 7] rfl
  refine va_calll (va_runV (As := [.int (xs (1 : Int32).toNatClampNeg), .int (xs (2 : Int32).toNatClampNeg)]) (rest := []) ⟨hx, hb, hml, hown, hts⟩ (c_X10_believed l dC dI kE ua ux0 ux1 ux2 ux3 ux4 ux5 ux6 ux7 ux8 ux9 ux10 ux36 ux37 ux38 ux39 ux40 ux41 ux42 ux43 ux44 ux45 H.size ((xs (1 : Int32).toNatClampNeg)) ((xs (2 : Int32).toNatClampNeg))) (cwV 2 hts gL_law_X10_believed rfl rfl rfl (by decide +kernel) ⟨(Nat.le_of_ble_eq_true rfl), (Nat.le_of_ble_eq_true rfl)⟩) ⟨fun a U g mk q => by obtain ⟨q0, q1, qP, qK, qD, qE⟩ := q; exact ⟨q0, q1, qP, va_K.moved (u := U) (U := U.calling g mk a) (Vm.Alike.refl U.vm) qK, qD, ex_blind qE⟩, va_recv hKc hPc (ci := 8) (q0 := 0) rfl rfl, fun U hU hW => ⟨rfl, by rw [hU], by rw [hU]; exact hPc, va_K.moved hW.alike hKc, hDc.weaken (fun _ _ _ _ => trivial), ex_call hE hS hFc hU hW⟩⟩ rfl rfl hl.1 rfl (lv_room (Nat.le_of_ble_eq_true rfl)) dL_law_935 ⟨(Nat.le_of_ble_eq_true rfl), (Nat.le_of_ble_eq_true rfl)⟩) hS (fun q _ h => hFc q h) hFc (fun r_3 u t H locs ht hvm hw hB hz1 hk1 hS => ?_)
  obtain ⟨hP, hD⟩ := va_join (wr := [(ux0, .inl (ux11, 1600, .inl (fun _ => 0))), (ux1, .inr (5, [.int 0, .ref ux12, .ref ux13, .ref ux14, .ref ux15, .int 0, .ref ux16, .ref ux17, .ref ux18, .ref ux19, .ref ux20, .ref ux21])), (ux2, .inr (5, [.int 0, .ref ux22, .ref ux23, .ref ux24, .ref ux25, .int 0, .ref ux26, .ref ux27, .ref ux28, .ref ux29, .ref ux30, .ref ux31])), (ux3, .inr (3, [.ref ux32, .ref ux33, .int 0, .int (-1)])), (ux32, .inr (7, [.ref ux34, .int 0, .int 0, .ref kE, .int 0, .long 0, .int 0])), (ux4, .inl (ux35, 6, .inl (fun _ => 0))), (wa, .inr (9, mF wx0 0 0 0 (-1) 0 0 0 0 0 0 0 0 0 0 0 0 0 0 0 0 0 0 0 0 0)), ((wx0 0), .inl (wx1, 1620, .inl (fun _ => 0))), ((wx0 2), .inl (wx2, 2, .inl (fun _ => 0))), ((wx0 3), .inl (wx3, 2, .inl (fun _ => 0))), ((wx0 14), .inl (wx4, 6, .inl (fun _ => 0)))]) (w1 := []) hP hD [0, 7] [1, 2, 3, 4, 5, 6, 8, 9, 10, 11, 12] rfl rfl (by decide) (by decide) hk1 hFc ex_P0 ex_D0
  have hP : va_P (dC, dI) vwCl [(ux0, .inl (ux11, 1600, .inl (fun _ => 0))), (ux1, .inr (5, [.int 0, .ref ux12, .ref ux13, .ref ux14, .ref ux15, .int 0, .ref ux16, .ref ux17, .ref ux18, .ref ux19, .ref ux20, .ref ux21])), (ux2, .inr (5, [.int 0, .ref ux22, .ref ux23, .ref ux24, .ref ux25, .int 0, .ref ux26, .ref ux27, .ref ux28, .ref ux29, .ref ux30, .ref ux31])), (ux3, .inr (3, [.ref ux32, .ref ux33, .int 0, .int (-1)])), (ux32, .inr (7, [.ref ux34, .int 0, .int 0, .ref kE, .int 0, .long 0, .int 0])), (ux4, .inl (ux35, 6, .inl (fun _ => 0))), (wa, .inr (9, mF wx0 0 0 0 (-1) 0 0 0 0 0 0 0 0 0 0 0 0 0 0 0 0 0 0 0 0 0)), ((wx0 0), .inl (wx1, 1620, .inl (fun _ => 0))), ((wx0 2), .inl (wx2, 2, .inl (fun _ => 0))), ((wx0 3), .inl (wx3, 2, .inl (fun _ => 0))), ((wx0 14), .inl (wx4, 6, .inl (fun _ => 0)))] H := hP
  have hD : va_D (fun q : Nat => s.heap.size ≤ q) [(ux0, .inl (ux11, 1600, .inl (fun _ => 0))), (ux1, .inr (5, [.int 0, .ref ux12, .ref ux13, .ref ux14, .ref ux15, .int 0, .ref ux16, .ref ux17, .ref ux18, .ref ux19, .ref ux20, .ref ux21])), (ux2, .inr (5, [.int 0, .ref ux22, .ref ux23, .ref ux24, .ref ux25, .int 0, .ref ux26, .ref ux27, .ref ux28, .ref ux29, .ref ux30, .ref ux31])), (ux3, .inr (3, [.ref ux32, .ref ux33, .int 0, .int (-1)])), (ux32, .inr (7, [.ref ux34, .int 0, .int 0, .ref kE, .int 0, .long 0, .int 0])), (ux4, .inl (ux35, 6, .inl (fun _ => 0))), (wa, .inr (9, mF wx0 0 0 0 (-1) 0 0 0 0 0 0 0 0 0 0 0 0 0 0 0 0 0 0 0 0 0)), ((wx0 0), .inl (wx1, 1620, .inl (fun _ => 0))), ((wx0 2), .inl (wx2, 2, .inl (fun _ => 0))), ((wx0 3), .inl (wx3, 2, .inl (fun _ => 0))), ((wx0 14), .inl (wx4, 6, .inl (fun _ => 0)))] := hD
  refine W.widen (k := 162) (n := 9883) (by omega) (by omega) ?_
  rcases hw with ⟨rfl, c_4, c_5⟩ | ⟨rfl, c_6, c_7⟩ | ⟨rfl, c_8, c_9, c_10⟩
  · refine lv_aload_n hx hb dL_law_938 rfl (lv_at hl 1 rfl) ?_
    refine lv_aload_n hx hb dL_law_939 rfl (lv_at hl 3 rfl) ?_
    refine lv_iload_n hx hb dL_law_940 rfl (lv_at hl 0 rfl) ?_
    refine lv_iconst (v := 1) hx hb dL_law_941 (by decide) ?_
    refine lv_iadd hx hb dL_law_942 ?_
    refine lv_topi (fun z_11 ez_11 => ?_)
    obtain rfl : z_11 = (1 : Int32) := ez_11.trans (by decide)
    refine va_sld hx hb hX hbl hbA hS (by unfold vp_in; decide) dL_law_943 ?_
    refine lv_aload_n hx hb dL_law_944 rfl (lv_at hl 3 rfl) ?_
    refine lv_iload_n hx hb dL_law_945 rfl (lv_at hl 0 rfl) ?_
    refine lv_iconst (v := 2) hx hb dL_law_946 (by decide) ?_
    refine lv_iadd hx hb dL_law_947 ?_
    refine lv_topi (fun z_12 ez_12 => ?_)
    obtain rfl : z_12 = (2 : Int32) := ez_12.trans (by decide)
    refine va_sld hx hb hX hbl hbA hS (by unfold vp_in; decide) dL_law_948 ?_
    have hPc := hP.sub (ws' := [(wa, .inr (9, mF wx0 0 0 0 (-1) 0 0 0 0 0 0 0 0 0 0 0 0 0 0 0 0 0 0 0 0 0)), ((wx0 2), .inl (wx2, 2, .inl (fun _ => 0))), ((wx0 3), .inl (wx3, 2, .inl (fun _ => 0)))]) [6, 8, 9] rfl
    have hDc := hD.sub (ws' := [(wa, .inr (9, mF wx0 0 0 0 (-1) 0 0 0 0 0 0 0 0 0 0 0 0 0 0 0 0 0 0 0 0 0)), ((wx0 2), .inl (wx2, 2, .inl (fun _ => 0))), ((wx0 3), .inl (wx3, 2, .inl (fun _ => 0)))]) [6, 8, 9] (by decide) rfl
    have hKc := hK.sub (tys' := [(wx2, .int), (wx3, .int)]) [3, 4] rfl
    have hFc := va_free (wc := [(wa, .inr (9, mF wx0 0 0 0 (-1) 0 0 0 0 0 0 0 0 0 0 0 0 0 0 0 0 0 0 0 0 0)), ((wx0 2), .inl (wx2, 2, .inl (fun _ => 0))), ((wx0 3), .inl (wx3, 2, .inl (fun _ => 0)))]) hD hS hA [6, 8, 9] rfl
    refine va_calll (va_runV (As := [.int (xs (1 : Int32).toNatClampNeg), .int (xs (2 : Int32).toNatClampNeg)]) (rest := [.long 1]) ⟨hx, hb, hml, hown, hts⟩ (c_X11_believed l dC dI kE wa wx0 wx2 wx3 H.size ((xs (1 : Int32).toNatClampNeg)) ((xs (2 : Int32).toNatClampNeg))) (cwV 2 hts gL_law_X11_believed rfl rfl rfl (by decide +kernel) ⟨(Nat.le_of_ble_eq_true rfl), (Nat.le_of_ble_eq_true rfl)⟩) ⟨fun a U g mk q => by obtain ⟨q0, q1, qP, qK, qD, qE⟩ := q; exact ⟨q0, q1, qP, va_K.moved (u := U) (U := U.calling g mk a) (Vm.Alike.refl U.vm) qK, qD, ex_blind qE⟩, va_recv hKc hPc (ci := 9) (q0 := 0) rfl rfl, fun U hU hW => ⟨rfl, by rw [hU], by rw [hU]; exact hPc, va_K.moved hW.alike hKc, hDc.weaken (fun _ _ _ _ => trivial), ex_call hE hS hFc hU hW⟩⟩ rfl rfl hl.1 rfl (lv_room (Nat.le_of_ble_eq_true rfl)) dL_law_949 ⟨(Nat.le_of_ble_eq_true rfl), (Nat.le_of_ble_eq_true rfl)⟩) hS (fun q _ h => hFc q h) hFc (fun r_13 u t H locs ht hvm hw hB hz1 hk1 hS => ?_)
    obtain ⟨hP, hD⟩ := va_join (wr := [(ux0, .inl (ux11, 1600, .inl (fun _ => 0))), (ux1, .inr (5, [.int 0, .ref ux12, .ref ux13, .ref ux14, .ref ux15, .int 0, .ref ux16, .ref ux17, .ref ux18, .ref ux19, .ref ux20, .ref ux21])), (ux2, .inr (5, [.int 0, .ref ux22, .ref ux23, .ref ux24, .ref ux25, .int 0, .ref ux26, .ref ux27, .ref ux28, .ref ux29, .ref ux30, .ref ux31])), (ux3, .inr (3, [.ref ux32, .ref ux33, .int 0, .int (-1)])), (ux32, .inr (7, [.ref ux34, .int 0, .int 0, .ref kE, .int 0, .long 0, .int 0])), (ux4, .inl (ux35, 6, .inl (fun _ => 0))), ((wx0 0), .inl (wx1, 1620, .inl (fun _ => 0))), ((wx0 14), .inl (wx4, 6, .inl (fun _ => 0)))]) (w1 := []) hP hD [6, 8, 9] [0, 1, 2, 3, 4, 5, 7, 10] rfl rfl (by decide) (by decide) hk1 hFc ex_P0 ex_D0
    have hP : va_P (dC, dI) vwCl [(ux0, .inl (ux11, 1600, .inl (fun _ => 0))), (ux1, .inr (5, [.int 0, .ref ux12, .ref ux13, .ref ux14, .ref ux15, .int 0, .ref ux16, .ref ux17, .ref ux18, .ref ux19, .ref ux20, .ref ux21])), (ux2, .inr (5, [.int 0, .ref ux22, .ref ux23, .ref ux24, .ref ux25, .int 0, .ref ux26, .ref ux27, .ref ux28, .ref ux29, .ref ux30, .ref ux31])), (ux3, .inr (3, [.ref ux32, .ref ux33, .int 0, .int (-1)])), (ux32, .inr (7, [.ref ux34, .int 0, .int 0, .ref kE, .int 0, .long 0, .int 0])), (ux4, .inl (ux35, 6, .inl (fun _ => 0))), ((wx0 0), .inl (wx1, 1620, .inl (fun _ => 0))), ((wx0 14), .inl (wx4, 6, .inl (fun _ => 0)))] H := hP
    have hD : va_D (fun q : Nat => s.heap.size ≤ q) [(ux0, .inl (ux11, 1600, .inl (fun _ => 0))), (ux1, .inr (5, [.int 0, .ref ux12, .ref ux13, .ref ux14, .ref ux15, .int 0, .ref ux16, .ref ux17, .ref ux18, .ref ux19, .ref ux20, .ref ux21])), (ux2, .inr (5, [.int 0, .ref ux22, .ref ux23, .ref ux24, .ref ux25, .int 0, .ref ux26, .ref ux27, .ref ux28, .ref ux29, .ref ux30, .ref ux31])), (ux3, .inr (3, [.ref ux32, .ref ux33, .int 0, .int (-1)])), (ux32, .inr (7, [.ref ux34, .int 0, .int 0, .ref kE, .int 0, .long 0, .int 0])), (ux4, .inl (ux35, 6, .inl (fun _ => 0))), ((wx0 0), .inl (wx1, 1620, .inl (fun _ => 0))), ((wx0 14), .inl (wx4, 6, .inl (fun _ => 0)))] := hD
    refine W.widen (k := 162) (n := 9883) (by omega) (by omega) ?_
    rcases hw with ⟨rfl, c_14⟩ | ⟨rfl, c_15, c_16⟩ | ⟨rfl, c_17, c_18, c_19⟩ | ⟨rfl, c_20, c_21, c_22⟩
    · exact False.elim (by simp only [x_lt, x_le, x_eq, tI_0] at c_4 c_5 c_14; omega)
    · exact False.elim (by simp only [x_lt, x_le, x_eq, tI_0, tI_1] at c_4 c_5 c_15 c_16; omega)
    · exact False.elim (c_19 c_5)
    · refine W.lcmp hx hb dL_law_952 ?_
      refine lv_topi (fun z_23 ez_23 => ?_)
      obtain rfl : z_23 = (0 : Int32) := ez_23.trans (by decide)
      refine lv_if_eq (tgt := 1225) hx hb dL_law_953 (by decide) (fun c_24 => ?_) (fun c_24 => absurd c_24 (by decide))
      refine lv_iinc (v := 6) (lv' := [(3, .int 6), (2, .ref wa), (1, .ref ua), (0, .ref b)]) hx hb dL_law_1225 hl (k := 0) rfl (by decide) (by decide) rfl (fun ls hl => ?_)
      refine lv_goto (tgt := 18) hx hb dL_law_1228 (by decide) ?_
      refine lv_iload_n hx hb dL_law_18 rfl (lv_at hl 0 rfl) ?_
      refine lv_aload_n hx hb dL_law_19 rfl (lv_at hl 3 rfl) ?_
      refine va_slen hx hb hX hbl hbA hS dL_law_20 ?_
      refine lv_bipush (v := 6) hx hb dL_law_21 (by decide) ?_
      refine lv_isub hx hb dL_law_23 ?_
      refine lv_topi (fun z_25 ez_25 => ?_)
      obtain rfl : z_25 = (0 : Int32) := ez_25.trans (by decide)
      refine lv_icmp_gt (tgt := 1231) hx hb dL_law_24 (by decide) (fun c_26 => ?_) (fun c_26 => absurd c_26 (by decide))
      refine lv_iconst (v := 1) hx hb dL_law_1231 (by decide) ?_
      refine va_forget (fun q h => hS.2.2 q h) ?_
      refine W.widen (k := 600000) (n := 7302250) (by omega) (by omega) ?_
      exact lw_ret hx hb hr hlocks dL_law_1232
  · refine lv_aload_n hx hb dL_law_938 rfl (lv_at hl 1 rfl) ?_
    refine lv_aload_n hx hb dL_law_939 rfl (lv_at hl 3 rfl) ?_
    refine lv_iload_n hx hb dL_law_940 rfl (lv_at hl 0 rfl) ?_
    refine lv_iconst (v := 1) hx hb dL_law_941 (by decide) ?_
    refine lv_iadd hx hb dL_law_942 ?_
    refine lv_topi (fun z_27 ez_27 => ?_)
    obtain rfl : z_27 = (1 : Int32) := ez_27.trans (by decide)
    refine va_sld hx hb hX hbl hbA hS (by unfold vp_in; decide) dL_law_943 ?_
    refine lv_aload_n hx hb dL_law_944 rfl (lv_at hl 3 rfl) ?_
    refine lv_iload_n hx hb dL_law_945 rfl (lv_at hl 0 rfl) ?_
    refine lv_iconst (v := 2) hx hb dL_law_946 (by decide) ?_
    refine lv_iadd hx hb dL_law_947 ?_
    refine lv_topi (fun z_28 ez_28 => ?_)
    obtain rfl : z_28 = (2 : Int32) := ez_28.trans (by decide)
    refine va_sld hx hb hX hbl hbA hS (by unfold vp_in; decide) dL_law_948 ?_
    have hPc := hP.sub (ws' := [(wa, .inr (9, mF wx0 0 0 0 (-1) 0 0 0 0 0 0 0 0 0 0 0 0 0 0 0 0 0 0 0 0 0)), ((wx0 2), .inl (wx2, 2, .inl (fun _ => 0))), ((wx0 3), .inl (wx3, 2, .inl (fun _ => 0)))]) [6, 8, 9] rfl
    have hDc := hD.sub (ws' := [(wa, .inr (9, mF wx0 0 0 0 (-1) 0 0 0 0 0 0 0 0 0 0 0 0 0 0 0 0 0 0 0 0 0)), ((wx0 2), .inl (wx2, 2, .inl (fun _ => 0))), ((wx0 3), .inl (wx3, 2, .inl (fun _ => 0)))]) [6, 8, 9] (by decide) rfl
    have hKc := hK.sub (tys' := [(wx2, .int), (wx3, .int)]) [3, 4] rfl
    have hFc := va_free (wc := [(wa, .inr (9, mF wx0 0 0 0 (-1) 0 0 0 0 0 0 0 0 0 0 0 0 0 0 0 0 0 0 0 0 0)), ((wx0 2), .inl (wx2, 2, .inl (fun _ => 0))), ((wx0 3), .inl (wx3, 2, .inl (fun _ => 0)))]) hD hS hA [6, 8, 9] rfl
    refine va_calll (va_runV (As := [.int (xs (1 : Int32).toNatClampNeg), .int (xs (2 : Int32).toNatClampNeg)]) (rest := [.long (-1)]) ⟨hx, hb, hml, hown, hts⟩ (c_X11_believed l dC dI kE wa wx0 wx2 wx3 H.size ((xs (1 : Int32).toNatClampNeg)) ((xs (2 : Int32).toNatClampNeg))) (cwV 2 hts gL_law_X11_believed rfl rfl rfl (by decide +kernel) ⟨(Nat.le_of_ble_eq_true rfl), (Nat.le_of_ble_eq_true rfl)⟩) ⟨fun a U g mk q => by obtain ⟨q0, q1, qP, qK, qD, qE⟩ := q; exact ⟨q0, q1, qP, va_K.moved (u := U) (U := U.calling g mk a) (Vm.Alike.refl U.vm) qK, qD, ex_blind qE⟩, va_recv hKc hPc (ci := 9) (q0 := 0) rfl rfl, fun U hU hW => ⟨rfl, by rw [hU], by rw [hU]; exact hPc, va_K.moved hW.alike hKc, hDc.weaken (fun _ _ _ _ => trivial), ex_call hE hS hFc hU hW⟩⟩ rfl rfl hl.1 rfl (lv_room (Nat.le_of_ble_eq_true rfl)) dL_law_949 ⟨(Nat.le_of_ble_eq_true rfl), (Nat.le_of_ble_eq_true rfl)⟩) hS (fun q _ h => hFc q h) hFc (fun r_29 u t H locs ht hvm hw hB hz1 hk1 hS => ?_)
    obtain ⟨hP, hD⟩ := va_join (wr := [(ux0, .inl (ux11, 1600, .inl (fun _ => 0))), (ux1, .inr (5, [.int 0, .ref ux12, .ref ux13, .ref ux14, .ref ux15, .int 0, .ref ux16, .ref ux17, .ref ux18, .ref ux19, .ref ux20, .ref ux21])), (ux2, .inr (5, [.int 0, .ref ux22, .ref ux23, .ref ux24, .ref ux25, .int 0, .ref ux26, .ref ux27, .ref ux28, .ref ux29, .ref ux30, .ref ux31])), (ux3, .inr (3, [.ref ux32, .ref ux33, .int 0, .int (-1)])), (ux32, .inr (7, [.ref ux34, .int 0, .int 0, .ref kE, .int 0, .long 0, .int 0])), (ux4, .inl (ux35, 6, .inl (fun _ => 0))), ((wx0 0), .inl (wx1, 1620, .inl (fun _ => 0))), ((wx0 14), .inl (wx4, 6, .inl (fun _ => 0)))]) (w1 := []) hP hD [6, 8, 9] [0, 1, 2, 3, 4, 5, 7, 10] rfl rfl (by decide) (by decide) hk1 hFc ex_P0 ex_D0
    have hP : va_P (dC, dI) vwCl [(ux0, .inl (ux11, 1600, .inl (fun _ => 0))), (ux1, .inr (5, [.int 0, .ref ux12, .ref ux13, .ref ux14, .ref ux15, .int 0, .ref ux16, .ref ux17, .ref ux18, .ref ux19, .ref ux20, .ref ux21])), (ux2, .inr (5, [.int 0, .ref ux22, .ref ux23, .ref ux24, .ref ux25, .int 0, .ref ux26, .ref ux27, .ref ux28, .ref ux29, .ref ux30, .ref ux31])), (ux3, .inr (3, [.ref ux32, .ref ux33, .int 0, .int (-1)])), (ux32, .inr (7, [.ref ux34, .int 0, .int 0, .ref kE, .int 0, .long 0, .int 0])), (ux4, .inl (ux35, 6, .inl (fun _ => 0))), ((wx0 0), .inl (wx1, 1620, .inl (fun _ => 0))), ((wx0 14), .inl (wx4, 6, .inl (fun _ => 0)))] H := hP
    have hD : va_D (fun q : Nat => s.heap.size ≤ q) [(ux0, .inl (ux11, 1600, .inl (fun _ => 0))), (ux1, .inr (5, [.int 0, .ref ux12, .ref ux13, .ref ux14, .ref ux15, .int 0, .ref ux16, .ref ux17, .ref ux18, .ref ux19, .ref ux20, .ref ux21])), (ux2, .inr (5, [.int 0, .ref ux22, .ref ux23, .ref ux24, .ref ux25, .int 0, .ref ux26, .ref ux27, .ref ux28, .ref ux29, .ref ux30, .ref ux31])), (ux3, .inr (3, [.ref ux32, .ref ux33, .int 0, .int (-1)])), (ux32, .inr (7, [.ref ux34, .int 0, .int 0, .ref kE, .int 0, .long 0, .int 0])), (ux4, .inl (ux35, 6, .inl (fun _ => 0))), ((wx0 0), .inl (wx1, 1620, .inl (fun _ => 0))), ((wx0 14), .inl (wx4, 6, .inl (fun _ => 0)))] := hD
    refine W.widen (k := 162) (n := 9883) (by omega) (by omega) ?_
    rcases hw with ⟨rfl, c_30⟩ | ⟨rfl, c_31, c_32⟩ | ⟨rfl, c_33, c_34, c_35⟩ | ⟨rfl, c_36, c_37, c_38⟩
    · refine W.lcmp hx hb dL_law_952 ?_
      refine lv_topi (fun z_39 ez_39 => ?_)
      obtain rfl : z_39 = (0 : Int32) := ez_39.trans (by decide)
      refine lv_if_eq (tgt := 1225) hx hb dL_law_953 (by decide) (fun c_40 => ?_) (fun c_40 => absurd c_40 (by decide))
      refine lv_iinc (v := 6) (lv' := [(3, .int 6), (2, .ref wa), (1, .ref ua), (0, .ref b)]) hx hb dL_law_1225 hl (k := 0) rfl (by decide) (by decide) rfl (fun ls hl => ?_)
      refine lv_goto (tgt := 18) hx hb dL_law_1228 (by decide) ?_
      refine lv_iload_n hx hb dL_law_18 rfl (lv_at hl 0 rfl) ?_
      refine lv_aload_n hx hb dL_law_19 rfl (lv_at hl 3 rfl) ?_
      refine va_slen hx hb hX hbl hbA hS dL_law_20 ?_
      refine lv_bipush (v := 6) hx hb dL_law_21 (by decide) ?_
      refine lv_isub hx hb dL_law_23 ?_
      refine lv_topi (fun z_41 ez_41 => ?_)
      obtain rfl : z_41 = (0 : Int32) := ez_41.trans (by decide)
      refine lv_icmp_gt (tgt := 1231) hx hb dL_law_24 (by decide) (fun c_42 => ?_) (fun c_42 => absurd c_42 (by decide))
      refine lv_iconst (v := 1) hx hb dL_law_1231 (by decide) ?_
      refine va_forget (fun q h => hS.2.2 q h) ?_
      refine W.widen (k := 600000) (n := 7302250) (by omega) (by omega) ?_
      exact lw_ret hx hb hr hlocks dL_law_1232
    · refine W.lcmp hx hb dL_law_952 ?_
      refine lv_topi (fun z_43 ez_43 => ?_)
      obtain rfl : z_43 = (0 : Int32) := ez_43.trans (by decide)
      refine lv_if_eq (tgt := 1225) hx hb dL_law_953 (by decide) (fun c_44 => ?_) (fun c_44 => absurd c_44 (by decide))
      refine lv_iinc (v := 6) (lv' := [(3, .int 6), (2, .ref wa), (1, .ref ua), (0, .ref b)]) hx hb dL_law_1225 hl (k := 0) rfl (by decide) (by decide) rfl (fun ls hl => ?_)
      refine lv_goto (tgt := 18) hx hb dL_law_1228 (by decide) ?_
      refine lv_iload_n hx hb dL_law_18 rfl (lv_at hl 0 rfl) ?_
      refine lv_aload_n hx hb dL_law_19 rfl (lv_at hl 3 rfl) ?_
      refine va_slen hx hb hX hbl hbA hS dL_law_20 ?_
      refine lv_bipush (v := 6) hx hb dL_law_21 (by decide) ?_
      refine lv_isub hx hb dL_law_23 ?_
      refine lv_topi (fun z_45 ez_45 => ?_)
      obtain rfl : z_45 = (0 : Int32) := ez_45.trans (by decide)
      refine lv_icmp_gt (tgt := 1231) hx hb dL_law_24 (by decide) (fun c_46 => ?_) (fun c_46 => absurd c_46 (by decide))
      refine lv_iconst (v := 1) hx hb dL_law_1231 (by decide) ?_
      refine va_forget (fun q h => hS.2.2 q h) ?_
      refine W.widen (k := 600000) (n := 7302250) (by omega) (by omega) ?_
      exact lw_ret hx hb hr hlocks dL_law_1232
    · exact False.elim (by simp only [x_lt, x_le, x_eq, tI_0, tI_1] at c_6 c_7 c_33 c_34 c_35; omega)
    · exact False.elim (c_6 c_38)
  · refine lv_aload_n hx hb dL_law_938 rfl (lv_at hl 1 rfl) ?_
    refine lv_aload_n hx hb dL_law_939 rfl (lv_at hl 3 rfl) ?_
    refine lv_iload_n hx hb dL_law_940 rfl (lv_at hl 0 rfl) ?_
    refine lv_iconst (v := 1) hx hb dL_law_941 (by decide) ?_
    refine lv_iadd hx hb dL_law_942 ?_
    refine lv_topi (fun z_47 ez_47 => ?_)
    obtain rfl : z_47 = (1 : Int32) := ez_47.trans (by decide)
    refine va_sld hx hb hX hbl hbA hS (by unfold vp_in; decide) dL_law_943 ?_
    refine lv_aload_n hx hb dL_law_944 rfl (lv_at hl 3 rfl) ?_
    refine lv_iload_n hx hb dL_law_945 rfl (lv_at hl 0 rfl) ?_
    refine lv_iconst (v := 2) hx hb dL_law_946 (by decide) ?_
    refine lv_iadd hx hb dL_law_947 ?_
    refine lv_topi (fun z_48 ez_48 => ?_)
    obtain rfl : z_48 = (2 : Int32) := ez_48.trans (by decide)
    refine va_sld hx hb hX hbl hbA hS (by unfold vp_in; decide) dL_law_948 ?_
    have hPc := hP.sub (ws' := [(wa, .inr (9, mF wx0 0 0 0 (-1) 0 0 0 0 0 0 0 0 0 0 0 0 0 0 0 0 0 0 0 0 0)), ((wx0 2), .inl (wx2, 2, .inl (fun _ => 0))), ((wx0 3), .inl (wx3, 2, .inl (fun _ => 0)))]) [6, 8, 9] rfl
    have hDc := hD.sub (ws' := [(wa, .inr (9, mF wx0 0 0 0 (-1) 0 0 0 0 0 0 0 0 0 0 0 0 0 0 0 0 0 0 0 0 0)), ((wx0 2), .inl (wx2, 2, .inl (fun _ => 0))), ((wx0 3), .inl (wx3, 2, .inl (fun _ => 0)))]) [6, 8, 9] (by decide) rfl
    have hKc := hK.sub (tys' := [(wx2, .int), (wx3, .int)]) [3, 4] rfl
    have hFc := va_free (wc := [(wa, .inr (9, mF wx0 0 0 0 (-1) 0 0 0 0 0 0 0 0 0 0 0 0 0 0 0 0 0 0 0 0 0)), ((wx0 2), .inl (wx2, 2, .inl (fun _ => 0))), ((wx0 3), .inl (wx3, 2, .inl (fun _ => 0)))]) hD hS hA [6, 8, 9] rfl
    refine va_calll (va_runV (As := [.int (xs (1 : Int32).toNatClampNeg), .int (xs (2 : Int32).toNatClampNeg)]) (rest := [.long 2]) ⟨hx, hb, hml, hown, hts⟩ (c_X11_believed l dC dI kE wa wx0 wx2 wx3 H.size ((xs (1 : Int32).toNatClampNeg)) ((xs (2 : Int32).toNatClampNeg))) (cwV 2 hts gL_law_X11_believed rfl rfl rfl (by decide +kernel) ⟨(Nat.le_of_ble_eq_true rfl), (Nat.le_of_ble_eq_true rfl)⟩) ⟨fun a U g mk q => by obtain ⟨q0, q1, qP, qK, qD, qE⟩ := q; exact ⟨q0, q1, qP, va_K.moved (u := U) (U := U.calling g mk a) (Vm.Alike.refl U.vm) qK, qD, ex_blind qE⟩, va_recv hKc hPc (ci := 9) (q0 := 0) rfl rfl, fun U hU hW => ⟨rfl, by rw [hU], by rw [hU]; exact hPc, va_K.moved hW.alike hKc, hDc.weaken (fun _ _ _ _ => trivial), ex_call hE hS hFc hU hW⟩⟩ rfl rfl hl.1 rfl (lv_room (Nat.le_of_ble_eq_true rfl)) dL_law_949 ⟨(Nat.le_of_ble_eq_true rfl), (Nat.le_of_ble_eq_true rfl)⟩) hS (fun q _ h => hFc q h) hFc (fun r_49 u t H locs ht hvm hw hB hz1 hk1 hS => ?_)
    obtain ⟨hP, hD⟩ := va_join (wr := [(ux0, .inl (ux11, 1600, .inl (fun _ => 0))), (ux1, .inr (5, [.int 0, .ref ux12, .ref ux13, .ref ux14, .ref ux15, .int 0, .ref ux16, .ref ux17, .ref ux18, .ref ux19, .ref ux20, .ref ux21])), (ux2, .inr (5, [.int 0, .ref ux22, .ref ux23, .ref ux24, .ref ux25, .int 0, .ref ux26, .ref ux27, .ref ux28, .ref ux29, .ref ux30, .ref ux31])), (ux3, .inr (3, [.ref ux32, .ref ux33, .int 0, .int (-1)])), (ux32, .inr (7, [.ref ux34, .int 0, .int 0, .ref kE, .int 0, .long 0, .int 0])), (ux4, .inl (ux35, 6, .inl (fun _ => 0))), ((wx0 0), .inl (wx1, 1620, .inl (fun _ => 0))), ((wx0 14), .inl (wx4, 6, .inl (fun _ => 0)))]) (w1 := []) hP hD [6, 8, 9] [0, 1, 2, 3, 4, 5, 7, 10] rfl rfl (by decide) (by decide) hk1 hFc ex_P0 ex_D0
    have hP : va_P (dC, dI) vwCl [(ux0, .inl (ux11, 1600, .inl (fun _ => 0))), (ux1, .inr (5, [.int 0, .ref ux12, .ref ux13, .ref ux14, .ref ux15, .int 0, .ref ux16, .ref ux17, .ref ux18, .ref ux19, .ref ux20, .ref ux21])), (ux2, .inr (5, [.int 0, .ref ux22, .ref ux23, .ref ux24, .ref ux25, .int 0, .ref ux26, .ref ux27, .ref ux28, .ref ux29, .ref ux30, .ref ux31])), (ux3, .inr (3, [.ref ux32, .ref ux33, .int 0, .int (-1)])), (ux32, .inr (7, [.ref ux34, .int 0, .int 0, .ref kE, .int 0, .long 0, .int 0])), (ux4, .inl (ux35, 6, .inl (fun _ => 0))), ((wx0 0), .inl (wx1, 1620, .inl (fun _ => 0))), ((wx0 14), .inl (wx4, 6, .inl (fun _ => 0)))] H := hP
    have hD : va_D (fun q : Nat => s.heap.size ≤ q) [(ux0, .inl (ux11, 1600, .inl (fun _ => 0))), (ux1, .inr (5, [.int 0, .ref ux12, .ref ux13, .ref ux14, .ref ux15, .int 0, .ref ux16, .ref ux17, .ref ux18, .ref ux19, .ref ux20, .ref ux21])), (ux2, .inr (5, [.int 0, .ref ux22, .ref ux23, .ref ux24, .ref ux25, .int 0, .ref ux26, .ref ux27, .ref ux28, .ref ux29, .ref ux30, .ref ux31])), (ux3, .inr (3, [.ref ux32, .ref ux33, .int 0, .int (-1)])), (ux32, .inr (7, [.ref ux34, .int 0, .int 0, .ref kE, .int 0, .long 0, .int 0])), (ux4, .inl (ux35, 6, .inl (fun _ => 0))), ((wx0 0), .inl (wx1, 1620, .inl (fun _ => 0))), ((wx0 14), .inl (wx4, 6, .inl (fun _ => 0)))] := hD
    refine W.widen (k := 162) (n := 9883) (by omega) (by omega) ?_
    rcases hw with ⟨rfl, c_50⟩ | ⟨rfl, c_51, c_52⟩ | ⟨rfl, c_53, c_54, c_55⟩ | ⟨rfl, c_56, c_57, c_58⟩
    · exact False.elim (by simp only [x_lt, x_le, x_eq, tI_0, tI_1] at c_8 c_9 c_10 c_50; omega)
    · exact False.elim (by simp only [x_lt, x_le, x_eq, tI_0, tI_1] at c_8 c_9 c_10 c_51 c_52; omega)
    · refine W.lcmp hx hb dL_law_952 ?_
      refine lv_topi (fun z_59 ez_59 => ?_)
      obtain rfl : z_59 = (0 : Int32) := ez_59.trans (by decide)
      refine lv_if_eq (tgt := 1225) hx hb dL_law_953 (by decide) (fun c_60 => ?_) (fun c_60 => absurd c_60 (by decide))
      refine lv_iinc (v := 6) (lv' := [(3, .int 6), (2, .ref wa), (1, .ref ua), (0, .ref b)]) hx hb dL_law_1225 hl (k := 0) rfl (by decide) (by decide) rfl (fun ls hl => ?_)
      refine lv_goto (tgt := 18) hx hb dL_law_1228 (by decide) ?_
      refine lv_iload_n hx hb dL_law_18 rfl (lv_at hl 0 rfl) ?_
      refine lv_aload_n hx hb dL_law_19 rfl (lv_at hl 3 rfl) ?_
      refine va_slen hx hb hX hbl hbA hS dL_law_20 ?_
      refine lv_bipush (v := 6) hx hb dL_law_21 (by decide) ?_
      refine lv_isub hx hb dL_law_23 ?_
      refine lv_topi (fun z_61 ez_61 => ?_)
      obtain rfl : z_61 = (0 : Int32) := ez_61.trans (by decide)
      refine lv_icmp_gt (tgt := 1231) hx hb dL_law_24 (by decide) (fun c_62 => ?_) (fun c_62 => absurd c_62 (by decide))
      refine lv_iconst (v := 1) hx hb dL_law_1231 (by decide) ?_
      refine va_forget (fun q h => hS.2.2 q h) ?_
      refine W.widen (k := 600000) (n := 7302250) (by omega) (by omega) ?_
      exact lw_ret hx hb hr hlocks dL_law_1232
    · exact False.elim (c_10 c_58)
