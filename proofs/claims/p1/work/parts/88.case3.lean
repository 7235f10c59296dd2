set_option maxHeartbeats 4000000 in
set_option maxRecDepth 100000 in
theorem law_24 {p : Program} {e : Env} {s : State} {m : MethodId} {below : List Frame} {meth : Method} {c : Code} (l : Launch) {dC : Nat → ClassId} {dI : Nat → Nat → Nat} {kE b : Nat} {xs : Nat → Int32} {ua : Nat} {ux0 : Nat} {ux1 : Nat} {ux2 : Nat} {ux3 : Nat} {ux4 : Nat} {ux5 : Nat} {ux6 : Nat} {ux7 : Nat} {ux8 : Nat} {ux9 : Nat} {ux10 : Nat} {ux12 : Nat} {ux13 : Nat} {ux14 : Nat} {ux15 : Nat} {ux16 : Nat} {ux17 : Nat} {ux18 : Nat} {ux19 : Nat} {ux20 : Nat} {ux21 : Nat} {ux22 : Nat} {ux23 : Nat} {ux24 : Nat} {ux25 : Nat} {ux26 : Nat} {ux27 : Nat} {ux28 : Nat} {ux29 : Nat} {ux30 : Nat} {ux31 : Nat} {ux32 : Nat} {ux33 : Nat} {ux34 : Nat} {ux36 : Nat} {ux37 : Nat} {ux38 : Nat} {ux39 : Nat} {ux40 : Nat} {ux41 : Nat} {ux42 : Nat} {ux43 : Nat} {ux44 : Nat} {ux45 : Nat} {wa : Nat} {wx0 : Nat → Nat} {ux11 ux35 wx1 wx2 wx3 wx4 : ClassId} (C0 : lw_At p s m meth c b 6 xs) (hE : ex_X kE (fun q : Nat => s.heap.size ≤ q) s) (hK : va_K (dC, dI) vwCl [(ux11, .byte), (ux35, .int), (wx1, .byte), (wx2, .int), (wx3, .int), (wx4, .int)] s) {H : Heap} {locs : List Loc} (hP : va_P (dC, dI) vwCl [(ua, .inr (8, [.ref ux0, .int 0, .ref ux1, .ref ux2, .ref ux3, .ref ux4, .int 0, .ref ux5, .ref ux6, .ref ux7, .ref ux8, .ref ux9, .ref ux10, .int 0])), (ux0, .inl (ux11, 1600, .inl (fun _ => 0))), (ux1, .inr (5, [.int 0, .ref ux12, .ref ux13, .ref ux14, .ref ux15, .int 0, .ref ux16, .ref ux17, .ref ux18, .ref ux19, .ref ux20, .ref ux21])), (ux2, .inr (5, [.int 0, .ref ux22, .ref ux23, .ref ux24, .ref ux25, .int 0, .ref ux26, .ref ux27, .ref ux28, .ref ux29, .ref ux30, .ref ux31])), (ux3, .inr (3, [.ref ux32, .ref ux33, .int 0, .int (-1)])), (ux32, .inr (7, [.ref ux34, .int 0, .int 0, .ref kE, .int 0, .long 0, .int 0])), (ux4, .inl (ux35, 6, .inl (fun _ => 0))), (ux10, .inr (4, [.int 0, .ref ux36, .ref ux37, .ref ux38, .ref ux39, .ref ux40, .ref ux41, .ref ux42, .int 0, .ref ux43, .ref ux44, .ref ux45])), (wa, .inr (9, mF wx0 0 0 0 (-1) 0 0 0 0 0 0 0 0 0 0 0 0 0 0 0 0 0 0 0 0 0)), ((wx0 0), .inl (wx1, 1620, .inl (fun _ => 0))), ((wx0 2), .inl (wx2, 2, .inl (fun _ => 0))), ((wx0 3), .inl (wx3, 2, .inl (fun _ => 0))), ((wx0 14), .inl (wx4, 6, .inl (fun _ => 0)))] H) (hD : va_D (fun q : Nat => s.heap.size ≤ q) [(ua, .inr (8, [.ref ux0, .int 0, .ref ux1, .ref ux2, .ref ux3, .ref ux4, .int 0, .ref ux5, .ref ux6, .ref ux7, .ref ux8, .ref ux9, .ref ux10, .int 0])), (ux0, .inl (ux11, 1600, .inl (fun _ => 0))), (ux1, .inr (5, [.int 0, .ref ux12, .ref ux13, .ref ux14, .ref ux15, .int 0, .ref ux16, .ref ux17, .ref ux18, .ref ux19, .ref ux20, .ref ux21])), (ux2, .inr (5, [.int 0, .ref ux22, .ref ux23, .ref ux24, .ref ux25, .int 0, .ref ux26, .ref ux27, .ref ux28, .ref ux29, .ref ux30, .ref ux31])), (ux3, .inr (3, [.ref ux32, .ref ux33, .int 0, .int (-1)])), (ux32, .inr (7, [.ref ux34, .int 0, .int 0, .ref kE, .int 0, .long 0, .int 0])), (ux4, .inl (ux35, 6, .inl (fun _ => 0))), (ux10, .inr (4, [.int 0, .ref ux36, .ref ux37, .ref ux38, .ref ux39, .ref ux40, .ref ux41, .ref ux42, .int 0, .ref ux43, .ref ux44, .ref ux45])), (wa, .inr (9, mF wx0 0 0 0 (-1) 0 0 0 0 0 0 0 0 0 0 0 0 0 0 0 0 0 0 0 0 0)), ((wx0 0), .inl (wx1, 1620, .inl (fun _ => 0))), ((wx0 2), .inl (wx2, 2, .inl (fun _ => 0))), ((wx0 3), .inl (wx3, 2, .inl (fun _ => 0))), ((wx0 14), .inl (wx4, 6, .inl (fun _ => 0)))]) (hS : va_S (fun q : Nat => s.heap.size ≤ q) s.heap H locs) {ls : Array Slot} (hl : lv_has ls 4 [(3, .int 0), (2, .ref wa), (1, .ref ua), (0, .ref b)]) : W p l e room_1 s m #[Value.ref b] below meth c H locs 162 9883 (lw_Z below #[Value.ref b] s) (F0 m 958 ls []) := by
  obtain ⟨hx, hb, hr, hml, hown, hts0, hX, hbl, hlocks, hgv⟩ := C0
  have hts := hts0
  have hown : s.vm.findClass RL = some m.cls := hown
  have hA : ∀ q : Nat, s.heap.size ≤ q → (fun q : Nat => s.heap.size ≤ q) q := fun _ h => h
  have hbA : ¬ (fun q : Nat => s.heap.size ≤ q) b := Nat.not_le.mpr hbl
  refine lv_aload_n hx hb dL_law_958 rfl (lv_at hl 2 rfl) ?_
  refine lv_aload_n hx hb dL_law_959 rfl (lv_at hl 3 rfl) ?_
  refine lv_iload_n hx hb dL_law_960 rfl (lv_at hl 0 rfl) ?_
  refine lv_iconst (v := 1) hx hb dL_law_961 (by decide) ?_
  refine lv_iadd hx hb dL_law_962 ?_
  refine lv_topi (fun z_1 ez_1 => ?_)
  obtain rfl : z_1 = (1 : Int32) := ez_1.trans (by decide)
  refine va_sld hx hb hX hbl hbA hS (by unfold vp_in; decide) dL_law_963 ?_
  refine lv_aload_n hx hb dL_law_964 rfl (lv_at hl 3 rfl) ?_
  refine lv_iload_n hx hb dL_law_965 rfl (lv_at hl 0 rfl) ?_
  refine lv_iconst (v := 2) hx hb dL_law_966 (by decide) ?_
  refine lv_iadd hx hb dL_law_967 ?_
  refine lv_topi (fun z_2 ez_2 => ?_)
  obtain rfl : z_2 = (2 : Int32) := ez_2.trans (by decide)
  refine va_sld hx hb hX hbl hbA hS (by unfold vp_in; decide) dL_law_968 ?_
  refine lv_aload_n hx hb dL_law_969 rfl (lv_at hl 3 rfl) ?_
  refine lv_iload_n hx hb dL_law_970 rfl (lv_at hl 0 rfl) ?_
  refine lv_iconst (v := 3) hx hb dL_law_971 (by decide) ?_
  refine lv_iadd hx hb dL_law_972 ?_
  refine lv_topi (fun z_3 ez_3 => ?_)
  obtain rfl : z_3 = (3 : Int32) := ez_3.trans (by decide)
  refine va_sld hx hb hX hbl hbA hS (by unfold vp_in; decide) dL_law_973 ?_
  refine lv_aload_n hx hb dL_law_974 rfl (lv_at hl 3 rfl) ?_
  refine lv_iload_n hx hb dL_law_975 rfl (lv_at hl 0 rfl) ?_
  refine lv_iconst (v := 4) hx hb dL_law_976 (by decide) ?_
  refine lv_iadd hx hb dL_law_977 ?_
  refine lv_topi (fun z_4 ez_4 => ?_)
  obtain rfl : z_4 = (4 : Int32) := ez_4.trans (by decide)
  refine va_sld hx hb hX hbl hbA hS (by unfold vp_in; decide) dL_law_978 ?_
  refine lv_aload_n hx hb dL_law_979 rfl (lv_at hl 3 rfl) ?_
  refine lv_iload_n hx hb dL_law_980 rfl (lv_at hl 0 rfl) ?_
  refine lv_iconst (v := 5) hx hb dL_law_981 (by decide) ?_
  refine lv_iadd hx hb dL_law_982 ?_
  refine lv_topi (fun z_5 ez_5 => ?_)
  obtain rfl : z_5 = (5 : Int32) := ez_5.trans (by decide)
  refine va_sld hx hb hX hbl hbA hS (by unfold vp_in; decide) dL_law_983 ?_
  refine lv_if_eq (tgt := 991) hx hb dL_law_984 (by decide) (fun c_6 => ?_) (fun c_6 => ?_)
  · refine lv_iconst (v := 0) hx hb dL_law_991 (by decide) ?_
    have hPc := hP.sub (ws' := [(ua, .inr (8, [.ref ux0, .int 0, .ref ux1, .ref ux2, .ref ux3, .ref ux4, .int 0, .ref ux5, .ref ux6, .ref ux7, .ref ux8, .ref ux9, .ref ux10, .int 0])), (ux1, .inr (5, [.int 0, .ref ux12, .ref ux13, .ref ux14, .ref ux15, .int 0, .ref ux16, .ref ux17, .ref ux18, .ref ux19, .ref ux20, .ref ux21]))]) [0, 2] rfl
    have hDc := hD.sub (ws' := [(ua, .inr (8, [.ref ux0, .int 0, .ref ux1, .ref ux2, .ref ux3, .ref ux4, .int 0, .ref ux5, .ref ux6, .ref ux7, .ref ux8, .ref ux9, .ref ux10, .int 0])), (ux1, .inr (5, [.int 0, .ref ux12, .ref ux13, .ref ux14, .ref ux15, .int 0, .ref ux16, .ref ux17, .ref ux18, .ref ux19, .ref ux20, .ref ux21]))]) [0, 2] (by decide) rfl
    have hKc := hK.sub (tys' := []) [] rfl
    have hFc := va_free (wc := [(ua, .inr (8, [.ref ux0, .int 0, .ref ux1, .ref ux2, .ref ux3, .ref ux4, .int 0, .ref ux5, .ref ux6, .ref ux7, .ref ux8, .ref ux9, .ref ux10, .int 0])), (ux1, .inr (5, [.int 0, .ref ux12, .ref ux13, .ref ux14, .ref ux15, .int 0, .ref ux16, .ref ux17, .ref ux18, .ref ux19, .ref ux20, .ref ux21]))]) hD hS hA [0, 2] rfl
    refine va_calli (va_runV (As := [.int (xs (1 : Int32).toNatClampNeg), .int (xs (2 : Int32).toNatClampNeg), .int (xs (3 : Int32).toNatClampNeg), .int (xs (4 : Int32).toNatClampNeg), .int 0]) (rest := []) ⟨hx, hb, hml, hown, hts⟩ (c_X10_paper l dC dI kE ua ux0 ux1 ux2 ux3 ux4 ux5 ux6 ux7 ux8 ux9 ux10 ux12 ux13 ux14 ux15 ux16 ux17 ux18 ux19 ux20 ux21 H.size ((xs (1 : Int32).toNatClampNeg)) ((xs (2 : Int32).toNatClampNeg)) ((xs (3 : Int32).toNatClampNeg)) ((xs (4 : Int32).toNatClampNeg)) 0) (cwV 5 hts gL_law_X10_paper rfl rfl rfl (by decide +kernel) ⟨(Nat.le_of_ble_eq_true rfl), (Nat.le_of_ble_eq_true rfl)⟩) ⟨fun a U g mk q => by obtain ⟨q0, q1, qP, qK, qD, qE⟩ := q; exact ⟨q0, q1, qP, va_K.moved (u := U) (U := U.calling g mk a) (Vm.Alike.refl U.vm) qK, qD, ex_blind qE⟩, va_recv hKc hPc (ci := 8) (q0 := 0) rfl rfl, fun U hU hW => ⟨rfl, by rw [hU], by rw [hU]; exact hPc, va_K.moved hW.alike hKc, hDc.weaken (fun _ _ _ _ => trivial), ex_call hE hS hFc hU hW⟩⟩ rfl rfl hl.1 rfl (lv_room (Nat.le_of_ble_eq_true rfl)) dL_law_992 ⟨(Nat.le_of_ble_eq_true rfl), (Nat.le_of_ble_eq_true rfl)⟩) hS (fun q _ h => hFc q h) hFc (fun r_7 u t H locs ht hvm hw hB hz1 hk1 hS => ?_)
    obtain ⟨hP, hD⟩ := va_join (wr := [(ux0, .inl (ux11, 1600, .inl (fun _ => 0))), (ux2, .inr (5, [.int 0, .ref ux22, .ref ux23, .ref ux24, .ref ux25, .int 0, .ref ux26, .ref ux27, .ref ux28, .ref ux29, .ref ux30, .ref ux31])), (ux3, .inr (3, [.ref ux32, .ref ux33, .int 0, .int (-1)])), (ux32, .inr (7, [.ref ux34, .int 0, .int 0, .ref kE, .int 0, .long 0, .int 0])), (ux4, .inl (ux35, 6, .inl (fun _ => 0))), (ux10, .inr (4, [.int 0, .ref ux36, .ref ux37, .ref ux38, .ref ux39, .ref ux40, .ref ux41, .ref ux42, .int 0, .ref ux43, .ref ux44, .ref ux45])), (wa, .inr (9, mF wx0 0 0 0 (-1) 0 0 0 0 0 0 0 0 0 0 0 0 0 0 0 0 0 0 0 0 0)), ((wx0 0), .inl (wx1, 1620, .inl (fun _ => 0))), ((wx0 2), .inl (wx2, 2, .inl (fun _ => 0))), ((wx0 3), .inl (wx3, 2, .inl (fun _ => 0))), ((wx0 14), .inl (wx4, 6, .inl (fun _ => 0)))]) (w1 := []) hP hD [0, 2] [1, 3, 4, 5, 6, 7, 8, 9, 10, 11, 12] rfl rfl (by decide) (by decide) hk1 hFc ex_P0 ex_D0
    have hP : va_P (dC, dI) vwCl [(ux0, .inl (ux11, 1600, .inl (fun _ => 0))), (ux2, .inr (5, [.int 0, .ref ux22, .ref ux23, .ref ux24, .ref ux25, .int 0, .ref ux26, .ref ux27, .ref ux28, .ref ux29, .ref ux30, .ref ux31])), (ux3, .inr (3, [.ref ux32, .ref ux33, .int 0, .int (-1)])), (ux32, .inr (7, [.ref ux34, .int 0, .int 0, .ref kE, .int 0, .long 0, .int 0])), (ux4, .inl (ux35, 6, .inl (fun _ => 0))), (ux10, .inr (4, [.int 0, .ref ux36, .ref ux37, .ref ux38, .ref ux39, .ref ux40, .ref ux41, .ref ux42, .int 0, .ref ux43, .ref ux44, .ref ux45])), (wa, .inr (9, mF wx0 0 0 0 (-1) 0 0 0 0 0 0 0 0 0 0 0 0 0 0 0 0 0 0 0 0 0)), ((wx0 0), .inl (wx1, 1620, .inl (fun _ => 0))), ((wx0 2), .inl (wx2, 2, .inl (fun _ => 0))), ((wx0 3), .inl (wx3, 2, .inl (fun _ => 0))), ((wx0 14), .inl (wx4, 6, .inl (fun _ => 0)))] H := hP
    have hD : va_D (fun q : Nat => s.heap.size ≤ q) [(ux0, .inl (ux11, 1600, .inl (fun _ => 0))), (ux2, .inr (5, [.int 0, .ref ux22, .ref ux23, .ref ux24, .ref ux25, .int 0, .ref ux26, .ref ux27, .ref ux28, .ref ux29, .ref ux30, .ref ux31])), (ux3, .inr (3, [.ref ux32, .ref ux33, .int 0, .int (-1)])), (ux32, .inr (7, [.ref ux34, .int 0, .int 0, .ref kE, .int 0, .long 0, .int 0])), (ux4, .inl (ux35, 6, .inl (fun _ => 0))), (ux10, .inr (4, [.int 0, .ref ux36, .ref ux37, .ref ux38, .ref ux39, .ref ux40, .ref ux41, .ref ux42, .int 0, .ref ux43, .ref ux44, .ref ux45])), (wa, .inr (9, mF wx0 0 0 0 (-1) 0 0 0 0 0 0 0 0 0 0 0 0 0 0 0 0 0 0 0 0 0)), ((wx0 0), .inl (wx1, 1620, .inl (fun _ => 0))), ((wx0 2), .inl (wx2, 2, .inl (fun _ => 0))), ((wx0 3), .inl (wx3, 2, .inl (fun _ => 0))), ((wx0 14), .inl (wx4, 6, .inl (fun _ => 0)))] := hD
    refine W.widen (k := 162) (n := 9883) (by omega) (by omega) ?_
    obtain rfl : r_7 = ((-1) : Int32) := hw
    refine lv_aload_n hx hb dL_law_995 rfl (lv_at hl 1 rfl) ?_
    refine lv_aload_n hx hb dL_law_996 rfl (lv_at hl 3 rfl) ?_
    refine lv_iload_n hx hb dL_law_997 rfl (lv_at hl 0 rfl) ?_
    refine lv_iconst (v := 1) hx hb dL_law_998 (by decide) ?_
    refine lv_iadd hx hb dL_law_999 ?_
    refine lv_topi (fun z_8 ez_8 => ?_)
    obtain rfl : z_8 = (1 : Int32) := ez_8.trans (by decide)
    refine va_sld hx hb hX hbl hbA hS (by unfold vp_in; decide) dL_law_1000 ?_
    refine lv_aload_n hx hb dL_law_1001 rfl (lv_at hl 3 rfl) ?_
    refine lv_iload_n hx hb dL_law_1002 rfl (lv_at hl 0 rfl) ?_
    refine lv_iconst (v := 2) hx hb dL_law_1003 (by decide) ?_
    refine lv_iadd hx hb dL_law_1004 ?_
    refine lv_topi (fun z_9 ez_9 => ?_)
    obtain rfl : z_9 = (2 : Int32) := ez_9.trans (by decide)
    refine va_sld hx hb hX hbl hbA hS (by unfold vp_in; decide) dL_law_1005 ?_
    refine lv_aload_n hx hb dL_law_1006 rfl (lv_at hl 3 rfl) ?_
    refine lv_iload_n hx hb dL_law_1007 rfl (lv_at hl 0 rfl) ?_
    refine lv_iconst (v := 3) hx hb dL_law_1008 (by decide) ?_
    refine lv_iadd hx hb dL_law_1009 ?_
    refine lv_topi (fun z_10 ez_10 => ?_)
    obtain rfl : z_10 = (3 : Int32) := ez_10.trans (by decide)
    refine va_sld hx hb hX hbl hbA hS (by unfold vp_in; decide) dL_law_1010 ?_
    refine lv_aload_n hx hb dL_law_1011 rfl (lv_at hl 3 rfl) ?_
    refine lv_iload_n hx hb dL_law_1012 rfl (lv_at hl 0 rfl) ?_
    refine lv_iconst (v := 4) hx hb dL_law_1013 (by decide) ?_
    refine lv_iadd hx hb dL_law_1014 ?_
    refine lv_topi (fun z_11 ez_11 => ?_)
    obtain rfl : z_11 = (4 : Int32) := ez_11.trans (by decide)
    refine va_sld hx hb hX hbl hbA hS (by unfold vp_in; decide) dL_law_1015 ?_
    refine lv_aload_n hx hb dL_law_1016 rfl (lv_at hl 3 rfl) ?_
    refine lv_iload_n hx hb dL_law_1017 rfl (lv_at hl 0 rfl) ?_
    refine lv_iconst (v := 5) hx hb dL_law_1018 (by decide) ?_
    refine lv_iadd hx hb dL_law_1019 ?_
    refine lv_topi (fun z_12 ez_12 => ?_)
    obtain rfl : z_12 = (5 : Int32) := ez_12.trans (by decide)
    refine va_sld hx hb hX hbl hbA hS (by unfold vp_in; decide) dL_law_1020 ?_
    refine lv_if_eq (tgt := 1028) hx hb dL_law_1021 (by decide) (fun c_13 => ?_) (fun c_13 => False.elim (c_13 c_6))
    refine lv_iconst (v := 0) hx hb dL_law_1028 (by decide) ?_
    have hPc := hP.sub (ws' := [(wa, .inr (9, mF wx0 0 0 0 (-1) 0 0 0 0 0 0 0 0 0 0 0 0 0 0 0 0 0 0 0 0 0)), ((wx0 2), .inl (wx2, 2, .inl (fun _ => 0))), ((wx0 3), .inl (wx3, 2, .inl (fun _ => 0)))]) [6, 8, 9] rfl
    have hDc := hD.sub (ws' := [(wa, .inr (9, mF wx0 0 0 0 (-1) 0 0 0 0 0 0 0 0 0 0 0 0 0 0 0 0 0 0 0 0 0)), ((wx0 2), .inl (wx2, 2, .inl (fun _ => 0))), ((wx0 3), .inl (wx3, 2, .inl (fun _ => 0)))]) [6, 8, 9] (by decide) rfl
    have hKc := hK.sub (tys' := [(wx2, .int), (wx3, .int)]) [3, 4] rfl
    have hFc := va_free (wc := [(wa, .inr (9, mF wx0 0 0 0 (-1) 0 0 0 0 0 0 0 0 0 0 0 0 0 0 0 0 0 0 0 0 0)), ((wx0 2), .inl (wx2, 2, .inl (fun _ => 0))), ((wx0 3), .inl (wx3, 2, .inl (fun _ => 0)))]) hD hS hA [6, 8, 9] rfl
    refine va_calli (va_runV (As := [.int (xs (1 : Int32).toNatClampNeg), .int (xs (2 : Int32).toNatClampNeg), .int (xs (3 : Int32).toNatClampNeg), .int (xs (4 : Int32).toNatClampNeg), .int 0]) (rest := [.int (-1)]) ⟨hx, hb, hml, hown, hts⟩ (c_X11_paper l dC dI kE wa wx0 wx2 wx3 H.size ((xs (1 : Int32).toNatClampNeg)) ((xs (2 : Int32).toNatClampNeg)) ((xs (3 : Int32).toNatClampNeg)) ((xs (4 : Int32).toNatClampNeg)) 0) (cwV 5 hts gL_law_X11_paper rfl rfl rfl (by decide +kernel) ⟨(Nat.le_of_ble_eq_true rfl), (Nat.le_of_ble_eq_true rfl)⟩) ⟨fun a U g mk q => by obtain ⟨q0, q1, qP, qK, qD, qE⟩ := q; exact ⟨q0, q1, qP, va_K.moved (u := U) (U := U.calling g mk a) (Vm.Alike.refl U.vm) qK, qD, ex_blind qE⟩, va_recv hKc hPc (ci := 9) (q0 := 0) rfl rfl, fun U hU hW => ⟨rfl, by rw [hU], by rw [hU]; exact hPc, va_K.moved hW.alike hKc, hDc.weaken (fun _ _ _ _ => trivial), ex_call hE hS hFc hU hW⟩⟩ rfl rfl hl.1 rfl (lv_room (Nat.le_of_ble_eq_true rfl)) dL_law_1029 ⟨(Nat.le_of_ble_eq_true rfl), (Nat.le_of_ble_eq_true rfl)⟩) hS (fun q _ h => hFc q h) hFc (fun r_14 u t H locs ht hvm hw hB hz1 hk1 hS => ?_)
    obtain ⟨hP, hD⟩ := va_join (wr := [(ux0, .inl (ux11, 1600, .inl (fun _ => 0))), (ux2, .inr (5, [.int 0, .ref ux22, .ref ux23, .ref ux24, .ref ux25, .int 0, .ref ux26, .ref ux27, .ref ux28, .ref ux29, .ref ux30, .ref ux31])), (ux3, .inr (3, [.ref ux32, .ref ux33, .int 0, .int (-1)])), (ux32, .inr (7, [.ref ux34, .int 0, .int 0, .ref kE, .int 0, .long 0, .int 0])), (ux4, .inl (ux35, 6, .inl (fun _ => 0))), (ux10, .inr (4, [.int 0, .ref ux36, .ref ux37, .ref ux38, .ref ux39, .ref ux40, .ref ux41, .ref ux42, .int 0, .ref ux43, .ref ux44, .ref ux45])), ((wx0 0), .inl (wx1, 1620, .inl (fun _ => 0))), ((wx0 14), .inl (wx4, 6, .inl (fun _ => 0)))]) (w1 := []) hP hD [6, 8, 9] [0, 1, 2, 3, 4, 5, 7, 10] rfl rfl (by decide) (by decide) hk1 hFc ex_P0 ex_D0
    have hP : va_P (dC, dI) vwCl [(ux0, .inl (ux11, 1600, .inl (fun _ => 0))), (ux2, .inr (5, [.int 0, .ref ux22, .ref ux23, .ref ux24, .ref ux25, .int 0, .ref ux26, .ref ux27, .ref ux28, .ref ux29, .ref ux30, .ref ux31])), (ux3, .inr (3, [.ref ux32, .ref ux33, .int 0, .int (-1)])), (ux32, .inr (7, [.ref ux34, .int 0, .int 0, .ref kE, .int 0, .long 0, .int 0])), (ux4, .inl (ux35, 6, .inl (fun _ => 0))), (ux10, .inr (4, [.int 0, .ref ux36, .ref ux37, .ref ux38, .ref ux39, .ref ux40, .ref ux41, .ref ux42, .int 0, .ref ux43, .ref ux44, .ref ux45])), ((wx0 0), .inl (wx1, 1620, .inl (fun _ => 0))), ((wx0 14), .inl (wx4, 6, .inl (fun _ => 0)))] H := hP
    have hD : va_D (fun q : Nat => s.heap.size ≤ q) [(ux0, .inl (ux11, 1600, .inl (fun _ => 0))), (ux2, .inr (5, [.int 0, .ref ux22, .ref ux23, .ref ux24, .ref ux25, .int 0, .ref ux26, .ref ux27, .ref ux28, .ref ux29, .ref ux30, .ref ux31])), (ux3, .inr (3, [.ref ux32, .ref ux33, .int 0, .int (-1)])), (ux32, .inr (7, [.ref ux34, .int 0, .int 0, .ref kE, .int 0, .long 0, .int 0])), (ux4, .inl (ux35, 6, .inl (fun _ => 0))), (ux10, .inr (4, [.int 0, .ref ux36, .ref ux37, .ref ux38, .ref ux39, .ref ux40, .ref ux41, .ref ux42, .int 0, .ref ux43, .ref ux44, .ref ux45])), ((wx0 0), .inl (wx1, 1620, .inl (fun _ => 0))), ((wx0 14), .inl (wx4, 6, .inl (fun _ => 0)))] := hD
    refine W.widen (k := 162) (n := 9883) (by omega) (by omega) ?_
    obtain rfl : r_14 = ((-1) : Int32) := hw
    refine lv_icmp_eq (tgt := 1225) hx hb dL_law_1032 (by decide) (fun c_15 => ?_) (fun c_15 => absurd c_15 (by decide))
    refine lv_iinc (v := 6) (lv' := [(3, .int 6), (2, .ref wa), (1, .ref ua), (0, .ref b)]) hx hb dL_law_1225 hl (k := 0) rfl (by decide) (by decide) rfl (fun ls hl => ?_)
    refine lv_goto (tgt := 18) hx hb dL_law_1228 (by decide) ?_
    refine lv_iload_n hx hb dL_law_18 rfl (lv_at hl 0 rfl) ?_
    refine lv_aload_n hx hb dL_law_19 rfl (lv_at hl 3 rfl) ?_
    refine va_slen hx hb hX hbl hbA hS dL_law_20 ?_
    refine lv_bipush (v := 6) hx hb dL_law_21 (by decide) ?_
    refine lv_isub hx hb dL_law_23 ?_
    refine lv_topi (fun z_16 ez_16 => ?_)
    obtain rfl : z_16 = (0 : Int32) := ez_16.trans (by decide)
    refine lv_icmp_gt (tgt := 1231) hx hb dL_law_24 (by decide) (fun c_17 => ?_) (fun c_17 => absurd c_17 (by decide))
    refine lv_iconst (v := 1) hx hb dL_law_1231 (by decide) ?_
    refine va_forget (fun q h => hS.2.2 q h) ?_
    refine W.widen (k := 600000) (n := 7302250) (by omega) (by omega) ?_
    exact lw_ret hx hb hr hlocks dL_law_1232
  · refine lv_iconst (v := 1) hx hb dL_law_987 (by decide) ?_
    refine lv_goto (tgt := 992) hx hb dL_law_988 (by decide) ?_
    have hPc := hP.sub (ws' := [(ua, .inr (8, [.ref ux0, .int 0, .ref ux1, .ref ux2, .ref ux3, .ref ux4, .int 0, .ref ux5, .ref ux6, .ref ux7, .ref ux8, .ref ux9, .ref ux10, .int 0])), (ux1, .inr (5, [.int 0, .ref ux12, .ref ux13, .ref ux14, .ref ux15, .int 0, .ref ux16, .ref ux17, .ref ux18, .ref ux19, .ref ux20, .ref ux21]))]) [0, 2] rfl
    have hDc := hD.sub (ws' := [(ua, .inr (8, [.ref ux0, .int 0, .ref ux1, .ref ux2, .ref ux3, .ref ux4, .int 0, .ref ux5, .ref ux6, .ref ux7, .ref ux8, .ref ux9, .ref ux10, .int 0])), (ux1, .inr (5, [.int 0, .ref ux12, .ref ux13, .ref ux14, .ref ux15, .int 0, .ref ux16, .ref ux17, .ref ux18, .ref ux19, .ref ux20, .ref ux21]))]) [0, 2] (by decide) rfl
    have hKc := hK.sub (tys' := []) [] rfl
    have hFc := va_free (wc := [(ua, .inr (8, [.ref ux0, .int 0, .ref ux1, .ref ux2, .ref ux3, .ref ux4, .int 0, .ref ux5, .ref ux6, .ref ux7, .ref ux8, .ref ux9, .ref ux10, .int 0])), (ux1, .inr (5, [.int 0, .ref ux12, .ref ux13, .ref ux14, .ref ux15, .int 0, .ref ux16, .ref ux17, .ref ux18, .ref ux19, .ref ux20, .ref ux21]))]) hD hS hA [0, 2] rfl
    refine va_calli (va_runV (As := [.int (xs (1 : Int32).toNatClampNeg), .int (xs (2 : Int32).toNatClampNeg), .int (xs (3 : Int32).toNatClampNeg), .int (xs (4 : Int32).toNatClampNeg), .int 1]) (rest := []) ⟨hx, hb, hml, hown, hts⟩ (c_X10_paper l dC dI kE ua ux0 ux1 ux2 ux3 ux4 ux5 ux6 ux7 ux8 ux9 ux10 ux12 ux13 ux14 ux15 ux16 ux17 ux18 ux19 ux20 ux21 H.size ((xs (1 : Int32).toNatClampNeg)) ((xs (2 : Int32).toNatClampNeg)) ((xs (3 : Int32).toNatClampNeg)) ((xs (4 : Int32).toNatClampNeg)) 1) (cwV 5 hts gL_law_X10_paper rfl rfl rfl (by decide +kernel) ⟨(Nat.le_of_ble_eq_true rfl), (Nat.le_of_ble_eq_true rfl)⟩) ⟨fun a U g mk q => by obtain ⟨q0, q1, qP, qK, qD, qE⟩ := q; exact ⟨q0, q1, qP, va_K.moved (u := U) (U := U.calling g mk a) (Vm.Alike.refl U.vm) qK, qD, ex_blind qE⟩, va_recv hKc hPc (ci := 8) (q0 := 0) rfl rfl, fun U hU hW => ⟨rfl, by rw [hU], by rw [hU]; exact hPc, va_K.moved hW.alike hKc, hDc.weaken (fun _ _ _ _ => trivial), ex_call hE hS hFc hU hW⟩⟩ rfl rfl hl.1 rfl (lv_room (Nat.le_of_ble_eq_true rfl)) dL_law_992 ⟨(Nat.le_of_ble_eq_true rfl), (Nat.le_of_ble_eq_true rfl)⟩) hS (fun q _ h => hFc q h) hFc (fun r_18 u t H locs ht hvm hw hB hz1 hk1 hS => ?_)
    obtain ⟨hP, hD⟩ := va_join (wr := [(ux0, .inl (ux11, 1600, .inl (fun _ => 0))), (ux2, .inr (5, [.int 0, .ref ux22, .ref ux23, .ref ux24, .ref ux25, .int 0, .ref ux26, .ref ux27, .ref ux28, .ref ux29, .ref ux30, .ref ux31])), (ux3, .inr (3, [.ref ux32, .ref ux33, .int 0, .int (-1)])), (ux32, .inr (7, [.ref ux34, .int 0, .int 0, .ref kE, .int 0, .long 0, .int 0])), (ux4, .inl (ux35, 6, .inl (fun _ => 0))), (ux10, .inr (4, [.int 0, .ref ux36, .ref ux37, .ref ux38, .ref ux39, .ref ux40, .ref ux41, .ref ux42, .int 0, .ref ux43, .ref ux44, .ref ux45])), (wa, .inr (9, mF wx0 0 0 0 (-1) 0 0 0 0 0 0 0 0 0 0 0 0 0 0 0 0 0 0 0 0 0)), ((wx0 0), .inl (wx1, 1620, .inl (fun _ => 0))), ((wx0 2), .inl (wx2, 2, .inl (fun _ => 0))), ((wx0 3), .inl (wx3, 2, .inl (fun _ => 0))), ((wx0 14), .inl (wx4, 6, .inl (fun _ => 0)))]) (w1 := []) hP hD [0, 2] [1, 3, 4, 5, 6, 7, 8, 9, 10, 11, 12] rfl rfl (by decide) (by decide) hk1 hFc ex_P0 ex_D0
    have hP : va_P (dC, dI) vwCl [(ux0, .inl (ux11, 1600, .inl (fun _ => 0))), (ux2, .inr (5, [.int 0, .ref ux22, .ref ux23, .ref ux24, .ref ux25, .int 0, .ref ux26, .ref ux27, .ref ux28, .ref ux29, .ref ux30, .ref ux31])), (ux3, .inr (3, [.ref ux32, .ref ux33, .int 0, .int (-1)])), (ux32, .inr (7, [.ref ux34, .int 0, .int 0, .ref kE, .int 0, .long 0, .int 0])), (ux4, .inl (ux35, 6, .inl (fun _ => 0))), (ux10, .inr (4, [.int 0, .ref ux36, .ref ux37, .ref ux38, .ref ux39, .ref ux40, .ref ux41, .ref ux42, .int 0, .ref ux43, .ref ux44, .ref ux45])), (wa, .inr (9, mF wx0 0 0 0 (-1) 0 0 0 0 0 0 0 0 0 0 0 0 0 0 0 0 0 0 0 0 0)), ((wx0 0), .inl (wx1, 1620, .inl (fun _ => 0))), ((wx0 2), .inl (wx2, 2, .inl (fun _ => 0))), ((wx0 3), .inl (wx3, 2, .inl (fun _ => 0))), ((wx0 14), .inl (wx4, 6, .inl (fun _ => 0)))] H := hP
    have hD : va_D (fun q : Nat => s.heap.size ≤ q) [(ux0, .inl (ux11, 1600, .inl (fun _ => 0))), (ux2, .inr (5, [.int 0, .ref ux22, .ref ux23, .ref ux24, .ref ux25, .int 0, .ref ux26, .ref ux27, .ref ux28, .ref ux29, .ref ux30, .ref ux31])), (ux3, .inr (3, [.ref ux32, .ref ux33, .int 0, .int (-1)])), (ux32, .inr (7, [.ref ux34, .int 0, .int 0, .ref kE, .int 0, .long 0, .int 0])), (ux4, .inl (ux35, 6, .inl (fun _ => 0))), (ux10, .inr (4, [.int 0, .ref ux36, .ref ux37, .ref ux38, .ref ux39, .ref ux40, .ref ux41, .ref ux42, .int 0, .ref ux43, .ref ux44, .ref ux45])), (wa, .inr (9, mF wx0 0 0 0 (-1) 0 0 0 0 0 0 0 0 0 0 0 0 0 0 0 0 0 0 0 0 0)), ((wx0 0), .inl (wx1, 1620, .inl (fun _ => 0))), ((wx0 2), .inl (wx2, 2, .inl (fun _ => 0))), ((wx0 3), .inl (wx3, 2, .inl (fun _ => 0))), ((wx0 14), .inl (wx4, 6, .inl (fun _ => 0)))] := hD
    refine W.widen (k := 162) (n := 9883) (by omega) (by omega) ?_
    obtain rfl : r_18 = ((-1) : Int32) := hw
    refine lv_aload_n hx hb dL_law_995 rfl (lv_at hl 1 rfl) ?_
    refine lv_aload_n hx hb dL_law_996 rfl (lv_at hl 3 rfl) ?_
    refine lv_iload_n hx hb dL_law_997 rfl (lv_at hl 0 rfl) ?_
    refine lv_iconst (v := 1) hx hb dL_law_998 (by decide) ?_
    refine lv_iadd hx hb dL_law_999 ?_
    refine lv_topi (fun z_19 ez_19 => ?_)
    obtain rfl : z_19 = (1 : Int32) := ez_19.trans (by decide)
    refine va_sld hx hb hX hbl hbA hS (by unfold vp_in; decide) dL_law_1000 ?_
    refine lv_aload_n hx hb dL_law_1001 rfl (lv_at hl 3 rfl) ?_
    refine lv_iload_n hx hb dL_law_1002 rfl (lv_at hl 0 rfl) ?_
    refine lv_iconst (v := 2) hx hb dL_law_1003 (by decide) ?_
    refine lv_iadd hx hb dL_law_1004 ?_
    refine lv_topi (fun z_20 ez_20 => ?_)
    obtain rfl : z_20 = (2 : Int32) := ez_20.trans (by decide)
    refine va_sld hx hb hX hbl hbA hS (by unfold vp_in; decide) dL_law_1005 ?_
    refine lv_aload_n hx hb dL_law_1006 rfl (lv_at hl 3 rfl) ?_
    refine lv_iload_n hx hb dL_law_1007 rfl (lv_at hl 0 rfl) ?_
    refine lv_iconst (v := 3) hx hb dL_law_1008 (by decide) ?_
    refine lv_iadd hx hb dL_law_1009 ?_
    refine lv_topi (fun z_21 ez_21 => ?_)
    obtain rfl : z_21 = (3 : Int32) := ez_21.trans (by decide)
    refine va_sld hx hb hX hbl hbA hS (by unfold vp_in; decide) dL_law_1010 ?_
    refine lv_aload_n hx hb dL_law_1011 rfl (lv_at hl 3 rfl) ?_
    refine lv_iload_n hx hb dL_law_1012 rfl (lv_at hl 0 rfl) ?_
    refine lv_iconst (v := 4) hx hb dL_law_1013 (by decide) ?_
    refine lv_iadd hx hb dL_law_1014 ?_
    refine lv_topi (fun z_22 ez_22 => ?_)
    obtain rfl : z_22 = (4 : Int32) := ez_22.trans (by decide)
    refine va_sld hx hb hX hbl hbA hS (by unfold vp_in; decide) dL_law_1015 ?_
    refine lv_aload_n hx hb dL_law_1016 rfl (lv_at hl 3 rfl) ?_
    refine lv_iload_n hx hb dL_law_1017 rfl (lv_at hl 0 rfl) ?_
    refine lv_iconst (v := 5) hx hb dL_law_1018 (by decide) ?_
    refine lv_iadd hx hb dL_law_1019 ?_
    refine lv_topi (fun z_23 ez_23 => ?_)
    obtain rfl : z_23 = (5 : Int32) := ez_23.trans (by decide)
    refine va_sld hx hb hX hbl hbA hS (by unfold vp_in; decide) dL_law_1020 ?_
    refine lv_if_eq (tgt := 1028) hx hb dL_law_1021 (by decide) (fun c_24 => False.elim (c_6 c_24)) (fun c_24 => ?_)
    refine lv_iconst (v := 1) hx hb dL_law_1024 (by decide) ?_
    refine lv_goto (tgt := 1029) hx hb dL_law_1025 (by decide) ?_
    have hPc := hP.sub (ws' := [(wa, .inr (9, mF wx0 0 0 0 (-1) 0 0 0 0 0 0 0 0 0 0 0 0 0 0 0 0 0 0 0 0 0)), ((wx0 2), .inl (wx2, 2, .inl (fun _ => 0))), ((wx0 3), .inl (wx3, 2, .inl (fun _ => 0)))]) [6, 8, 9] rfl
    have hDc := hD.sub (ws' := [(wa, .inr (9, mF wx0 0 0 0 (-1) 0 0 0 0 0 0 0 0 0 0 0 0 0 0 0 0 0 0 0 0 0)), ((wx0 2), .inl (wx2, 2, .inl (fun _ => 0))), ((wx0 3), .inl (wx3, 2, .inl (fun _ => 0)))]) [6, 8, 9] (by decide) rfl
    have hKc := hK.sub (tys' := [(wx2, .int), (wx3, .int)]) [3, 4] rfl
    have hFc := va_free (wc := [(wa, .inr (9, mF wx0 0 0 0 (-1) 0 0 0 0 0 0 0 0 0 0 0 0 0 0 0 0 0 0 0 0 0)), ((wx0 2), .inl (wx2, 2, .inl (fun _ => 0))), ((wx0 3), .inl (wx3, 2, .inl (fun _ => 0)))]) hD hS hA [6, 8, 9] rfl
    refine va_calli (va_runV (As := [.int (xs (1 : Int32).toNatClampNeg), .int (xs (2 : Int32).toNatClampNeg), .int (xs (3 : Int32).toNatClampNeg), .int (xs (4 : Int32).toNatClampNeg), .int 1]) (rest := [.int (-1)]) ⟨hx, hb, hml, hown, hts⟩ (c_X11_paper l dC dI kE wa wx0 wx2 wx3 H.size ((xs (1 : Int32).toNatClampNeg)) ((xs (2 : Int32).toNatClampNeg)) ((xs (3 : Int32).toNatClampNeg)) ((xs (4 : Int32).toNatClampNeg)) 1) (cwV 5 hts gL_law_X11_paper rfl rfl rfl (by decide +kernel) ⟨(Nat.le_of_ble_eq_true rfl), (Nat.le_of_ble_eq_true rfl)⟩) ⟨fun a U g mk q => by obtain ⟨q0, q1, qP, qK, qD, qE⟩ := q; exact ⟨q0, q1, qP, va_K.moved (u := U) (U := U.calling g mk a) (Vm.Alike.refl U.vm) qK, qD, ex_blind qE⟩, va_recv hKc hPc (ci := 9) (q0 := 0) rfl rfl, fun U hU hW => ⟨rfl, by rw [hU], by rw [hU]; exact hPc, va_K.moved hW.alike hKc, hDc.weaken (fun _ _ _ _ => trivial), ex_call hE hS hFc hU hW⟩⟩ rfl rfl hl.1 rfl (lv_room (Nat.le_of_ble_eq_true rfl)) dL_law_1029 ⟨(Nat.le_of_ble_eq_true rfl), (Nat.le_of_ble_eq_true rfl)⟩) hS (fun q _ h => hFc q h) hFc (fun r_25 u t H locs ht hvm hw hB hz1 hk1 hS => ?_)
    obtain ⟨hP, hD⟩ := va_join (wr := [(ux0, .inl (ux11, 1600, .inl (fun _ => 0))), (ux2, .inr (5, [.int 0, .ref ux22, .ref ux23, .ref ux24, .ref ux25, .int 0, .ref ux26, .ref ux27, .ref ux28, .ref ux29, .ref ux30, .ref ux31])), (ux3, .inr (3, [.ref ux32, .ref ux33, .int 0, .int (-1)])), (ux32, .inr (7, [.ref ux34, .int 0, .int 0, .ref kE, .int 0, .long 0, .int 0])), (ux4, .inl (ux35, 6, .inl (fun _ => 0))), (ux10, .inr (4, [.int 0, .ref ux36, .ref ux37, .ref ux38, .ref ux39, .ref ux40, .ref ux41, .ref ux42, .int 0, .ref ux43, .ref ux44, .ref ux45])), ((wx0 0), .inl (wx1, 1620, .inl (fun _ => 0))), ((wx0 14), .inl (wx4, 6, .inl (fun _ => 0)))]) (w1 := []) hP hD [6, 8, 9] [0, 1, 2, 3, 4, 5, 7, 10] rfl rfl (by decide) (by decide) hk1 hFc ex_P0 ex_D0
    have hP : va_P (dC, dI) vwCl [(ux0, .inl (ux11, 1600, .inl (fun _ => 0))), (ux2, .inr (5, [.int 0, .ref ux22, .ref ux23, .ref ux24, .ref ux25, .int 0, .ref ux26, .ref ux27, .ref ux28, .ref ux29, .ref ux30, .ref ux31])), (ux3, .inr (3, [.ref ux32, .ref ux33, .int 0, .int (-1)])), (ux32, .inr (7, [.ref ux34, .int 0, .int 0, .ref kE, .int 0, .long 0, .int 0])), (ux4, .inl (ux35, 6, .inl (fun _ => 0))), (ux10, .inr (4, [.int 0, .ref ux36, .ref ux37, .ref ux38, .ref ux39, .ref ux40, .ref ux41, .ref ux42, .int 0, .ref ux43, .ref ux44, .ref ux45])), ((wx0 0), .inl (wx1, 1620, .inl (fun _ => 0))), ((wx0 14), .inl (wx4, 6, .inl (fun _ => 0)))] H := hP
    have hD : va_D (fun q : Nat => s.heap.size ≤ q) [(ux0, .inl (ux11, 1600, .inl (fun _ => 0))), (ux2, .inr (5, [.int 0, .ref ux22, .ref ux23, .ref ux24, .ref ux25, .int 0, .ref ux26, .ref ux27, .ref ux28, .ref ux29, .ref ux30, .ref ux31])), (ux3, .inr (3, [.ref ux32, .ref ux33, .int 0, .int (-1)])), (ux32, .inr (7, [.ref ux34, .int 0, .int 0, .ref kE, .int 0, .long 0, .int 0])), (ux4, .inl (ux35, 6, .inl (fun _ => 0))), (ux10, .inr (4, [.int 0, .ref ux36, .ref ux37, .ref ux38, .ref ux39, .ref ux40, .ref ux41, .ref ux42, .int 0, .ref ux43, .ref ux44, .ref ux45])), ((wx0 0), .inl (wx1, 1620, .inl (fun _ => 0))), ((wx0 14), .inl (wx4, 6, .inl (fun _ => 0)))] := hD
    refine W.widen (k := 162) (n := 9883) (by omega) (by omega) ?_
    obtain rfl : r_25 = ((-1) : Int32) := hw
    refine lv_icmp_eq (tgt := 1225) hx hb dL_law_1032 (by decide) (fun c_26 => ?_) (fun c_26 => absurd c_26 (by decide))
    refine lv_iinc (v := 6) (lv' := [(3, .int 6), (2, .ref wa), (1, .ref ua), (0, .ref b)]) hx hb dL_law_1225 hl (k := 0) rfl (by decide) (by decide) rfl (fun ls hl => ?_)
    refine lv_goto (tgt := 18) hx hb dL_law_1228 (by decide) ?_
    refine lv_iload_n hx hb dL_law_18 rfl (lv_at hl 0 rfl) ?_
    refine lv_aload_n hx hb dL_law_19 rfl (lv_at hl 3 rfl) ?_
    refine va_slen hx hb hX hbl hbA hS dL_law_20 ?_
    refine lv_bipush (v := 6) hx hb dL_law_21 (by decide) ?_
    refine lv_isub hx hb dL_law_23 ?_
    refine lv_topi (fun z_27 ez_27 => ?_)
    obtain rfl : z_27 = (0 : Int32) := ez_27.trans (by decide)
    refine lv_icmp_gt (tgt := 1231) hx hb dL_law_24 (by decide) (fun c_28 => ?_) (fun c_28 => absurd c_28 (by decide))
    refine lv_iconst (v := 1) hx hb dL_law_1231 (by decide) ?_
    refine va_forget (fun q h => hS.2.2 q h) ?_
    refine W.widen (k := 600000) (n := 7302250) (by omega) (by omega) ?_
    exact lw_ret hx hb hr hlocks dL_law_1232
set_option maxHeartbeats 4000000 in
set_option maxRecDepth 100000 in
theorem law_25 {p : Program} {e : Env} {s : State} {m : MethodId} {below : List Frame} {meth : Method} {c : Code} (l : Launch) {dC : Nat → ClassId} {dI : Nat → Nat → Nat} {kE b : Nat} {xs : Nat → Int32} {ua : Nat} {ux0 : Nat} {ux1 : Nat} {ux2 : Nat} {ux3 : Nat} {ux4 : Nat} {ux5 : Nat} {ux6 : Nat} {ux7 : Nat} {ux8 : Nat} {ux9 : Nat} {ux10 : Nat} {ux12 : Nat} {ux13 : Nat} {ux14 : Nat} {ux15 : Nat} {ux16 : Nat} {ux17 : Nat} {ux18 : Nat} {ux19 : Nat} {ux20 : Nat} {ux21 : Nat} {ux22 : Nat} {ux23 : Nat} {ux24 : Nat} {ux25 : Nat} {ux26 : Nat} {ux27 : Nat} {ux28 : Nat} {ux29 : Nat} {ux30 : Nat} {ux31 : Nat} {ux32 : Nat} {ux33 : Nat} {ux34 : Nat} {ux36 : Nat} {ux37 : Nat} {ux38 : Nat} {ux39 : Nat} {ux40 : Nat} {ux41 : Nat} {ux42 : Nat} {ux43 : Nat} {ux44 : Nat} {ux45 : Nat} {wa : Nat} {wx0 : Nat → Nat} {ux11 ux35 wx1 wx2 wx3 wx4 : ClassId} (C0 : lw_At p s m meth c b 6 xs) (hE : ex_X kE (fun q : Nat => s.heap.size ≤ q) s) (hK : va_K (dC, dI) vwCl [(ux11, .byte), (ux35, .int), (wx1, .byte), (wx2, .int), (wx3, .int), (wx4, .int)] s) {H : Heap} {locs : List Loc} (hP : va_P (dC, dI) vwCl [(ua, .inr (8, [.ref ux0, .int 0, .ref ux1, .ref ux2, .ref ux3, .ref ux4, .int 0, .ref ux5, .ref ux6, .ref ux7, .ref ux8, .ref ux9, .ref ux10, .int 0])), (ux0, .inl (ux11, 1600, .inl (fun _ => 0))), (ux1, .inr (5, [.int 0, .ref ux12, .ref ux13, .ref ux14, .ref ux15, .int 0, .ref ux16, .ref ux17, .ref ux18, .ref ux19, .ref ux20, .ref ux21])), (ux2, .inr (5, [.int 0, .ref ux22, .ref ux23, .ref ux24, .ref ux25, .int 0, .ref ux26, .ref ux27, .ref ux28, .ref ux29, .ref ux30, .ref ux31])), (ux3, .inr (3, [.ref ux32, .ref ux33, .int 0, .int (-1)])), (ux32, .inr (7, [.ref ux34, .int 0, .int 0, .ref kE, .int 0, .long 0, .int 0])), (ux4, .inl (ux35, 6, .inl (fun _ => 0))), (ux10, .inr (4, [.int 0, .ref ux36, .ref ux37, .ref ux38, .ref ux39, .ref ux40, .ref ux41, .ref ux42, .int 0, .ref ux43, .ref ux44, .ref ux45])), (wa, .inr (9, mF wx0 0 0 0 (-1) 0 0 0 0 0 0 0 0 0 0 0 0 0 0 0 0 0 0 0 0 0)), ((wx0 0), .inl (wx1, 1620, .inl (fun _ => 0))), ((wx0 2), .inl (wx2, 2, .inl (fun _ => 0))), ((wx0 3), .inl (wx3, 2, .inl (fun _ => 0))), ((wx0 14), .inl (wx4, 6, .inl (fun _ => 0)))] H) (hD : va_D (fun q : Nat => s.heap.size ≤ q) [(ua, .inr (8, [.ref ux0, .int 0, .ref ux1, .ref ux2, .ref ux3, .ref ux4, .int 0, .ref ux5, .ref ux6, .ref ux7, .ref ux8, .ref ux9, .ref ux10, .int 0])), (ux0, .inl (ux11, 1600, .inl (fun _ => 0))), (ux1, .inr (5, [.int 0, .ref ux12, .ref ux13, .ref ux14, .ref ux15, .int 0, .ref ux16, .ref ux17, .ref ux18, .ref ux19, .ref ux20, .ref ux21])), (ux2, .inr (5, [.int 0, .ref ux22, .ref ux23, .ref ux24, .ref ux25, .int 0, .ref ux26, .ref ux27, .ref ux28, .ref ux29, .ref ux30, .ref ux31])), (ux3, .inr (3, [.ref ux32, .ref ux33, .int 0, .int (-1)])), (ux32, .inr (7, [.ref ux34, .int 0, .int 0, .ref kE, .int 0, .long 0, .int 0])), (ux4, .inl (ux35, 6, .inl (fun _ => 0))), (ux10, .inr (4, [.int 0, .ref ux36, .ref ux37, .ref ux38, .ref ux39, .ref ux40, .ref ux41, .ref ux42, .int 0, .ref ux43, .ref ux44, .ref ux45])), (wa, .inr (9, mF wx0 0 0 0 (-1) 0 0 0 0 0 0 0 0 0 0 0 0 0 0 0 0 0 0 0 0 0)), ((wx0 0), .inl (wx1, 1620, .inl (fun _ => 0))), ((wx0 2), .inl (wx2, 2, .inl (fun _ => 0))), ((wx0 3), .inl (wx3, 2, .inl (fun _ => 0))), ((wx0 14), .inl (wx4, 6, .inl (fun _ => 0)))]) (hS : va_S (fun q : Nat => s.heap.size ≤ q) s.heap H locs) {ls : Array Slot} (hl : lv_has ls 4 [(3, .int 0), (2, .ref wa), (1, .ref ua), (0, .ref b)]) : W p l e room_1 s m #[Value.ref b] below meth c H locs 162 9883 (lw_Z below #[Value.ref b] s) (F0 m 1037 ls []) := by
  obtain ⟨hx, hb, hr, hml, hown, hts0, hX, hbl, hlocks, hgv⟩ := C0
  have hts := hts0
  have hown : s.vm.findClass RL = some m.cls := hown
  have hA : ∀ q : Nat, s.heap.size ≤ q → (fun q : Nat => s.heap.size ≤ q) q := fun _ h => h
  have hbA : ¬ (fun q : Nat => s.heap.size ≤ q) b := Nat.not_le.mpr hbl
  refine lv_aload_n hx hb dL_law_1037 rfl (lv_at hl 2 rfl) ?_
  refine lv_aload_n hx hb dL_law_1038 rfl (lv_at hl 3 rfl) ?_
  refine lv_iload_n hx hb dL_law_1039 rfl (lv_at hl 0 rfl) ?_
  refine lv_iconst (v := 1) hx hb dL_law_1040 (by decide) ?_
  refine lv_iadd hx hb dL_law_1041 ?_
  refine lv_topi (fun z_1 ez_1 => ?_)
  obtain rfl : z_1 = (1 : Int32) := ez_1.trans (by decide)
  refine va_sld hx hb hX hbl hbA hS (by unfold vp_in; decide) dL_law_1042 ?_
  have hPc := hP.sub (ws' := [(ua, .inr (8, [.ref ux0, .int 0, .ref ux1, .ref ux2, .ref ux3, .ref ux4, .int 0, .ref ux5, .ref ux6, .ref ux7, .ref ux8, .ref ux9, .ref ux10, .int 0])), (ux10, .inr (4, [.int 0, .ref ux36, .ref ux37, .ref ux38, .ref ux39, .ref ux40, .ref ux41, .ref ux42, .int 0, .ref ux43, .ref ux44, .ref ux45]))]) [0, 7] rfl
  have hDc := hD.sub (ws' := [(ua, .inr (8, [.ref ux0, .int 0, .ref ux1, .ref ux2, .ref ux3, .ref ux4, .int 0, .ref ux5, .ref ux6, .ref ux7, .ref ux8, .ref ux9, .ref ux10, .int 0])), (ux10, .inr (4, [.int 0, .ref ux36, .ref ux37, .ref ux38, .ref ux39, .ref ux40, .ref ux41, .ref ux42, .int 0, .ref ux43, .ref ux44, .ref ux45]))]) [0, 7] (by decide) rfl
  have hKc := hK.sub (tys' := []) [] rfl
  have hFc := va_free (wc := [(ua, .inr (8, [.ref ux0, .int 0, .ref ux1, .ref ux2, .ref ux3, .ref ux4, .int 0, .ref ux5, .ref ux6, .ref ux7, .ref ux8, .ref ux9, .ref ux10, .int 0])), (ux10, .inr (4, [.int 0, .ref ux36, .ref ux37, .ref ux38, .ref ux39, .ref ux40, .ref ux41, .ref ux42, .int 0, .ref ux43, .ref ux44, .ref ux45]))]) hD hS hA [0, 7] rfl
  refine va_calli (va_runV (As := [.int (xs (1 : Int32).toNatClampNeg)]) (rest := []) ⟨hx, hb, hml, hown, hts⟩ (c_X10_untell l dC dI kE ua ux0 ux1 ux2 ux3 ux4 ux5 ux6 ux7 ux8 ux9 ux10 ux36 ux37 ux38 ux39 ux40 ux41 ux42 ux43 ux44 ux45 H.size ((xs (1 : Int32).toNatClampNeg))) (cwV 1 hts gL_law_X10_untell rfl rfl rfl (by decide +kernel) ⟨(Nat.le_of_ble_eq_true rfl), (Nat.le_of_ble_eq_true rfl)⟩) ⟨fun a U g mk q => by obtain ⟨q0, q1, qP, qK, qD, qE⟩ := q; exact ⟨q0, q1, qP, va_K.moved (u := U) (U := U.calling g mk a) (Vm.Alike.refl U.vm) qK, qD, ex_blind qE⟩, va_recv hKc hPc (ci := 8) (q0 := 0) rfl rfl, fun U hU hW => ⟨rfl, by rw [hU], by rw [hU]; exact hPc, va_K.moved hW.alike hKc, hDc.weaken (fun _ _ _ _ => trivial), ex_call hE hS hFc hU hW⟩⟩ rfl rfl hl.1 rfl (lv_room (Nat.le_of_ble_eq_true rfl)) dL_law_1043 ⟨(Nat.le_of_ble_eq_true rfl), (Nat.le_of_ble_eq_true rfl)⟩) hS (fun q _ h => hFc q h) hFc (fun r_2 u t H locs ht hvm hw hB hz1 hk1 hS => ?_)
  obtain ⟨hP, hD⟩ := va_join (wr := [(ux0, .inl (ux11, 1600, .inl (fun _ => 0))), (ux1, .inr (5, [.int 0, .ref ux12, .ref ux13, .ref ux14, .ref ux15, .int 0, .ref ux16, .ref ux17, .ref ux18, .ref ux19, .ref ux20, .ref ux21])), (ux2, .inr (5, [.int 0, .ref ux22, .ref ux23, .ref ux24, .ref ux25, .int 0, .ref ux26, .ref ux27, .ref ux28, .ref ux29, .ref ux30, .ref ux31])), (ux3, .inr (3, [.ref ux32, .ref ux33, .int 0, .int (-1)])), (ux32, .inr (7, [.ref ux34, .int 0, .int 0, .ref kE, .int 0, .long 0, .int 0])), (ux4, .inl (ux35, 6, .inl (fun _ => 0))), (wa, .inr (9, mF wx0 0 0 0 (-1) 0 0 0 0 0 0 0 0 0 0 0 0 0 0 0 0 0 0 0 0 0)), ((wx0 0), .inl (wx1, 1620, .inl (fun _ => 0))), ((wx0 2), .inl (wx2, 2, .inl (fun _ => 0))), ((wx0 3), .inl (wx3, 2, .inl (fun _ => 0))), ((wx0 14), .inl (wx4, 6, .inl (fun _ => 0)))]) (w1 := []) hP hD [0, 7] [1, 2, 3, 4, 5, 6, 8, 9, 10, 11, 12] rfl rfl (by decide) (by decide) hk1 hFc ex_P0 ex_D0
  have hP : va_P (dC, dI) vwCl [(ux0, .inl (ux11, 1600, .inl (fun _ => 0))), (ux1, .inr (5, [.int 0, .ref ux12, .ref ux13, .ref ux14, .ref ux15, .int 0, .ref ux16, .ref ux17, .ref ux18, .ref ux19, .ref ux20, .ref ux21])), (ux2, .inr (5, [.int 0, .ref ux22, .ref ux23, .ref ux24, .ref ux25, .int 0, .ref ux26, .ref ux27, .ref ux28, .ref ux29, .ref ux30, .ref ux31])), (ux3, .inr (3, [.ref ux32, .ref ux33, .int 0, .int (-1)])), (ux32, .inr (7, [.ref ux34, .int 0, .int 0, .ref kE, .int 0, .long 0, .int 0])), (ux4, .inl (ux35, 6, .inl (fun _ => 0))), (wa, .inr (9, mF wx0 0 0 0 (-1) 0 0 0 0 0 0 0 0 0 0 0 0 0 0 0 0 0 0 0 0 0)), ((wx0 0), .inl (wx1, 1620, .inl (fun _ => 0))), ((wx0 2), .inl (wx2, 2, .inl (fun _ => 0))), ((wx0 3), .inl (wx3, 2, .inl (fun _ => 0))), ((wx0 14), .inl (wx4, 6, .inl (fun _ => 0)))] H := hP
  have hD : va_D (fun q : Nat => s.heap.size ≤ q) [(ux0, .inl (ux11, 1600, .inl (fun _ => 0))), (ux1, .inr (5, [.int 0, .ref ux12, .ref ux13, .ref ux14, .ref ux15, .int 0, .ref ux16, .ref ux17, .ref ux18, .ref ux19, .ref ux20, .ref ux21])), (ux2, .inr (5, [.int 0, .ref ux22, .ref ux23, .ref ux24, .ref ux25, .int 0, .ref ux26, .ref ux27, .ref ux28, .ref ux29, .ref ux30, .ref ux31])), (ux3, .inr (3, [.ref ux32, .ref ux33, .int 0, .int (-1)])), (ux32, .inr (7, [.ref ux34, .int 0, .int 0, .ref kE, .int 0, .long 0, .int 0])), (ux4, .inl (ux35, 6, .inl (fun _ => 0))), (wa, .inr (9, mF wx0 0 0 0 (-1) 0 0 0 0 0 0 0 0 0 0 0 0 0 0 0 0 0 0 0 0 0)), ((wx0 0), .inl (wx1, 1620, .inl (fun _ => 0))), ((wx0 2), .inl (wx2, 2, .inl (fun _ => 0))), ((wx0 3), .inl (wx3, 2, .inl (fun _ => 0))), ((wx0 14), .inl (wx4, 6, .inl (fun _ => 0)))] := hD
  refine W.widen (k := 162) (n := 9883) (by omega) (by omega) ?_
  obtain rfl : r_2 = (0 : Int32) := hw
  refine lv_aload_n hx hb dL_law_1046 rfl (lv_at hl 1 rfl) ?_
  refine lv_aload_n hx hb dL_law_1047 rfl (lv_at hl 3 rfl) ?_
  refine lv_iload_n hx hb dL_law_1048 rfl (lv_at hl 0 rfl) ?_
  refine lv_iconst (v := 1) hx hb dL_law_1049 (by decide) ?_
  refine lv_iadd hx hb dL_law_1050 ?_
  refine lv_topi (fun z_3 ez_3 => ?_)
  obtain rfl : z_3 = (1 : Int32) := ez_3.trans (by decide)
  refine va_sld hx hb hX hbl hbA hS (by unfold vp_in; decide) dL_law_1051 ?_
  have hPc := hP.sub (ws' := [(wa, .inr (9, mF wx0 0 0 0 (-1) 0 0 0 0 0 0 0 0 0 0 0 0 0 0 0 0 0 0 0 0 0)), ((wx0 2), .inl (wx2, 2, .inl (fun _ => 0))), ((wx0 3), .inl (wx3, 2, .inl (fun _ => 0)))]) [6, 8, 9] rfl
  have hDc := hD.sub (ws' := [(wa, .inr (9, mF wx0 0 0 0 (-1) 0 0 0 0 0 0 0 0 0 0 0 0 0 0 0 0 0 0 0 0 0)), ((wx0 2), .inl (wx2, 2, .inl (fun _ => 0))), ((wx0 3), .inl (wx3, 2, .inl (fun _ => 0)))]) [6, 8, 9] (by decide) rfl
  have hKc := hK.sub (tys' := [(wx2, .int), (wx3, .int)]) [3, 4] rfl
  have hFc := va_free (wc := [(wa, .inr (9, mF wx0 0 0 0 (-1) 0 0 0 0 0 0 0 0 0 0 0 0 0 0 0 0 0 0 0 0 0)), ((wx0 2), .inl (wx2, 2, .inl (fun _ => 0))), ((wx0 3), .inl (wx3, 2, .inl (fun _ => 0)))]) hD hS hA [6, 8, 9] rfl
  refine va_calli (va_runV (As := [.int (xs (1 : Int32).toNatClampNeg)]) (rest := [.int 0]) ⟨hx, hb, hml, hown, hts⟩ (c_X11_untell l dC dI kE wa wx0 wx2 wx3 H.size ((xs (1 : Int32).toNatClampNeg))) (cwV 1 hts gL_law_X11_untell rfl rfl rfl (by decide +kernel) ⟨(Nat.le_of_ble_eq_true rfl), (Nat.le_of_ble_eq_true rfl)⟩) ⟨fun a U g mk q => by obtain ⟨q0, q1, qP, qK, qD, qE⟩ := q; exact ⟨q0, q1, qP, va_K.moved (u := U) (U := U.calling g mk a) (Vm.Alike.refl U.vm) qK, qD, ex_blind qE⟩, va_recv hKc hPc (ci := 9) (q0 := 0) rfl rfl, fun U hU hW => ⟨rfl, by rw [hU], by rw [hU]; exact hPc, va_K.moved hW.alike hKc, hDc.weaken (fun _ _ _ _ => trivial), ex_call hE hS hFc hU hW⟩⟩ rfl rfl hl.1 rfl (lv_room (Nat.le_of_ble_eq_true rfl)) dL_law_1052 ⟨(Nat.le_of_ble_eq_true rfl), (Nat.le_of_ble_eq_true rfl)⟩) hS (fun q _ h => hFc q h) hFc (fun r_4 u t H locs ht hvm hw hB hz1 hk1 hS => ?_)
  obtain ⟨hP, hD⟩ := va_join (wr := [(ux0, .inl (ux11, 1600, .inl (fun _ => 0))), (ux1, .inr (5, [.int 0, .ref ux12, .ref ux13, .ref ux14, .ref ux15, .int 0, .ref ux16, .ref ux17, .ref ux18, .ref ux19, .ref ux20, .ref ux21])), (ux2, .inr (5, [.int 0, .ref ux22, .ref ux23, .ref ux24, .ref ux25, .int 0, .ref ux26, .ref ux27, .ref ux28, .ref ux29, .ref ux30, .ref ux31])), (ux3, .inr (3, [.ref ux32, .ref ux33, .int 0, .int (-1)])), (ux32, .inr (7, [.ref ux34, .int 0, .int 0, .ref kE, .int 0, .long 0, .int 0])), (ux4, .inl (ux35, 6, .inl (fun _ => 0))), ((wx0 0), .inl (wx1, 1620, .inl (fun _ => 0))), ((wx0 14), .inl (wx4, 6, .inl (fun _ => 0)))]) (w1 := []) hP hD [6, 8, 9] [0, 1, 2, 3, 4, 5, 7, 10] rfl rfl (by decide) (by decide) hk1 hFc ex_P0 ex_D0
  have hP : va_P (dC, dI) vwCl [(ux0, .inl (ux11, 1600, .inl (fun _ => 0))), (ux1, .inr (5, [.int 0, .ref ux12, .ref ux13, .ref ux14, .ref ux15, .int 0, .ref ux16, .ref ux17, .ref ux18, .ref ux19, .ref ux20, .ref ux21])), (ux2, .inr (5, [.int 0, .ref ux22, .ref ux23, .ref ux24, .ref ux25, .int 0, .ref ux26, .ref ux27, .ref ux28, .ref ux29, .ref ux30, .ref ux31])), (ux3, .inr (3, [.ref ux32, .ref ux33, .int 0, .int (-1)])), (ux32, .inr (7, [.ref ux34, .int 0, .int 0, .ref kE, .int 0, .long 0, .int 0])), (ux4, .inl (ux35, 6, .inl (fun _ => 0))), ((wx0 0), .inl (wx1, 1620, .inl (fun _ => 0))), ((wx0 14), .inl (wx4, 6, .inl (fun _ => 0)))] H := hP
  have hD : va_D (fun q : Nat => s.heap.size ≤ q) [(ux0, .inl (ux11, 1600, .inl (fun _ => 0))), (ux1, .inr (5, [.int 0, .ref ux12, .ref ux13, .ref ux14, .ref ux15, .int 0, .ref ux16, .ref ux17, .ref ux18, .ref ux19, .ref ux20, .ref ux21])), (ux2, .inr (5, [.int 0, .ref ux22, .ref ux23, .ref ux24, .ref ux25, .int 0, .ref ux26, .ref ux27, .ref ux28, .ref ux29, .ref ux30, .ref ux31])), (ux3, .inr (3, [.ref ux32, .ref ux33, .int 0, .int (-1)])), (ux32, .inr (7, [.ref ux34, .int 0, .int 0, .ref kE, .int 0, .long 0, .int 0])), (ux4, .inl (ux35, 6, .inl (fun _ => 0))), ((wx0 0), .inl (wx1, 1620, .inl (fun _ => 0))), ((wx0 14), .inl (wx4, 6, .inl (fun _ => 0)))] := hD
  refine W.widen (k := 162) (n := 9883) (by omega) (by omega) ?_
  obtain rfl : r_4 = (0 : Int32) := hw
  refine lv_icmp_eq (tgt := 1225) hx hb dL_law_1055 (by decide) (fun c_5 => ?_) (fun c_5 => absurd c_5 (by decide))
  refine lv_iinc (v := 6) (lv' := [(3, .int 6), (2, .ref wa), (1, .ref ua), (0, .ref b)]) hx hb dL_law_1225 hl (k := 0) rfl (by decide) (by decide) rfl (fun ls hl => ?_)
  refine lv_goto (tgt := 18) hx hb dL_law_1228 (by decide) ?_
  refine lv_iload_n hx hb dL_law_18 rfl (lv_at hl 0 rfl) ?_
  refine lv_aload_n hx hb dL_law_19 rfl (lv_at hl 3 rfl) ?_
  refine va_slen hx hb hX hbl hbA hS dL_law_20 ?_
  refine lv_bipush (v := 6) hx hb dL_law_21 (by decide) ?_
  refine lv_isub hx hb dL_law_23 ?_
  refine lv_topi (fun z_6 ez_6 => ?_)
  obtain rfl : z_6 = (0 : Int32) := ez_6.trans (by decide)
  refine lv_icmp_gt (tgt := 1231) hx hb dL_law_24 (by decide) (fun c_7 => ?_) (fun c_7 => absurd c_7 (by decide))
  refine lv_iconst (v := 1) hx hb dL_law_1231 (by decide) ?_
  refine va_forget (fun q h => hS.2.2 q h) ?_
  refine W.widen (k := 600000) (n := 7302250) (by omega) (by omega) ?_
  exact lw_ret hx hb hr hlocks dL_law_1232
set_option maxHeartbeats 4000000 in
set_option maxRecDepth 100000 in
theorem law_26 {p : Program} {e : Env} {s : State} {m : MethodId} {below : List Frame} {meth : Method} {c : Code} (l : Launch) {dC : Nat → ClassId} {dI : Nat → Nat → Nat} {kE b : Nat} {xs : Nat → Int32} {ua : Nat} {ux0 : Nat} {ux1 : Nat} {ux2 : Nat} {ux3 : Nat} {ux4 : Nat} {ux5 : Nat} {ux6 : Nat} {ux7 : Nat} {ux8 : Nat} {ux9 : Nat} {ux10 : Nat} {ux12 : Nat} {ux13 : Nat} {ux14 : Nat} {ux15 : Nat} {ux16 : Nat} {ux17 : Nat} {ux18 : Nat} {ux19 : Nat} {ux20 : Nat} {ux21 : Nat} {ux22 : Nat} {ux23 : Nat} {ux24 : Nat} {ux25 : Nat} {ux26 : Nat} {ux27 : Nat} {ux28 : Nat} {ux29 : Nat} {ux30 : Nat} {ux31 : Nat} {ux32 : Nat} {ux33 : Nat} {ux34 : Nat} {ux36 : Nat} {ux37 : Nat} {ux38 : Nat} {ux39 : Nat} {ux40 : Nat} {ux41 : Nat} {ux42 : Nat} {ux43 : Nat} {ux44 : Nat} {ux45 : Nat} {wa : Nat} {wx0 : Nat → Nat} {ux11 ux35 wx1 wx2 wx3 wx4 : ClassId} (C0 : lw_At p s m meth c b 6 xs) (hE : ex_X kE (fun q : Nat => s.heap.size ≤ q) s) (hK : va_K (dC, dI) vwCl [(ux11, .byte), (ux35, .int), (wx1, .byte), (wx2, .int), (wx3, .int), (wx4, .int)] s) {H : Heap} {locs : List Loc} (hP : va_P (dC, dI) vwCl [(ua, .inr (8, [.ref ux0, .int 0, .ref ux1, .ref ux2, .ref ux3, .ref ux4, .int 0, .ref ux5, .ref ux6, .ref ux7, .ref ux8, .ref ux9, .ref ux10, .int 0])), (ux0, .inl (ux11, 1600, .inl (fun _ => 0))), (ux1, .inr (5, [.int 0, .ref ux12, .ref ux13, .ref ux14, .ref ux15, .int 0, .ref ux16, .ref ux17, .ref ux18, .ref ux19, .ref ux20, .ref ux21])), (ux2, .inr (5, [.int 0, .ref ux22, .ref ux23, .ref ux24, .ref ux25, .int 0, .ref ux26, .ref ux27, .ref ux28, .ref ux29, .ref ux30, .ref ux31])), (ux3, .inr (3, [.ref ux32, .ref ux33, .int 0, .int (-1)])), (ux32, .inr (7, [.ref ux34, .int 0, .int 0, .ref kE, .int 0, .long 0, .int 0])), (ux4, .inl (ux35, 6, .inl (fun _ => 0))), (ux10, .inr (4, [.int 0, .ref ux36, .ref ux37, .ref ux38, .ref ux39, .ref ux40, .ref ux41, .ref ux42, .int 0, .ref ux43, .ref ux44, .ref ux45])), (wa, .inr (9, mF wx0 0 0 0 (-1) 0 0 0 0 0 0 0 0 0 0 0 0 0 0 0 0 0 0 0 0 0)), ((wx0 0), .inl (wx1, 1620, .inl (fun _ => 0))), ((wx0 2), .inl (wx2, 2, .inl (fun _ => 0))), ((wx0 3), .inl (wx3, 2, .inl (fun _ => 0))), ((wx0 14), .inl (wx4, 6, .inl (fun _ => 0)))] H) (hD : va_D (fun q : Nat => s.heap.size ≤ q) [(ua, .inr (8, [.ref ux0, .int 0, .ref ux1, .ref ux2, .ref ux3, .ref ux4, .int 0, .ref ux5, .ref ux6, .ref ux7, .ref ux8, .ref ux9, .ref ux10, .int 0])), (ux0, .inl (ux11, 1600, .inl (fun _ => 0))), (ux1, .inr (5, [.int 0, .ref ux12, .ref ux13, .ref ux14, .ref ux15, .int 0, .ref ux16, .ref ux17, .ref ux18, .ref ux19, .ref ux20, .ref ux21])), (ux2, .inr (5, [.int 0, .ref ux22, .ref ux23, .ref ux24, .ref ux25, .int 0, .ref ux26, .ref ux27, .ref ux28, .ref ux29, .ref ux30, .ref ux31])), (ux3, .inr (3, [.ref ux32, .ref ux33, .int 0, .int (-1)])), (ux32, .inr (7, [.ref ux34, .int 0, .int 0, .ref kE, .int 0, .long 0, .int 0])), (ux4, .inl (ux35, 6, .inl (fun _ => 0))), (ux10, .inr (4, [.int 0, .ref ux36, .ref ux37, .ref ux38, .ref ux39, .ref ux40, .ref ux41, .ref ux42, .int 0, .ref ux43, .ref ux44, .ref ux45])), (wa, .inr (9, mF wx0 0 0 0 (-1) 0 0 0 0 0 0 0 0 0 0 0 0 0 0 0 0 0 0 0 0 0)), ((wx0 0), .inl (wx1, 1620, .inl (fun _ => 0))), ((wx0 2), .inl (wx2, 2, .inl (fun _ => 0))), ((wx0 3), .inl (wx3, 2, .inl (fun _ => 0))), ((wx0 14), .inl (wx4, 6, .inl (fun _ => 0)))]) (hS : va_S (fun q : Nat => s.heap.size ≤ q) s.heap H locs) {ls : Array Slot} (hl : lv_has ls 4 [(3, .int 0), (2, .ref wa), (1, .ref ua), (0, .ref b)]) : W p l e room_1 s m #[Value.ref b] below meth c H locs 162 9883 (lw_Z below #[Value.ref b] s) (F0 m 1060 ls []) := by
  obtain ⟨hx, hb, hr, hml, hown, hts0, hX, hbl, hlocks, hgv⟩ := C0
  have hts := hts0
  have hown : s.vm.findClass RL = some m.cls := hown
  have hA : ∀ q : Nat, s.heap.size ≤ q → (fun q : Nat => s.heap.size ≤ q) q := fun _ h => h
  have hbA : ¬ (fun q : Nat => s.heap.size ≤ q) b := Nat.not_le.mpr hbl
  refine lv_aload_n hx hb dL_law_1060 rfl (lv_at hl 2 rfl) ?_
  refine lv_aload_n hx hb dL_law_1061 rfl (lv_at hl 3 rfl) ?_
  refine lv_iload_n hx hb dL_law_1062 rfl (lv_at hl 0 rfl) ?_
  refine lv_iconst (v := 1) hx hb dL_law_1063 (by decide) ?_
  refine lv_iadd hx hb dL_law_1064 ?_
  refine lv_topi (fun z_1 ez_1 => ?_)
  obtain rfl : z_1 = (1 : Int32) := ez_1.trans (by decide)
  refine va_sld hx hb hX hbl hbA hS (by unfold vp_in; decide) dL_law_1065 ?_
  have hPc := hP.sub (ws' := [(ua, .inr (8, [.ref ux0, .int 0, .ref ux1, .ref ux2, .ref ux3, .ref ux4, .int 0, .ref ux5, .ref ux6, .ref ux7, .ref ux8, .ref ux9, .ref ux10, .int 0]))]) [0] rfl
  have hDc := hD.sub (ws' := [(ua, .inr (8, [.ref ux0, .int 0, .ref ux1, .ref ux2, .ref ux3, .ref ux4, .int 0, .ref ux5, .ref ux6, .ref ux7, .ref ux8, .ref ux9, .ref ux10, .int 0]))]) [0] (by decide) rfl
  have hKc := hK.sub (tys' := []) [] rfl
  have hFc := va_free (wc := [(ua, .inr (8, [.ref ux0, .int 0, .ref ux1, .ref ux2, .ref ux3, .ref ux4, .int 0, .ref ux5, .ref ux6, .ref ux7, .ref ux8, .ref ux9, .ref ux10, .int 0]))]) hD hS hA [0] rfl
  refine va_calli (va_runV (As := [.int (xs (1 : Int32).toNatClampNeg)]) (rest := []) ⟨hx, hb, hml, hown, hts⟩ (c_X10_later l dC dI kE ua ux0 ux1 ux2 ux3 ux4 ux5 ux6 ux7 ux8 ux9 ux10 H.size ((xs (1 : Int32).toNatClampNeg))) (cwV 1 hts gL_law_X10_later rfl rfl rfl (by decide +kernel) ⟨(Nat.le_of_ble_eq_true rfl), (Nat.le_of_ble_eq_true rfl)⟩) ⟨fun a U g mk q => by obtain ⟨q0, q1, qP, qK, qD, qE⟩ := q; exact ⟨q0, q1, qP, va_K.moved (u := U) (U := U.calling g mk a) (Vm.Alike.refl U.vm) qK, qD, ex_blind qE⟩, va_recv hKc hPc (ci := 8) (q0 := 0) rfl rfl, fun U hU hW => ⟨rfl, by rw [hU], by rw [hU]; exact hPc, va_K.moved hW.alike hKc, hDc.weaken (fun _ _ _ _ => trivial), ex_call hE hS hFc hU hW⟩⟩ rfl rfl hl.1 rfl (lv_room (Nat.le_of_ble_eq_true rfl)) dL_law_1066 ⟨(Nat.le_of_ble_eq_true rfl), (Nat.le_of_ble_eq_true rfl)⟩) hS (fun q _ h => hFc q h) hFc (fun r_2 u t H locs ht hvm hw hB hz1 hk1 hS => ?_)
  obtain ⟨hP, hD⟩ := va_join (wr := [(ux0, .inl (ux11, 1600, .inl (fun _ => 0))), (ux1, .inr (5, [.int 0, .ref ux12, .ref ux13, .ref ux14, .ref ux15, .int 0, .ref ux16, .ref ux17, .ref ux18, .ref ux19, .ref ux20, .ref ux21])), (ux2, .inr (5, [.int 0, .ref ux22, .ref ux23, .ref ux24, .ref ux25, .int 0, .ref ux26, .ref ux27, .ref ux28, .ref ux29, .ref ux30, .ref ux31])), (ux3, .inr (3, [.ref ux32, .ref ux33, .int 0, .int (-1)])), (ux32, .inr (7, [.ref ux34, .int 0, .int 0, .ref kE, .int 0, .long 0, .int 0])), (ux4, .inl (ux35, 6, .inl (fun _ => 0))), (ux10, .inr (4, [.int 0, .ref ux36, .ref ux37, .ref ux38, .ref ux39, .ref ux40, .ref ux41, .ref ux42, .int 0, .ref ux43, .ref ux44, .ref ux45])), (wa, .inr (9, mF wx0 0 0 0 (-1) 0 0 0 0 0 0 0 0 0 0 0 0 0 0 0 0 0 0 0 0 0)), ((wx0 0), .inl (wx1, 1620, .inl (fun _ => 0))), ((wx0 2), .inl (wx2, 2, .inl (fun _ => 0))), ((wx0 3), .inl (wx3, 2, .inl (fun _ => 0))), ((wx0 14), .inl (wx4, 6, .inl (fun _ => 0)))]) (w1 := []) hP hD [0] [1, 2, 3, 4, 5, 6, 7, 8, 9, 10, 11, 12] rfl rfl (by decide) (by decide) hk1 hFc ex_P0 ex_D0
  have hP : va_P (dC, dI) vwCl [(ux0, .inl (ux11, 1600, .inl (fun _ => 0))), (ux1, .inr (5, [.int 0, .ref ux12, .ref ux13, .ref ux14, .ref ux15, .int 0, .ref ux16, .ref ux17, .ref ux18, .ref ux19, .ref ux20, .ref ux21])), (ux2, .inr (5, [.int 0, .ref ux22, .ref ux23, .ref ux24, .ref ux25, .int 0, .ref ux26, .ref ux27, .ref ux28, .ref ux29, .ref ux30, .ref ux31])), (ux3, .inr (3, [.ref ux32, .ref ux33, .int 0, .int (-1)])), (ux32, .inr (7, [.ref ux34, .int 0, .int 0, .ref kE, .int 0, .long 0, .int 0])), (ux4, .inl (ux35, 6, .inl (fun _ => 0))), (ux10, .inr (4, [.int 0, .ref ux36, .ref ux37, .ref ux38, .ref ux39, .ref ux40, .ref ux41, .ref ux42, .int 0, .ref ux43, .ref ux44, .ref ux45])), (wa, .inr (9, mF wx0 0 0 0 (-1) 0 0 0 0 0 0 0 0 0 0 0 0 0 0 0 0 0 0 0 0 0)), ((wx0 0), .inl (wx1, 1620, .inl (fun _ => 0))), ((wx0 2), .inl (wx2, 2, .inl (fun _ => 0))), ((wx0 3), .inl (wx3, 2, .inl (fun _ => 0))), ((wx0 14), .inl (wx4, 6, .inl (fun _ => 0)))] H := hP
  have hD : va_D (fun q : Nat => s.heap.size ≤ q) [(ux0, .inl (ux11, 1600, .inl (fun _ => 0))), (ux1, .inr (5, [.int 0, .ref ux12, .ref ux13, .ref ux14, .ref ux15, .int 0, .ref ux16, .ref ux17, .ref ux18, .ref ux19, .ref ux20, .ref ux21])), (ux2, .inr (5, [.int 0, .ref ux22, .ref ux23, .ref ux24, .ref ux25, .int 0, .ref ux26, .ref ux27, .ref ux28, .ref ux29, .ref ux30, .ref ux31])), (ux3, .inr (3, [.ref ux32, .ref ux33, .int 0, .int (-1)])), (ux32, .inr (7, [.ref ux34, .int 0, .int 0, .ref kE, .int 0, .long 0, .int 0])), (ux4, .inl (ux35, 6, .inl (fun _ => 0))), (ux10, .inr (4, [.int 0, .ref ux36, .ref ux37, .ref ux38, .ref ux39, .ref ux40, .ref ux41, .ref ux42, .int 0, .ref ux43, .ref ux44, .ref ux45])), (wa, .inr (9, mF wx0 0 0 0 (-1) 0 0 0 0 0 0 0 0 0 0 0 0 0 0 0 0 0 0 0 0 0)), ((wx0 0), .inl (wx1, 1620, .inl (fun _ => 0))), ((wx0 2), .inl (wx2, 2, .inl (fun _ => 0))), ((wx0 3), .inl (wx3, 2, .inl (fun _ => 0))), ((wx0 14), .inl (wx4, 6, .inl (fun _ => 0)))] := hD
  refine W.widen (k := 162) (n := 9883) (by omega) (by omega) ?_
  rcases hw with ⟨rfl, c_3⟩ | ⟨rfl, c_4, c_5⟩ | ⟨rfl, c_6, c_7, c_8⟩ | ⟨rfl, c_9, c_10, c_11⟩
  · refine lv_aload_n hx hb dL_law_1069 rfl (lv_at hl 1 rfl) ?_
    refine lv_aload_n hx hb dL_law_1070 rfl (lv_at hl 3 rfl) ?_
    refine lv_iload_n hx hb dL_law_1071 rfl (lv_at hl 0 rfl) ?_
    refine lv_iconst (v := 1) hx hb dL_law_1072 (by decide) ?_
    refine lv_iadd hx hb dL_law_1073 ?_
    refine lv_topi (fun z_12 ez_12 => ?_)
    obtain rfl : z_12 = (1 : Int32) := ez_12.trans (by decide)
    refine va_sld hx hb hX hbl hbA hS (by unfold vp_in; decide) dL_law_1074 ?_
    have hPc := hP.sub (ws' := [(wa, .inr (9, mF wx0 0 0 0 (-1) 0 0 0 0 0 0 0 0 0 0 0 0 0 0 0 0 0 0 0 0 0)), ((wx0 2), .inl (wx2, 2, .inl (fun _ => 0))), ((wx0 3), .inl (wx3, 2, .inl (fun _ => 0)))]) [7, 9, 10] rfl
    have hDc := hD.sub (ws' := [(wa, .inr (9, mF wx0 0 0 0 (-1) 0 0 0 0 0 0 0 0 0 0 0 0 0 0 0 0 0 0 0 0 0)), ((wx0 2), .inl (wx2, 2, .inl (fun _ => 0))), ((wx0 3), .inl (wx3, 2, .inl (fun _ => 0)))]) [7, 9, 10] (by decide) rfl
    have hKc := hK.sub (tys' := [(wx2, .int), (wx3, .int)]) [3, 4] rfl
    have hFc := va_free (wc := [(wa, .inr (9, mF wx0 0 0 0 (-1) 0 0 0 0 0 0 0 0 0 0 0 0 0 0 0 0 0 0 0 0 0)), ((wx0 2), .inl (wx2, 2, .inl (fun _ => 0))), ((wx0 3), .inl (wx3, 2, .inl (fun _ => 0)))]) hD hS hA [7, 9, 10] rfl
    refine va_calli (va_runV (As := [.int (xs (1 : Int32).toNatClampNeg)]) (rest := [.int (-1)]) ⟨hx, hb, hml, hown, hts⟩ (c_X11_later l dC dI kE wa wx0 wx2 wx3 H.size ((xs (1 : Int32).toNatClampNeg))) (cwV 1 hts gL_law_X11_later rfl rfl rfl (by decide +kernel) ⟨(Nat.le_of_ble_eq_true rfl), (Nat.le_of_ble_eq_true rfl)⟩) ⟨fun a U g mk q => by obtain ⟨q0, q1, qP, qK, qD, qE⟩ := q; exact ⟨q0, q1, qP, va_K.moved (u := U) (U := U.calling g mk a) (Vm.Alike.refl U.vm) qK, qD, ex_blind qE⟩, va_recv hKc hPc (ci := 9) (q0 := 0) rfl rfl, fun U hU hW => ⟨rfl, by rw [hU], by rw [hU]; exact hPc, va_K.moved hW.alike hKc, hDc.weaken (fun _ _ _ _ => trivial), ex_call hE hS hFc hU hW⟩⟩ rfl rfl hl.1 rfl (lv_room (Nat.le_of_ble_eq_true rfl)) dL_law_1075 ⟨(Nat.le_of_ble_eq_true rfl), (Nat.le_of_ble_eq_true rfl)⟩) hS (fun q _ h => hFc q h) hFc (fun r_13 u t H locs ht hvm hw hB hz1 hk1 hS => ?_)
    obtain ⟨hP, hD⟩ := va_join (wr := [(ux0, .inl (ux11, 1600, .inl (fun _ => 0))), (ux1, .inr (5, [.int 0, .ref ux12, .ref ux13, .ref ux14, .ref ux15, .int 0, .ref ux16, .ref ux17, .ref ux18, .ref ux19, .ref ux20, .ref ux21])), (ux2, .inr (5, [.int 0, .ref ux22, .ref ux23, .ref ux24, .ref ux25, .int 0, .ref ux26, .ref ux27, .ref ux28, .ref ux29, .ref ux30, .ref ux31])), (ux3, .inr (3, [.ref ux32, .ref ux33, .int 0, .int (-1)])), (ux32, .inr (7, [.ref ux34, .int 0, .int 0, .ref kE, .int 0, .long 0, .int 0])), (ux4, .inl (ux35, 6, .inl (fun _ => 0))), (ux10, .inr (4, [.int 0, .ref ux36, .ref ux37, .ref ux38, .ref ux39, .ref ux40, .ref ux41, .ref ux42, .int 0, .ref ux43, .ref ux44, .ref ux45])), ((wx0 0), .inl (wx1, 1620, .inl (fun _ => 0))), ((wx0 14), .inl (wx4, 6, .inl (fun _ => 0)))]) (w1 := []) hP hD [7, 9, 10] [0, 1, 2, 3, 4, 5, 6, 8, 11] rfl rfl (by decide) (by decide) hk1 hFc ex_P0 ex_D0
    have hP : va_P (dC, dI) vwCl [(ux0, .inl (ux11, 1600, .inl (fun _ => 0))), (ux1, .inr (5, [.int 0, .ref ux12, .ref ux13, .ref ux14, .ref ux15, .int 0, .ref ux16, .ref ux17, .ref ux18, .ref ux19, .ref ux20, .ref ux21])), (ux2, .inr (5, [.int 0, .ref ux22, .ref ux23, .ref ux24, .ref ux25, .int 0, .ref ux26, .ref ux27, .ref ux28, .ref ux29, .ref ux30, .ref ux31])), (ux3, .inr (3, [.ref ux32, .ref ux33, .int 0, .int (-1)])), (ux32, .inr (7, [.ref ux34, .int 0, .int 0, .ref kE, .int 0, .long 0, .int 0])), (ux4, .inl (ux35, 6, .inl (fun _ => 0))), (ux10, .inr (4, [.int 0, .ref ux36, .ref ux37, .ref ux38, .ref ux39, .ref ux40, .ref ux41, .ref ux42, .int 0, .ref ux43, .ref ux44, .ref ux45])), ((wx0 0), .inl (wx1, 1620, .inl (fun _ => 0))), ((wx0 14), .inl (wx4, 6, .inl (fun _ => 0)))] H := hP
    have hD : va_D (fun q : Nat => s.heap.size ≤ q) [(ux0, .inl (ux11, 1600, .inl (fun _ => 0))), (ux1, .inr (5, [.int 0, .ref ux12, .ref ux13, .ref ux14, .ref ux15, .int 0, .ref ux16, .ref ux17, .ref ux18, .ref ux19, .ref ux20, .ref ux21])), (ux2, .inr (5, [.int 0, .ref ux22, .ref ux23, .ref ux24, .ref ux25, .int 0, .ref ux26, .ref ux27, .ref ux28, .ref ux29, .ref ux30, .ref ux31])), (ux3, .inr (3, [.ref ux32, .ref ux33, .int 0, .int (-1)])), (ux32, .inr (7, [.ref ux34, .int 0, .int 0, .ref kE, .int 0, .long 0, .int 0])), (ux4, .inl (ux35, 6, .inl (fun _ => 0))), (ux10, .inr (4, [.int 0, .ref ux36, .ref ux37, .ref ux38, .ref ux39, .ref ux40, .ref ux41, .ref ux42, .int 0, .ref ux43, .ref ux44, .ref ux45])), ((wx0 0), .inl (wx1, 1620, .inl (fun _ => 0))), ((wx0 14), .inl (wx4, 6, .inl (fun _ => 0)))] := hD
    refine W.widen (k := 162) (n := 9883) (by omega) (by omega) ?_
    rcases hw with ⟨rfl, c_14⟩ | ⟨rfl, c_15, c_16⟩ | ⟨rfl, c_17, c_18, c_19⟩ | ⟨rfl, c_20, c_21, c_22⟩
    · refine lv_icmp_eq (tgt := 1225) hx hb dL_law_1078 (by decide) (fun c_23 => ?_) (fun c_23 => absurd c_23 (by decide))
      refine lv_iinc (v := 6) (lv' := [(3, .int 6), (2, .ref wa), (1, .ref ua), (0, .ref b)]) hx hb dL_law_1225 hl (k := 0) rfl (by decide) (by decide) rfl (fun ls hl => ?_)
      refine lv_goto (tgt := 18) hx hb dL_law_1228 (by decide) ?_
      refine lv_iload_n hx hb dL_law_18 rfl (lv_at hl 0 rfl) ?_
      refine lv_aload_n hx hb dL_law_19 rfl (lv_at hl 3 rfl) ?_
      refine va_slen hx hb hX hbl hbA hS dL_law_20 ?_
      refine lv_bipush (v := 6) hx hb dL_law_21 (by decide) ?_
      refine lv_isub hx hb dL_law_23 ?_
      refine lv_topi (fun z_24 ez_24 => ?_)
      obtain rfl : z_24 = (0 : Int32) := ez_24.trans (by decide)
      refine lv_icmp_gt (tgt := 1231) hx hb dL_law_24 (by decide) (fun c_25 => ?_) (fun c_25 => absurd c_25 (by decide))
      refine lv_iconst (v := 1) hx hb dL_law_1231 (by decide) ?_
      refine va_forget (fun q h => hS.2.2 q h) ?_
      refine W.widen (k := 600000) (n := 7302250) (by omega) (by omega) ?_
      exact lw_ret hx hb hr hlocks dL_law_1232
    · exact False.elim (c_15 c_3)
    · exact False.elim (c_17 c_3)
    · exact False.elim (c_20 c_3)
  · refine lv_aload_n hx hb dL_law_1069 rfl (lv_at hl 1 rfl) ?_
    refine lv_aload_n hx hb dL_law_1070 rfl (lv_at hl 3 rfl) ?_
    refine lv_iload_n hx hb dL_law_1071 rfl (lv_at hl 0 rfl) ?_
    refine lv_iconst (v := 1) hx hb dL_law_1072 (by decide) ?_
    refine lv_iadd hx hb dL_law_1073 ?_
    refine lv_topi (fun z_26 ez_26 => ?_)
    obtain rfl : z_26 = (1 : Int32) := ez_26.trans (by decide)
    refine va_sld hx hb hX hbl hbA hS (by unfold vp_in; decide) dL_law_1074 ?_
    have hPc := hP.sub (ws' := [(wa, .inr (9, mF wx0 0 0 0 (-1) 0 0 0 0 0 0 0 0 0 0 0 0 0 0 0 0 0 0 0 0 0)), ((wx0 2), .inl (wx2, 2, .inl (fun _ => 0))), ((wx0 3), .inl (wx3, 2, .inl (fun _ => 0)))]) [7, 9, 10] rfl
    have hDc := hD.sub (ws' := [(wa, .inr (9, mF wx0 0 0 0 (-1) 0 0 0 0 0 0 0 0 0 0 0 0 0 0 0 0 0 0 0 0 0)), ((wx0 2), .inl (wx2, 2, .inl (fun _ => 0))), ((wx0 3), .inl (wx3, 2, .inl (fun _ => 0)))]) [7, 9, 10] (by decide) rfl
    have hKc := hK.sub (tys' := [(wx2, .int), (wx3, .int)]) [3, 4] rfl
    have hFc := va_free (wc := [(wa, .inr (9, mF wx0 0 0 0 (-1) 0 0 0 0 0 0 0 0 0 0 0 0 0 0 0 0 0 0 0 0 0)), ((wx0 2), .inl (wx2, 2, .inl (fun _ => 0))), ((wx0 3), .inl (wx3, 2, .inl (fun _ => 0)))]) hD hS hA [7, 9, 10] rfl
    refine va_calli (va_runV (As := [.int (xs (1 : Int32).toNatClampNeg)]) (rest := [.int (-1)]) ⟨hx, hb, hml, hown, hts⟩ (c_X11_later l dC dI kE wa wx0 wx2 wx3 H.size ((xs (1 : Int32).toNatClampNeg))) (cwV 1 hts gL_law_X11_later rfl rfl rfl (by decide +kernel) ⟨(Nat.le_of_ble_eq_true rfl), (Nat.le_of_ble_eq_true rfl)⟩) ⟨fun a U g mk q => by obtain ⟨q0, q1, qP, qK, qD, qE⟩ := q; exact ⟨q0, q1, qP, va_K.moved (u := U) (U := U.calling g mk a) (Vm.Alike.refl U.vm) qK, qD, ex_blind qE⟩, va_recv hKc hPc (ci := 9) (q0 := 0) rfl rfl, fun U hU hW => ⟨rfl, by rw [hU], by rw [hU]; exact hPc, va_K.moved hW.alike hKc, hDc.weaken (fun _ _ _ _ => trivial), ex_call hE hS hFc hU hW⟩⟩ rfl rfl hl.1 rfl (lv_room (Nat.le_of_ble_eq_true rfl)) dL_law_1075 ⟨(Nat.le_of_ble_eq_true rfl), (Nat.le_of_ble_eq_true rfl)⟩) hS (fun q _ h => hFc q h) hFc (fun r_27 u t H locs ht hvm hw hB hz1 hk1 hS => ?_)
    obtain ⟨hP, hD⟩ := va_join (wr := [(ux0, .inl (ux11, 1600, .inl (fun _ => 0))), (ux1, .inr (5, [.int 0, .ref ux12, .ref ux13, .ref ux14, .ref ux15, .int 0, .ref ux16, .ref ux17, .ref ux18, .ref ux19, .ref ux20, .ref ux21])), (ux2, .inr (5, [.int 0, .ref ux22, .ref ux23, .ref ux24, .ref ux25, .int 0, .ref ux26, .ref ux27, .ref ux28, .ref ux29, .ref ux30, .ref ux31])), (ux3, .inr (3, [.ref ux32, .ref ux33, .int 0, .int (-1)])), (ux32, .inr (7, [.ref ux34, .int 0, .int 0, .ref kE, .int 0, .long 0, .int 0])), (ux4, .inl (ux35, 6, .inl (fun _ => 0))), (ux10, .inr (4, [.int 0, .ref ux36, .ref ux37, .ref ux38, .ref ux39, .ref ux40, .ref ux41, .ref ux42, .int 0, .ref ux43, .ref ux44, .ref ux45])), ((wx0 0), .inl (wx1, 1620, .inl (fun _ => 0))), ((wx0 14), .inl (wx4, 6, .inl (fun _ => 0)))]) (w1 := []) hP hD [7, 9, 10] [0, 1, 2, 3, 4, 5, 6, 8, 11] rfl rfl (by decide) (by decide) hk1 hFc ex_P0 ex_D0
    have hP : va_P (dC, dI) vwCl [(ux0, .inl (ux11, 1600, .inl (fun _ => 0))), (ux1, .inr (5, [.int 0, .ref ux12, .ref ux13, .ref ux14, .ref ux15, .int 0, .ref ux16, .ref ux17, .ref ux18, .ref ux19, .ref ux20, .ref ux21])), (ux2, .inr (5, [.int 0, .ref ux22, .ref ux23, .ref ux24, .ref ux25, .int 0, .ref ux26, .ref ux27, .ref ux28, .ref ux29, .ref ux30, .ref ux31])), (ux3, .inr (3, [.ref ux32, .ref ux33, .int 0, .int (-1)])), (ux32, .inr (7, [.ref ux34, .int 0, .int 0, .ref kE, .int 0, .long 0, .int 0])), (ux4, .inl (ux35, 6, .inl (fun _ => 0))), (ux10, .inr (4, [.int 0, .ref ux36, .ref ux37, .ref ux38, .ref ux39, .ref ux40, .ref ux41, .ref ux42, .int 0, .ref ux43, .ref ux44, .ref ux45])), ((wx0 0), .inl (wx1, 1620, .inl (fun _ => 0))), ((wx0 14), .inl (wx4, 6, .inl (fun _ => 0)))] H := hP
    have hD : va_D (fun q : Nat => s.heap.size ≤ q) [(ux0, .inl (ux11, 1600, .inl (fun _ => 0))), (ux1, .inr (5, [.int 0, .ref ux12, .ref ux13, .ref ux14, .ref ux15, .int 0, .ref ux16, .ref ux17, .ref ux18, .ref ux19, .ref ux20, .ref ux21])), (ux2, .inr (5, [.int 0, .ref ux22, .ref ux23, .ref ux24, .ref ux25, .int 0, .ref ux26, .ref ux27, .ref ux28, .ref ux29, .ref ux30, .ref ux31])), (ux3, .inr (3, [.ref ux32, .ref ux33, .int 0, .int (-1)])), (ux32, .inr (7, [.ref ux34, .int 0, .int 0, .ref kE, .int 0, .long 0, .int 0])), (ux4, .inl (ux35, 6, .inl (fun _ => 0))), (ux10, .inr (4, [.int 0, .ref ux36, .ref ux37, .ref ux38, .ref ux39, .ref ux40, .ref ux41, .ref ux42, .int 0, .ref ux43, .ref ux44, .ref ux45])), ((wx0 0), .inl (wx1, 1620, .inl (fun _ => 0))), ((wx0 14), .inl (wx4, 6, .inl (fun _ => 0)))] := hD
    refine W.widen (k := 162) (n := 9883) (by omega) (by omega) ?_
    rcases hw with ⟨rfl, c_28⟩ | ⟨rfl, c_29, c_30⟩ | ⟨rfl, c_31, c_32, c_33⟩ | ⟨rfl, c_34, c_35, c_36⟩
    · exact False.elim (c_4 c_28)
    · refine lv_icmp_eq (tgt := 1225) hx hb dL_law_1078 (by decide) (fun c_37 => ?_) (fun c_37 => absurd c_37 (by decide))
      refine lv_iinc (v := 6) (lv' := [(3, .int 6), (2, .ref wa), (1, .ref ua), (0, .ref b)]) hx hb dL_law_1225 hl (k := 0) rfl (by decide) (by decide) rfl (fun ls hl => ?_)
      refine lv_goto (tgt := 18) hx hb dL_law_1228 (by decide) ?_
      refine lv_iload_n hx hb dL_law_18 rfl (lv_at hl 0 rfl) ?_
      refine lv_aload_n hx hb dL_law_19 rfl (lv_at hl 3 rfl) ?_
      refine va_slen hx hb hX hbl hbA hS dL_law_20 ?_
      refine lv_bipush (v := 6) hx hb dL_law_21 (by decide) ?_
      refine lv_isub hx hb dL_law_23 ?_
      refine lv_topi (fun z_38 ez_38 => ?_)
      obtain rfl : z_38 = (0 : Int32) := ez_38.trans (by decide)
      refine lv_icmp_gt (tgt := 1231) hx hb dL_law_24 (by decide) (fun c_39 => ?_) (fun c_39 => absurd c_39 (by decide))
      refine lv_iconst (v := 1) hx hb dL_law_1231 (by decide) ?_
      refine va_forget (fun q h => hS.2.2 q h) ?_
      refine W.widen (k := 600000) (n := 7302250) (by omega) (by omega) ?_
      exact lw_ret hx hb hr hlocks dL_law_1232
    · exact False.elim (c_32 c_5)
    · exact False.elim (c_35 c_5)
  · refine lv_aload_n hx hb dL_law_1069 rfl (lv_at hl 1 rfl) ?_
    refine lv_aload_n hx hb dL_law_1070 rfl (lv_at hl 3 rfl) ?_
    refine lv_iload_n hx hb dL_law_1071 rfl (lv_at hl 0 rfl) ?_
    refine lv_iconst (v := 1) hx hb dL_law_1072 (by decide) ?_
    refine lv_iadd hx hb dL_law_1073 ?_
    refine lv_topi (fun z_40 ez_40 => ?_)
    obtain rfl : z_40 = (1 : Int32) := ez_40.trans (by decide)
    refine va_sld hx hb hX hbl hbA hS (by unfold vp_in; decide) dL_law_1074 ?_
    have hPc := hP.sub (ws' := [(wa, .inr (9, mF wx0 0 0 0 (-1) 0 0 0 0 0 0 0 0 0 0 0 0 0 0 0 0 0 0 0 0 0)), ((wx0 2), .inl (wx2, 2, .inl (fun _ => 0))), ((wx0 3), .inl (wx3, 2, .inl (fun _ => 0)))]) [7, 9, 10] rfl
    have hDc := hD.sub (ws' := [(wa, .inr (9, mF wx0 0 0 0 (-1) 0 0 0 0 0 0 0 0 0 0 0 0 0 0 0 0 0 0 0 0 0)), ((wx0 2), .inl (wx2, 2, .inl (fun _ => 0))), ((wx0 3), .inl (wx3, 2, .inl (fun _ => 0)))]) [7, 9, 10] (by decide) rfl
    have hKc := hK.sub (tys' := [(wx2, .int), (wx3, .int)]) [3, 4] rfl
    have hFc := va_free (wc := [(wa, .inr (9, mF wx0 0 0 0 (-1) 0 0 0 0 0 0 0 0 0 0 0 0 0 0 0 0 0 0 0 0 0)), ((wx0 2), .inl (wx2, 2, .inl (fun _ => 0))), ((wx0 3), .inl (wx3, 2, .inl (fun _ => 0)))]) hD hS hA [7, 9, 10] rfl
    refine va_calli (va_runV (As := [.int (xs (1 : Int32).toNatClampNeg)]) (rest := [.int ((0 : Int32) + (xs (1 : Int32).toNatClampNeg))]) ⟨hx, hb, hml, hown, hts⟩ (c_X11_later l dC dI kE wa wx0 wx2 wx3 H.size ((xs (1 : Int32).toNatClampNeg))) (cwV 1 hts gL_law_X11_later rfl rfl rfl (by decide +kernel) ⟨(Nat.le_of_ble_eq_true rfl), (Nat.le_of_ble_eq_true rfl)⟩) ⟨fun a U g mk q => by obtain ⟨q0, q1, qP, qK, qD, qE⟩ := q; exact ⟨q0, q1, qP, va_K.moved (u := U) (U := U.calling g mk a) (Vm.Alike.refl U.vm) qK, qD, ex_blind qE⟩, va_recv hKc hPc (ci := 9) (q0 := 0) rfl rfl, fun U hU hW => ⟨rfl, by rw [hU], by rw [hU]; exact hPc, va_K.moved hW.alike hKc, hDc.weaken (fun _ _ _ _ => trivial), ex_call hE hS hFc hU hW⟩⟩ rfl rfl hl.1 rfl (lv_room (Nat.le_of_ble_eq_true rfl)) dL_law_1075 ⟨(Nat.le_of_ble_eq_true rfl), (Nat.le_of_ble_eq_true rfl)⟩) hS (fun q _ h => hFc q h) hFc (fun r_41 u t H locs ht hvm hw hB hz1 hk1 hS => ?_)
    obtain ⟨hP, hD⟩ := va_join (wr := [(ux0, .inl (ux11, 1600, .inl (fun _ => 0))), (ux1, .inr (5, [.int 0, .ref ux12, .ref ux13, .ref ux14, .ref ux15, .int 0, .ref ux16, .ref ux17, .ref ux18, .ref ux19, .ref ux20, .ref ux21])), (ux2, .inr (5, [.int 0, .ref ux22, .ref ux23, .ref ux24, .ref ux25, .int 0, .ref ux26, .ref ux27, .ref ux28, .ref ux29, .ref ux30, .ref ux31])), (ux3, .inr (3, [.ref ux32, .ref ux33, .int 0, .int (-1)])), (ux32, .inr (7, [.ref ux34, .int 0, .int 0, .ref kE, .int 0, .long 0, .int 0])), (ux4, .inl (ux35, 6, .inl (fun _ => 0))), (ux10, .inr (4, [.int 0, .ref ux36, .ref ux37, .ref ux38, .ref ux39, .ref ux40, .ref ux41, .ref ux42, .int 0, .ref ux43, .ref ux44, .ref ux45])), ((wx0 0), .inl (wx1, 1620, .inl (fun _ => 0))), ((wx0 14), .inl (wx4, 6, .inl (fun _ => 0)))]) (w1 := []) hP hD [7, 9, 10] [0, 1, 2, 3, 4, 5, 6, 8, 11] rfl rfl (by decide) (by decide) hk1 hFc ex_P0 ex_D0
    have hP : va_P (dC, dI) vwCl [(ux0, .inl (ux11, 1600, .inl (fun _ => 0))), (ux1, .inr (5, [.int 0, .ref ux12, .ref ux13, .ref ux14, .ref ux15, .int 0, .ref ux16, .ref ux17, .ref ux18, .ref ux19, .ref ux20, .ref ux21])), (ux2, .inr (5, [.int 0, .ref ux22, .ref ux23, .ref ux24, .ref ux25, .int 0, .ref ux26, .ref ux27, .ref ux28, .ref ux29, .ref ux30, .ref ux31])), (ux3, .inr (3, [.ref ux32, .ref ux33, .int 0, .int (-1)])), (ux32, .inr (7, [.ref ux34, .int 0, .int 0, .ref kE, .int 0, .long 0, .int 0])), (ux4, .inl (ux35, 6, .inl (fun _ => 0))), (ux10, .inr (4, [.int 0, .ref ux36, .ref ux37, .ref ux38, .ref ux39, .ref ux40, .ref ux41, .ref ux42, .int 0, .ref ux43, .ref ux44, .ref ux45])), ((wx0 0), .inl (wx1, 1620, .inl (fun _ => 0))), ((wx0 14), .inl (wx4, 6, .inl (fun _ => 0)))] H := hP
    have hD : va_D (fun q : Nat => s.heap.size ≤ q) [(ux0, .inl (ux11, 1600, .inl (fun _ => 0))), (ux1, .inr (5, [.int 0, .ref ux12, .ref ux13, .ref ux14, .ref ux15, .int 0, .ref ux16, .ref ux17, .ref ux18, .ref ux19, .ref ux20, .ref ux21])), (ux2, .inr (5, [.int 0, .ref ux22, .ref ux23, .ref ux24, .ref ux25, .int 0, .ref ux26, .ref ux27, .ref ux28, .ref ux29, .ref ux30, .ref ux31])), (ux3, .inr (3, [.ref ux32, .ref ux33, .int 0, .int (-1)])), (ux32, .inr (7, [.ref ux34, .int 0, .int 0, .ref kE, .int 0, .long 0, .int 0])), (ux4, .inl (ux35, 6, .inl (fun _ => 0))), (ux10, .inr (4, [.int 0, .ref ux36, .ref ux37, .ref ux38, .ref ux39, .ref ux40, .ref ux41, .ref ux42, .int 0, .ref ux43, .ref ux44, .ref ux45])), ((wx0 0), .inl (wx1, 1620, .inl (fun _ => 0))), ((wx0 14), .inl (wx4, 6, .inl (fun _ => 0)))] := hD
    refine W.widen (k := 162) (n := 9883) (by omega) (by omega) ?_
    rcases hw with ⟨rfl, c_42⟩ | ⟨rfl, c_43, c_44⟩ | ⟨rfl, c_45, c_46, c_47⟩ | ⟨rfl, c_48, c_49, c_50⟩
    · exact False.elim (c_6 c_42)
    · exact False.elim (c_7 c_44)
    · refine lv_icmp_eq (tgt := 1225) hx hb dL_law_1078 (by decide) (fun c_51 => ?_) (fun c_51 => absurd rfl c_51)
      refine lv_iinc (v := 6) (lv' := [(3, .int 6), (2, .ref wa), (1, .ref ua), (0, .ref b)]) hx hb dL_law_1225 hl (k := 0) rfl (by decide) (by decide) rfl (fun ls hl => ?_)
      refine lv_goto (tgt := 18) hx hb dL_law_1228 (by decide) ?_
      refine lv_iload_n hx hb dL_law_18 rfl (lv_at hl 0 rfl) ?_
      refine lv_aload_n hx hb dL_law_19 rfl (lv_at hl 3 rfl) ?_
      refine va_slen hx hb hX hbl hbA hS dL_law_20 ?_
      refine lv_bipush (v := 6) hx hb dL_law_21 (by decide) ?_
      refine lv_isub hx hb dL_law_23 ?_
      refine lv_topi (fun z_52 ez_52 => ?_)
      obtain rfl : z_52 = (0 : Int32) := ez_52.trans (by decide)
      refine lv_icmp_gt (tgt := 1231) hx hb dL_law_24 (by decide) (fun c_53 => ?_) (fun c_53 => absurd c_53 (by decide))
      refine lv_iconst (v := 1) hx hb dL_law_1231 (by decide) ?_
      refine va_forget (fun q h => hS.2.2 q h) ?_
      refine W.widen (k := 600000) (n := 7302250) (by omega) (by omega) ?_
      exact lw_ret hx hb hr hlocks dL_law_1232
    · exact False.elim (c_50 c_8)
  · refine lv_aload_n hx hb dL_law_1069 rfl (lv_at hl 1 rfl) ?_
    refine lv_aload_n hx hb dL_law_1070 rfl (lv_at hl 3 rfl) ?_
    refine lv_iload_n hx hb dL_law_1071 rfl (lv_at hl 0 rfl) ?_
    refine lv_iconst (v := 1) hx hb dL_law_1072 (by decide) ?_
    refine lv_iadd hx hb dL_law_1073 ?_
    refine lv_topi (fun z_54 ez_54 => ?_)
    obtain rfl : z_54 = (1 : Int32) := ez_54.trans (by decide)
    refine va_sld hx hb hX hbl hbA hS (by unfold vp_in; decide) dL_law_1074 ?_
    have hPc := hP.sub (ws' := [(wa, .inr (9, mF wx0 0 0 0 (-1) 0 0 0 0 0 0 0 0 0 0 0 0 0 0 0 0 0 0 0 0 0)), ((wx0 2), .inl (wx2, 2, .inl (fun _ => 0))), ((wx0 3), .inl (wx3, 2, .inl (fun _ => 0)))]) [7, 9, 10] rfl
    have hDc := hD.sub (ws' := [(wa, .inr (9, mF wx0 0 0 0 (-1) 0 0 0 0 0 0 0 0 0 0 0 0 0 0 0 0 0 0 0 0 0)), ((wx0 2), .inl (wx2, 2, .inl (fun _ => 0))), ((wx0 3), .inl (wx3, 2, .inl (fun _ => 0)))]) [7, 9, 10] (by decide) rfl
    have hKc := hK.sub (tys' := [(wx2, .int), (wx3, .int)]) [3, 4] rfl
    have hFc := va_free (wc := [(wa, .inr (9, mF wx0 0 0 0 (-1) 0 0 0 0 0 0 0 0 0 0 0 0 0 0 0 0 0 0 0 0 0)), ((wx0 2), .inl (wx2, 2, .inl (fun _ => 0))), ((wx0 3), .inl (wx3, 2, .inl (fun _ => 0)))]) hD hS hA [7, 9, 10] rfl
    refine va_calli (va_runV (As := [.int (xs (1 : Int32).toNatClampNeg)]) (rest := [.int (-1)]) ⟨hx, hb, hml, hown, hts⟩ (c_X11_later l dC dI kE wa wx0 wx2 wx3 H.size ((xs (1 : Int32).toNatClampNeg))) (cwV 1 hts gL_law_X11_later rfl rfl rfl (by decide +kernel) ⟨(Nat.le_of_ble_eq_true rfl), (Nat.le_of_ble_eq_true rfl)⟩) ⟨fun a U g mk q => by obtain ⟨q0, q1, qP, qK, qD, qE⟩ := q; exact ⟨q0, q1, qP, va_K.moved (u := U) (U := U.calling g mk a) (Vm.Alike.refl U.vm) qK, qD, ex_blind qE⟩, va_recv hKc hPc (ci := 9) (q0 := 0) rfl rfl, fun U hU hW => ⟨rfl, by rw [hU], by rw [hU]; exact hPc, va_K.moved hW.alike hKc, hDc.weaken (fun _ _ _ _ => trivial), ex_call hE hS hFc hU hW⟩⟩ rfl rfl hl.1 rfl (lv_room (Nat.le_of_ble_eq_true rfl)) dL_law_1075 ⟨(Nat.le_of_ble_eq_true rfl), (Nat.le_of_ble_eq_true rfl)⟩) hS (fun q _ h => hFc q h) hFc (fun r_55 u t H locs ht hvm hw hB hz1 hk1 hS => ?_)
    obtain ⟨hP, hD⟩ := va_join (wr := [(ux0, .inl (ux11, 1600, .inl (fun _ => 0))), (ux1, .inr (5, [.int 0, .ref ux12, .ref ux13, .ref ux14, .ref ux15, .int 0, .ref ux16, .ref ux17, .ref ux18, .ref ux19, .ref ux20, .ref ux21])), (ux2, .inr (5, [.int 0, .ref ux22, .ref ux23, .ref ux24, .ref ux25, .int 0, .ref ux26, .ref ux27, .ref ux28, .ref ux29, .ref ux30, .ref ux31])), (ux3, .inr (3, [.ref ux32, .ref ux33, .int 0, .int (-1)])), (ux32, .inr (7, [.ref ux34, .int 0, .int 0, .ref kE, .int 0, .long 0, .int 0])), (ux4, .inl (ux35, 6, .inl (fun _ => 0))), (ux10, .inr (4, [.int 0, .ref ux36, .ref ux37, .ref ux38, .ref ux39, .ref ux40, .ref ux41, .ref ux42, .int 0, .ref ux43, .ref ux44, .ref ux45])), ((wx0 0), .inl (wx1, 1620, .inl (fun _ => 0))), ((wx0 14), .inl (wx4, 6, .inl (fun _ => 0)))]) (w1 := []) hP hD [7, 9, 10] [0, 1, 2, 3, 4, 5, 6, 8, 11] rfl rfl (by decide) (by decide) hk1 hFc ex_P0 ex_D0
    have hP : va_P (dC, dI) vwCl [(ux0, .inl (ux11, 1600, .inl (fun _ => 0))), (ux1, .inr (5, [.int 0, .ref ux12, .ref ux13, .ref ux14, .ref ux15, .int 0, .ref ux16, .ref ux17, .ref ux18, .ref ux19, .ref ux20, .ref ux21])), (ux2, .inr (5, [.int 0, .ref ux22, .ref ux23, .ref ux24, .ref ux25, .int 0, .ref ux26, .ref ux27, .ref ux28, .ref ux29, .ref ux30, .ref ux31])), (ux3, .inr (3, [.ref ux32, .ref ux33, .int 0, .int (-1)])), (ux32, .inr (7, [.ref ux34, .int 0, .int 0, .ref kE, .int 0, .long 0, .int 0])), (ux4, .inl (ux35, 6, .inl (fun _ => 0))), (ux10, .inr (4, [.int 0, .ref ux36, .ref ux37, .ref ux38, .ref ux39, .ref ux40, .ref ux41, .ref ux42, .int 0, .ref ux43, .ref ux44, .ref ux45])), ((wx0 0), .inl (wx1, 1620, .inl (fun _ => 0))), ((wx0 14), .inl (wx4, 6, .inl (fun _ => 0)))] H := hP
    have hD : va_D (fun q : Nat => s.heap.size ≤ q) [(ux0, .inl (ux11, 1600, .inl (fun _ => 0))), (ux1, .inr (5, [.int 0, .ref ux12, .ref ux13, .ref ux14, .ref ux15, .int 0, .ref ux16, .ref ux17, .ref ux18, .ref ux19, .ref ux20, .ref ux21])), (ux2, .inr (5, [.int 0, .ref ux22, .ref ux23, .ref ux24, .ref ux25, .int 0, .ref ux26, .ref ux27, .ref ux28, .ref ux29, .ref ux30, .ref ux31])), (ux3, .inr (3, [.ref ux32, .ref ux33, .int 0, .int (-1)])), (ux32, .inr (7, [.ref ux34, .int 0, .int 0, .ref kE, .int 0, .long 0, .int 0])), (ux4, .inl (ux35, 6, .inl (fun _ => 0))), (ux10, .inr (4, [.int 0, .ref ux36, .ref ux37, .ref ux38, .ref ux39, .ref ux40, .ref ux41, .ref ux42, .int 0, .ref ux43, .ref ux44, .ref ux45])), ((wx0 0), .inl (wx1, 1620, .inl (fun _ => 0))), ((wx0 14), .inl (wx4, 6, .inl (fun _ => 0)))] := hD
    refine W.widen (k := 162) (n := 9883) (by omega) (by omega) ?_
    rcases hw with ⟨rfl, c_56⟩ | ⟨rfl, c_57, c_58⟩ | ⟨rfl, c_59, c_60, c_61⟩ | ⟨rfl, c_62, c_63, c_64⟩
    · exact False.elim (c_9 c_56)
    · exact False.elim (c_10 c_58)
    · exact False.elim (c_11 c_61)
    · refine lv_icmp_eq (tgt := 1225) hx hb dL_law_1078 (by decide) (fun c_65 => ?_) (fun c_65 => absurd c_65 (by decide))
      refine lv_iinc (v := 6) (lv' := [(3, .int 6), (2, .ref wa), (1, .ref ua), (0, .ref b)]) hx hb dL_law_1225 hl (k := 0) rfl (by decide) (by decide) rfl (fun ls hl => ?_)
      refine lv_goto (tgt := 18) hx hb dL_law_1228 (by decide) ?_
      refine lv_iload_n hx hb dL_law_18 rfl (lv_at hl 0 rfl) ?_
      refine lv_aload_n hx hb dL_law_19 rfl (lv_at hl 3 rfl) ?_
      refine va_slen hx hb hX hbl hbA hS dL_law_20 ?_
      refine lv_bipush (v := 6) hx hb dL_law_21 (by decide) ?_
      refine lv_isub hx hb dL_law_23 ?_
      refine lv_topi (fun z_66 ez_66 => ?_)
      obtain rfl : z_66 = (0 : Int32) := ez_66.trans (by decide)
      refine lv_icmp_gt (tgt := 1231) hx hb dL_law_24 (by decide) (fun c_67 => ?_) (fun c_67 => absurd c_67 (by decide))
      refine lv_iconst (v := 1) hx hb dL_law_1231 (by decide) ?_
      refine va_forget (fun q h => hS.2.2 q h) ?_
      refine W.widen (k := 600000) (n := 7302250) (by omega) (by omega) ?_
      exact lw_ret hx hb hr hlocks dL_law_1232
set_option maxHeartbeats 4000000 in
set_option maxRecDepth 100000 in
theorem law_27 {p : Program} {e : Env} {s : State} {m : MethodId} {below : List Frame} {meth : Method} {c : Code} (l : Launch) {dC : Nat → ClassId} {dI : Nat → Nat → Nat} {kE b : Nat} {xs : Nat → Int32} {ua : Nat} {ux0 : Nat} {ux1 : Nat} {ux2 : Nat} {ux3 : Nat} {ux4 : Nat} {ux5 : Nat} {ux6 : Nat} {ux7 : Nat} {ux8 : Nat} {ux9 : Nat} {ux10 : Nat} {ux12 : Nat} {ux13 : Nat} {ux14 : Nat} {ux15 : Nat} {ux16 : Nat} {ux17 : Nat} {ux18 : Nat} {ux19 : Nat} {ux20 : Nat} {ux21 : Nat} {ux22 : Nat} {ux23 : Nat} {ux24 : Nat} {ux25 : Nat} {ux26 : Nat} {ux27 : Nat} {ux28 : Nat} {ux29 : Nat} {ux30 : Nat} {ux31 : Nat} {ux32 : Nat} {ux33 : Nat} {ux34 : Nat} {ux36 : Nat} {ux37 : Nat} {ux38 : Nat} {ux39 : Nat} {ux40 : Nat} {ux41 : Nat} {ux42 : Nat} {ux43 : Nat} {ux44 : Nat} {ux45 : Nat} {wa : Nat} {wx0 : Nat → Nat} {ux11 ux35 wx1 wx2 wx3 wx4 : ClassId} (C0 : lw_At p s m meth c b 6 xs) (hE : ex_X kE (fun q : Nat => s.heap.size ≤ q) s) (hK : va_K (dC, dI) vwCl [(ux11, .byte), (ux35, .int), (wx1, .byte), (wx2, .int), (wx3, .int), (wx4, .int)] s) {H : Heap} {locs : List Loc} (hP : va_P (dC, dI) vwCl [(ua, .inr (8, [.ref ux0, .int 0, .ref ux1, .ref ux2, .ref ux3, .ref ux4, .int 0, .ref ux5, .ref ux6, .ref ux7, .ref ux8, .ref ux9, .ref ux10, .int 0])), (ux0, .inl (ux11, 1600, .inl (fun _ => 0))), (ux1, .inr (5, [.int 0, .ref ux12, .ref ux13, .ref ux14, .ref ux15, .int 0, .ref ux16, .ref ux17, .ref ux18, .ref ux19, .ref ux20, .ref ux21])), (ux2, .inr (5, [.int 0, .ref ux22, .ref ux23, .ref ux24, .ref ux25, .int 0, .ref ux26, .ref ux27, .ref ux28, .ref ux29, .ref ux30, .ref ux31])), (ux3, .inr (3, [.ref ux32, .ref ux33, .int 0, .int (-1)])), (ux32, .inr (7, [.ref ux34, .int 0, .int 0, .ref kE, .int 0, .long 0, .int 0])), (ux4, .inl (ux35, 6, .inl (fun _ => 0))), (ux10, .inr (4, [.int 0, .ref ux36, .ref ux37, .ref ux38, .ref ux39, .ref ux40, .ref ux41, .ref ux42, .int 0, .ref ux43, .ref ux44, .ref ux45])), (wa, .inr (9, mF wx0 0 0 0 (-1) 0 0 0 0 0 0 0 0 0 0 0 0 0 0 0 0 0 0 0 0 0)), ((wx0 0), .inl (wx1, 1620, .inl (fun _ => 0))), ((wx0 2), .inl (wx2, 2, .inl (fun _ => 0))), ((wx0 3), .inl (wx3, 2, .inl (fun _ => 0))), ((wx0 14), .inl (wx4, 6, .inl (fun _ => 0)))] H) (hD : va_D (fun q : Nat => s.heap.size ≤ q) [(ua, .inr (8, [.ref ux0, .int 0, .ref ux1, .ref ux2, .ref ux3, .ref ux4, .int 0, .ref ux5, .ref ux6, .ref ux7, .ref ux8, .ref ux9, .ref ux10, .int 0])), (ux0, .inl (ux11, 1600, .inl (fun _ => 0))), (ux1, .inr (5, [.int 0, .ref ux12, .ref ux13, .ref ux14, .ref ux15, .int 0, .ref ux16, .ref ux17, .ref ux18, .ref ux19, .ref ux20, .ref ux21])), (ux2, .inr (5, [.int 0, .ref ux22, .ref ux23, .ref ux24, .ref ux25, .int 0, .ref ux26, .ref ux27, .ref ux28, .ref ux29, .ref ux30, .ref ux31])), (ux3, .inr (3, [.ref ux32, .ref ux33, .int 0, .int (-1)])), (ux32, .inr (7, [.ref ux34, .int 0, .int 0, .ref kE, .int 0, .long 0, .int 0])), (ux4, .inl (ux35, 6, .inl (fun _ => 0))), (ux10, .inr (4, [.int 0, .ref ux36, .ref ux37, .ref ux38, .ref ux39, .ref ux40, .ref ux41, .ref ux42, .int 0, .ref ux43, .ref ux44, .ref ux45])), (wa, .inr (9, mF wx0 0 0 0 (-1) 0 0 0 0 0 0 0 0 0 0 0 0 0 0 0 0 0 0 0 0 0)), ((wx0 0), .inl (wx1, 1620, .inl (fun _ => 0))), ((wx0 2), .inl (wx2, 2, .inl (fun _ => 0))), ((wx0 3), .inl (wx3, 2, .inl (fun _ => 0))), ((wx0 14), .inl (wx4, 6, .inl (fun _ => 0)))]) (hS : va_S (fun q : Nat => s.heap.size ≤ q) s.heap H locs) {ls : Array Slot} (hl : lv_has ls 4 [(3, .int 0), (2, .ref wa), (1, .ref ua), (0, .ref b)]) : W p l e room_1 s m #[Value.ref b] below meth c H locs 162 9883 (lw_Z below #[Value.ref b] s) (F0 m 1083 ls []) := by
  obtain ⟨hx, hb, hr, hml, hown, hts0, hX, hbl, hlocks, hgv⟩ := C0
  have hts := hts0
  have hown : s.vm.findClass RL = some m.cls := hown
  have hA : ∀ q : Nat, s.heap.size ≤ q → (fun q : Nat => s.heap.size ≤ q) q := fun _ h => h
  have hbA : ¬ (fun q : Nat => s.heap.size ≤ q) b := Nat.not_le.mpr hbl
  refine lv_aload_n hx hb dL_law_1083 rfl (lv_at hl 2 rfl) ?_
  refine lv_aload_n hx hb dL_law_1084 rfl (lv_at hl 3 rfl) ?_
  refine lv_iload_n hx hb dL_law_1085 rfl (lv_at hl 0 rfl) ?_
  refine lv_iconst (v := 1) hx hb dL_law_1086 (by decide) ?_
  refine lv_iadd hx hb dL_law_1087 ?_
  refine lv_topi (fun z_1 ez_1 => ?_)
  obtain rfl : z_1 = (1 : Int32) := ez_1.trans (by decide)
  refine va_sld hx hb hX hbl hbA hS (by unfold vp_in; decide) dL_law_1088 ?_
  refine lv_aload_n hx hb dL_law_1089 rfl (lv_at hl 3 rfl) ?_
  refine lv_iload_n hx hb dL_law_1090 rfl (lv_at hl 0 rfl) ?_
  refine lv_iconst (v := 2) hx hb dL_law_1091 (by decide) ?_
  refine lv_iadd hx hb dL_law_1092 ?_
  refine lv_topi (fun z_2 ez_2 => ?_)
  obtain rfl : z_2 = (2 : Int32) := ez_2.trans (by decide)
  refine va_sld hx hb hX hbl hbA hS (by unfold vp_in; decide) dL_law_1093 ?_
  refine lv_aload_n hx hb dL_law_1094 rfl (lv_at hl 3 rfl) ?_
  refine lv_iload_n hx hb dL_law_1095 rfl (lv_at hl 0 rfl) ?_
  refine lv_iconst (v := 3) hx hb dL_law_1096 (by decide) ?_
  refine lv_iadd hx hb dL_law_1097 ?_
  refine lv_topi (fun z_3 ez_3 => ?_)
  obtain rfl : z_3 = (3 : Int32) := ez_3.trans (by decide)
  refine va_sld hx hb hX hbl hbA hS (by unfold vp_in; decide) dL_law_1098 ?_
  refine lv_aload_n hx hb dL_law_1099 rfl (lv_at hl 3 rfl) ?_
  refine lv_iload_n hx hb dL_law_1100 rfl (lv_at hl 0 rfl) ?_
  refine lv_iconst (v := 4) hx hb dL_law_1101 (by decide) ?_
  refine lv_iadd hx hb dL_law_1102 ?_
  refine lv_topi (fun z_4 ez_4 => ?_)
  obtain rfl : z_4 = (4 : Int32) := ez_4.trans (by decide)
  refine va_sld hx hb hX hbl hbA hS (by unfold vp_in; decide) dL_law_1103 ?_
  have hPc := hP.sub (ws' := [(ua, .inr (8, [.ref ux0, .int 0, .ref ux1, .ref ux2, .ref ux3, .ref ux4, .int 0, .ref ux5, .ref ux6, .ref ux7, .ref ux8, .ref ux9, .ref ux10, .int 0])), (ux1, .inr (5, [.int 0, .ref ux12, .ref ux13, .ref ux14, .ref ux15, .int 0, .ref ux16, .ref ux17, .ref ux18, .ref ux19, .ref ux20, .ref ux21]))]) [0, 2] rfl
  have hDc := hD.sub (ws' := [(ua, .inr (8, [.ref ux0, .int 0, .ref ux1, .ref ux2, .ref ux3, .ref ux4, .int 0, .ref ux5, .ref ux6, .ref ux7, .ref ux8, .ref ux9, .ref ux10, .int 0])), (ux1, .inr (5, [.int 0, .ref ux12, .ref ux13, .ref ux14, .ref ux15, .int 0, .ref ux16, .ref ux17, .ref ux18, .ref ux19, .ref ux20, .ref ux21]))]) [0, 2] (by decide) rfl
  have hKc := hK.sub (tys' := []) [] rfl
  have hFc := va_free (wc := [(ua, .inr (8, [.ref ux0, .int 0, .ref ux1, .ref ux2, .ref ux3, .ref ux4, .int 0, .ref ux5, .ref ux6, .ref ux7, .ref ux8, .ref ux9, .ref ux10, .int 0])), (ux1, .inr (5, [.int 0, .ref ux12, .ref ux13, .ref ux14, .ref ux15, .int 0, .ref ux16, .ref ux17, .ref ux18, .ref ux19, .ref ux20, .ref ux21]))]) hD hS hA [0, 2] rfl
  refine va_calli (va_runV (As := [.int (xs (1 : Int32).toNatClampNeg), .int (xs (2 : Int32).toNatClampNeg), .int (xs (3 : Int32).toNatClampNeg), .int (xs (4 : Int32).toNatClampNeg)]) (rest := []) ⟨hx, hb, hml, hown, hts⟩ (c_X10_spent l dC dI kE ua ux0 ux1 ux2 ux3 ux4 ux5 ux6 ux7 ux8 ux9 ux10 ux12 ux13 ux14 ux15 ux16 ux17 ux18 ux19 ux20 ux21 H.size ((xs (1 : Int32).toNatClampNeg)) ((xs (2 : Int32).toNatClampNeg)) ((xs (3 : Int32).toNatClampNeg)) ((xs (4 : Int32).toNatClampNeg))) (cwV 4 hts gL_law_X10_spent rfl rfl rfl (by decide +kernel) ⟨(Nat.le_of_ble_eq_true rfl), (Nat.le_of_ble_eq_true rfl)⟩) ⟨fun a U g mk q => by obtain ⟨q0, q1, qP, qK, qD, qE⟩ := q; exact ⟨q0, q1, qP, va_K.moved (u := U) (U := U.calling g mk a) (Vm.Alike.refl U.vm) qK, qD, ex_blind qE⟩, va_recv hKc hPc (ci := 8) (q0 := 0) rfl rfl, fun U hU hW => ⟨rfl, by rw [hU], by rw [hU]; exact hPc, va_K.moved hW.alike hKc, hDc.weaken (fun _ _ _ _ => trivial), ex_call hE hS hFc hU hW⟩⟩ rfl rfl hl.1 rfl (lv_room (Nat.le_of_ble_eq_true rfl)) dL_law_1104 ⟨(Nat.le_of_ble_eq_true rfl), (Nat.le_of_ble_eq_true rfl)⟩) hS (fun q _ h => hFc q h) hFc (fun r_5 u t H locs ht hvm hw hB hz1 hk1 hS => ?_)
  obtain ⟨hP, hD⟩ := va_join (wr := [(ux0, .inl (ux11, 1600, .inl (fun _ => 0))), (ux2, .inr (5, [.int 0, .ref ux22, .ref ux23, .ref ux24, .ref ux25, .int 0, .ref ux26, .ref ux27, .ref ux28, .ref ux29, .ref ux30, .ref ux31])), (ux3, .inr (3, [.ref ux32, .ref ux33, .int 0, .int (-1)])), (ux32, .inr (7, [.ref ux34, .int 0, .int 0, .ref kE, .int 0, .long 0, .int 0])), (ux4, .inl (ux35, 6, .inl (fun _ => 0))), (ux10, .inr (4, [.int 0, .ref ux36, .ref ux37, .ref ux38, .ref ux39, .ref ux40, .ref ux41, .ref ux42, .int 0, .ref ux43, .ref ux44, .ref ux45])), (wa, .inr (9, mF wx0 0 0 0 (-1) 0 0 0 0 0 0 0 0 0 0 0 0 0 0 0 0 0 0 0 0 0)), ((wx0 0), .inl (wx1, 1620, .inl (fun _ => 0))), ((wx0 2), .inl (wx2, 2, .inl (fun _ => 0))), ((wx0 3), .inl (wx3, 2, .inl (fun _ => 0))), ((wx0 14), .inl (wx4, 6, .inl (fun _ => 0)))]) (w1 := []) hP hD [0, 2] [1, 3, 4, 5, 6, 7, 8, 9, 10, 11, 12] rfl rfl (by decide) (by decide) hk1 hFc ex_P0 ex_D0
  have hP : va_P (dC, dI) vwCl [(ux0, .inl (ux11, 1600, .inl (fun _ => 0))), (ux2, .inr (5, [.int 0, .ref ux22, .ref ux23, .ref ux24, .ref ux25, .int 0, .ref ux26, .ref ux27, .ref ux28, .ref ux29, .ref ux30, .ref ux31])), (ux3, .inr (3, [.ref ux32, .ref ux33, .int 0, .int (-1)])), (ux32, .inr (7, [.ref ux34, .int 0, .int 0, .ref kE, .int 0, .long 0, .int 0])), (ux4, .inl (ux35, 6, .inl (fun _ => 0))), (ux10, .inr (4, [.int 0, .ref ux36, .ref ux37, .ref ux38, .ref ux39, .ref ux40, .ref ux41, .ref ux42, .int 0, .ref ux43, .ref ux44, .ref ux45])), (wa, .inr (9, mF wx0 0 0 0 (-1) 0 0 0 0 0 0 0 0 0 0 0 0 0 0 0 0 0 0 0 0 0)), ((wx0 0), .inl (wx1, 1620, .inl (fun _ => 0))), ((wx0 2), .inl (wx2, 2, .inl (fun _ => 0))), ((wx0 3), .inl (wx3, 2, .inl (fun _ => 0))), ((wx0 14), .inl (wx4, 6, .inl (fun _ => 0)))] H := hP
  have hD : va_D (fun q : Nat => s.heap.size ≤ q) [(ux0, .inl (ux11, 1600, .inl (fun _ => 0))), (ux2, .inr (5, [.int 0, .ref ux22, .ref ux23, .ref ux24, .ref ux25, .int 0, .ref ux26, .ref ux27, .ref ux28, .ref ux29, .ref ux30, .ref ux31])), (ux3, .inr (3, [.ref ux32, .ref ux33, .int 0, .int (-1)])), (ux32, .inr (7, [.ref ux34, .int 0, .int 0, .ref kE, .int 0, .long 0, .int 0])), (ux4, .inl (ux35, 6, .inl (fun _ => 0))), (ux10, .inr (4, [.int 0, .ref ux36, .ref ux37, .ref ux38, .ref ux39, .ref ux40, .ref ux41, .ref ux42, .int 0, .ref ux43, .ref ux44, .ref ux45])), (wa, .inr (9, mF wx0 0 0 0 (-1) 0 0 0 0 0 0 0 0 0 0 0 0 0 0 0 0 0 0 0 0 0)), ((wx0 0), .inl (wx1, 1620, .inl (fun _ => 0))), ((wx0 2), .inl (wx2, 2, .inl (fun _ => 0))), ((wx0 3), .inl (wx3, 2, .inl (fun _ => 0))), ((wx0 14), .inl (wx4, 6, .inl (fun _ => 0)))] := hD
  refine W.widen (k := 162) (n := 9883) (by omega) (by omega) ?_
  obtain rfl : r_5 = ((-1) : Int32) := hw
  refine lv_aload_n hx hb dL_law_1107 rfl (lv_at hl 1 rfl) ?_
  refine lv_aload_n hx hb dL_law_1108 rfl (lv_at hl 3 rfl) ?_
  refine lv_iload_n hx hb dL_law_1109 rfl (lv_at hl 0 rfl) ?_
  refine lv_iconst (v := 1) hx hb dL_law_1110 (by decide) ?_
  refine lv_iadd hx hb dL_law_1111 ?_
  refine lv_topi (fun z_6 ez_6 => ?_)
  obtain rfl : z_6 = (1 : Int32) := ez_6.trans (by decide)
  refine va_sld hx hb hX hbl hbA hS (by unfold vp_in; decide) dL_law_1112 ?_
  refine lv_aload_n hx hb dL_law_1113 rfl (lv_at hl 3 rfl) ?_
  refine lv_iload_n hx hb dL_law_1114 rfl (lv_at hl 0 rfl) ?_
  refine lv_iconst (v := 2) hx hb dL_law_1115 (by decide) ?_
  refine lv_iadd hx hb dL_law_1116 ?_
  refine lv_topi (fun z_7 ez_7 => ?_)
  obtain rfl : z_7 = (2 : Int32) := ez_7.trans (by decide)
  refine va_sld hx hb hX hbl hbA hS (by unfold vp_in; decide) dL_law_1117 ?_
  refine lv_aload_n hx hb dL_law_1118 rfl (lv_at hl 3 rfl) ?_
  refine lv_iload_n hx hb dL_law_1119 rfl (lv_at hl 0 rfl) ?_
  refine lv_iconst (v := 3) hx hb dL_law_1120 (by decide) ?_
  refine lv_iadd hx hb dL_law_1121 ?_
  refine lv_topi (fun z_8 ez_8 => ?_)
  obtain rfl : z_8 = (3 : Int32) := ez_8.trans (by decide)
  refine va_sld hx hb hX hbl hbA hS (by unfold vp_in; decide) dL_law_1122 ?_
  refine lv_aload_n hx hb dL_law_1123 rfl (lv_at hl 3 rfl) ?_
  refine lv_iload_n hx hb dL_law_1124 rfl (lv_at hl 0 rfl) ?_
  refine lv_iconst (v := 4) hx hb dL_law_1125 (by decide) ?_
  refine lv_iadd hx hb dL_law_1126 ?_
  refine lv_topi (fun z_9 ez_9 => ?_)
  obtain rfl : z_9 = (4 : Int32) := ez_9.trans (by decide)
  refine va_sld hx hb hX hbl hbA hS (by unfold vp_in; decide) dL_law_1127 ?_
  have hPc := hP.sub (ws' := [(wa, .inr (9, mF wx0 0 0 0 (-1) 0 0 0 0 0 0 0 0 0 0 0 0 0 0 0 0 0 0 0 0 0)), ((wx0 2), .inl (wx2, 2, .inl (fun _ => 0))), ((wx0 3), .inl (wx3, 2, .inl (fun _ => 0)))]) [6, 8, 9] rfl
  have hDc := hD.sub (ws' := [(wa, .inr (9, mF wx0 0 0 0 (-1) 0 0 0 0 0 0 0 0 0 0 0 0 0 0 0 0 0 0 0 0 0)), ((wx0 2), .inl (wx2, 2, .inl (fun _ => 0))), ((wx0 3), .inl (wx3, 2, .inl (fun _ => 0)))]) [6, 8, 9] (by decide) rfl
  have hKc := hK.sub (tys' := [(wx2, .int), (wx3, .int)]) [3, 4] rfl
  have hFc := va_free (wc := [(wa, .inr (9, mF wx0 0 0 0 (-1) 0 0 0 0 0 0 0 0 0 0 0 0 0 0 0 0 0 0 0 0 0)), ((wx0 2), .inl (wx2, 2, .inl (fun _ => 0))), ((wx0 3), .inl (wx3, 2, .inl (fun _ => 0)))]) hD hS hA [6, 8, 9] rfl
  refine va_calli (va_runV (As := [.int (xs (1 : Int32).toNatClampNeg), .int (xs (2 : Int32).toNatClampNeg), .int (xs (3 : Int32).toNatClampNeg), .int (xs (4 : Int32).toNatClampNeg)]) (rest := [.int (-1)]) ⟨hx, hb, hml, hown, hts⟩ (c_X11_spent l dC dI kE wa wx0 wx2 wx3 H.size ((xs (1 : Int32).toNatClampNeg)) ((xs (2 : Int32).toNatClampNeg)) ((xs (3 : Int32).toNatClampNeg)) ((xs (4 : Int32).toNatClampNeg))) (cwV 4 hts gL_law_X11_spent rfl rfl rfl (by decide +kernel) ⟨(Nat.le_of_ble_eq_true rfl), (Nat.le_of_ble_eq_true rfl)⟩) ⟨fun a U g mk q => by obtain ⟨q0, q1, qP, qK, qD, qE⟩ := q; exact ⟨q0, q1, qP, va_K.moved (u := U) (U := U.calling g mk a) (Vm.Alike.refl U.vm) qK, qD, ex_blind qE⟩, va_recv hKc hPc (ci := 9) (q0 := 0) rfl rfl, fun U hU hW => ⟨rfl, by rw [hU], by rw [hU]; exact hPc, va_K.moved hW.alike hKc, hDc.weaken (fun _ _ _ _ => trivial), ex_call hE hS hFc hU hW⟩⟩ rfl rfl hl.1 rfl (lv_room (Nat.le_of_ble_eq_true rfl)) dL_law_1128 ⟨(Nat.le_of_ble_eq_true rfl), (Nat.le_of_ble_eq_true rfl)⟩) hS (fun q _ h => hFc q h) hFc (fun r_10 u t H locs ht hvm hw hB hz1 hk1 hS => ?_)
  obtain ⟨hP, hD⟩ := va_join (wr := [(ux0, .inl (ux11, 1600, .inl (fun _ => 0))), (ux2, .inr (5, [.int 0, .ref ux22, .ref ux23, .ref ux24, .ref ux25, .int 0, .ref ux26, .ref ux27, .ref ux28, .ref ux29, .ref ux30, .ref ux31])), (ux3, .inr (3, [.ref ux32, .ref ux33, .int 0, .int (-1)])), (ux32, .inr (7, [.ref ux34, .int 0, .int 0, .ref kE, .int 0, .long 0, .int 0])), (ux4, .inl (ux35, 6, .inl (fun _ => 0))), (ux10, .inr (4, [.int 0, .ref ux36, .ref ux37, .ref ux38, .ref ux39, .ref ux40, .ref ux41, .ref ux42, .int 0, .ref ux43, .ref ux44, .ref ux45])), ((wx0 0), .inl (wx1, 1620, .inl (fun _ => 0))), ((wx0 14), .inl (wx4, 6, .inl (fun _ => 0)))]) (w1 := []) hP hD [6, 8, 9] [0, 1, 2, 3, 4, 5, 7, 10] rfl rfl (by decide) (by decide) hk1 hFc ex_P0 ex_D0
  have hP : va_P (dC, dI) vwCl [(ux0, .inl (ux11, 1600, .inl (fun _ => 0))), (ux2, .inr (5, [.int 0, .ref ux22, .ref ux23, .ref ux24, .ref ux25, .int 0, .ref ux26, .ref ux27, .ref ux28, .ref ux29, .ref ux30, .ref ux31])), (ux3, .inr (3, [.ref ux32, .ref ux33, .int 0, .int (-1)])), (ux32, .inr (7, [.ref ux34, .int 0, .int 0, .ref kE, .int 0, .long 0, .int 0])), (ux4, .inl (ux35, 6, .inl (fun _ => 0))), (ux10, .inr (4, [.int 0, .ref ux36, .ref ux37, .ref ux38, .ref ux39, .ref ux40, .ref ux41, .ref ux42, .int 0, .ref ux43, .ref ux44, .ref ux45])), ((wx0 0), .inl (wx1, 1620, .inl (fun _ => 0))), ((wx0 14), .inl (wx4, 6, .inl (fun _ => 0)))] H := hP
  have hD : va_D (fun q : Nat => s.heap.size ≤ q) [(ux0, .inl (ux11, 1600, .inl (fun _ => 0))), (ux2, .inr (5, [.int 0, .ref ux22, .ref ux23, .ref ux24, .ref ux25, .int 0, .ref ux26, .ref ux27, .ref ux28, .ref ux29, .ref ux30, .ref ux31])), (ux3, .inr (3, [.ref ux32, .ref ux33, .int 0, .int (-1)])), (ux32, .inr (7, [.ref ux34, .int 0, .int 0, .ref kE, .int 0, .long 0, .int 0])), (ux4, .inl (ux35, 6, .inl (fun _ => 0))), (ux10, .inr (4, [.int 0, .ref ux36, .ref ux37, .ref ux38, .ref ux39, .ref ux40, .ref ux41, .ref ux42, .int 0, .ref ux43, .ref ux44, .ref ux45])), ((wx0 0), .inl (wx1, 1620, .inl (fun _ => 0))), ((wx0 14), .inl (wx4, 6, .inl (fun _ => 0)))] := hD
  refine W.widen (k := 162) (n := 9883) (by omega) (by omega) ?_
  obtain rfl : r_10 = ((-1) : Int32) := hw
  refine lv_icmp_eq (tgt := 1225) hx hb dL_law_1131 (by decide) (fun c_11 => ?_) (fun c_11 => absurd c_11 (by decide))
  refine lv_iinc (v := 6) (lv' := [(3, .int 6), (2, .ref wa), (1, .ref ua), (0, .ref b)]) hx hb dL_law_1225 hl (k := 0) rfl (by decide) (by decide) rfl (fun ls hl => ?_)
  refine lv_goto (tgt := 18) hx hb dL_law_1228 (by decide) ?_
  refine lv_iload_n hx hb dL_law_18 rfl (lv_at hl 0 rfl) ?_
  refine lv_aload_n hx hb dL_law_19 rfl (lv_at hl 3 rfl) ?_
  refine va_slen hx hb hX hbl hbA hS dL_law_20 ?_
  refine lv_bipush (v := 6) hx hb dL_law_21 (by decide) ?_
  refine lv_isub hx hb dL_law_23 ?_
  refine lv_topi (fun z_12 ez_12 => ?_)
  obtain rfl : z_12 = (0 : Int32) := ez_12.trans (by decide)
  refine lv_icmp_gt (tgt := 1231) hx hb dL_law_24 (by decide) (fun c_13 => ?_) (fun c_13 => absurd c_13 (by decide))
  refine lv_iconst (v := 1) hx hb dL_law_1231 (by decide) ?_
  refine va_forget (fun q h => hS.2.2 q h) ?_
  refine W.widen (k := 600000) (n := 7302250) (by omega) (by omega) ?_
  exact lw_ret hx hb hr hlocks dL_law_1232
set_option maxHeartbeats 4000000 in
set_option maxRecDepth 100000 in
theorem law_28 {p : Program} {e : Env} {s : State} {m : MethodId} {below : List Frame} {meth : Method} {c : Code} (l : Launch) {dC : Nat → ClassId} {dI : Nat → Nat → Nat} {kE b : Nat} {xs : Nat → Int32} {ua : Nat} {ux0 : Nat} {ux1 : Nat} {ux2 : Nat} {ux3 : Nat} {ux4 : Nat} {ux5 : Nat} {ux6 : Nat} {ux7 : Nat} {ux8 : Nat} {ux9 : Nat} {ux10 : Nat} {ux12 : Nat} {ux13 : Nat} {ux14 : Nat} {ux15 : Nat} {ux16 : Nat} {ux17 : Nat} {ux18 : Nat} {ux19 : Nat} {ux20 : Nat} {ux21 : Nat} {ux22 : Nat} {ux23 : Nat} {ux24 : Nat} {ux25 : Nat} {ux26 : Nat} {ux27 : Nat} {ux28 : Nat} {ux29 : Nat} {ux30 : Nat} {ux31 : Nat} {ux32 : Nat} {ux33 : Nat} {ux34 : Nat} {ux36 : Nat} {ux37 : Nat} {ux38 : Nat} {ux39 : Nat} {ux40 : Nat} {ux41 : Nat} {ux42 : Nat} {ux43 : Nat} {ux44 : Nat} {ux45 : Nat} {wa : Nat} {wx0 : Nat → Nat} {ux11 ux35 wx1 wx2 wx3 wx4 : ClassId} (C0 : lw_At p s m meth c b 6 xs) (hE : ex_X kE (fun q : Nat => s.heap.size ≤ q) s) (hK : va_K (dC, dI) vwCl [(ux11, .byte), (ux35, .int), (wx1, .byte), (wx2, .int), (wx3, .int), (wx4, .int)] s) {H : Heap} {locs : List Loc} (hP : va_P (dC, dI) vwCl [(ua, .inr (8, [.ref ux0, .int 0, .ref ux1, .ref ux2, .ref ux3, .ref ux4, .int 0, .ref ux5, .ref ux6, .ref ux7, .ref ux8, .ref ux9, .ref ux10, .int 0])), (ux0, .inl (ux11, 1600, .inl (fun _ => 0))), (ux1, .inr (5, [.int 0, .ref ux12, .ref ux13, .ref ux14, .ref ux15, .int 0, .ref ux16, .ref ux17, .ref ux18, .ref ux19, .ref ux20, .ref ux21])), (ux2, .inr (5, [.int 0, .ref ux22, .ref ux23, .ref ux24, .ref ux25, .int 0, .ref ux26, .ref ux27, .ref ux28, .ref ux29, .ref ux30, .ref ux31])), (ux3, .inr (3, [.ref ux32, .ref ux33, .int 0, .int (-1)])), (ux32, .inr (7, [.ref ux34, .int 0, .int 0, .ref kE, .int 0, .long 0, .int 0])), (ux4, .inl (ux35, 6, .inl (fun _ => 0))), (ux10, .inr (4, [.int 0, .ref ux36, .ref ux37, .ref ux38, .ref ux39, .ref ux40, .ref ux41, .ref ux42, .int 0, .ref ux43, .ref ux44, .ref ux45])), (wa, .inr (9, mF wx0 0 0 0 (-1) 0 0 0 0 0 0 0 0 0 0 0 0 0 0 0 0 0 0 0 0 0)), ((wx0 0), .inl (wx1, 1620, .inl (fun _ => 0))), ((wx0 2), .inl (wx2, 2, .inl (fun _ => 0))), ((wx0 3), .inl (wx3, 2, .inl (fun _ => 0))), ((wx0 14), .inl (wx4, 6, .inl (fun _ => 0)))] H) (hD : va_D (fun q : Nat => s.heap.size ≤ q) [(ua, .inr (8, [.ref ux0, .int 0, .ref ux1, .ref ux2, .ref ux3, .ref ux4, .int 0, .ref ux5, .ref ux6, .ref ux7, .ref ux8, .ref ux9, .ref ux10, .int 0])), (ux0, .inl (ux11, 1600, .inl (fun _ => 0))), (ux1, .inr (5, [.int 0, .ref ux12, .ref ux13, .ref ux14, .ref ux15, .int 0, .ref ux16, .ref ux17, .ref ux18, .ref ux19, .ref ux20, .ref ux21])), (ux2, .inr (5, [.int 0, .ref ux22, .ref ux23, .ref ux24, .ref ux25, .int 0, .ref ux26, .ref ux27, .ref ux28, .ref ux29, .ref ux30, .ref ux31])), (ux3, .inr (3, [.ref ux32, .ref ux33, .int 0, .int (-1)])), (ux32, .inr (7, [.ref ux34, .int 0, .int 0, .ref kE, .int 0, .long 0, .int 0])), (ux4, .inl (ux35, 6, .inl (fun _ => 0))), (ux10, .inr (4, [.int 0, .ref ux36, .ref ux37, .ref ux38, .ref ux39, .ref ux40, .ref ux41, .ref ux42, .int 0, .ref ux43, .ref ux44, .ref ux45])), (wa, .inr (9, mF wx0 0 0 0 (-1) 0 0 0 0 0 0 0 0 0 0 0 0 0 0 0 0 0 0 0 0 0)), ((wx0 0), .inl (wx1, 1620, .inl (fun _ => 0))), ((wx0 2), .inl (wx2, 2, .inl (fun _ => 0))), ((wx0 3), .inl (wx3, 2, .inl (fun _ => 0))), ((wx0 14), .inl (wx4, 6, .inl (fun _ => 0)))]) (hS : va_S (fun q : Nat => s.heap.size ≤ q) s.heap H locs) {ls : Array Slot} (hl : lv_has ls 4 [(3, .int 0), (2, .ref wa), (1, .ref ua), (0, .ref b)]) : W p l e room_1 s m #[Value.ref b] below meth c H locs 162 9883 (lw_Z below #[Value.ref b] s) (F0 m 1136 ls []) := by
  obtain ⟨hx, hb, hr, hml, hown, hts0, hX, hbl, hlocks, hgv⟩ := C0
  have hts := hts0
  have hown : s.vm.findClass RL = some m.cls := hown
  have hA : ∀ q : Nat, s.heap.size ≤ q → (fun q : Nat => s.heap.size ≤ q) q := fun _ h => h
  have hbA : ¬ (fun q : Nat => s.heap.size ≤ q) b := Nat.not_le.mpr hbl
  refine lv_aload_n hx hb dL_law_1136 rfl (lv_at hl 2 rfl) ?_
  refine lv_aload_n hx hb dL_law_1137 rfl (lv_at hl 3 rfl) ?_
  refine lv_iload_n hx hb dL_law_1138 rfl (lv_at hl 0 rfl) ?_
  refine lv_iconst (v := 1) hx hb dL_law_1139 (by decide) ?_
  refine lv_iadd hx hb dL_law_1140 ?_
  refine lv_topi (fun z_1 ez_1 => ?_)
  obtain rfl : z_1 = (1 : Int32) := ez_1.trans (by decide)
  refine va_sld hx hb hX hbl hbA hS (by unfold vp_in; decide) dL_law_1141 ?_
  refine lv_aload_n hx hb dL_law_1142 rfl (lv_at hl 3 rfl) ?_
  refine lv_iload_n hx hb dL_law_1143 rfl (lv_at hl 0 rfl) ?_
  refine lv_iconst (v := 2) hx hb dL_law_1144 (by decide) ?_
  refine lv_iadd hx hb dL_law_1145 ?_
  refine lv_topi (fun z_2 ez_2 => ?_)
  obtain rfl : z_2 = (2 : Int32) := ez_2.trans (by decide)
  refine va_sld hx hb hX hbl hbA hS (by unfold vp_in; decide) dL_law_1146 ?_
  refine lv_aload_n hx hb dL_law_1147 rfl (lv_at hl 3 rfl) ?_
  refine lv_iload_n hx hb dL_law_1148 rfl (lv_at hl 0 rfl) ?_
  refine lv_iconst (v := 3) hx hb dL_law_1149 (by decide) ?_
  refine lv_iadd hx hb dL_law_1150 ?_
  refine lv_topi (fun z_3 ez_3 => ?_)
  obtain rfl : z_3 = (3 : Int32) := ez_3.trans (by decide)
  refine va_sld hx hb hX hbl hbA hS (by unfold vp_in; decide) dL_law_1151 ?_
  have hPc := hP.sub (ws' := [(ua, .inr (8, [.ref ux0, .int 0, .ref ux1, .ref ux2, .ref ux3, .ref ux4, .int 0, .ref ux5, .ref ux6, .ref ux7, .ref ux8, .ref ux9, .ref ux10, .int 0])), (ux1, .inr (5, [.int 0, .ref ux12, .ref ux13, .ref ux14, .ref ux15, .int 0, .ref ux16, .ref ux17, .ref ux18, .ref ux19, .ref ux20, .ref ux21]))]) [0, 2] rfl
  have hDc := hD.sub (ws' := [(ua, .inr (8, [.ref ux0, .int 0, .ref ux1, .ref ux2, .ref ux3, .ref ux4, .int 0, .ref ux5, .ref ux6, .ref ux7, .ref ux8, .ref ux9, .ref ux10, .int 0])), (ux1, .inr (5, [.int 0, .ref ux12, .ref ux13, .ref ux14, .ref ux15, .int 0, .ref ux16, .ref ux17, .ref ux18, .ref ux19, .ref ux20, .ref ux21]))]) [0, 2] (by decide) rfl
  have hKc := hK.sub (tys' := []) [] rfl
  have hFc := va_free (wc := [(ua, .inr (8, [.ref ux0, .int 0, .ref ux1, .ref ux2, .ref ux3, .ref ux4, .int 0, .ref ux5, .ref ux6, .ref ux7, .ref ux8, .ref ux9, .ref ux10, .int 0])), (ux1, .inr (5, [.int 0, .ref ux12, .ref ux13, .ref ux14, .ref ux15, .int 0, .ref ux16, .ref ux17, .ref ux18, .ref ux19, .ref ux20, .ref ux21]))]) hD hS hA [0, 2] rfl
  refine va_calli (va_runV (As := [.int (xs (1 : Int32).toNatClampNeg), .int (xs (2 : Int32).toNatClampNeg), .int (xs (3 : Int32).toNatClampNeg)]) (rest := []) ⟨hx, hb, hml, hown, hts⟩ (c_X10_saw l dC dI kE ua ux0 ux1 ux2 ux3 ux4 ux5 ux6 ux7 ux8 ux9 ux10 ux12 ux13 ux14 ux15 ux16 ux17 ux18 ux19 ux20 ux21 H.size ((xs (1 : Int32).toNatClampNeg)) ((xs (2 : Int32).toNatClampNeg)) ((xs (3 : Int32).toNatClampNeg))) (cwV 3 hts gL_law_X10_saw rfl rfl rfl (by decide +kernel) ⟨(Nat.le_of_ble_eq_true rfl), (Nat.le_of_ble_eq_true rfl)⟩) ⟨fun a U g mk q => by obtain ⟨q0, q1, qP, qK, qD, qE⟩ := q; exact ⟨q0, q1, qP, va_K.moved (u := U) (U := U.calling g mk a) (Vm.Alike.refl U.vm) qK, qD, ex_blind qE⟩, va_recv hKc hPc (ci := 8) (q0 := 0) rfl rfl, fun U hU hW => ⟨rfl, by rw [hU], by rw [hU]; exact hPc, va_K.moved hW.alike hKc, hDc.weaken (fun _ _ _ _ => trivial), ex_call hE hS hFc hU hW⟩⟩ rfl rfl hl.1 rfl (lv_room (Nat.le_of_ble_eq_true rfl)) dL_law_1152 ⟨(Nat.le_of_ble_eq_true rfl), (Nat.le_of_ble_eq_true rfl)⟩) hS (fun q _ h => hFc q h) hFc (fun r_4 u t H locs ht hvm hw hB hz1 hk1 hS => ?_)
  obtain ⟨hP, hD⟩ := va_join (wr := [(ux0, .inl (ux11, 1600, .inl (fun _ => 0))), (ux2, .inr (5, [.int 0, .ref ux22, .ref ux23, .ref ux24, .ref ux25, .int 0, .ref ux26, .ref ux27, .ref ux28, .ref ux29, .ref ux30, .ref ux31])), (ux3, .inr (3, [.ref ux32, .ref ux33, .int 0, .int (-1)])), (ux32, .inr (7, [.ref ux34, .int 0, .int 0, .ref kE, .int 0, .long 0, .int 0])), (ux4, .inl (ux35, 6, .inl (fun _ => 0))), (ux10, .inr (4, [.int 0, .ref ux36, .ref ux37, .ref ux38, .ref ux39, .ref ux40, .ref ux41, .ref ux42, .int 0, .ref ux43, .ref ux44, .ref ux45])), (wa, .inr (9, mF wx0 0 0 0 (-1) 0 0 0 0 0 0 0 0 0 0 0 0 0 0 0 0 0 0 0 0 0)), ((wx0 0), .inl (wx1, 1620, .inl (fun _ => 0))), ((wx0 2), .inl (wx2, 2, .inl (fun _ => 0))), ((wx0 3), .inl (wx3, 2, .inl (fun _ => 0))), ((wx0 14), .inl (wx4, 6, .inl (fun _ => 0)))]) (w1 := []) hP hD [0, 2] [1, 3, 4, 5, 6, 7, 8, 9, 10, 11, 12] rfl rfl (by decide) (by decide) hk1 hFc ex_P0 ex_D0
  have hP : va_P (dC, dI) vwCl [(ux0, .inl (ux11, 1600, .inl (fun _ => 0))), (ux2, .inr (5, [.int 0, .ref ux22, .ref ux23, .ref ux24, .ref ux25, .int 0, .ref ux26, .ref ux27, .ref ux28, .ref ux29, .ref ux30, .ref ux31])), (ux3, .inr (3, [.ref ux32, .ref ux33, .int 0, .int (-1)])), (ux32, .inr (7, [.ref ux34, .int 0, .int 0, .ref kE, .int 0, .long 0, .int 0])), (ux4, .inl (ux35, 6, .inl (fun _ => 0))), (ux10, .inr (4, [.int 0, .ref ux36, .ref ux37, .ref ux38, .ref ux39, .ref ux40, .ref ux41, .ref ux42, .int 0, .ref ux43, .ref ux44, .ref ux45])), (wa, .inr (9, mF wx0 0 0 0 (-1) 0 0 0 0 0 0 0 0 0 0 0 0 0 0 0 0 0 0 0 0 0)), ((wx0 0), .inl (wx1, 1620, .inl (fun _ => 0))), ((wx0 2), .inl (wx2, 2, .inl (fun _ => 0))), ((wx0 3), .inl (wx3, 2, .inl (fun _ => 0))), ((wx0 14), .inl (wx4, 6, .inl (fun _ => 0)))] H := hP
  have hD : va_D (fun q : Nat => s.heap.size ≤ q) [(ux0, .inl (ux11, 1600, .inl (fun _ => 0))), (ux2, .inr (5, [.int 0, .ref ux22, .ref ux23, .ref ux24, .ref ux25, .int 0, .ref ux26, .ref ux27, .ref ux28, .ref ux29, .ref ux30, .ref ux31])), (ux3, .inr (3, [.ref ux32, .ref ux33, .int 0, .int (-1)])), (ux32, .inr (7, [.ref ux34, .int 0, .int 0, .ref kE, .int 0, .long 0, .int 0])), (ux4, .inl (ux35, 6, .inl (fun _ => 0))), (ux10, .inr (4, [.int 0, .ref ux36, .ref ux37, .ref ux38, .ref ux39, .ref ux40, .ref ux41, .ref ux42, .int 0, .ref ux43, .ref ux44, .ref ux45])), (wa, .inr (9, mF wx0 0 0 0 (-1) 0 0 0 0 0 0 0 0 0 0 0 0 0 0 0 0 0 0 0 0 0)), ((wx0 0), .inl (wx1, 1620, .inl (fun _ => 0))), ((wx0 2), .inl (wx2, 2, .inl (fun _ => 0))), ((wx0 3), .inl (wx3, 2, .inl (fun _ => 0))), ((wx0 14), .inl (wx4, 6, .inl (fun _ => 0)))] := hD
  refine W.widen (k := 162) (n := 9883) (by omega) (by omega) ?_
  obtain rfl : r_4 = ((-1) : Int32) := hw
  refine lv_aload_n hx hb dL_law_1155 rfl (lv_at hl 1 rfl) ?_
  refine lv_aload_n hx hb dL_law_1156 rfl (lv_at hl 3 rfl) ?_
  refine lv_iload_n hx hb dL_law_1157 rfl (lv_at hl 0 rfl) ?_
  refine lv_iconst (v := 1) hx hb dL_law_1158 (by decide) ?_
  refine lv_iadd hx hb dL_law_1159 ?_
  refine lv_topi (fun z_5 ez_5 => ?_)
  obtain rfl : z_5 = (1 : Int32) := ez_5.trans (by decide)
  refine va_sld hx hb hX hbl hbA hS (by unfold vp_in; decide) dL_law_1160 ?_
  refine lv_aload_n hx hb dL_law_1161 rfl (lv_at hl 3 rfl) ?_
  refine lv_iload_n hx hb dL_law_1162 rfl (lv_at hl 0 rfl) ?_
  refine lv_iconst (v := 2) hx hb dL_law_1163 (by decide) ?_
  refine lv_iadd hx hb dL_law_1164 ?_
  refine lv_topi (fun z_6 ez_6 => ?_)
  obtain rfl : z_6 = (2 : Int32) := ez_6.trans (by decide)
  refine va_sld hx hb hX hbl hbA hS (by unfold vp_in; decide) dL_law_1165 ?_
  refine lv_aload_n hx hb dL_law_1166 rfl (lv_at hl 3 rfl) ?_
  refine lv_iload_n hx hb dL_law_1167 rfl (lv_at hl 0 rfl) ?_
  refine lv_iconst (v := 3) hx hb dL_law_1168 (by decide) ?_
  refine lv_iadd hx hb dL_law_1169 ?_
  refine lv_topi (fun z_7 ez_7 => ?_)
  obtain rfl : z_7 = (3 : Int32) := ez_7.trans (by decide)
  refine va_sld hx hb hX hbl hbA hS (by unfold vp_in; decide) dL_law_1170 ?_
  have hPc := hP.sub (ws' := [(wa, .inr (9, mF wx0 0 0 0 (-1) 0 0 0 0 0 0 0 0 0 0 0 0 0 0 0 0 0 0 0 0 0)), ((wx0 2), .inl (wx2, 2, .inl (fun _ => 0))), ((wx0 3), .inl (wx3, 2, .inl (fun _ => 0)))]) [6, 8, 9] rfl
  have hDc := hD.sub (ws' := [(wa, .inr (9, mF wx0 0 0 0 (-1) 0 0 0 0 0 0 0 0 0 0 0 0 0 0 0 0 0 0 0 0 0)), ((wx0 2), .inl (wx2, 2, .inl (fun _ => 0))), ((wx0 3), .inl (wx3, 2, .inl (fun _ => 0)))]) [6, 8, 9] (by decide) rfl
  have hKc := hK.sub (tys' := [(wx2, .int), (wx3, .int)]) [3, 4] rfl
  have hFc := va_free (wc := [(wa, .inr (9, mF wx0 0 0 0 (-1) 0 0 0 0 0 0 0 0 0 0 0 0 0 0 0 0 0 0 0 0 0)), ((wx0 2), .inl (wx2, 2, .inl (fun _ => 0))), ((wx0 3), .inl (wx3, 2, .inl (fun _ => 0)))]) hD hS hA [6, 8, 9] rfl
  refine va_calli (va_runV (As := [.int (xs (1 : Int32).toNatClampNeg), .int (xs (2 : Int32).toNatClampNeg), .int (xs (3 : Int32).toNatClampNeg)]) (rest := [.int (-1)]) ⟨hx, hb, hml, hown, hts⟩ (c_X11_saw l dC dI kE wa wx0 wx2 wx3 H.size ((xs (1 : Int32).toNatClampNeg)) ((xs (2 : Int32).toNatClampNeg)) ((xs (3 : Int32).toNatClampNeg))) (cwV 3 hts gL_law_X11_saw rfl rfl rfl (by decide +kernel) ⟨(Nat.le_of_ble_eq_true rfl), (Nat.le_of_ble_eq_true rfl)⟩) ⟨fun a U g mk q => by obtain ⟨q0, q1, qP, qK, qD, qE⟩ := q; exact ⟨q0, q1, qP, va_K.moved (u := U) (U := U.calling g mk a) (Vm.Alike.refl U.vm) qK, qD, ex_blind qE⟩, va_recv hKc hPc (ci := 9) (q0 := 0) rfl rfl, fun U hU hW => ⟨rfl, by rw [hU], by rw [hU]; exact hPc, va_K.moved hW.alike hKc, hDc.weaken (fun _ _ _ _ => trivial), ex_call hE hS hFc hU hW⟩⟩ rfl rfl hl.1 rfl (lv_room (Nat.le_of_ble_eq_true rfl)) dL_law_1171 ⟨(Nat.le_of_ble_eq_true rfl), (Nat.le_of_ble_eq_true rfl)⟩) hS (fun q _ h => hFc q h) hFc (fun r_8 u t H locs ht hvm hw hB hz1 hk1 hS => ?_)
  obtain ⟨hP, hD⟩ := va_join (wr := [(ux0, .inl (ux11, 1600, .inl (fun _ => 0))), (ux2, .inr (5, [.int 0, .ref ux22, .ref ux23, .ref ux24, .ref ux25, .int 0, .ref ux26, .ref ux27, .ref ux28, .ref ux29, .ref ux30, .ref ux31])), (ux3, .inr (3, [.ref ux32, .ref ux33, .int 0, .int (-1)])), (ux32, .inr (7, [.ref ux34, .int 0, .int 0, .ref kE, .int 0, .long 0, .int 0])), (ux4, .inl (ux35, 6, .inl (fun _ => 0))), (ux10, .inr (4, [.int 0, .ref ux36, .ref ux37, .ref ux38, .ref ux39, .ref ux40, .ref ux41, .ref ux42, .int 0, .ref ux43, .ref ux44, .ref ux45])), ((wx0 0), .inl (wx1, 1620, .inl (fun _ => 0))), ((wx0 14), .inl (wx4, 6, .inl (fun _ => 0)))]) (w1 := []) hP hD [6, 8, 9] [0, 1, 2, 3, 4, 5, 7, 10] rfl rfl (by decide) (by decide) hk1 hFc ex_P0 ex_D0
  have hP : va_P (dC, dI) vwCl [(ux0, .inl (ux11, 1600, .inl (fun _ => 0))), (ux2, .inr (5, [.int 0, .ref ux22, .ref ux23, .ref ux24, .ref ux25, .int 0, .ref ux26, .ref ux27, .ref ux28, .ref ux29, .ref ux30, .ref ux31])), (ux3, .inr (3, [.ref ux32, .ref ux33, .int 0, .int (-1)])), (ux32, .inr (7, [.ref ux34, .int 0, .int 0, .ref kE, .int 0, .long 0, .int 0])), (ux4, .inl (ux35, 6, .inl (fun _ => 0))), (ux10, .inr (4, [.int 0, .ref ux36, .ref ux37, .ref ux38, .ref ux39, .ref ux40, .ref ux41, .ref ux42, .int 0, .ref ux43, .ref ux44, .ref ux45])), ((wx0 0), .inl (wx1, 1620, .inl (fun _ => 0))), ((wx0 14), .inl (wx4, 6, .inl (fun _ => 0)))] H := hP
  have hD : va_D (fun q : Nat => s.heap.size ≤ q) [(ux0, .inl (ux11, 1600, .inl (fun _ => 0))), (ux2, .inr (5, [.int 0, .ref ux22, .ref ux23, .ref ux24, .ref ux25, .int 0, .ref ux26, .ref ux27, .ref ux28, .ref ux29, .ref ux30, .ref ux31])), (ux3, .inr (3, [.ref ux32, .ref ux33, .int 0, .int (-1)])), (ux32, .inr (7, [.ref ux34, .int 0, .int 0, .ref kE, .int 0, .long 0, .int 0])), (ux4, .inl (ux35, 6, .inl (fun _ => 0))), (ux10, .inr (4, [.int 0, .ref ux36, .ref ux37, .ref ux38, .ref ux39, .ref ux40, .ref ux41, .ref ux42, .int 0, .ref ux43, .ref ux44, .ref ux45])), ((wx0 0), .inl (wx1, 1620, .inl (fun _ => 0))), ((wx0 14), .inl (wx4, 6, .inl (fun _ => 0)))] := hD
  refine W.widen (k := 162) (n := 9883) (by omega) (by omega) ?_
  obtain rfl : r_8 = ((-1) : Int32) := hw
  refine lv_icmp_eq (tgt := 1225) hx hb dL_law_1174 (by decide) (fun c_9 => ?_) (fun c_9 => absurd c_9 (by decide))
  refine lv_iinc (v := 6) (lv' := [(3, .int 6), (2, .ref wa), (1, .ref ua), (0, .ref b)]) hx hb dL_law_1225 hl (k := 0) rfl (by decide) (by decide) rfl (fun ls hl => ?_)
  refine lv_goto (tgt := 18) hx hb dL_law_1228 (by decide) ?_
  refine lv_iload_n hx hb dL_law_18 rfl (lv_at hl 0 rfl) ?_
  refine lv_aload_n hx hb dL_law_19 rfl (lv_at hl 3 rfl) ?_
  refine va_slen hx hb hX hbl hbA hS dL_law_20 ?_
  refine lv_bipush (v := 6) hx hb dL_law_21 (by decide) ?_
  refine lv_isub hx hb dL_law_23 ?_
  refine lv_topi (fun z_10 ez_10 => ?_)
  obtain rfl : z_10 = (0 : Int32) := ez_10.trans (by decide)
  refine lv_icmp_gt (tgt := 1231) hx hb dL_law_24 (by decide) (fun c_11 => ?_) (fun c_11 => absurd c_11 (by decide))
  refine lv_iconst (v := 1) hx hb dL_law_1231 (by decide) ?_
  refine va_forget (fun q h => hS.2.2 q h) ?_
  refine W.widen (k := 600000) (n := 7302250) (by omega) (by omega) ?_
  exact lw_ret hx hb hr hlocks dL_law_1232
set_option maxHeartbeats 4000000 in
set_option maxRecDepth 100000 in
theorem law_29 {p : Program} {e : Env} {s : State} {m : MethodId} {below : List Frame} {meth : Method} {c : Code} (l : Launch) {dC : Nat → ClassId} {dI : Nat → Nat → Nat} {kE b : Nat} {xs : Nat → Int32} {ua : Nat} {ux0 : Nat} {ux1 : Nat} {ux2 : Nat} {ux3 : Nat} {ux4 : Nat} {ux5 : Nat} {ux6 : Nat} {ux7 : Nat} {ux8 : Nat} {ux9 : Nat} {ux10 : Nat} {ux12 : Nat} {ux13 : Nat} {ux14 : Nat} {ux15 : Nat} {ux16 : Nat} {ux17 : Nat} {ux18 : Nat} {ux19 : Nat} {ux20 : Nat} {ux21 : Nat} {ux22 : Nat} {ux23 : Nat} {ux24 : Nat} {ux25 : Nat} {ux26 : Nat} {ux27 : Nat} {ux28 : Nat} {ux29 : Nat} {ux30 : Nat} {ux31 : Nat} {ux32 : Nat} {ux33 : Nat} {ux34 : Nat} {ux36 : Nat} {ux37 : Nat} {ux38 : Nat} {ux39 : Nat} {ux40 : Nat} {ux41 : Nat} {ux42 : Nat} {ux43 : Nat} {ux44 : Nat} {ux45 : Nat} {wa : Nat} {wx0 : Nat → Nat} {ux11 ux35 wx1 wx2 wx3 wx4 : ClassId} (C0 : lw_At p s m meth c b 6 xs) (hE : ex_X kE (fun q : Nat => s.heap.size ≤ q) s) (hK : va_K (dC, dI) vwCl [(ux11, .byte), (ux35, .int), (wx1, .byte), (wx2, .int), (wx3, .int), (wx4, .int)] s) {H : Heap} {locs : List Loc} (hP : va_P (dC, dI) vwCl [(ua, .inr (8, [.ref ux0, .int 0, .ref ux1, .ref ux2, .ref ux3, .ref ux4, .int 0, .ref ux5, .ref ux6, .ref ux7, .ref ux8, .ref ux9, .ref ux10, .int 0])), (ux0, .inl (ux11, 1600, .inl (fun _ => 0))), (ux1, .inr (5, [.int 0, .ref ux12, .ref ux13, .ref ux14, .ref ux15, .int 0, .ref ux16, .ref ux17, .ref ux18, .ref ux19, .ref ux20, .ref ux21])), (ux2, .inr (5, [.int 0, .ref ux22, .ref ux23, .ref ux24, .ref ux25, .int 0, .ref ux26, .ref ux27, .ref ux28, .ref ux29, .ref ux30, .ref ux31])), (ux3, .inr (3, [.ref ux32, .ref ux33, .int 0, .int (-1)])), (ux32, .inr (7, [.ref ux34, .int 0, .int 0, .ref kE, .int 0, .long 0, .int 0])), (ux4, .inl (ux35, 6, .inl (fun _ => 0))), (ux10, .inr (4, [.int 0, .ref ux36, .ref ux37, .ref ux38, .ref ux39, .ref ux40, .ref ux41, .ref ux42, .int 0, .ref ux43, .ref ux44, .ref ux45])), (wa, .inr (9, mF wx0 0 0 0 (-1) 0 0 0 0 0 0 0 0 0 0 0 0 0 0 0 0 0 0 0 0 0)), ((wx0 0), .inl (wx1, 1620, .inl (fun _ => 0))), ((wx0 2), .inl (wx2, 2, .inl (fun _ => 0))), ((wx0 3), .inl (wx3, 2, .inl (fun _ => 0))), ((wx0 14), .inl (wx4, 6, .inl (fun _ => 0)))] H) (hD : va_D (fun q : Nat => s.heap.size ≤ q) [(ua, .inr (8, [.ref ux0, .int 0, .ref ux1, .ref ux2, .ref ux3, .ref ux4, .int 0, .ref ux5, .ref ux6, .ref ux7, .ref ux8, .ref ux9, .ref ux10, .int 0])), (ux0, .inl (ux11, 1600, .inl (fun _ => 0))), (ux1, .inr (5, [.int 0, .ref ux12, .ref ux13, .ref ux14, .ref ux15, .int 0, .ref ux16, .ref ux17, .ref ux18, .ref ux19, .ref ux20, .ref ux21])), (ux2, .inr (5, [.int 0, .ref ux22, .ref ux23, .ref ux24, .ref ux25, .int 0, .ref ux26, .ref ux27, .ref ux28, .ref ux29, .ref ux30, .ref ux31])), (ux3, .inr (3, [.ref ux32, .ref ux33, .int 0, .int (-1)])), (ux32, .inr (7, [.ref ux34, .int 0, .int 0, .ref kE, .int 0, .long 0, .int 0])), (ux4, .inl (ux35, 6, .inl (fun _ => 0))), (ux10, .inr (4, [.int 0, .ref ux36, .ref ux37, .ref ux38, .ref ux39, .ref ux40, .ref ux41, .ref ux42, .int 0, .ref ux43, .ref ux44, .ref ux45])), (wa, .inr (9, mF wx0 0 0 0 (-1) 0 0 0 0 0 0 0 0 0 0 0 0 0 0 0 0 0 0 0 0 0)), ((wx0 0), .inl (wx1, 1620, .inl (fun _ => 0))), ((wx0 2), .inl (wx2, 2, .inl (fun _ => 0))), ((wx0 3), .inl (wx3, 2, .inl (fun _ => 0))), ((wx0 14), .inl (wx4, 6, .inl (fun _ => 0)))]) (hS : va_S (fun q : Nat => s.heap.size ≤ q) s.heap H locs) {ls : Array Slot} (hl : lv_has ls 4 [(3, .int 0), (2, .ref wa), (1, .ref ua), (0, .ref b)]) : W p l e room_1 s m #[Value.ref b] below meth c H locs 162 9883 (lw_Z below #[Value.ref b] s) (F0 m 1179 ls []) := by
  obtain ⟨hx, hb, hr, hml, hown, hts0, hX, hbl, hlocks, hgv⟩ := C0
  have hts := hts0
  have hown : s.vm.findClass RL = some m.cls := hown
  have hA : ∀ q : Nat, s.heap.size ≤ q → (fun q : Nat => s.heap.size ≤ q) q := fun _ h => h
  have hbA : ¬ (fun q : Nat => s.heap.size ≤ q) b := Nat.not_le.mpr hbl
  refine lv_aload_n hx hb dL_law_1179 rfl (lv_at hl 2 rfl) ?_
  refine lv_aload_n hx hb dL_law_1180 rfl (lv_at hl 3 rfl) ?_
  refine lv_iload_n hx hb dL_law_1181 rfl (lv_at hl 0 rfl) ?_
  refine lv_iconst (v := 1) hx hb dL_law_1182 (by decide) ?_
  refine lv_iadd hx hb dL_law_1183 ?_
  refine lv_topi (fun z_1 ez_1 => ?_)
  obtain rfl : z_1 = (1 : Int32) := ez_1.trans (by decide)
  refine va_sld hx hb hX hbl hbA hS (by unfold vp_in; decide) dL_law_1184 ?_
  have hPc := hP.sub (ws' := [(ua, .inr (8, [.ref ux0, .int 0, .ref ux1, .ref ux2, .ref ux3, .ref ux4, .int 0, .ref ux5, .ref ux6, .ref ux7, .ref ux8, .ref ux9, .ref ux10, .int 0])), (ux10, .inr (4, [.int 0, .ref ux36, .ref ux37, .ref ux38, .ref ux39, .ref ux40, .ref ux41, .ref ux42, .int 0, .ref ux43, .ref ux44, .ref ux45]))]) [0, 7] rfl
  have hDc := hD.sub (ws' := [(ua, .inr (8, [.ref ux0, .int 0, .ref ux1, .ref ux2, .ref ux3, .ref ux4, .int 0, .ref ux5, .ref ux6, .ref ux7, .ref ux8, .ref ux9, .ref ux10, .int 0])), (ux10, .inr (4, [.int 0, .ref ux36, .ref ux37, .ref ux38, .ref ux39, .ref ux40, .ref ux41, .ref ux42, .int 0, .ref ux43, .ref ux44, .ref ux45]))]) [0, 7] (by decide) rfl
  have hKc := hK.sub (tys' := []) [] rfl
  have hFc := va_free (wc := [(ua, .inr (8, [.ref ux0, .int 0, .ref ux1, .ref ux2, .ref ux3, .ref ux4, .int 0, .ref ux5, .ref ux6, .ref ux7, .ref ux8, .ref ux9, .ref ux10, .int 0])), (ux10, .inr (4, [.int 0, .ref ux36, .ref ux37, .ref ux38, .ref ux39, .ref ux40, .ref ux41, .ref ux42, .int 0, .ref ux43, .ref ux44, .ref ux45]))]) hD hS hA [0, 7] rfl
  refine va_calli (va_runV (As := [.int (xs (1 : Int32).toNatClampNeg)]) (rest := []) ⟨hx, hb, hml, hown, hts⟩ (c_X10_hollow l dC dI kE ua ux0 ux1 ux2 ux3 ux4 ux5 ux6 ux7 ux8 ux9 ux10 ux36 ux37 ux38 ux39 ux40 ux41 ux42 ux43 ux44 ux45 H.size ((xs (1 : Int32).toNatClampNeg))) (cwV 1 hts gL_law_X10_hollow rfl rfl rfl (by decide +kernel) ⟨(Nat.le_of_ble_eq_true rfl), (Nat.le_of_ble_eq_true rfl)⟩) ⟨fun a U g mk q => by obtain ⟨q0, q1, qP, qK, qD, qE⟩ := q; exact ⟨q0, q1, qP, va_K.moved (u := U) (U := U.calling g mk a) (Vm.Alike.refl U.vm) qK, qD, ex_blind qE⟩, va_recv hKc hPc (ci := 8) (q0 := 0) rfl rfl, fun U hU hW => ⟨rfl, by rw [hU], by rw [hU]; exact hPc, va_K.moved hW.alike hKc, hDc.weaken (fun _ _ _ _ => trivial), ex_call hE hS hFc hU hW⟩⟩ rfl rfl hl.1 rfl (lv_room (Nat.le_of_ble_eq_true rfl)) dL_law_1185 ⟨(Nat.le_of_ble_eq_true rfl), (Nat.le_of_ble_eq_true rfl)⟩) hS (fun q _ h => hFc q h) hFc (fun r_2 u t H locs ht hvm hw hB hz1 hk1 hS => ?_)
  obtain ⟨hP, hD⟩ := va_join (wr := [(ux0, .inl (ux11, 1600, .inl (fun _ => 0))), (ux1, .inr (5, [.int 0, .ref ux12, .ref ux13, .ref ux14, .ref ux15, .int 0, .ref ux16, .ref ux17, .ref ux18, .ref ux19, .ref ux20, .ref ux21])), (ux2, .inr (5, [.int 0, .ref ux22, .ref ux23, .ref ux24, .ref ux25, .int 0, .ref ux26, .ref ux27, .ref ux28, .ref ux29, .ref ux30, .ref ux31])), (ux3, .inr (3, [.ref ux32, .ref ux33, .int 0, .int (-1)])), (ux32, .inr (7, [.ref ux34, .int 0, .int 0, .ref kE, .int 0, .long 0, .int 0])), (ux4, .inl (ux35, 6, .inl (fun _ => 0))), (wa, .inr (9, mF wx0 0 0 0 (-1) 0 0 0 0 0 0 0 0 0 0 0 0 0 0 0 0 0 0 0 0 0)), ((wx0 0), .inl (wx1, 1620, .inl (fun _ => 0))), ((wx0 2), .inl (wx2, 2, .inl (fun _ => 0))), ((wx0 3), .inl (wx3, 2, .inl (fun _ => 0))), ((wx0 14), .inl (wx4, 6, .inl (fun _ => 0)))]) (w1 := []) hP hD [0, 7] [1, 2, 3, 4, 5, 6, 8, 9, 10, 11, 12] rfl rfl (by decide) (by decide) hk1 hFc ex_P0 ex_D0
  have hP : va_P (dC, dI) vwCl [(ux0, .inl (ux11, 1600, .inl (fun _ => 0))), (ux1, .inr (5, [.int 0, .ref ux12, .ref ux13, .ref ux14, .ref ux15, .int 0, .ref ux16, .ref ux17, .ref ux18, .ref ux19, .ref ux20, .ref ux21])), (ux2, .inr (5, [.int 0, .ref ux22, .ref ux23, .ref ux24, .ref ux25, .int 0, .ref ux26, .ref ux27, .ref ux28, .ref ux29, .ref ux30, .ref ux31])), (ux3, .inr (3, [.ref ux32, .ref ux33, .int 0, .int (-1)])), (ux32, .inr (7, [.ref ux34, .int 0, .int 0, .ref kE, .int 0, .long 0, .int 0])), (ux4, .inl (ux35, 6, .inl (fun _ => 0))), (wa, .inr (9, mF wx0 0 0 0 (-1) 0 0 0 0 0 0 0 0 0 0 0 0 0 0 0 0 0 0 0 0 0)), ((wx0 0), .inl (wx1, 1620, .inl (fun _ => 0))), ((wx0 2), .inl (wx2, 2, .inl (fun _ => 0))), ((wx0 3), .inl (wx3, 2, .inl (fun _ => 0))), ((wx0 14), .inl (wx4, 6, .inl (fun _ => 0)))] H := hP
  have hD : va_D (fun q : Nat => s.heap.size ≤ q) [(ux0, .inl (ux11, 1600, .inl (fun _ => 0))), (ux1, .inr (5, [.int 0, .ref ux12, .ref ux13, .ref ux14, .ref ux15, .int 0, .ref ux16, .ref ux17, .ref ux18, .ref ux19, .ref ux20, .ref ux21])), (ux2, .inr (5, [.int 0, .ref ux22, .ref ux23, .ref ux24, .ref ux25, .int 0, .ref ux26, .ref ux27, .ref ux28, .ref ux29, .ref ux30, .ref ux31])), (ux3, .inr (3, [.ref ux32, .ref ux33, .int 0, .int (-1)])), (ux32, .inr (7, [.ref ux34, .int 0, .int 0, .ref kE, .int 0, .long 0, .int 0])), (ux4, .inl (ux35, 6, .inl (fun _ => 0))), (wa, .inr (9, mF wx0 0 0 0 (-1) 0 0 0 0 0 0 0 0 0 0 0 0 0 0 0 0 0 0 0 0 0)), ((wx0 0), .inl (wx1, 1620, .inl (fun _ => 0))), ((wx0 2), .inl (wx2, 2, .inl (fun _ => 0))), ((wx0 3), .inl (wx3, 2, .inl (fun _ => 0))), ((wx0 14), .inl (wx4, 6, .inl (fun _ => 0)))] := hD
  refine W.widen (k := 162) (n := 9883) (by omega) (by omega) ?_
  obtain rfl : r_2 = (0 : Int32) := hw
  refine lv_aload_n hx hb dL_law_1188 rfl (lv_at hl 1 rfl) ?_
  refine lv_aload_n hx hb dL_law_1189 rfl (lv_at hl 3 rfl) ?_
  refine lv_iload_n hx hb dL_law_1190 rfl (lv_at hl 0 rfl) ?_
  refine lv_iconst (v := 1) hx hb dL_law_1191 (by decide) ?_
  refine lv_iadd hx hb dL_law_1192 ?_
  refine lv_topi (fun z_3 ez_3 => ?_)
  obtain rfl : z_3 = (1 : Int32) := ez_3.trans (by decide)
  refine va_sld hx hb hX hbl hbA hS (by unfold vp_in; decide) dL_law_1193 ?_
  have hPc := hP.sub (ws' := [(wa, .inr (9, mF wx0 0 0 0 (-1) 0 0 0 0 0 0 0 0 0 0 0 0 0 0 0 0 0 0 0 0 0)), ((wx0 2), .inl (wx2, 2, .inl (fun _ => 0))), ((wx0 3), .inl (wx3, 2, .inl (fun _ => 0)))]) [6, 8, 9] rfl
  have hDc := hD.sub (ws' := [(wa, .inr (9, mF wx0 0 0 0 (-1) 0 0 0 0 0 0 0 0 0 0 0 0 0 0 0 0 0 0 0 0 0)), ((wx0 2), .inl (wx2, 2, .inl (fun _ => 0))), ((wx0 3), .inl (wx3, 2, .inl (fun _ => 0)))]) [6, 8, 9] (by decide) rfl
  have hKc := hK.sub (tys' := [(wx2, .int), (wx3, .int)]) [3, 4] rfl
  have hFc := va_free (wc := [(wa, .inr (9, mF wx0 0 0 0 (-1) 0 0 0 0 0 0 0 0 0 0 0 0 0 0 0 0 0 0 0 0 0)), ((wx0 2), .inl (wx2, 2, .inl (fun _ => 0))), ((wx0 3), .inl (wx3, 2, .inl (fun _ => 0)))]) hD hS hA [6, 8, 9] rfl
  refine va_calli (va_runV (As := [.int (xs (1 : Int32).toNatClampNeg)]) (rest := [.int 0]) ⟨hx, hb, hml, hown, hts⟩ (c_X11_hollow l dC dI kE wa wx0 wx2 wx3 H.size ((xs (1 : Int32).toNatClampNeg))) (cwV 1 hts gL_law_X11_hollow rfl rfl rfl (by decide +kernel) ⟨(Nat.le_of_ble_eq_true rfl), (Nat.le_of_ble_eq_true rfl)⟩) ⟨fun a U g mk q => by obtain ⟨q0, q1, qP, qK, qD, qE⟩ := q; exact ⟨q0, q1, qP, va_K.moved (u := U) (U := U.calling g mk a) (Vm.Alike.refl U.vm) qK, qD, ex_blind qE⟩, va_recv hKc hPc (ci := 9) (q0 := 0) rfl rfl, fun U hU hW => ⟨rfl, by rw [hU], by rw [hU]; exact hPc, va_K.moved hW.alike hKc, hDc.weaken (fun _ _ _ _ => trivial), ex_call hE hS hFc hU hW⟩⟩ rfl rfl hl.1 rfl (lv_room (Nat.le_of_ble_eq_true rfl)) dL_law_1194 ⟨(Nat.le_of_ble_eq_true rfl), (Nat.le_of_ble_eq_true rfl)⟩) hS (fun q _ h => hFc q h) hFc (fun r_4 u t H locs ht hvm hw hB hz1 hk1 hS => ?_)
  obtain ⟨hP, hD⟩ := va_join (wr := [(ux0, .inl (ux11, 1600, .inl (fun _ => 0))), (ux1, .inr (5, [.int 0, .ref ux12, .ref ux13, .ref ux14, .ref ux15, .int 0, .ref ux16, .ref ux17, .ref ux18, .ref ux19, .ref ux20, .ref ux21])), (ux2, .inr (5, [.int 0, .ref ux22, .ref ux23, .ref ux24, .ref ux25, .int 0, .ref ux26, .ref ux27, .ref ux28, .ref ux29, .ref ux30, .ref ux31])), (ux3, .inr (3, [.ref ux32, .ref ux33, .int 0, .int (-1)])), (ux32, .inr (7, [.ref ux34, .int 0, .int 0, .ref kE, .int 0, .long 0, .int 0])), (ux4, .inl (ux35, 6, .inl (fun _ => 0))), ((wx0 0), .inl (wx1, 1620, .inl (fun _ => 0))), ((wx0 14), .inl (wx4, 6, .inl (fun _ => 0)))]) (w1 := []) hP hD [6, 8, 9] [0, 1, 2, 3, 4, 5, 7, 10] rfl rfl (by decide) (by decide) hk1 hFc ex_P0 ex_D0
  have hP : va_P (dC, dI) vwCl [(ux0, .inl (ux11, 1600, .inl (fun _ => 0))), (ux1, .inr (5, [.int 0, .ref ux12, .ref ux13, .ref ux14, .ref ux15, .int 0, .ref ux16, .ref ux17, .ref ux18, .ref ux19, .ref ux20, .ref ux21])), (ux2, .inr (5, [.int 0, .ref ux22, .ref ux23, .ref ux24, .ref ux25, .int 0, .ref ux26, .ref ux27, .ref ux28, .ref ux29, .ref ux30, .ref ux31])), (ux3, .inr (3, [.ref ux32, .ref ux33, .int 0, .int (-1)])), (ux32, .inr (7, [.ref ux34, .int 0, .int 0, .ref kE, .int 0, .long 0, .int 0])), (ux4, .inl (ux35, 6, .inl (fun _ => 0))), ((wx0 0), .inl (wx1, 1620, .inl (fun _ => 0))), ((wx0 14), .inl (wx4, 6, .inl (fun _ => 0)))] H := hP
  have hD : va_D (fun q : Nat => s.heap.size ≤ q) [(ux0, .inl (ux11, 1600, .inl (fun _ => 0))), (ux1, .inr (5, [.int 0, .ref ux12, .ref ux13, .ref ux14, .ref ux15, .int 0, .ref ux16, .ref ux17, .ref ux18, .ref ux19, .ref ux20, .ref ux21])), (ux2, .inr (5, [.int 0, .ref ux22, .ref ux23, .ref ux24, .ref ux25, .int 0, .ref ux26, .ref ux27, .ref ux28, .ref ux29, .ref ux30, .ref ux31])), (ux3, .inr (3, [.ref ux32, .ref ux33, .int 0, .int (-1)])), (ux32, .inr (7, [.ref ux34, .int 0, .int 0, .ref kE, .int 0, .long 0, .int 0])), (ux4, .inl (ux35, 6, .inl (fun _ => 0))), ((wx0 0), .inl (wx1, 1620, .inl (fun _ => 0))), ((wx0 14), .inl (wx4, 6, .inl (fun _ => 0)))] := hD
  refine W.widen (k := 162) (n := 9883) (by omega) (by omega) ?_
  obtain rfl : r_4 = (0 : Int32) := hw
  refine lv_icmp_eq (tgt := 1225) hx hb dL_law_1197 (by decide) (fun c_5 => ?_) (fun c_5 => absurd c_5 (by decide))
  refine lv_iinc (v := 6) (lv' := [(3, .int 6), (2, .ref wa), (1, .ref ua), (0, .ref b)]) hx hb dL_law_1225 hl (k := 0) rfl (by decide) (by decide) rfl (fun ls hl => ?_)
  refine lv_goto (tgt := 18) hx hb dL_law_1228 (by decide) ?_
  refine lv_iload_n hx hb dL_law_18 rfl (lv_at hl 0 rfl) ?_
  refine lv_aload_n hx hb dL_law_19 rfl (lv_at hl 3 rfl) ?_
  refine va_slen hx hb hX hbl hbA hS dL_law_20 ?_
  refine lv_bipush (v := 6) hx hb dL_law_21 (by decide) ?_
  refine lv_isub hx hb dL_law_23 ?_
  refine lv_topi (fun z_6 ez_6 => ?_)
  obtain rfl : z_6 = (0 : Int32) := ez_6.trans (by decide)
  refine lv_icmp_gt (tgt := 1231) hx hb dL_law_24 (by decide) (fun c_7 => ?_) (fun c_7 => absurd c_7 (by decide))
  refine lv_iconst (v := 1) hx hb dL_law_1231 (by decide) ?_
  refine va_forget (fun q h => hS.2.2 q h) ?_
  refine W.widen (k := 600000) (n := 7302250) (by omega) (by omega) ?_
  exact lw_ret hx hb hr hlocks dL_law_1232
set_option maxHeartbeats 4000000 in
set_option maxRecDepth 100000 in
theorem law_30 {p : Program} {e : Env} {s : State} {m : MethodId} {below : List Frame} {meth : Method} {c : Code} (l : Launch) {dC : Nat → ClassId} {dI : Nat → Nat → Nat} {kE b : Nat} {xs : Nat → Int32} {ua : Nat} {ux0 : Nat} {ux1 : Nat} {ux2 : Nat} {ux3 : Nat} {ux4 : Nat} {ux5 : Nat} {ux6 : Nat} {ux7 : Nat} {ux8 : Nat} {ux9 : Nat} {ux10 : Nat} {ux12 : Nat} {ux13 : Nat} {ux14 : Nat} {ux15 : Nat} {ux16 : Nat} {ux17 : Nat} {ux18 : Nat} {ux19 : Nat} {ux20 : Nat} {ux21 : Nat} {ux22 : Nat} {ux23 : Nat} {ux24 : Nat} {ux25 : Nat} {ux26 : Nat} {ux27 : Nat} {ux28 : Nat} {ux29 : Nat} {ux30 : Nat} {ux31 : Nat} {ux32 : Nat} {ux33 : Nat} {ux34 : Nat} {ux36 : Nat} {ux37 : Nat} {ux38 : Nat} {ux39 : Nat} {ux40 : Nat} {ux41 : Nat} {ux42 : Nat} {ux43 : Nat} {ux44 : Nat} {ux45 : Nat} {wa : Nat} {wx0 : Nat → Nat} {ux11 ux35 wx1 wx2 wx3 wx4 : ClassId} (C0 : lw_At p s m meth c b 6 xs) (hE : ex_X kE (fun q : Nat => s.heap.size ≤ q) s) (hK : va_K (dC, dI) vwCl [(ux11, .byte), (ux35, .int), (wx1, .byte), (wx2, .int), (wx3, .int), (wx4, .int)] s) {H : Heap} {locs : List Loc} (hP : va_P (dC, dI) vwCl [(ua, .inr (8, [.ref ux0, .int 0, .ref ux1, .ref ux2, .ref ux3, .ref ux4, .int 0, .ref ux5, .ref ux6, .ref ux7, .ref ux8, .ref ux9, .ref ux10, .int 0])), (ux0, .inl (ux11, 1600, .inl (fun _ => 0))), (ux1, .inr (5, [.int 0, .ref ux12, .ref ux13, .ref ux14, .ref ux15, .int 0, .ref ux16, .ref ux17, .ref ux18, .ref ux19, .ref ux20, .ref ux21])), (ux2, .inr (5, [.int 0, .ref ux22, .ref ux23, .ref ux24, .ref ux25, .int 0, .ref ux26, .ref ux27, .ref ux28, .ref ux29, .ref ux30, .ref ux31])), (ux3, .inr (3, [.ref ux32, .ref ux33, .int 0, .int (-1)])), (ux32, .inr (7, [.ref ux34, .int 0, .int 0, .ref kE, .int 0, .long 0, .int 0])), (ux4, .inl (ux35, 6, .inl (fun _ => 0))), (ux10, .inr (4, [.int 0, .ref ux36, .ref ux37, .ref ux38, .ref ux39, .ref ux40, .ref ux41, .ref ux42, .int 0, .ref ux43, .ref ux44, .ref ux45])), (wa, .inr (9, mF wx0 0 0 0 (-1) 0 0 0 0 0 0 0 0 0 0 0 0 0 0 0 0 0 0 0 0 0)), ((wx0 0), .inl (wx1, 1620, .inl (fun _ => 0))), ((wx0 2), .inl (wx2, 2, .inl (fun _ => 0))), ((wx0 3), .inl (wx3, 2, .inl (fun _ => 0))), ((wx0 14), .inl (wx4, 6, .inl (fun _ => 0)))] H) (hD : va_D (fun q : Nat => s.heap.size ≤ q) [(ua, .inr (8, [.ref ux0, .int 0, .ref ux1, .ref ux2, .ref ux3, .ref ux4, .int 0, .ref ux5, .ref ux6, .ref ux7, .ref ux8, .ref ux9, .ref ux10, .int 0])), (ux0, .inl (ux11, 1600, .inl (fun _ => 0))), (ux1, .inr (5, [.int 0, .ref ux12, .ref ux13, .ref ux14, .ref ux15, .int 0, .ref ux16, .ref ux17, .ref ux18, .ref ux19, .ref ux20, .ref ux21])), (ux2, .inr (5, [.int 0, .ref ux22, .ref ux23, .ref ux24, .ref ux25, .int 0, .ref ux26, .ref ux27, .ref ux28, .ref ux29, .ref ux30, .ref ux31])), (ux3, .inr (3, [.ref ux32, .ref ux33, .int 0, .int (-1)])), (ux32, .inr (7, [.ref ux34, .int 0, .int 0, .ref kE, .int 0, .long 0, .int 0])), (ux4, .inl (ux35, 6, .inl (fun _ => 0))), (ux10, .inr (4, [.int 0, .ref ux36, .ref ux37, .ref ux38, .ref ux39, .ref ux40, .ref ux41, .ref ux42, .int 0, .ref ux43, .ref ux44, .ref ux45])), (wa, .inr (9, mF wx0 0 0 0 (-1) 0 0 0 0 0 0 0 0 0 0 0 0 0 0 0 0 0 0 0 0 0)), ((wx0 0), .inl (wx1, 1620, .inl (fun _ => 0))), ((wx0 2), .inl (wx2, 2, .inl (fun _ => 0))), ((wx0 3), .inl (wx3, 2, .inl (fun _ => 0))), ((wx0 14), .inl (wx4, 6, .inl (fun _ => 0)))]) (hS : va_S (fun q : Nat => s.heap.size ≤ q) s.heap H locs) {ls : Array Slot} (hl : lv_has ls 4 [(3, .int 0), (2, .ref wa), (1, .ref ua), (0, .ref b)]) : W p l e room_1 s m #[Value.ref b] below meth c H locs 162 9883 (lw_Z below #[Value.ref b] s) (F0 m 1202 ls []) := by
  obtain ⟨hx, hb, hr, hml, hown, hts0, hX, hbl, hlocks, hgv⟩ := C0
  have hts := hts0
  have hown : s.vm.findClass RL = some m.cls := hown
  have hA : ∀ q : Nat, s.heap.size ≤ q → (fun q : Nat => s.heap.size ≤ q) q := fun _ h => h
  have hbA : ¬ (fun q : Nat => s.heap.size ≤ q) b := Nat.not_le.mpr hbl
  refine lv_aload_n hx hb dL_law_1202 rfl (lv_at hl 2 rfl) ?_
  refine lv_aload_n hx hb dL_law_1203 rfl (lv_at hl 3 rfl) ?_
  refine lv_iload_n hx hb dL_law_1204 rfl (lv_at hl 0 rfl) ?_
  refine lv_iconst (v := 1) hx hb dL_law_1205 (by decide) ?_
  refine lv_iadd hx hb dL_law_1206 ?_
  refine lv_topi (fun z_1 ez_1 => ?_)
  obtain rfl : z_1 = (1 : Int32) := ez_1.trans (by decide)
  refine va_sld hx hb hX hbl hbA hS (by unfold vp_in; decide) dL_law_1207 ?_
  have hPc := hP.sub (ws' := [(ua, .inr (8, [.ref ux0, .int 0, .ref ux1, .ref ux2, .ref ux3, .ref ux4, .int 0, .ref ux5, .ref ux6, .ref ux7, .ref ux8, .ref ux9, .ref ux10, .int 0])), (ux1, .inr (5, [.int 0, .ref ux12, .ref ux13, .ref ux14, .ref ux15, .int 0, .ref ux16, .ref ux17, .ref ux18, .ref ux19, .ref ux20, .ref ux21])), (ux10, .inr (4, [.int 0, .ref ux36, .ref ux37, .ref ux38, .ref ux39, .ref ux40, .ref ux41, .ref ux42, .int 0, .ref ux43, .ref ux44, .ref ux45]))]) [0, 2, 7] rfl
  have hDc := hD.sub (ws' := [(ua, .inr (8, [.ref ux0, .int 0, .ref ux1, .ref ux2, .ref ux3, .ref ux4, .int 0, .ref ux5, .ref ux6, .ref ux7, .ref ux8, .ref ux9, .ref ux10, .int 0])), (ux1, .inr (5, [.int 0, .ref ux12, .ref ux13, .ref ux14, .ref ux15, .int 0, .ref ux16, .ref ux17, .ref ux18, .ref ux19, .ref ux20, .ref ux21])), (ux10, .inr (4, [.int 0, .ref ux36, .ref ux37, .ref ux38, .ref ux39, .ref ux40, .ref ux41, .ref ux42, .int 0, .ref ux43, .ref ux44, .ref ux45]))]) [0, 2, 7] (by decide) rfl
  have hKc := hK.sub (tys' := []) [] rfl
  have hFc := va_free (wc := [(ua, .inr (8, [.ref ux0, .int 0, .ref ux1, .ref ux2, .ref ux3, .ref ux4, .int 0, .ref ux5, .ref ux6, .ref ux7, .ref ux8, .ref ux9, .ref ux10, .int 0])), (ux1, .inr (5, [.int 0, .ref ux12, .ref ux13, .ref ux14, .ref ux15, .int 0, .ref ux16, .ref ux17, .ref ux18, .ref ux19, .ref ux20, .ref ux21])), (ux10, .inr (4, [.int 0, .ref ux36, .ref ux37, .ref ux38, .ref ux39, .ref ux40, .ref ux41, .ref ux42, .int 0, .ref ux43, .ref ux44, .ref ux45]))]) hD hS hA [0, 2, 7] rfl
  refine va_calli (va_runV (As := [.int (xs (1 : Int32).toNatClampNeg)]) (rest := []) ⟨hx, hb, hml, hown, hts⟩ (c_X10_about l dC dI kE ua ux0 ux1 ux2 ux3 ux4 ux5 ux6 ux7 ux8 ux9 ux10 ux12 ux13 ux14 ux15 ux16 ux17 ux18 ux19 ux20 ux21 ux36 ux37 ux38 ux39 ux40 ux41 ux42 ux43 ux44 ux45 H.size ((xs (1 : Int32).toNatClampNeg))) (cwV 1 hts gL_law_X10_about rfl rfl rfl (by decide +kernel) ⟨(Nat.le_of_ble_eq_true rfl), (Nat.le_of_ble_eq_true rfl)⟩) ⟨fun a U g mk q => by obtain ⟨q0, q1, qP, qK, qD, qE⟩ := q; exact ⟨q0, q1, qP, va_K.moved (u := U) (U := U.calling g mk a) (Vm.Alike.refl U.vm) qK, qD, ex_blind qE⟩, va_recv hKc hPc (ci := 8) (q0 := 0) rfl rfl, fun U hU hW => ⟨rfl, by rw [hU], by rw [hU]; exact hPc, va_K.moved hW.alike hKc, hDc.weaken (fun _ _ _ _ => trivial), ex_call hE hS hFc hU hW⟩⟩ rfl rfl hl.1 rfl (lv_room (Nat.le_of_ble_eq_true rfl)) dL_law_1208 ⟨(Nat.le_of_ble_eq_true rfl), (Nat.le_of_ble_eq_true rfl)⟩) hS (fun q _ h => hFc q h) hFc (fun r_2 u t H locs ht hvm hw hB hz1 hk1 hS => ?_)
  obtain ⟨hP, hD⟩ := va_join (wr := [(ux0, .inl (ux11, 1600, .inl (fun _ => 0))), (ux2, .inr (5, [.int 0, .ref ux22, .ref ux23, .ref ux24, .ref ux25, .int 0, .ref ux26, .ref ux27, .ref ux28, .ref ux29, .ref ux30, .ref ux31])), (ux3, .inr (3, [.ref ux32, .ref ux33, .int 0, .int (-1)])), (ux32, .inr (7, [.ref ux34, .int 0, .int 0, .ref kE, .int 0, .long 0, .int 0])), (ux4, .inl (ux35, 6, .inl (fun _ => 0))), (wa, .inr (9, mF wx0 0 0 0 (-1) 0 0 0 0 0 0 0 0 0 0 0 0 0 0 0 0 0 0 0 0 0)), ((wx0 0), .inl (wx1, 1620, .inl (fun _ => 0))), ((wx0 2), .inl (wx2, 2, .inl (fun _ => 0))), ((wx0 3), .inl (wx3, 2, .inl (fun _ => 0))), ((wx0 14), .inl (wx4, 6, .inl (fun _ => 0)))]) (w1 := []) hP hD [0, 2, 7] [1, 3, 4, 5, 6, 8, 9, 10, 11, 12] rfl rfl (by decide) (by decide) hk1 hFc ex_P0 ex_D0
  have hP : va_P (dC, dI) vwCl [(ux0, .inl (ux11, 1600, .inl (fun _ => 0))), (ux2, .inr (5, [.int 0, .ref ux22, .ref ux23, .ref ux24, .ref ux25, .int 0, .ref ux26, .ref ux27, .ref ux28, .ref ux29, .ref ux30, .ref ux31])), (ux3, .inr (3, [.ref ux32, .ref ux33, .int 0, .int (-1)])), (ux32, .inr (7, [.ref ux34, .int 0, .int 0, .ref kE, .int 0, .long 0, .int 0])), (ux4, .inl (ux35, 6, .inl (fun _ => 0))), (wa, .inr (9, mF wx0 0 0 0 (-1) 0 0 0 0 0 0 0 0 0 0 0 0 0 0 0 0 0 0 0 0 0)), ((wx0 0), .inl (wx1, 1620, .inl (fun _ => 0))), ((wx0 2), .inl (wx2, 2, .inl (fun _ => 0))), ((wx0 3), .inl (wx3, 2, .inl (fun _ => 0))), ((wx0 14), .inl (wx4, 6, .inl (fun _ => 0)))] H := hP
  have hD : va_D (fun q : Nat => s.heap.size ≤ q) [(ux0, .inl (ux11, 1600, .inl (fun _ => 0))), (ux2, .inr (5, [.int 0, .ref ux22, .ref ux23, .ref ux24, .ref ux25, .int 0, .ref ux26, .ref ux27, .ref ux28, .ref ux29, .ref ux30, .ref ux31])), (ux3, .inr (3, [.ref ux32, .ref ux33, .int 0, .int (-1)])), (ux32, .inr (7, [.ref ux34, .int 0, .int 0, .ref kE, .int 0, .long 0, .int 0])), (ux4, .inl (ux35, 6, .inl (fun _ => 0))), (wa, .inr (9, mF wx0 0 0 0 (-1) 0 0 0 0 0 0 0 0 0 0 0 0 0 0 0 0 0 0 0 0 0)), ((wx0 0), .inl (wx1, 1620, .inl (fun _ => 0))), ((wx0 2), .inl (wx2, 2, .inl (fun _ => 0))), ((wx0 3), .inl (wx3, 2, .inl (fun _ => 0))), ((wx0 14), .inl (wx4, 6, .inl (fun _ => 0)))] := hD
  refine W.widen (k := 162) (n := 9883) (by omega) (by omega) ?_
  rcases hw with ⟨rfl, c_3⟩ | ⟨rfl, c_4, c_5⟩ | ⟨rfl, c_6, c_7, c_8⟩ | ⟨rfl, c_9, c_10, c_11, c_12⟩ | ⟨rfl, c_13, c_14, c_15, c_16, c_17⟩ | ⟨rfl, c_18, c_19, c_20, c_21, c_22, c_23⟩ | ⟨rfl, c_24, c_25, c_26, c_27, c_28, c_29, c_30⟩ | ⟨rfl, c_31, c_32, c_33, c_34, c_35, c_36, c_37⟩
  · refine lv_aload_n hx hb dL_law_1211 rfl (lv_at hl 1 rfl) ?_
    refine lv_aload_n hx hb dL_law_1212 rfl (lv_at hl 3 rfl) ?_
    refine lv_iload_n hx hb dL_law_1213 rfl (lv_at hl 0 rfl) ?_
    refine lv_iconst (v := 1) hx hb dL_law_1214 (by decide) ?_
    refine lv_iadd hx hb dL_law_1215 ?_
    refine lv_topi (fun z_38 ez_38 => ?_)
    obtain rfl : z_38 = (1 : Int32) := ez_38.trans (by decide)
    refine va_sld hx hb hX hbl hbA hS (by unfold vp_in; decide) dL_law_1216 ?_
    have hPc := hP.sub (ws' := [(wa, .inr (9, mF wx0 0 0 0 (-1) 0 0 0 0 0 0 0 0 0 0 0 0 0 0 0 0 0 0 0 0 0)), ((wx0 2), .inl (wx2, 2, .inl (fun _ => 0))), ((wx0 3), .inl (wx3, 2, .inl (fun _ => 0)))]) [5, 7, 8] rfl
    have hDc := hD.sub (ws' := [(wa, .inr (9, mF wx0 0 0 0 (-1) 0 0 0 0 0 0 0 0 0 0 0 0 0 0 0 0 0 0 0 0 0)), ((wx0 2), .inl (wx2, 2, .inl (fun _ => 0))), ((wx0 3), .inl (wx3, 2, .inl (fun _ => 0)))]) [5, 7, 8] (by decide) rfl
    have hKc := hK.sub (tys' := [(wx2, .int), (wx3, .int)]) [3, 4] rfl
    have hFc := va_free (wc := [(wa, .inr (9, mF wx0 0 0 0 (-1) 0 0 0 0 0 0 0 0 0 0 0 0 0 0 0 0 0 0 0 0 0)), ((wx0 2), .inl (wx2, 2, .inl (fun _ => 0))), ((wx0 3), .inl (wx3, 2, .inl (fun _ => 0)))]) hD hS hA [5, 7, 8] rfl
    refine va_calli (va_runV (As := [.int (xs (1 : Int32).toNatClampNeg)]) (rest := [.int 0]) ⟨hx, hb, hml, hown, hts⟩ (c_X11_about l dC dI kE wa wx0 wx2 wx3 H.size ((xs (1 : Int32).toNatClampNeg))) (cwV 1 hts gL_law_X11_about rfl rfl rfl (by decide +kernel) ⟨(Nat.le_of_ble_eq_true rfl), (Nat.le_of_ble_eq_true rfl)⟩) ⟨fun a U g mk q => by obtain ⟨q0, q1, qP, qK, qD, qE⟩ := q; exact ⟨q0, q1, qP, va_K.moved (u := U) (U := U.calling g mk a) (Vm.Alike.refl U.vm) qK, qD, ex_blind qE⟩, va_recv hKc hPc (ci := 9) (q0 := 0) rfl rfl, fun U hU hW => ⟨rfl, by rw [hU], by rw [hU]; exact hPc, va_K.moved hW.alike hKc, hDc.weaken (fun _ _ _ _ => trivial), ex_call hE hS hFc hU hW⟩⟩ rfl rfl hl.1 rfl (lv_room (Nat.le_of_ble_eq_true rfl)) dL_law_1217 ⟨(Nat.le_of_ble_eq_true rfl), (Nat.le_of_ble_eq_true rfl)⟩) hS (fun q _ h => hFc q h) hFc (fun r_39 u t H locs ht hvm hw hB hz1 hk1 hS => ?_)
    obtain ⟨hP, hD⟩ := va_join (wr := [(ux0, .inl (ux11, 1600, .inl (fun _ => 0))), (ux2, .inr (5, [.int 0, .ref ux22, .ref ux23, .ref ux24, .ref ux25, .int 0, .ref ux26, .ref ux27, .ref ux28, .ref ux29, .ref ux30, .ref ux31])), (ux3, .inr (3, [.ref ux32, .ref ux33, .int 0, .int (-1)])), (ux32, .inr (7, [.ref ux34, .int 0, .int 0, .ref kE, .int 0, .long 0, .int 0])), (ux4, .inl (ux35, 6, .inl (fun _ => 0))), ((wx0 0), .inl (wx1, 1620, .inl (fun _ => 0))), ((wx0 14), .inl (wx4, 6, .inl (fun _ => 0)))]) (w1 := []) hP hD [5, 7, 8] [0, 1, 2, 3, 4, 6, 9] rfl rfl (by decide) (by decide) hk1 hFc ex_P0 ex_D0
    have hP : va_P (dC, dI) vwCl [(ux0, .inl (ux11, 1600, .inl (fun _ => 0))), (ux2, .inr (5, [.int 0, .ref ux22, .ref ux23, .ref ux24, .ref ux25, .int 0, .ref ux26, .ref ux27, .ref ux28, .ref ux29, .ref ux30, .ref ux31])), (ux3, .inr (3, [.ref ux32, .ref ux33, .int 0, .int (-1)])), (ux32, .inr (7, [.ref ux34, .int 0, .int 0, .ref kE, .int 0, .long 0, .int 0])), (ux4, .inl (ux35, 6, .inl (fun _ => 0))), ((wx0 0), .inl (wx1, 1620, .inl (fun _ => 0))), ((wx0 14), .inl (wx4, 6, .inl (fun _ => 0)))] H := hP
    have hD : va_D (fun q : Nat => s.heap.size ≤ q) [(ux0, .inl (ux11, 1600, .inl (fun _ => 0))), (ux2, .inr (5, [.int 0, .ref ux22, .ref ux23, .ref ux24, .ref ux25, .int 0, .ref ux26, .ref ux27, .ref ux28, .ref ux29, .ref ux30, .ref ux31])), (ux3, .inr (3, [.ref ux32, .ref ux33, .int 0, .int (-1)])), (ux32, .inr (7, [.ref ux34, .int 0, .int 0, .ref kE, .int 0, .long 0, .int 0])), (ux4, .inl (ux35, 6, .inl (fun _ => 0))), ((wx0 0), .inl (wx1, 1620, .inl (fun _ => 0))), ((wx0 14), .inl (wx4, 6, .inl (fun _ => 0)))] := hD
    refine W.widen (k := 162) (n := 9883) (by omega) (by omega) ?_
    rcases hw with ⟨rfl, c_40, c_41⟩ | ⟨rfl, c_42, c_43, c_44⟩ | ⟨rfl, c_45, c_46, c_47, c_48⟩ | ⟨rfl, c_49, c_50, c_51, c_52, c_53⟩ | ⟨rfl, c_54, c_55, c_56, c_57, c_58, c_59⟩ | ⟨rfl, c_60, c_61, c_62, c_63, c_64, c_65, c_66⟩ | ⟨rfl, c_67, c_68, c_69, c_70, c_71, c_72, c_73⟩ | ⟨rfl, c_74, c_75, c_76, c_77, c_78, c_79, c_80, c_81⟩
    · refine lv_icmp_eq (tgt := 1225) hx hb dL_law_1220 (by decide) (fun c_82 => ?_) (fun c_82 => absurd c_82 (by decide))
      refine lv_iinc (v := 6) (lv' := [(3, .int 6), (2, .ref wa), (1, .ref ua), (0, .ref b)]) hx hb dL_law_1225 hl (k := 0) rfl (by decide) (by decide) rfl (fun ls hl => ?_)
      refine lv_goto (tgt := 18) hx hb dL_law_1228 (by decide) ?_
      refine lv_iload_n hx hb dL_law_18 rfl (lv_at hl 0 rfl) ?_
      refine lv_aload_n hx hb dL_law_19 rfl (lv_at hl 3 rfl) ?_
      refine va_slen hx hb hX hbl hbA hS dL_law_20 ?_
      refine lv_bipush (v := 6) hx hb dL_law_21 (by decide) ?_
      refine lv_isub hx hb dL_law_23 ?_
      refine lv_topi (fun z_83 ez_83 => ?_)
      obtain rfl : z_83 = (0 : Int32) := ez_83.trans (by decide)
      refine lv_icmp_gt (tgt := 1231) hx hb dL_law_24 (by decide) (fun c_84 => ?_) (fun c_84 => absurd c_84 (by decide))
      refine lv_iconst (v := 1) hx hb dL_law_1231 (by decide) ?_
      refine va_forget (fun q h => hS.2.2 q h) ?_
      refine W.widen (k := 600000) (n := 7302250) (by omega) (by omega) ?_
      exact lw_ret hx hb hr hlocks dL_law_1232
    · exact False.elim (c_43 c_3)
    · exact False.elim (c_46 c_3)
    · exact False.elim (c_50 c_3)
    · exact False.elim (c_55 c_3)
    · exact False.elim (c_61 c_3)
    · exact False.elim (c_68 c_3)
    · exact False.elim (c_76 c_3)
  · refine lv_aload_n hx hb dL_law_1211 rfl (lv_at hl 1 rfl) ?_
    refine lv_aload_n hx hb dL_law_1212 rfl (lv_at hl 3 rfl) ?_
    refine lv_iload_n hx hb dL_law_1213 rfl (lv_at hl 0 rfl) ?_
    refine lv_iconst (v := 1) hx hb dL_law_1214 (by decide) ?_
    refine lv_iadd hx hb dL_law_1215 ?_
    refine lv_topi (fun z_85 ez_85 => ?_)
    obtain rfl : z_85 = (1 : Int32) := ez_85.trans (by decide)
    refine va_sld hx hb hX hbl hbA hS (by unfold vp_in; decide) dL_law_1216 ?_
    have hPc := hP.sub (ws' := [(wa, .inr (9, mF wx0 0 0 0 (-1) 0 0 0 0 0 0 0 0 0 0 0 0 0 0 0 0 0 0 0 0 0)), ((wx0 2), .inl (wx2, 2, .inl (fun _ => 0))), ((wx0 3), .inl (wx3, 2, .inl (fun _ => 0)))]) [5, 7, 8] rfl
    have hDc := hD.sub (ws' := [(wa, .inr (9, mF wx0 0 0 0 (-1) 0 0 0 0 0 0 0 0 0 0 0 0 0 0 0 0 0 0 0 0 0)), ((wx0 2), .inl (wx2, 2, .inl (fun _ => 0))), ((wx0 3), .inl (wx3, 2, .inl (fun _ => 0)))]) [5, 7, 8] (by decide) rfl
    have hKc := hK.sub (tys' := [(wx2, .int), (wx3, .int)]) [3, 4] rfl
    have hFc := va_free (wc := [(wa, .inr (9, mF wx0 0 0 0 (-1) 0 0 0 0 0 0 0 0 0 0 0 0 0 0 0 0 0 0 0 0 0)), ((wx0 2), .inl (wx2, 2, .inl (fun _ => 0))), ((wx0 3), .inl (wx3, 2, .inl (fun _ => 0)))]) hD hS hA [5, 7, 8] rfl
    refine va_calli (va_runV (As := [.int (xs (1 : Int32).toNatClampNeg)]) (rest := [.int 0]) ⟨hx, hb, hml, hown, hts⟩ (c_X11_about l dC dI kE wa wx0 wx2 wx3 H.size ((xs (1 : Int32).toNatClampNeg))) (cwV 1 hts gL_law_X11_about rfl rfl rfl (by decide +kernel) ⟨(Nat.le_of_ble_eq_true rfl), (Nat.le_of_ble_eq_true rfl)⟩) ⟨fun a U g mk q => by obtain ⟨q0, q1, qP, qK, qD, qE⟩ := q; exact ⟨q0, q1, qP, va_K.moved (u := U) (U := U.calling g mk a) (Vm.Alike.refl U.vm) qK, qD, ex_blind qE⟩, va_recv hKc hPc (ci := 9) (q0 := 0) rfl rfl, fun U hU hW => ⟨rfl, by rw [hU], by rw [hU]; exact hPc, va_K.moved hW.alike hKc, hDc.weaken (fun _ _ _ _ => trivial), ex_call hE hS hFc hU hW⟩⟩ rfl rfl hl.1 rfl (lv_room (Nat.le_of_ble_eq_true rfl)) dL_law_1217 ⟨(Nat.le_of_ble_eq_true rfl), (Nat.le_of_ble_eq_true rfl)⟩) hS (fun q _ h => hFc q h) hFc (fun r_86 u t H locs ht hvm hw hB hz1 hk1 hS => ?_)
    obtain ⟨hP, hD⟩ := va_join (wr := [(ux0, .inl (ux11, 1600, .inl (fun _ => 0))), (ux2, .inr (5, [.int 0, .ref ux22, .ref ux23, .ref ux24, .ref ux25, .int 0, .ref ux26, .ref ux27, .ref ux28, .ref ux29, .ref ux30, .ref ux31])), (ux3, .inr (3, [.ref ux32, .ref ux33, .int 0, .int (-1)])), (ux32, .inr (7, [.ref ux34, .int 0, .int 0, .ref kE, .int 0, .long 0, .int 0])), (ux4, .inl (ux35, 6, .inl (fun _ => 0))), ((wx0 0), .inl (wx1, 1620, .inl (fun _ => 0))), ((wx0 14), .inl (wx4, 6, .inl (fun _ => 0)))]) (w1 := []) hP hD [5, 7, 8] [0, 1, 2, 3, 4, 6, 9] rfl rfl (by decide) (by decide) hk1 hFc ex_P0 ex_D0
    have hP : va_P (dC, dI) vwCl [(ux0, .inl (ux11, 1600, .inl (fun _ => 0))), (ux2, .inr (5, [.int 0, .ref ux22, .ref ux23, .ref ux24, .ref ux25, .int 0, .ref ux26, .ref ux27, .ref ux28, .ref ux29, .ref ux30, .ref ux31])), (ux3, .inr (3, [.ref ux32, .ref ux33, .int 0, .int (-1)])), (ux32, .inr (7, [.ref ux34, .int 0, .int 0, .ref kE, .int 0, .long 0, .int 0])), (ux4, .inl (ux35, 6, .inl (fun _ => 0))), ((wx0 0), .inl (wx1, 1620, .inl (fun _ => 0))), ((wx0 14), .inl (wx4, 6, .inl (fun _ => 0)))] H := hP
    have hD : va_D (fun q : Nat => s.heap.size ≤ q) [(ux0, .inl (ux11, 1600, .inl (fun _ => 0))), (ux2, .inr (5, [.int 0, .ref ux22, .ref ux23, .ref ux24, .ref ux25, .int 0, .ref ux26, .ref ux27, .ref ux28, .ref ux29, .ref ux30, .ref ux31])), (ux3, .inr (3, [.ref ux32, .ref ux33, .int 0, .int (-1)])), (ux32, .inr (7, [.ref ux34, .int 0, .int 0, .ref kE, .int 0, .long 0, .int 0])), (ux4, .inl (ux35, 6, .inl (fun _ => 0))), ((wx0 0), .inl (wx1, 1620, .inl (fun _ => 0))), ((wx0 14), .inl (wx4, 6, .inl (fun _ => 0)))] := hD
    refine W.widen (k := 162) (n := 9883) (by omega) (by omega) ?_
    rcases hw with ⟨rfl, c_87, c_88⟩ | ⟨rfl, c_89, c_90, c_91⟩ | ⟨rfl, c_92, c_93, c_94, c_95⟩ | ⟨rfl, c_96, c_97, c_98, c_99, c_100⟩ | ⟨rfl, c_101, c_102, c_103, c_104, c_105, c_106⟩ | ⟨rfl, c_107, c_108, c_109, c_110, c_111, c_112, c_113⟩ | ⟨rfl, c_114, c_115, c_116, c_117, c_118, c_119, c_120⟩ | ⟨rfl, c_121, c_122, c_123, c_124, c_125, c_126, c_127, c_128⟩
    · exact False.elim (c_4 c_88)
    · refine lv_icmp_eq (tgt := 1225) hx hb dL_law_1220 (by decide) (fun c_129 => ?_) (fun c_129 => absurd c_129 (by decide))
      refine lv_iinc (v := 6) (lv' := [(3, .int 6), (2, .ref wa), (1, .ref ua), (0, .ref b)]) hx hb dL_law_1225 hl (k := 0) rfl (by decide) (by decide) rfl (fun ls hl => ?_)
      refine lv_goto (tgt := 18) hx hb dL_law_1228 (by decide) ?_
      refine lv_iload_n hx hb dL_law_18 rfl (lv_at hl 0 rfl) ?_
      refine lv_aload_n hx hb dL_law_19 rfl (lv_at hl 3 rfl) ?_
      refine va_slen hx hb hX hbl hbA hS dL_law_20 ?_
      refine lv_bipush (v := 6) hx hb dL_law_21 (by decide) ?_
      refine lv_isub hx hb dL_law_23 ?_
      refine lv_topi (fun z_130 ez_130 => ?_)
      obtain rfl : z_130 = (0 : Int32) := ez_130.trans (by decide)
      refine lv_icmp_gt (tgt := 1231) hx hb dL_law_24 (by decide) (fun c_131 => ?_) (fun c_131 => absurd c_131 (by decide))
      refine lv_iconst (v := 1) hx hb dL_law_1231 (by decide) ?_
      refine va_forget (fun q h => hS.2.2 q h) ?_
      refine W.widen (k := 600000) (n := 7302250) (by omega) (by omega) ?_
      exact lw_ret hx hb hr hlocks dL_law_1232
    · exact False.elim (c_94 c_5)
    · exact False.elim (c_98 c_5)
    · exact False.elim (c_103 c_5)
    · exact False.elim (c_109 c_5)
    · exact False.elim (c_116 c_5)
    · exact False.elim (c_124 c_5)
  · refine lv_aload_n hx hb dL_law_1211 rfl (lv_at hl 1 rfl) ?_
    refine lv_aload_n hx hb dL_law_1212 rfl (lv_at hl 3 rfl) ?_
    refine lv_iload_n hx hb dL_law_1213 rfl (lv_at hl 0 rfl) ?_
    refine lv_iconst (v := 1) hx hb dL_law_1214 (by decide) ?_
    refine lv_iadd hx hb dL_law_1215 ?_
    refine lv_topi (fun z_132 ez_132 => ?_)
    obtain rfl : z_132 = (1 : Int32) := ez_132.trans (by decide)
    refine va_sld hx hb hX hbl hbA hS (by unfold vp_in; decide) dL_law_1216 ?_
    have hPc := hP.sub (ws' := [(wa, .inr (9, mF wx0 0 0 0 (-1) 0 0 0 0 0 0 0 0 0 0 0 0 0 0 0 0 0 0 0 0 0)), ((wx0 2), .inl (wx2, 2, .inl (fun _ => 0))), ((wx0 3), .inl (wx3, 2, .inl (fun _ => 0)))]) [5, 7, 8] rfl
    have hDc := hD.sub (ws' := [(wa, .inr (9, mF wx0 0 0 0 (-1) 0 0 0 0 0 0 0 0 0 0 0 0 0 0 0 0 0 0 0 0 0)), ((wx0 2), .inl (wx2, 2, .inl (fun _ => 0))), ((wx0 3), .inl (wx3, 2, .inl (fun _ => 0)))]) [5, 7, 8] (by decide) rfl
    have hKc := hK.sub (tys' := [(wx2, .int), (wx3, .int)]) [3, 4] rfl
    have hFc := va_free (wc := [(wa, .inr (9, mF wx0 0 0 0 (-1) 0 0 0 0 0 0 0 0 0 0 0 0 0 0 0 0 0 0 0 0 0)), ((wx0 2), .inl (wx2, 2, .inl (fun _ => 0))), ((wx0 3), .inl (wx3, 2, .inl (fun _ => 0)))]) hD hS hA [5, 7, 8] rfl
    refine va_calli (va_runV (As := [.int (xs (1 : Int32).toNatClampNeg)]) (rest := [.int 0]) ⟨hx, hb, hml, hown, hts⟩ (c_X11_about l dC dI kE wa wx0 wx2 wx3 H.size ((xs (1 : Int32).toNatClampNeg))) (cwV 1 hts gL_law_X11_about rfl rfl rfl (by decide +kernel) ⟨(Nat.le_of_ble_eq_true rfl), (Nat.le_of_ble_eq_true rfl)⟩) ⟨fun a U g mk q => by obtain ⟨q0, q1, qP, qK, qD, qE⟩ := q; exact ⟨q0, q1, qP, va_K.moved (u := U) (U := U.calling g mk a) (Vm.Alike.refl U.vm) qK, qD, ex_blind qE⟩, va_recv hKc hPc (ci := 9) (q0 := 0) rfl rfl, fun U hU hW => ⟨rfl, by rw [hU], by rw [hU]; exact hPc, va_K.moved hW.alike hKc, hDc.weaken (fun _ _ _ _ => trivial), ex_call hE hS hFc hU hW⟩⟩ rfl rfl hl.1 rfl (lv_room (Nat.le_of_ble_eq_true rfl)) dL_law_1217 ⟨(Nat.le_of_ble_eq_true rfl), (Nat.le_of_ble_eq_true rfl)⟩) hS (fun q _ h => hFc q h) hFc (fun r_133 u t H locs ht hvm hw hB hz1 hk1 hS => ?_)
    obtain ⟨hP, hD⟩ := va_join (wr := [(ux0, .inl (ux11, 1600, .inl (fun _ => 0))), (ux2, .inr (5, [.int 0, .ref ux22, .ref ux23, .ref ux24, .ref ux25, .int 0, .ref ux26, .ref ux27, .ref ux28, .ref ux29, .ref ux30, .ref ux31])), (ux3, .inr (3, [.ref ux32, .ref ux33, .int 0, .int (-1)])), (ux32, .inr (7, [.ref ux34, .int 0, .int 0, .ref kE, .int 0, .long 0, .int 0])), (ux4, .inl (ux35, 6, .inl (fun _ => 0))), ((wx0 0), .inl (wx1, 1620, .inl (fun _ => 0))), ((wx0 14), .inl (wx4, 6, .inl (fun _ => 0)))]) (w1 := []) hP hD [5, 7, 8] [0, 1, 2, 3, 4, 6, 9] rfl rfl (by decide) (by decide) hk1 hFc ex_P0 ex_D0
    have hP : va_P (dC, dI) vwCl [(ux0, .inl (ux11, 1600, .inl (fun _ => 0))), (ux2, .inr (5, [.int 0, .ref ux22, .ref ux23, .ref ux24, .ref ux25, .int 0, .ref ux26, .ref ux27, .ref ux28, .ref ux29, .ref ux30, .ref ux31])), (ux3, .inr (3, [.ref ux32, .ref ux33, .int 0, .int (-1)])), (ux32, .inr (7, [.ref ux34, .int 0, .int 0, .ref kE, .int 0, .long 0, .int 0])), (ux4, .inl (ux35, 6, .inl (fun _ => 0))), ((wx0 0), .inl (wx1, 1620, .inl (fun _ => 0))), ((wx0 14), .inl (wx4, 6, .inl (fun _ => 0)))] H := hP
    have hD : va_D (fun q : Nat => s.heap.size ≤ q) [(ux0, .inl (ux11, 1600, .inl (fun _ => 0))), (ux2, .inr (5, [.int 0, .ref ux22, .ref ux23, .ref ux24, .ref ux25, .int 0, .ref ux26, .ref ux27, .ref ux28, .ref ux29, .ref ux30, .ref ux31])), (ux3, .inr (3, [.ref ux32, .ref ux33, .int 0, .int (-1)])), (ux32, .inr (7, [.ref ux34, .int 0, .int 0, .ref kE, .int 0, .long 0, .int 0])), (ux4, .inl (ux35, 6, .inl (fun _ => 0))), ((wx0 0), .inl (wx1, 1620, .inl (fun _ => 0))), ((wx0 14), .inl (wx4, 6, .inl (fun _ => 0)))] := hD
    refine W.widen (k := 162) (n := 9883) (by omega) (by omega) ?_
    rcases hw with ⟨rfl, c_134, c_135⟩ | ⟨rfl, c_136, c_137, c_138⟩ | ⟨rfl, c_139, c_140, c_141, c_142⟩ | ⟨rfl, c_143, c_144, c_145, c_146, c_147⟩ | ⟨rfl, c_148, c_149, c_150, c_151, c_152, c_153⟩ | ⟨rfl, c_154, c_155, c_156, c_157, c_158, c_159, c_160⟩ | ⟨rfl, c_161, c_162, c_163, c_164, c_165, c_166, c_167⟩ | ⟨rfl, c_168, c_169, c_170, c_171, c_172, c_173, c_174, c_175⟩
    · exact False.elim (c_6 c_135)
    · exact False.elim (c_7 c_138)
    · refine lv_icmp_eq (tgt := 1225) hx hb dL_law_1220 (by decide) (fun c_176 => ?_) (fun c_176 => absurd c_176 (by decide))
      refine lv_iinc (v := 6) (lv' := [(3, .int 6), (2, .ref wa), (1, .ref ua), (0, .ref b)]) hx hb dL_law_1225 hl (k := 0) rfl (by decide) (by decide) rfl (fun ls hl => ?_)
      refine lv_goto (tgt := 18) hx hb dL_law_1228 (by decide) ?_
      refine lv_iload_n hx hb dL_law_18 rfl (lv_at hl 0 rfl) ?_
      refine lv_aload_n hx hb dL_law_19 rfl (lv_at hl 3 rfl) ?_
      refine va_slen hx hb hX hbl hbA hS dL_law_20 ?_
      refine lv_bipush (v := 6) hx hb dL_law_21 (by decide) ?_
      refine lv_isub hx hb dL_law_23 ?_
      refine lv_topi (fun z_177 ez_177 => ?_)
      obtain rfl : z_177 = (0 : Int32) := ez_177.trans (by decide)
      refine lv_icmp_gt (tgt := 1231) hx hb dL_law_24 (by decide) (fun c_178 => ?_) (fun c_178 => absurd c_178 (by decide))
      refine lv_iconst (v := 1) hx hb dL_law_1231 (by decide) ?_
      refine va_forget (fun q h => hS.2.2 q h) ?_
      refine W.widen (k := 600000) (n := 7302250) (by omega) (by omega) ?_
      exact lw_ret hx hb hr hlocks dL_law_1232
    · exact False.elim (c_146 c_8)
    · exact False.elim (c_151 c_8)
    · exact False.elim (c_157 c_8)
    · exact False.elim (c_164 c_8)
    · exact False.elim (c_172 c_8)
  · refine lv_aload_n hx hb dL_law_1211 rfl (lv_at hl 1 rfl) ?_
    refine lv_aload_n hx hb dL_law_1212 rfl (lv_at hl 3 rfl) ?_
    refine lv_iload_n hx hb dL_law_1213 rfl (lv_at hl 0 rfl) ?_
    refine lv_iconst (v := 1) hx hb dL_law_1214 (by decide) ?_
    refine lv_iadd hx hb dL_law_1215 ?_
    refine lv_topi (fun z_179 ez_179 => ?_)
    obtain rfl : z_179 = (1 : Int32) := ez_179.trans (by decide)
    refine va_sld hx hb hX hbl hbA hS (by unfold vp_in; decide) dL_law_1216 ?_
    have hPc := hP.sub (ws' := [(wa, .inr (9, mF wx0 0 0 0 (-1) 0 0 0 0 0 0 0 0 0 0 0 0 0 0 0 0 0 0 0 0 0)), ((wx0 2), .inl (wx2, 2, .inl (fun _ => 0))), ((wx0 3), .inl (wx3, 2, .inl (fun _ => 0)))]) [5, 7, 8] rfl
    have hDc := hD.sub (ws' := [(wa, .inr (9, mF wx0 0 0 0 (-1) 0 0 0 0 0 0 0 0 0 0 0 0 0 0 0 0 0 0 0 0 0)), ((wx0 2), .inl (wx2, 2, .inl (fun _ => 0))), ((wx0 3), .inl (wx3, 2, .inl (fun _ => 0)))]) [5, 7, 8] (by decide) rfl
    have hKc := hK.sub (tys' := [(wx2, .int), (wx3, .int)]) [3, 4] rfl
    have hFc := va_free (wc := [(wa, .inr (9, mF wx0 0 0 0 (-1) 0 0 0 0 0 0 0 0 0 0 0 0 0 0 0 0 0 0 0 0 0)), ((wx0 2), .inl (wx2, 2, .inl (fun _ => 0))), ((wx0 3), .inl (wx3, 2, .inl (fun _ => 0)))]) hD hS hA [5, 7, 8] rfl
    refine va_calli (va_runV (As := [.int (xs (1 : Int32).toNatClampNeg)]) (rest := [.int 0]) ⟨hx, hb, hml, hown, hts⟩ (c_X11_about l dC dI kE wa wx0 wx2 wx3 H.size ((xs (1 : Int32).toNatClampNeg))) (cwV 1 hts gL_law_X11_about rfl rfl rfl (by decide +kernel) ⟨(Nat.le_of_ble_eq_true rfl), (Nat.le_of_ble_eq_true rfl)⟩) ⟨fun a U g mk q => by obtain ⟨q0, q1, qP, qK, qD, qE⟩ := q; exact ⟨q0, q1, qP, va_K.moved (u := U) (U := U.calling g mk a) (Vm.Alike.refl U.vm) qK, qD, ex_blind qE⟩, va_recv hKc hPc (ci := 9) (q0 := 0) rfl rfl, fun U hU hW => ⟨rfl, by rw [hU], by rw [hU]; exact hPc, va_K.moved hW.alike hKc, hDc.weaken (fun _ _ _ _ => trivial), ex_call hE hS hFc hU hW⟩⟩ rfl rfl hl.1 rfl (lv_room (Nat.le_of_ble_eq_true rfl)) dL_law_1217 ⟨(Nat.le_of_ble_eq_true rfl), (Nat.le_of_ble_eq_true rfl)⟩) hS (fun q _ h => hFc q h) hFc (fun r_180 u t H locs ht hvm hw hB hz1 hk1 hS => ?_)
    obtain ⟨hP, hD⟩ := va_join (wr := [(ux0, .inl (ux11, 1600, .inl (fun _ => 0))), (ux2, .inr (5, [.int 0, .ref ux22, .ref ux23, .ref ux24, .ref ux25, .int 0, .ref ux26, .ref ux27, .ref ux28, .ref ux29, .ref ux30, .ref ux31])), (ux3, .inr (3, [.ref ux32, .ref ux33, .int 0, .int (-1)])), (ux32, .inr (7, [.ref ux34, .int 0, .int 0, .ref kE, .int 0, .long 0, .int 0])), (ux4, .inl (ux35, 6, .inl (fun _ => 0))), ((wx0 0), .inl (wx1, 1620, .inl (fun _ => 0))), ((wx0 14), .inl (wx4, 6, .inl (fun _ => 0)))]) (w1 := []) hP hD [5, 7, 8] [0, 1, 2, 3, 4, 6, 9] rfl rfl (by decide) (by decide) hk1 hFc ex_P0 ex_D0
    have hP : va_P (dC, dI) vwCl [(ux0, .inl (ux11, 1600, .inl (fun _ => 0))), (ux2, .inr (5, [.int 0, .ref ux22, .ref ux23, .ref ux24, .ref ux25, .int 0, .ref ux26, .ref ux27, .ref ux28, .ref ux29, .ref ux30, .ref ux31])), (ux3, .inr (3, [.ref ux32, .ref ux33, .int 0, .int (-1)])), (ux32, .inr (7, [.ref ux34, .int 0, .int 0, .ref kE, .int 0, .long 0, .int 0])), (ux4, .inl (ux35, 6, .inl (fun _ => 0))), ((wx0 0), .inl (wx1, 1620, .inl (fun _ => 0))), ((wx0 14), .inl (wx4, 6, .inl (fun _ => 0)))] H := hP
    have hD : va_D (fun q : Nat => s.heap.size ≤ q) [(ux0, .inl (ux11, 1600, .inl (fun _ => 0))), (ux2, .inr (5, [.int 0, .ref ux22, .ref ux23, .ref ux24, .ref ux25, .int 0, .ref ux26, .ref ux27, .ref ux28, .ref ux29, .ref ux30, .ref ux31])), (ux3, .inr (3, [.ref ux32, .ref ux33, .int 0, .int (-1)])), (ux32, .inr (7, [.ref ux34, .int 0, .int 0, .ref kE, .int 0, .long 0, .int 0])), (ux4, .inl (ux35, 6, .inl (fun _ => 0))), ((wx0 0), .inl (wx1, 1620, .inl (fun _ => 0))), ((wx0 14), .inl (wx4, 6, .inl (fun _ => 0)))] := hD
    refine W.widen (k := 162) (n := 9883) (by omega) (by omega) ?_
    rcases hw with ⟨rfl, c_181, c_182⟩ | ⟨rfl, c_183, c_184, c_185⟩ | ⟨rfl, c_186, c_187, c_188, c_189⟩ | ⟨rfl, c_190, c_191, c_192, c_193, c_194⟩ | ⟨rfl, c_195, c_196, c_197, c_198, c_199, c_200⟩ | ⟨rfl, c_201, c_202, c_203, c_204, c_205, c_206, c_207⟩ | ⟨rfl, c_208, c_209, c_210, c_211, c_212, c_213, c_214⟩ | ⟨rfl, c_215, c_216, c_217, c_218, c_219, c_220, c_221, c_222⟩
    · exact False.elim (c_9 c_182)
    · exact False.elim (c_10 c_185)
    · exact False.elim (c_11 c_189)
    · refine lv_icmp_eq (tgt := 1225) hx hb dL_law_1220 (by decide) (fun c_223 => ?_) (fun c_223 => absurd c_223 (by decide))
      refine lv_iinc (v := 6) (lv' := [(3, .int 6), (2, .ref wa), (1, .ref ua), (0, .ref b)]) hx hb dL_law_1225 hl (k := 0) rfl (by decide) (by decide) rfl (fun ls hl => ?_)
      refine lv_goto (tgt := 18) hx hb dL_law_1228 (by decide) ?_
      refine lv_iload_n hx hb dL_law_18 rfl (lv_at hl 0 rfl) ?_
      refine lv_aload_n hx hb dL_law_19 rfl (lv_at hl 3 rfl) ?_
      refine va_slen hx hb hX hbl hbA hS dL_law_20 ?_
      refine lv_bipush (v := 6) hx hb dL_law_21 (by decide) ?_
      refine lv_isub hx hb dL_law_23 ?_
      refine lv_topi (fun z_224 ez_224 => ?_)
      obtain rfl : z_224 = (0 : Int32) := ez_224.trans (by decide)
      refine lv_icmp_gt (tgt := 1231) hx hb dL_law_24 (by decide) (fun c_225 => ?_) (fun c_225 => absurd c_225 (by decide))
      refine lv_iconst (v := 1) hx hb dL_law_1231 (by decide) ?_
      refine va_forget (fun q h => hS.2.2 q h) ?_
      refine W.widen (k := 600000) (n := 7302250) (by omega) (by omega) ?_
      exact lw_ret hx hb hr hlocks dL_law_1232
    · exact False.elim (c_199 c_12)
    · exact False.elim (c_205 c_12)
    · exact False.elim (c_212 c_12)
    · exact False.elim (c_220 c_12)
  · refine lv_aload_n hx hb dL_law_1211 rfl (lv_at hl 1 rfl) ?_
    refine lv_aload_n hx hb dL_law_1212 rfl (lv_at hl 3 rfl) ?_
    refine lv_iload_n hx hb dL_law_1213 rfl (lv_at hl 0 rfl) ?_
    refine lv_iconst (v := 1) hx hb dL_law_1214 (by decide) ?_
    refine lv_iadd hx hb dL_law_1215 ?_
    refine lv_topi (fun z_226 ez_226 => ?_)
    obtain rfl : z_226 = (1 : Int32) := ez_226.trans (by decide)
    refine va_sld hx hb hX hbl hbA hS (by unfold vp_in; decide) dL_law_1216 ?_
    have hPc := hP.sub (ws' := [(wa, .inr (9, mF wx0 0 0 0 (-1) 0 0 0 0 0 0 0 0 0 0 0 0 0 0 0 0 0 0 0 0 0)), ((wx0 2), .inl (wx2, 2, .inl (fun _ => 0))), ((wx0 3), .inl (wx3, 2, .inl (fun _ => 0)))]) [5, 7, 8] rfl
    have hDc := hD.sub (ws' := [(wa, .inr (9, mF wx0 0 0 0 (-1) 0 0 0 0 0 0 0 0 0 0 0 0 0 0 0 0 0 0 0 0 0)), ((wx0 2), .inl (wx2, 2, .inl (fun _ => 0))), ((wx0 3), .inl (wx3, 2, .inl (fun _ => 0)))]) [5, 7, 8] (by decide) rfl
    have hKc := hK.sub (tys' := [(wx2, .int), (wx3, .int)]) [3, 4] rfl
    have hFc := va_free (wc := [(wa, .inr (9, mF wx0 0 0 0 (-1) 0 0 0 0 0 0 0 0 0 0 0 0 0 0 0 0 0 0 0 0 0)), ((wx0 2), .inl (wx2, 2, .inl (fun _ => 0))), ((wx0 3), .inl (wx3, 2, .inl (fun _ => 0)))]) hD hS hA [5, 7, 8] rfl
    refine va_calli (va_runV (As := [.int (xs (1 : Int32).toNatClampNeg)]) (rest := [.int 0]) ⟨hx, hb, hml, hown, hts⟩ (c_X11_about l dC dI kE wa wx0 wx2 wx3 H.size ((xs (1 : Int32).toNatClampNeg))) (cwV 1 hts gL_law_X11_about rfl rfl rfl (by decide +kernel) ⟨(Nat.le_of_ble_eq_true rfl), (Nat.le_of_ble_eq_true rfl)⟩) ⟨fun a U g mk q => by obtain ⟨q0, q1, qP, qK, qD, qE⟩ := q; exact ⟨q0, q1, qP, va_K.moved (u := U) (U := U.calling g mk a) (Vm.Alike.refl U.vm) qK, qD, ex_blind qE⟩, va_recv hKc hPc (ci := 9) (q0 := 0) rfl rfl, fun U hU hW => ⟨rfl, by rw [hU], by rw [hU]; exact hPc, va_K.moved hW.alike hKc, hDc.weaken (fun _ _ _ _ => trivial), ex_call hE hS hFc hU hW⟩⟩ rfl rfl hl.1 rfl (lv_room (Nat.le_of_ble_eq_true rfl)) dL_law_1217 ⟨(Nat.le_of_ble_eq_true rfl), (Nat.le_of_ble_eq_true rfl)⟩) hS (fun q _ h => hFc q h) hFc (fun r_227 u t H locs ht hvm hw hB hz1 hk1 hS => ?_)
    obtain ⟨hP, hD⟩ := va_join (wr := [(ux0, .inl (ux11, 1600, .inl (fun _ => 0))), (ux2, .inr (5, [.int 0, .ref ux22, .ref ux23, .ref ux24, .ref ux25, .int 0, .ref ux26, .ref ux27, .ref ux28, .ref ux29, .ref ux30, .ref ux31])), (ux3, .inr (3, [.ref ux32, .ref ux33, .int 0, .int (-1)])), (ux32, .inr (7, [.ref ux34, .int 0, .int 0, .ref kE, .int 0, .long 0, .int 0])), (ux4, .inl (ux35, 6, .inl (fun _ => 0))), ((wx0 0), .inl (wx1, 1620, .inl (fun _ => 0))), ((wx0 14), .inl (wx4, 6, .inl (fun _ => 0)))]) (w1 := []) hP hD [5, 7, 8] [0, 1, 2, 3, 4, 6, 9] rfl rfl (by decide) (by decide) hk1 hFc ex_P0 ex_D0
    have hP : va_P (dC, dI) vwCl [(ux0, .inl (ux11, 1600, .inl (fun _ => 0))), (ux2, .inr (5, [.int 0, .ref ux22, .ref ux23, .ref ux24, .ref ux25, .int 0, .ref ux26, .ref ux27, .ref ux28, .ref ux29, .ref ux30, .ref ux31])), (ux3, .inr (3, [.ref ux32, .ref ux33, .int 0, .int (-1)])), (ux32, .inr (7, [.ref ux34, .int 0, .int 0, .ref kE, .int 0, .long 0, .int 0])), (ux4, .inl (ux35, 6, .inl (fun _ => 0))), ((wx0 0), .inl (wx1, 1620, .inl (fun _ => 0))), ((wx0 14), .inl (wx4, 6, .inl (fun _ => 0)))] H := hP
    have hD : va_D (fun q : Nat => s.heap.size ≤ q) [(ux0, .inl (ux11, 1600, .inl (fun _ => 0))), (ux2, .inr (5, [.int 0, .ref ux22, .ref ux23, .ref ux24, .ref ux25, .int 0, .ref ux26, .ref ux27, .ref ux28, .ref ux29, .ref ux30, .ref ux31])), (ux3, .inr (3, [.ref ux32, .ref ux33, .int 0, .int (-1)])), (ux32, .inr (7, [.ref ux34, .int 0, .int 0, .ref kE, .int 0, .long 0, .int 0])), (ux4, .inl (ux35, 6, .inl (fun _ => 0))), ((wx0 0), .inl (wx1, 1620, .inl (fun _ => 0))), ((wx0 14), .inl (wx4, 6, .inl (fun _ => 0)))] := hD
    refine W.widen (k := 162) (n := 9883) (by omega) (by omega) ?_
    rcases hw with ⟨rfl, c_228, c_229⟩ | ⟨rfl, c_230, c_231, c_232⟩ | ⟨rfl, c_233, c_234, c_235, c_236⟩ | ⟨rfl, c_237, c_238, c_239, c_240, c_241⟩ | ⟨rfl, c_242, c_243, c_244, c_245, c_246, c_247⟩ | ⟨rfl, c_248, c_249, c_250, c_251, c_252, c_253, c_254⟩ | ⟨rfl, c_255, c_256, c_257, c_258, c_259, c_260, c_261⟩ | ⟨rfl, c_262, c_263, c_264, c_265, c_266, c_267, c_268, c_269⟩
    · exact False.elim (c_13 c_229)
    · exact False.elim (c_14 c_232)
    · exact False.elim (c_15 c_236)
    · exact False.elim (c_16 c_241)
    · refine lv_icmp_eq (tgt := 1225) hx hb dL_law_1220 (by decide) (fun c_270 => ?_) (fun c_270 => absurd c_270 (by decide))
      refine lv_iinc (v := 6) (lv' := [(3, .int 6), (2, .ref wa), (1, .ref ua), (0, .ref b)]) hx hb dL_law_1225 hl (k := 0) rfl (by decide) (by decide) rfl (fun ls hl => ?_)
      refine lv_goto (tgt := 18) hx hb dL_law_1228 (by decide) ?_
      refine lv_iload_n hx hb dL_law_18 rfl (lv_at hl 0 rfl) ?_
      refine lv_aload_n hx hb dL_law_19 rfl (lv_at hl 3 rfl) ?_
      refine va_slen hx hb hX hbl hbA hS dL_law_20 ?_
      refine lv_bipush (v := 6) hx hb dL_law_21 (by decide) ?_
      refine lv_isub hx hb dL_law_23 ?_
      refine lv_topi (fun z_271 ez_271 => ?_)
      obtain rfl : z_271 = (0 : Int32) := ez_271.trans (by decide)
      refine lv_icmp_gt (tgt := 1231) hx hb dL_law_24 (by decide) (fun c_272 => ?_) (fun c_272 => absurd c_272 (by decide))
      refine lv_iconst (v := 1) hx hb dL_law_1231 (by decide) ?_
      refine va_forget (fun q h => hS.2.2 q h) ?_
      refine W.widen (k := 600000) (n := 7302250) (by omega) (by omega) ?_
      exact lw_ret hx hb hr hlocks dL_law_1232
    · exact False.elim (c_253 c_17)
    · exact False.elim (c_260 c_17)
    · exact False.elim (c_268 c_17)
  · refine lv_aload_n hx hb dL_law_1211 rfl (lv_at hl 1 rfl) ?_
    refine lv_aload_n hx hb dL_law_1212 rfl (lv_at hl 3 rfl) ?_
    refine lv_iload_n hx hb dL_law_1213 rfl (lv_at hl 0 rfl) ?_
    refine lv_iconst (v := 1) hx hb dL_law_1214 (by decide) ?_
    refine lv_iadd hx hb dL_law_1215 ?_
    refine lv_topi (fun z_273 ez_273 => ?_)
    obtain rfl : z_273 = (1 : Int32) := ez_273.trans (by decide)
    refine va_sld hx hb hX hbl hbA hS (by unfold vp_in; decide) dL_law_1216 ?_
    have hPc := hP.sub (ws' := [(wa, .inr (9, mF wx0 0 0 0 (-1) 0 0 0 0 0 0 0 0 0 0 0 0 0 0 0 0 0 0 0 0 0)), ((wx0 2), .inl (wx2, 2, .inl (fun _ => 0))), ((wx0 3), .inl (wx3, 2, .inl (fun _ => 0)))]) [5, 7, 8] rfl
    have hDc := hD.sub (ws' := [(wa, .inr (9, mF wx0 0 0 0 (-1) 0 0 0 0 0 0 0 0 0 0 0 0 0 0 0 0 0 0 0 0 0)), ((wx0 2), .inl (wx2, 2, .inl (fun _ => 0))), ((wx0 3), .inl (wx3, 2, .inl (fun _ => 0)))]) [5, 7, 8] (by decide) rfl
    have hKc := hK.sub (tys' := [(wx2, .int), (wx3, .int)]) [3, 4] rfl
    have hFc := va_free (wc := [(wa, .inr (9, mF wx0 0 0 0 (-1) 0 0 0 0 0 0 0 0 0 0 0 0 0 0 0 0 0 0 0 0 0)), ((wx0 2), .inl (wx2, 2, .inl (fun _ => 0))), ((wx0 3), .inl (wx3, 2, .inl (fun _ => 0)))]) hD hS hA [5, 7, 8] rfl
    refine va_calli (va_runV (As := [.int (xs (1 : Int32).toNatClampNeg)]) (rest := [.int 0]) ⟨hx, hb, hml, hown, hts⟩ (c_X11_about l dC dI kE wa wx0 wx2 wx3 H.size ((xs (1 : Int32).toNatClampNeg))) (cwV 1 hts gL_law_X11_about rfl rfl rfl (by decide +kernel) ⟨(Nat.le_of_ble_eq_true rfl), (Nat.le_of_ble_eq_true rfl)⟩) ⟨fun a U g mk q => by obtain ⟨q0, q1, qP, qK, qD, qE⟩ := q; exact ⟨q0, q1, qP, va_K.moved (u := U) (U := U.calling g mk a) (Vm.Alike.refl U.vm) qK, qD, ex_blind qE⟩, va_recv hKc hPc (ci := 9) (q0 := 0) rfl rfl, fun U hU hW => ⟨rfl, by rw [hU], by rw [hU]; exact hPc, va_K.moved hW.alike hKc, hDc.weaken (fun _ _ _ _ => trivial), ex_call hE hS hFc hU hW⟩⟩ rfl rfl hl.1 rfl (lv_room (Nat.le_of_ble_eq_true rfl)) dL_law_1217 ⟨(Nat.le_of_ble_eq_true rfl), (Nat.le_of_ble_eq_true rfl)⟩) hS (fun q _ h => hFc q h) hFc (fun r_274 u t H locs ht hvm hw hB hz1 hk1 hS => ?_)
    obtain ⟨hP, hD⟩ := va_join (wr := [(ux0, .inl (ux11, 1600, .inl (fun _ => 0))), (ux2, .inr (5, [.int 0, .ref ux22, .ref ux23, .ref ux24, .ref ux25, .int 0, .ref ux26, .ref ux27, .ref ux28, .ref ux29, .ref ux30, .ref ux31])), (ux3, .inr (3, [.ref ux32, .ref ux33, .int 0, .int (-1)])), (ux32, .inr (7, [.ref ux34, .int 0, .int 0, .ref kE, .int 0, .long 0, .int 0])), (ux4, .inl (ux35, 6, .inl (fun _ => 0))), ((wx0 0), .inl (wx1, 1620, .inl (fun _ => 0))), ((wx0 14), .inl (wx4, 6, .inl (fun _ => 0)))]) (w1 := []) hP hD [5, 7, 8] [0, 1, 2, 3, 4, 6, 9] rfl rfl (by decide) (by decide) hk1 hFc ex_P0 ex_D0
    have hP : va_P (dC, dI) vwCl [(ux0, .inl (ux11, 1600, .inl (fun _ => 0))), (ux2, .inr (5, [.int 0, .ref ux22, .ref ux23, .ref ux24, .ref ux25, .int 0, .ref ux26, .ref ux27, .ref ux28, .ref ux29, .ref ux30, .ref ux31])), (ux3, .inr (3, [.ref ux32, .ref ux33, .int 0, .int (-1)])), (ux32, .inr (7, [.ref ux34, .int 0, .int 0, .ref kE, .int 0, .long 0, .int 0])), (ux4, .inl (ux35, 6, .inl (fun _ => 0))), ((wx0 0), .inl (wx1, 1620, .inl (fun _ => 0))), ((wx0 14), .inl (wx4, 6, .inl (fun _ => 0)))] H := hP
    have hD : va_D (fun q : Nat => s.heap.size ≤ q) [(ux0, .inl (ux11, 1600, .inl (fun _ => 0))), (ux2, .inr (5, [.int 0, .ref ux22, .ref ux23, .ref ux24, .ref ux25, .int 0, .ref ux26, .ref ux27, .ref ux28, .ref ux29, .ref ux30, .ref ux31])), (ux3, .inr (3, [.ref ux32, .ref ux33, .int 0, .int (-1)])), (ux32, .inr (7, [.ref ux34, .int 0, .int 0, .ref kE, .int 0, .long 0, .int 0])), (ux4, .inl (ux35, 6, .inl (fun _ => 0))), ((wx0 0), .inl (wx1, 1620, .inl (fun _ => 0))), ((wx0 14), .inl (wx4, 6, .inl (fun _ => 0)))] := hD
    refine W.widen (k := 162) (n := 9883) (by omega) (by omega) ?_
    rcases hw with ⟨rfl, c_275, c_276⟩ | ⟨rfl, c_277, c_278, c_279⟩ | ⟨rfl, c_280, c_281, c_282, c_283⟩ | ⟨rfl, c_284, c_285, c_286, c_287, c_288⟩ | ⟨rfl, c_289, c_290, c_291, c_292, c_293, c_294⟩ | ⟨rfl, c_295, c_296, c_297, c_298, c_299, c_300, c_301⟩ | ⟨rfl, c_302, c_303, c_304, c_305, c_306, c_307, c_308⟩ | ⟨rfl, c_309, c_310, c_311, c_312, c_313, c_314, c_315, c_316⟩
    · exact False.elim (c_18 c_276)
    · exact False.elim (c_19 c_279)
    · exact False.elim (c_20 c_283)
    · exact False.elim (c_21 c_288)
    · exact False.elim (c_22 c_294)
    · refine lv_icmp_eq (tgt := 1225) hx hb dL_law_1220 (by decide) (fun c_317 => ?_) (fun c_317 => absurd c_317 (by decide))
      refine lv_iinc (v := 6) (lv' := [(3, .int 6), (2, .ref wa), (1, .ref ua), (0, .ref b)]) hx hb dL_law_1225 hl (k := 0) rfl (by decide) (by decide) rfl (fun ls hl => ?_)
      refine lv_goto (tgt := 18) hx hb dL_law_1228 (by decide) ?_
      refine lv_iload_n hx hb dL_law_18 rfl (lv_at hl 0 rfl) ?_
      refine lv_aload_n hx hb dL_law_19 rfl (lv_at hl 3 rfl) ?_
      refine va_slen hx hb hX hbl hbA hS dL_law_20 ?_
      refine lv_bipush (v := 6) hx hb dL_law_21 (by decide) ?_
      refine lv_isub hx hb dL_law_23 ?_
      refine lv_topi (fun z_318 ez_318 => ?_)
      obtain rfl : z_318 = (0 : Int32) := ez_318.trans (by decide)
      refine lv_icmp_gt (tgt := 1231) hx hb dL_law_24 (by decide) (fun c_319 => ?_) (fun c_319 => absurd c_319 (by decide))
      refine lv_iconst (v := 1) hx hb dL_law_1231 (by decide) ?_
      refine va_forget (fun q h => hS.2.2 q h) ?_
      refine W.widen (k := 600000) (n := 7302250) (by omega) (by omega) ?_
      exact lw_ret hx hb hr hlocks dL_law_1232
    · exact False.elim (c_308 c_23)
    · exact False.elim (c_316 c_23)
  · refine lv_aload_n hx hb dL_law_1211 rfl (lv_at hl 1 rfl) ?_
    refine lv_aload_n hx hb dL_law_1212 rfl (lv_at hl 3 rfl) ?_
    refine lv_iload_n hx hb dL_law_1213 rfl (lv_at hl 0 rfl) ?_
    refine lv_iconst (v := 1) hx hb dL_law_1214 (by decide) ?_
    refine lv_iadd hx hb dL_law_1215 ?_
    refine lv_topi (fun z_320 ez_320 => ?_)
    obtain rfl : z_320 = (1 : Int32) := ez_320.trans (by decide)
    refine va_sld hx hb hX hbl hbA hS (by unfold vp_in; decide) dL_law_1216 ?_
    have hPc := hP.sub (ws' := [(wa, .inr (9, mF wx0 0 0 0 (-1) 0 0 0 0 0 0 0 0 0 0 0 0 0 0 0 0 0 0 0 0 0)), ((wx0 2), .inl (wx2, 2, .inl (fun _ => 0))), ((wx0 3), .inl (wx3, 2, .inl (fun _ => 0)))]) [5, 7, 8] rfl
    have hDc := hD.sub (ws' := [(wa, .inr (9, mF wx0 0 0 0 (-1) 0 0 0 0 0 0 0 0 0 0 0 0 0 0 0 0 0 0 0 0 0)), ((wx0 2), .inl (wx2, 2, .inl (fun _ => 0))), ((wx0 3), .inl (wx3, 2, .inl (fun _ => 0)))]) [5, 7, 8] (by decide) rfl
    have hKc := hK.sub (tys' := [(wx2, .int), (wx3, .int)]) [3, 4] rfl
    have hFc := va_free (wc := [(wa, .inr (9, mF wx0 0 0 0 (-1) 0 0 0 0 0 0 0 0 0 0 0 0 0 0 0 0 0 0 0 0 0)), ((wx0 2), .inl (wx2, 2, .inl (fun _ => 0))), ((wx0 3), .inl (wx3, 2, .inl (fun _ => 0)))]) hD hS hA [5, 7, 8] rfl
    refine va_calli (va_runV (As := [.int (xs (1 : Int32).toNatClampNeg)]) (rest := [.int (-1)]) ⟨hx, hb, hml, hown, hts⟩ (c_X11_about l dC dI kE wa wx0 wx2 wx3 H.size ((xs (1 : Int32).toNatClampNeg))) (cwV 1 hts gL_law_X11_about rfl rfl rfl (by decide +kernel) ⟨(Nat.le_of_ble_eq_true rfl), (Nat.le_of_ble_eq_true rfl)⟩) ⟨fun a U g mk q => by obtain ⟨q0, q1, qP, qK, qD, qE⟩ := q; exact ⟨q0, q1, qP, va_K.moved (u := U) (U := U.calling g mk a) (Vm.Alike.refl U.vm) qK, qD, ex_blind qE⟩, va_recv hKc hPc (ci := 9) (q0 := 0) rfl rfl, fun U hU hW => ⟨rfl, by rw [hU], by rw [hU]; exact hPc, va_K.moved hW.alike hKc, hDc.weaken (fun _ _ _ _ => trivial), ex_call hE hS hFc hU hW⟩⟩ rfl rfl hl.1 rfl (lv_room (Nat.le_of_ble_eq_true rfl)) dL_law_1217 ⟨(Nat.le_of_ble_eq_true rfl), (Nat.le_of_ble_eq_true rfl)⟩) hS (fun q _ h => hFc q h) hFc (fun r_321 u t H locs ht hvm hw hB hz1 hk1 hS => ?_)
    obtain ⟨hP, hD⟩ := va_join (wr := [(ux0, .inl (ux11, 1600, .inl (fun _ => 0))), (ux2, .inr (5, [.int 0, .ref ux22, .ref ux23, .ref ux24, .ref ux25, .int 0, .ref ux26, .ref ux27, .ref ux28, .ref ux29, .ref ux30, .ref ux31])), (ux3, .inr (3, [.ref ux32, .ref ux33, .int 0, .int (-1)])), (ux32, .inr (7, [.ref ux34, .int 0, .int 0, .ref kE, .int 0, .long 0, .int 0])), (ux4, .inl (ux35, 6, .inl (fun _ => 0))), ((wx0 0), .inl (wx1, 1620, .inl (fun _ => 0))), ((wx0 14), .inl (wx4, 6, .inl (fun _ => 0)))]) (w1 := []) hP hD [5, 7, 8] [0, 1, 2, 3, 4, 6, 9] rfl rfl (by decide) (by decide) hk1 hFc ex_P0 ex_D0
    have hP : va_P (dC, dI) vwCl [(ux0, .inl (ux11, 1600, .inl (fun _ => 0))), (ux2, .inr (5, [.int 0, .ref ux22, .ref ux23, .ref ux24, .ref ux25, .int 0, .ref ux26, .ref ux27, .ref ux28, .ref ux29, .ref ux30, .ref ux31])), (ux3, .inr (3, [.ref ux32, .ref ux33, .int 0, .int (-1)])), (ux32, .inr (7, [.ref ux34, .int 0, .int 0, .ref kE, .int 0, .long 0, .int 0])), (ux4, .inl (ux35, 6, .inl (fun _ => 0))), ((wx0 0), .inl (wx1, 1620, .inl (fun _ => 0))), ((wx0 14), .inl (wx4, 6, .inl (fun _ => 0)))] H := hP
    have hD : va_D (fun q : Nat => s.heap.size ≤ q) [(ux0, .inl (ux11, 1600, .inl (fun _ => 0))), (ux2, .inr (5, [.int 0, .ref ux22, .ref ux23, .ref ux24, .ref ux25, .int 0, .ref ux26, .ref ux27, .ref ux28, .ref ux29, .ref ux30, .ref ux31])), (ux3, .inr (3, [.ref ux32, .ref ux33, .int 0, .int (-1)])), (ux32, .inr (7, [.ref ux34, .int 0, .int 0, .ref kE, .int 0, .long 0, .int 0])), (ux4, .inl (ux35, 6, .inl (fun _ => 0))), ((wx0 0), .inl (wx1, 1620, .inl (fun _ => 0))), ((wx0 14), .inl (wx4, 6, .inl (fun _ => 0)))] := hD
    refine W.widen (k := 162) (n := 9883) (by omega) (by omega) ?_
    rcases hw with ⟨rfl, c_322, c_323⟩ | ⟨rfl, c_324, c_325, c_326⟩ | ⟨rfl, c_327, c_328, c_329, c_330⟩ | ⟨rfl, c_331, c_332, c_333, c_334, c_335⟩ | ⟨rfl, c_336, c_337, c_338, c_339, c_340, c_341⟩ | ⟨rfl, c_342, c_343, c_344, c_345, c_346, c_347, c_348⟩ | ⟨rfl, c_349, c_350, c_351, c_352, c_353, c_354, c_355⟩ | ⟨rfl, c_356, c_357, c_358, c_359, c_360, c_361, c_362, c_363⟩
    · exact False.elim (c_24 c_323)
    · exact False.elim (c_25 c_326)
    · exact False.elim (c_26 c_330)
    · exact False.elim (c_27 c_335)
    · exact False.elim (c_28 c_341)
    · exact False.elim (c_29 c_348)
    · refine lv_icmp_eq (tgt := 1225) hx hb dL_law_1220 (by decide) (fun c_364 => ?_) (fun c_364 => absurd c_364 (by decide))
      refine lv_iinc (v := 6) (lv' := [(3, .int 6), (2, .ref wa), (1, .ref ua), (0, .ref b)]) hx hb dL_law_1225 hl (k := 0) rfl (by decide) (by decide) rfl (fun ls hl => ?_)
      refine lv_goto (tgt := 18) hx hb dL_law_1228 (by decide) ?_
      refine lv_iload_n hx hb dL_law_18 rfl (lv_at hl 0 rfl) ?_
      refine lv_aload_n hx hb dL_law_19 rfl (lv_at hl 3 rfl) ?_
      refine va_slen hx hb hX hbl hbA hS dL_law_20 ?_
      refine lv_bipush (v := 6) hx hb dL_law_21 (by decide) ?_
      refine lv_isub hx hb dL_law_23 ?_
      refine lv_topi (fun z_365 ez_365 => ?_)
      obtain rfl : z_365 = (0 : Int32) := ez_365.trans (by decide)
      refine lv_icmp_gt (tgt := 1231) hx hb dL_law_24 (by decide) (fun c_366 => ?_) (fun c_366 => absurd c_366 (by decide))
      refine lv_iconst (v := 1) hx hb dL_law_1231 (by decide) ?_
      refine va_forget (fun q h => hS.2.2 q h) ?_
      refine W.widen (k := 600000) (n := 7302250) (by omega) (by omega) ?_
      exact lw_ret hx hb hr hlocks dL_law_1232
    · exact False.elim (c_356 c_30)
  · refine lv_aload_n hx hb dL_law_1211 rfl (lv_at hl 1 rfl) ?_
    refine lv_aload_n hx hb dL_law_1212 rfl (lv_at hl 3 rfl) ?_
    refine lv_iload_n hx hb dL_law_1213 rfl (lv_at hl 0 rfl) ?_
    refine lv_iconst (v := 1) hx hb dL_law_1214 (by decide) ?_
    refine lv_iadd hx hb dL_law_1215 ?_
    refine lv_topi (fun z_367 ez_367 => ?_)
    obtain rfl : z_367 = (1 : Int32) := ez_367.trans (by decide)
    refine va_sld hx hb hX hbl hbA hS (by unfold vp_in; decide) dL_law_1216 ?_
    have hPc := hP.sub (ws' := [(wa, .inr (9, mF wx0 0 0 0 (-1) 0 0 0 0 0 0 0 0 0 0 0 0 0 0 0 0 0 0 0 0 0)), ((wx0 2), .inl (wx2, 2, .inl (fun _ => 0))), ((wx0 3), .inl (wx3, 2, .inl (fun _ => 0)))]) [5, 7, 8] rfl
    have hDc := hD.sub (ws' := [(wa, .inr (9, mF wx0 0 0 0 (-1) 0 0 0 0 0 0 0 0 0 0 0 0 0 0 0 0 0 0 0 0 0)), ((wx0 2), .inl (wx2, 2, .inl (fun _ => 0))), ((wx0 3), .inl (wx3, 2, .inl (fun _ => 0)))]) [5, 7, 8] (by decide) rfl
    have hKc := hK.sub (tys' := [(wx2, .int), (wx3, .int)]) [3, 4] rfl
    have hFc := va_free (wc := [(wa, .inr (9, mF wx0 0 0 0 (-1) 0 0 0 0 0 0 0 0 0 0 0 0 0 0 0 0 0 0 0 0 0)), ((wx0 2), .inl (wx2, 2, .inl (fun _ => 0))), ((wx0 3), .inl (wx3, 2, .inl (fun _ => 0)))]) hD hS hA [5, 7, 8] rfl
    refine va_calli (va_runV (As := [.int (xs (1 : Int32).toNatClampNeg)]) (rest := [.int (-1)]) ⟨hx, hb, hml, hown, hts⟩ (c_X11_about l dC dI kE wa wx0 wx2 wx3 H.size ((xs (1 : Int32).toNatClampNeg))) (cwV 1 hts gL_law_X11_about rfl rfl rfl (by decide +kernel) ⟨(Nat.le_of_ble_eq_true rfl), (Nat.le_of_ble_eq_true rfl)⟩) ⟨fun a U g mk q => by obtain ⟨q0, q1, qP, qK, qD, qE⟩ := q; exact ⟨q0, q1, qP, va_K.moved (u := U) (U := U.calling g mk a) (Vm.Alike.refl U.vm) qK, qD, ex_blind qE⟩, va_recv hKc hPc (ci := 9) (q0 := 0) rfl rfl, fun U hU hW => ⟨rfl, by rw [hU], by rw [hU]; exact hPc, va_K.moved hW.alike hKc, hDc.weaken (fun _ _ _ _ => trivial), ex_call hE hS hFc hU hW⟩⟩ rfl rfl hl.1 rfl (lv_room (Nat.le_of_ble_eq_true rfl)) dL_law_1217 ⟨(Nat.le_of_ble_eq_true rfl), (Nat.le_of_ble_eq_true rfl)⟩) hS (fun q _ h => hFc q h) hFc (fun r_368 u t H locs ht hvm hw hB hz1 hk1 hS => ?_)
    obtain ⟨hP, hD⟩ := va_join (wr := [(ux0, .inl (ux11, 1600, .inl (fun _ => 0))), (ux2, .inr (5, [.int 0, .ref ux22, .ref ux23, .ref ux24, .ref ux25, .int 0, .ref ux26, .ref ux27, .ref ux28, .ref ux29, .ref ux30, .ref ux31])), (ux3, .inr (3, [.ref ux32, .ref ux33, .int 0, .int (-1)])), (ux32, .inr (7, [.ref ux34, .int 0, .int 0, .ref kE, .int 0, .long 0, .int 0])), (ux4, .inl (ux35, 6, .inl (fun _ => 0))), ((wx0 0), .inl (wx1, 1620, .inl (fun _ => 0))), ((wx0 14), .inl (wx4, 6, .inl (fun _ => 0)))]) (w1 := []) hP hD [5, 7, 8] [0, 1, 2, 3, 4, 6, 9] rfl rfl (by decide) (by decide) hk1 hFc ex_P0 ex_D0
    have hP : va_P (dC, dI) vwCl [(ux0, .inl (ux11, 1600, .inl (fun _ => 0))), (ux2, .inr (5, [.int 0, .ref ux22, .ref ux23, .ref ux24, .ref ux25, .int 0, .ref ux26, .ref ux27, .ref ux28, .ref ux29, .ref ux30, .ref ux31])), (ux3, .inr (3, [.ref ux32, .ref ux33, .int 0, .int (-1)])), (ux32, .inr (7, [.ref ux34, .int 0, .int 0, .ref kE, .int 0, .long 0, .int 0])), (ux4, .inl (ux35, 6, .inl (fun _ => 0))), ((wx0 0), .inl (wx1, 1620, .inl (fun _ => 0))), ((wx0 14), .inl (wx4, 6, .inl (fun _ => 0)))] H := hP
    have hD : va_D (fun q : Nat => s.heap.size ≤ q) [(ux0, .inl (ux11, 1600, .inl (fun _ => 0))), (ux2, .inr (5, [.int 0, .ref ux22, .ref ux23, .ref ux24, .ref ux25, .int 0, .ref ux26, .ref ux27, .ref ux28, .ref ux29, .ref ux30, .ref ux31])), (ux3, .inr (3, [.ref ux32, .ref ux33, .int 0, .int (-1)])), (ux32, .inr (7, [.ref ux34, .int 0, .int 0, .ref kE, .int 0, .long 0, .int 0])), (ux4, .inl (ux35, 6, .inl (fun _ => 0))), ((wx0 0), .inl (wx1, 1620, .inl (fun _ => 0))), ((wx0 14), .inl (wx4, 6, .inl (fun _ => 0)))] := hD
    refine W.widen (k := 162) (n := 9883) (by omega) (by omega) ?_
    rcases hw with ⟨rfl, c_369, c_370⟩ | ⟨rfl, c_371, c_372, c_373⟩ | ⟨rfl, c_374, c_375, c_376, c_377⟩ | ⟨rfl, c_378, c_379, c_380, c_381, c_382⟩ | ⟨rfl, c_383, c_384, c_385, c_386, c_387, c_388⟩ | ⟨rfl, c_389, c_390, c_391, c_392, c_393, c_394, c_395⟩ | ⟨rfl, c_396, c_397, c_398, c_399, c_400, c_401, c_402⟩ | ⟨rfl, c_403, c_404, c_405, c_406, c_407, c_408, c_409, c_410⟩
    · exact False.elim (c_37 c_369)
    · exact False.elim (c_37 c_371)
    · exact False.elim (c_37 c_374)
    · exact False.elim (c_37 c_378)
    · exact False.elim (c_37 c_383)
    · exact False.elim (c_37 c_389)
    · exact False.elim (c_37 c_396)
    · refine lv_icmp_eq (tgt := 1225) hx hb dL_law_1220 (by decide) (fun c_411 => ?_) (fun c_411 => absurd c_411 (by decide))
      refine lv_iinc (v := 6) (lv' := [(3, .int 6), (2, .ref wa), (1, .ref ua), (0, .ref b)]) hx hb dL_law_1225 hl (k := 0) rfl (by decide) (by decide) rfl (fun ls hl => ?_)
      refine lv_goto (tgt := 18) hx hb dL_law_1228 (by decide) ?_
      refine lv_iload_n hx hb dL_law_18 rfl (lv_at hl 0 rfl) ?_
      refine lv_aload_n hx hb dL_law_19 rfl (lv_at hl 3 rfl) ?_
      refine va_slen hx hb hX hbl hbA hS dL_law_20 ?_
      refine lv_bipush (v := 6) hx hb dL_law_21 (by decide) ?_
      refine lv_isub hx hb dL_law_23 ?_
      refine lv_topi (fun z_412 ez_412 => ?_)
      obtain rfl : z_412 = (0 : Int32) := ez_412.trans (by decide)
      refine lv_icmp_gt (tgt := 1231) hx hb dL_law_24 (by decide) (fun c_413 => ?_) (fun c_413 => absurd c_413 (by decide))
      refine lv_iconst (v := 1) hx hb dL_law_1231 (by decide) ?_
      refine va_forget (fun q h => hS.2.2 q h) ?_
      refine W.widen (k := 600000) (n := 7302250) (by omega) (by omega) ?_
      exact lw_ret hx hb hr hlocks dL_law_1232
set_option maxHeartbeats 4000000 in
set_option maxRecDepth 100000 in
theorem law_31 {p : Program} {e : Env} {s : State} {m : MethodId} {below : List Frame} {meth : Method} {c : Code} (l : Launch) {dC : Nat → ClassId} {dI : Nat → Nat → Nat} {kE b : Nat} {xs : Nat → Int32} {ua : Nat} {ux0 : Nat} {ux1 : Nat} {ux2 : Nat} {ux3 : Nat} {ux4 : Nat} {ux5 : Nat} {ux6 : Nat} {ux7 : Nat} {ux8 : Nat} {ux9 : Nat} {ux10 : Nat} {ux12 : Nat} {ux13 : Nat} {ux14 : Nat} {ux15 : Nat} {ux16 : Nat} {ux17 : Nat} {ux18 : Nat} {ux19 : Nat} {ux20 : Nat} {ux21 : Nat} {ux22 : Nat} {ux23 : Nat} {ux24 : Nat} {ux25 : Nat} {ux26 : Nat} {ux27 : Nat} {ux28 : Nat} {ux29 : Nat} {ux30 : Nat} {ux31 : Nat} {ux32 : Nat} {ux33 : Nat} {ux34 : Nat} {ux36 : Nat} {ux37 : Nat} {ux38 : Nat} {ux39 : Nat} {ux40 : Nat} {ux41 : Nat} {ux42 : Nat} {ux43 : Nat} {ux44 : Nat} {ux45 : Nat} {wa : Nat} {wx0 : Nat → Nat} {ux11 ux35 wx1 wx2 wx3 wx4 : ClassId} (C0 : lw_At p s m meth c b 6 xs) (hE : ex_X kE (fun q : Nat => s.heap.size ≤ q) s) (hK : va_K (dC, dI) vwCl [(ux11, .byte), (ux35, .int), (wx1, .byte), (wx2, .int), (wx3, .int), (wx4, .int)] s) {H : Heap} {locs : List Loc} (hP : va_P (dC, dI) vwCl [(ua, .inr (8, [.ref ux0, .int 0, .ref ux1, .ref ux2, .ref ux3, .ref ux4, .int 0, .ref ux5, .ref ux6, .ref ux7, .ref ux8, .ref ux9, .ref ux10, .int 0])), (ux0, .inl (ux11, 1600, .inl (fun _ => 0))), (ux1, .inr (5, [.int 0, .ref ux12, .ref ux13, .ref ux14, .ref ux15, .int 0, .ref ux16, .ref ux17, .ref ux18, .ref ux19, .ref ux20, .ref ux21])), (ux2, .inr (5, [.int 0, .ref ux22, .ref ux23, .ref ux24, .ref ux25, .int 0, .ref ux26, .ref ux27, .ref ux28, .ref ux29, .ref ux30, .ref ux31])), (ux3, .inr (3, [.ref ux32, .ref ux33, .int 0, .int (-1)])), (ux32, .inr (7, [.ref ux34, .int 0, .int 0, .ref kE, .int 0, .long 0, .int 0])), (ux4, .inl (ux35, 6, .inl (fun _ => 0))), (ux10, .inr (4, [.int 0, .ref ux36, .ref ux37, .ref ux38, .ref ux39, .ref ux40, .ref ux41, .ref ux42, .int 0, .ref ux43, .ref ux44, .ref ux45])), (wa, .inr (9, mF wx0 0 0 0 (-1) 0 0 0 0 0 0 0 0 0 0 0 0 0 0 0 0 0 0 0 0 0)), ((wx0 0), .inl (wx1, 1620, .inl (fun _ => 0))), ((wx0 2), .inl (wx2, 2, .inl (fun _ => 0))), ((wx0 3), .inl (wx3, 2, .inl (fun _ => 0))), ((wx0 14), .inl (wx4, 6, .inl (fun _ => 0)))] H) (hD : va_D (fun q : Nat => s.heap.size ≤ q) [(ua, .inr (8, [.ref ux0, .int 0, .ref ux1, .ref ux2, .ref ux3, .ref ux4, .int 0, .ref ux5, .ref ux6, .ref ux7, .ref ux8, .ref ux9, .ref ux10, .int 0])), (ux0, .inl (ux11, 1600, .inl (fun _ => 0))), (ux1, .inr (5, [.int 0, .ref ux12, .ref ux13, .ref ux14, .ref ux15, .int 0, .ref ux16, .ref ux17, .ref ux18, .ref ux19, .ref ux20, .ref ux21])), (ux2, .inr (5, [.int 0, .ref ux22, .ref ux23, .ref ux24, .ref ux25, .int 0, .ref ux26, .ref ux27, .ref ux28, .ref ux29, .ref ux30, .ref ux31])), (ux3, .inr (3, [.ref ux32, .ref ux33, .int 0, .int (-1)])), (ux32, .inr (7, [.ref ux34, .int 0, .int 0, .ref kE, .int 0, .long 0, .int 0])), (ux4, .inl (ux35, 6, .inl (fun _ => 0))), (ux10, .inr (4, [.int 0, .ref ux36, .ref ux37, .ref ux38, .ref ux39, .ref ux40, .ref ux41, .ref ux42, .int 0, .ref ux43, .ref ux44, .ref ux45])), (wa, .inr (9, mF wx0 0 0 0 (-1) 0 0 0 0 0 0 0 0 0 0 0 0 0 0 0 0 0 0 0 0 0)), ((wx0 0), .inl (wx1, 1620, .inl (fun _ => 0))), ((wx0 2), .inl (wx2, 2, .inl (fun _ => 0))), ((wx0 3), .inl (wx3, 2, .inl (fun _ => 0))), ((wx0 14), .inl (wx4, 6, .inl (fun _ => 0)))]) (hS : va_S (fun q : Nat => s.heap.size ≤ q) s.heap H locs) {ls : Array Slot} (hl : lv_has ls 4 [(3, .int 0), (2, .ref wa), (1, .ref ua), (0, .ref b)]) : W p l e room_1 s m #[Value.ref b] below meth c H locs 162 9883 (lw_Z below #[Value.ref b] s) (F0 m 1225 ls []) := by
  obtain ⟨hx, hb, hr, hml, hown, hts0, hX, hbl, hlocks, hgv⟩ := C0
  have hts := hts0
  have hown : s.vm.findClass RL = some m.cls := hown
  have hA : ∀ q : Nat, s.heap.size ≤ q → (fun q : Nat => s.heap.size ≤ q) q := fun _ h => h
  have hbA : ¬ (fun q : Nat => s.heap.size ≤ q) b := Nat.not_le.mpr hbl
  refine lv_iinc (v := 6) (lv' := [(3, .int 6), (2, .ref wa), (1, .ref ua), (0, .ref b)]) hx hb dL_law_1225 hl (k := 0) rfl (by decide) (by decide) rfl (fun ls hl => ?_)
  refine lv_goto (tgt := 18) hx hb dL_law_1228 (by decide) ?_
  refine lv_iload_n hx hb dL_law_18 rfl (lv_at hl 0 rfl) ?_
  refine lv_aload_n hx hb dL_law_19 rfl (lv_at hl 3 rfl) ?_
  refine va_slen hx hb hX hbl hbA hS dL_law_20 ?_
  refine lv_bipush (v := 6) hx hb dL_law_21 (by decide) ?_
  refine lv_isub hx hb dL_law_23 ?_
  refine lv_topi (fun z_1 ez_1 => ?_)
  obtain rfl : z_1 = (0 : Int32) := ez_1.trans (by decide)
  refine lv_icmp_gt (tgt := 1231) hx hb dL_law_24 (by decide) (fun c_2 => ?_) (fun c_2 => absurd c_2 (by decide))
  refine lv_iconst (v := 1) hx hb dL_law_1231 (by decide) ?_
  refine va_forget (fun q h => hS.2.2 q h) ?_
  refine W.widen (k := 600000) (n := 7302250) (by omega) (by omega) ?_
  exact lw_ret hx hb hr hlocks dL_law_1232
