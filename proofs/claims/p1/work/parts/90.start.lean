set_option maxHeartbeats 4000000 in
set_option maxRecDepth 100000 in
/-- from the entry, for every script of at most 6 ints, the law comes to its end with true -/
theorem whole_start {p : Program} {e : Env} {s : State} {m : MethodId} {below : List Frame} {meth : Method} {c : Code} (l : Launch) {b L : Nat} {xs : Nat → Int32} (hL : L ≤ 6) (C0 : lw_At p s m meth c b L xs) : W p l e room_1 s m #[Value.ref b] below meth c s.heap [] 0 0 (lw_Z below #[Value.ref b] s) (entryFrame m ([Value.ref b] : List Value).toArray 4) := by
  obtain ⟨hx, hb, hr, hml, hown, hts0, hX, hbl, hlocks, hgv⟩ := id C0
  obtain ⟨kE, hE⟩ := ex_start hts0 hgv
  obtain ⟨dC, dI, hK⟩ := ex_known hts0
  have hts := hts0
  have hown : s.vm.findClass RL = some m.cls := hown
  have hA : ∀ q : Nat, s.heap.size ≤ q → (fun q : Nat => s.heap.size ≤ q) q := fun _ h => h
  have hbA : ¬ (fun q : Nat => s.heap.size ≤ q) b := Nat.not_le.mpr hbl
  have hS : va_S (fun q : Nat => s.heap.size ≤ q) s.heap s.heap [] := va_S.rf
  have hP : va_P (dC, dI) vwCl [] s.heap := ex_P0
  have hD : va_D (fun q : Nat => s.heap.size ≤ q) [] := ex_D0
  have hl := lv_entry ([.ref b]) (n := 4) (Nat.le_of_ble_eq_true rfl)
  rw [lg_entry_eq]
  generalize (lg_sl ([.ref b]) ++ List.replicate (4 - (lg_sl ([.ref b])).length) Slot.unset).toArray = ls at hl ⊢
  have hl : lv_has ls 4 [(0, .ref b)] := hl
  refine va_new (ci := 8) (fs := [.null, .int 0, .null, .null, .null, .null, .int 0, .null, .null, .null, .null, .null, .null, .int 0]) (C := RX10) (T := TX10) (N := 14) hx hb hts inX10 tyX10 tyX10_ok hown (hts (.classLink RL 7 RX10) (wl_1 _ (List.mem_of_getElem? (i := 0) rfl))) (hts (.instantiable RX10 14) (wl_1 _ (List.mem_of_getElem? (i := 1) rfl))) (hts (.initialized RX10) (wl_1 _ (List.mem_of_getElem? (i := 2) rfl))) hK hP hD hS hA rfl df_X10 (Nat.le_of_ble_eq_true rfl) (Nat.le_of_ble_eq_true rfl) dL_law_0 (fun q_1 H hP hD hS => ?_)
  have hP : va_P (dC, dI) vwCl [(q_1, .inr (8, [.null, .int 0, .null, .null, .null, .null, .int 0, .null, .null, .null, .null, .null, .null, .int 0]))] H := hP
  have hD : va_D (fun q : Nat => s.heap.size ≤ q) [(q_1, .inr (8, [.null, .int 0, .null, .null, .null, .null, .int 0, .null, .null, .null, .null, .null, .null, .int 0]))] := hD
  refine W.widen (k := 1) (n := 14) (by omega) (by omega) ?_
  refine lv_dup hx hb dL_law_3 rfl ?_
  have hPc := hP.sub (ws' := [(q_1, .inr (8, [.null, .int 0, .null, .null, .null, .null, .int 0, .null, .null, .null, .null, .null, .null, .int 0]))]) [0] rfl
  have hDc := hD.sub (ws' := [(q_1, .inr (8, [.null, .int 0, .null, .null, .null, .null, .int 0, .null, .null, .null, .null, .null, .null, .int 0]))]) [0] (by decide) rfl
  have hKc := hK.sub (tys' := []) [] rfl
  have hFc := va_free (wc := [(q_1, .inr (8, [.null, .int 0, .null, .null, .null, .null, .int 0, .null, .null, .null, .null, .null, .null, .int 0]))]) hD hS hA [0] rfl
  refine va_callv (va_runI (As := []) (rest := [.ref q_1]) ⟨hx, hb, hml, hown, hts⟩ (c_X10_init l dC dI kE q_1 H.size) (cwI 0 hts gL_law_X10_init rfl rfl rfl (hts (.initialized RX10) (wl_1 _ (List.mem_of_getElem? (i := 2) rfl))) (hts (.methodLink RL 9 yX10_init) (wl_1 _ (List.mem_of_getElem? (i := 6) rfl))) (hts (.instanceMethod yX10_init) (wl_1 _ (List.mem_of_getElem? (i := 7) rfl))) rfl (by decide +kernel) ⟨(Nat.le_of_ble_eq_true rfl), (Nat.le_of_ble_eq_true rfl)⟩) ⟨fun a U g mk q => by obtain ⟨q0, q1, qP, qK, qD, qE⟩ := q; exact ⟨q0, q1, qP, va_K.moved (u := U) (U := U.calling g mk a) (Vm.Alike.refl U.vm) qK, qD, ex_blind qE⟩, fun U hU hW => ⟨rfl, by rw [hU], by rw [hU]; exact hPc, va_K.moved hW.alike hKc, hDc.weaken (fun _ _ _ _ => trivial), ex_call hE hS hFc hU hW⟩⟩ rfl rfl hl.1 rfl (lv_room (Nat.le_of_ble_eq_true rfl)) dL_law_4 ⟨(Nat.le_of_ble_eq_true rfl), (Nat.le_of_ble_eq_true rfl)⟩) hS (fun q _ h => hFc q h) hFc (fun u t H locs ht hvm hw hB hz1 hk1 hS => ?_)
  obtain ⟨o_3, o_4, o_5, o_6, o_7, o_8, o_9, o_10, o_11, o_12, o_13, o_14, o_15, o_16, o_17, o_18, o_19, o_20, o_21, o_22, o_23, o_24, o_25, o_26, o_27, o_28, o_29, o_30, o_31, o_32, o_33, o_34, o_35, o_36, o_37, o_38, o_39, o_40, o_41, o_42, o_43, o_44, o_45, o_46, o_47, o_48, hP1, hK1, hD1⟩ := hB
  rw [ht] at hP1
  have hK1 := va_K.moved hvm.symm hK1
  obtain ⟨hP, hD⟩ := va_join (wr := []) (w1 := [(q_1, .inr (8, [.ref o_3, .int 0, .ref o_4, .ref o_5, .ref o_6, .ref o_7, .int 0, .ref o_8, .ref o_9, .ref o_10, .ref o_11, .ref o_12, .ref o_13, .int 0])), (o_3, .inl (o_14, 1600, .inl (fun _ => 0))), (o_4, .inr (5, [.int 0, .ref o_15, .ref o_16, .ref o_17, .ref o_18, .int 0, .ref o_19, .ref o_20, .ref o_21, .ref o_22, .ref o_23, .ref o_24])), (o_5, .inr (5, [.int 0, .ref o_25, .ref o_26, .ref o_27, .ref o_28, .int 0, .ref o_29, .ref o_30, .ref o_31, .ref o_32, .ref o_33, .ref o_34])), (o_6, .inr (3, [.ref o_35, .ref o_36, .int 0, .int (-1)])), (o_35, .inr (7, [.ref o_37, .int 0, .int 0, .ref kE, .int 0, .long 0, .int 0])), (o_7, .inl (o_38, 6, .inl (fun _ => 0))), (o_13, .inr (4, [.int 0, .ref o_39, .ref o_40, .ref o_41, .ref o_42, .ref o_43, .ref o_44, .ref o_45, .int 0, .ref o_46, .ref o_47, .ref o_48]))]) hP hD [0] [] rfl rfl (by decide) (by decide) hk1 hFc hP1 hD1
  have hK := hK.app hK1
  have hK : va_K (dC, dI) vwCl [(o_14, .byte), (o_38, .int)] s := hK
  have hP : va_P (dC, dI) vwCl [(q_1, .inr (8, [.ref o_3, .int 0, .ref o_4, .ref o_5, .ref o_6, .ref o_7, .int 0, .ref o_8, .ref o_9, .ref o_10, .ref o_11, .ref o_12, .ref o_13, .int 0])), (o_3, .inl (o_14, 1600, .inl (fun _ => 0))), (o_4, .inr (5, [.int 0, .ref o_15, .ref o_16, .ref o_17, .ref o_18, .int 0, .ref o_19, .ref o_20, .ref o_21, .ref o_22, .ref o_23, .ref o_24])), (o_5, .inr (5, [.int 0, .ref o_25, .ref o_26, .ref o_27, .ref o_28, .int 0, .ref o_29, .ref o_30, .ref o_31, .ref o_32, .ref o_33, .ref o_34])), (o_6, .inr (3, [.ref o_35, .ref o_36, .int 0, .int (-1)])), (o_35, .inr (7, [.ref o_37, .int 0, .int 0, .ref kE, .int 0, .long 0, .int 0])), (o_7, .inl (o_38, 6, .inl (fun _ => 0))), (o_13, .inr (4, [.int 0, .ref o_39, .ref o_40, .ref o_41, .ref o_42, .ref o_43, .ref o_44, .ref o_45, .int 0, .ref o_46, .ref o_47, .ref o_48]))] H := hP
  have hD : va_D (fun q : Nat => s.heap.size ≤ q) [(q_1, .inr (8, [.ref o_3, .int 0, .ref o_4, .ref o_5, .ref o_6, .ref o_7, .int 0, .ref o_8, .ref o_9, .ref o_10, .ref o_11, .ref o_12, .ref o_13, .int 0])), (o_3, .inl (o_14, 1600, .inl (fun _ => 0))), (o_4, .inr (5, [.int 0, .ref o_15, .ref o_16, .ref o_17, .ref o_18, .int 0, .ref o_19, .ref o_20, .ref o_21, .ref o_22, .ref o_23, .ref o_24])), (o_5, .inr (5, [.int 0, .ref o_25, .ref o_26, .ref o_27, .ref o_28, .int 0, .ref o_29, .ref o_30, .ref o_31, .ref o_32, .ref o_33, .ref o_34])), (o_6, .inr (3, [.ref o_35, .ref o_36, .int 0, .int (-1)])), (o_35, .inr (7, [.ref o_37, .int 0, .int 0, .ref kE, .int 0, .long 0, .int 0])), (o_7, .inl (o_38, 6, .inl (fun _ => 0))), (o_13, .inr (4, [.int 0, .ref o_39, .ref o_40, .ref o_41, .ref o_42, .ref o_43, .ref o_44, .ref o_45, .int 0, .ref o_46, .ref o_47, .ref o_48]))] := hD
  refine W.widen (k := 117) (n := 4406) (by omega) (by omega) ?_
  refine lv_astore_n (lv' := [(1, .ref q_1), (0, .ref b)]) hx hb dL_law_7 rfl hl (by decide) rfl (fun ls hl => ?_)
  refine va_new (ci := 9) (fs := (.null :: .null :: .int 0 :: .int 0 :: .int 0 :: .int 0 :: .int 0 :: .int 0 :: .int 0 :: .int 0 :: .long 0 :: .null :: .null :: .null :: .null :: .null :: .null :: .null :: .null :: .null :: .null :: .null :: .null :: .int 0 :: .int 0 :: .null :: .int 0 :: .null :: .null :: .null :: .null :: .null :: .null :: .null :: .null :: .null :: .int 0 :: .int 0 :: .int 0 :: .long 0 :: .long 0 :: .null :: .null :: .int 0 :: .long 0 :: .long 0 :: .null :: .int 0 :: .int 0 :: .null :: .null :: .null :: .null :: .null :: .null :: .null :: .null :: .null :: .null :: .null :: .int 0 :: .int 0 :: .null :: .null :: .null :: .int 0 :: .null :: .null :: .null :: [])) (C := RX11) (T := TX11) (N := 69) hx hb hts inX11 tyX11 tyX11_ok hown (hts (.classLink RL 10 RX11) (wl_1 _ (List.mem_of_getElem? (i := 3) rfl))) (hts (.instantiable RX11 69) (wl_1 _ (List.mem_of_getElem? (i := 4) rfl))) (hts (.initialized RX11) (wl_1 _ (List.mem_of_getElem? (i := 5) rfl))) hK hP hD hS hA rfl df_Y11 (Nat.le_of_ble_eq_true rfl) (Nat.le_of_ble_eq_true rfl) dL_law_8 (fun q_49 H hP hD hS => ?_)
  have hP : va_P (dC, dI) vwCl [(q_1, .inr (8, [.ref o_3, .int 0, .ref o_4, .ref o_5, .ref o_6, .ref o_7, .int 0, .ref o_8, .ref o_9, .ref o_10, .ref o_11, .ref o_12, .ref o_13, .int 0])), (o_3, .inl (o_14, 1600, .inl (fun _ => 0))), (o_4, .inr (5, [.int 0, .ref o_15, .ref o_16, .ref o_17, .ref o_18, .int 0, .ref o_19, .ref o_20, .ref o_21, .ref o_22, .ref o_23, .ref o_24])), (o_5, .inr (5, [.int 0, .ref o_25, .ref o_26, .ref o_27, .ref o_28, .int 0, .ref o_29, .ref o_30, .ref o_31, .ref o_32, .ref o_33, .ref o_34])), (o_6, .inr (3, [.ref o_35, .ref o_36, .int 0, .int (-1)])), (o_35, .inr (7, [.ref o_37, .int 0, .int 0, .ref kE, .int 0, .long 0, .int 0])), (o_7, .inl (o_38, 6, .inl (fun _ => 0))), (o_13, .inr (4, [.int 0, .ref o_39, .ref o_40, .ref o_41, .ref o_42, .ref o_43, .ref o_44, .ref o_45, .int 0, .ref o_46, .ref o_47, .ref o_48])), (q_49, .inr (9, .null :: .null :: .int 0 :: .int 0 :: .int 0 :: .int 0 :: .int 0 :: .int 0 :: .int 0 :: .int 0 :: .long 0 :: .null :: .null :: .null :: .null :: .null :: .null :: .null :: .null :: .null :: .null :: .null :: .null :: .int 0 :: .int 0 :: .null :: .int 0 :: .null :: .null :: .null :: .null :: .null :: .null :: .null :: .null :: .null :: .int 0 :: .int 0 :: .int 0 :: .long 0 :: .long 0 :: .null :: .null :: .int 0 :: .long 0 :: .long 0 :: .null :: .int 0 :: .int 0 :: .null :: .null :: .null :: .null :: .null :: .null :: .null :: .null :: .null :: .null :: .null :: .int 0 :: .int 0 :: .null :: .null :: .null :: .int 0 :: .null :: .null :: .null :: []))] H := hP
  have hD : va_D (fun q : Nat => s.heap.size ≤ q) [(q_1, .inr (8, [.ref o_3, .int 0, .ref o_4, .ref o_5, .ref o_6, .ref o_7, .int 0, .ref o_8, .ref o_9, .ref o_10, .ref o_11, .ref o_12, .ref o_13, .int 0])), (o_3, .inl (o_14, 1600, .inl (fun _ => 0))), (o_4, .inr (5, [.int 0, .ref o_15, .ref o_16, .ref o_17, .ref o_18, .int 0, .ref o_19, .ref o_20, .ref o_21, .ref o_22, .ref o_23, .ref o_24])), (o_5, .inr (5, [.int 0, .ref o_25, .ref o_26, .ref o_27, .ref o_28, .int 0, .ref o_29, .ref o_30, .ref o_31, .ref o_32, .ref o_33, .ref o_34])), (o_6, .inr (3, [.ref o_35, .ref o_36, .int 0, .int (-1)])), (o_35, .inr (7, [.ref o_37, .int 0, .int 0, .ref kE, .int 0, .long 0, .int 0])), (o_7, .inl (o_38, 6, .inl (fun _ => 0))), (o_13, .inr (4, [.int 0, .ref o_39, .ref o_40, .ref o_41, .ref o_42, .ref o_43, .ref o_44, .ref o_45, .int 0, .ref o_46, .ref o_47, .ref o_48])), (q_49, .inr (9, .null :: .null :: .int 0 :: .int 0 :: .int 0 :: .int 0 :: .int 0 :: .int 0 :: .int 0 :: .int 0 :: .long 0 :: .null :: .null :: .null :: .null :: .null :: .null :: .null :: .null :: .null :: .null :: .null :: .null :: .int 0 :: .int 0 :: .null :: .int 0 :: .null :: .null :: .null :: .null :: .null :: .null :: .null :: .null :: .null :: .int 0 :: .int 0 :: .int 0 :: .long 0 :: .long 0 :: .null :: .null :: .int 0 :: .long 0 :: .long 0 :: .null :: .int 0 :: .int 0 :: .null :: .null :: .null :: .null :: .null :: .null :: .null :: .null :: .null :: .null :: .null :: .int 0 :: .int 0 :: .null :: .null :: .null :: .int 0 :: .null :: .null :: .null :: []))] := hD
  refine W.widen (k := 118) (n := 4475) (by omega) (by omega) ?_
  refine lv_dup hx hb dL_law_11 rfl ?_
  have hPc := hP.sub (ws' := [(q_49, .inr (9, .null :: .null :: .int 0 :: .int 0 :: .int 0 :: .int 0 :: .int 0 :: .int 0 :: .int 0 :: .int 0 :: .long 0 :: .null :: .null :: .null :: .null :: .null :: .null :: .null :: .null :: .null :: .null :: .null :: .null :: .int 0 :: .int 0 :: .null :: .int 0 :: .null :: .null :: .null :: .null :: .null :: .null :: .null :: .null :: .null :: .int 0 :: .int 0 :: .int 0 :: .long 0 :: .long 0 :: .null :: .null :: .int 0 :: .long 0 :: .long 0 :: .null :: .int 0 :: .int 0 :: .null :: .null :: .null :: .null :: .null :: .null :: .null :: .null :: .null :: .null :: .null :: .int 0 :: .int 0 :: .null :: .null :: .null :: .int 0 :: .null :: .null :: .null :: []))]) [8] rfl
  have hDc := hD.sub (ws' := [(q_49, .inr (9, .null :: .null :: .int 0 :: .int 0 :: .int 0 :: .int 0 :: .int 0 :: .int 0 :: .int 0 :: .int 0 :: .long 0 :: .null :: .null :: .null :: .null :: .null :: .null :: .null :: .null :: .null :: .null :: .null :: .null :: .int 0 :: .int 0 :: .null :: .int 0 :: .null :: .null :: .null :: .null :: .null :: .null :: .null :: .null :: .null :: .int 0 :: .int 0 :: .int 0 :: .long 0 :: .long 0 :: .null :: .null :: .int 0 :: .long 0 :: .long 0 :: .null :: .int 0 :: .int 0 :: .null :: .null :: .null :: .null :: .null :: .null :: .null :: .null :: .null :: .null :: .null :: .int 0 :: .int 0 :: .null :: .null :: .null :: .int 0 :: .null :: .null :: .null :: []))]) [8] (by decide) rfl
  have hKc := hK.sub (tys' := []) [] rfl
  have hFc := va_free (wc := [(q_49, .inr (9, .null :: .null :: .int 0 :: .int 0 :: .int 0 :: .int 0 :: .int 0 :: .int 0 :: .int 0 :: .int 0 :: .long 0 :: .null :: .null :: .null :: .null :: .null :: .null :: .null :: .null :: .null :: .null :: .null :: .null :: .int 0 :: .int 0 :: .null :: .int 0 :: .null :: .null :: .null :: .null :: .null :: .null :: .null :: .null :: .null :: .int 0 :: .int 0 :: .int 0 :: .long 0 :: .long 0 :: .null :: .null :: .int 0 :: .long 0 :: .long 0 :: .null :: .int 0 :: .int 0 :: .null :: .null :: .null :: .null :: .null :: .null :: .null :: .null :: .null :: .null :: .null :: .int 0 :: .int 0 :: .null :: .null :: .null :: .int 0 :: .null :: .null :: .null :: []))]) hD hS hA [8] rfl
  refine va_callv (va_runI (As := []) (rest := [.ref q_49]) ⟨hx, hb, hml, hown, hts⟩ (c_X11_init l dC dI kE q_49 H.size) (cwI 0 hts gL_law_X11_init rfl rfl rfl (hts (.initialized RX11) (wl_1 _ (List.mem_of_getElem? (i := 5) rfl))) (hts (.methodLink RL 12 yX11_init) (wl_7 _ (List.mem_of_getElem? (i := 5) rfl))) (hts (.instanceMethod yX11_init) (wl_7 _ (List.mem_of_getElem? (i := 6) rfl))) rfl (by decide +kernel) ⟨(Nat.le_of_ble_eq_true rfl), (Nat.le_of_ble_eq_true rfl)⟩) ⟨fun a U g mk q => by obtain ⟨q0, q1, qP, qK, qD, qE⟩ := q; exact ⟨q0, q1, qP, va_K.moved (u := U) (U := U.calling g mk a) (Vm.Alike.refl U.vm) qK, qD, ex_blind qE⟩, fun U hU hW => ⟨rfl, by rw [hU], by rw [hU]; exact hPc, va_K.moved hW.alike hKc, hDc.weaken (fun _ _ _ _ => trivial), ex_call hE hS hFc hU hW⟩⟩ rfl rfl hl.1 rfl (lv_room (Nat.le_of_ble_eq_true rfl)) dL_law_12 ⟨(Nat.le_of_ble_eq_true rfl), (Nat.le_of_ble_eq_true rfl)⟩) hS (fun q _ h => hFc q h) hFc (fun u t H locs ht hvm hw hB hz1 hk1 hS => ?_)
  obtain ⟨o_51, o_52, o_53, o_54, o_55, hP1, hK1, hD1⟩ := hB
  rw [ht] at hP1
  have hK1 := va_K.moved hvm.symm hK1
  obtain ⟨hP, hD⟩ := va_join (wr := [(q_1, .inr (8, [.ref o_3, .int 0, .ref o_4, .ref o_5, .ref o_6, .ref o_7, .int 0, .ref o_8, .ref o_9, .ref o_10, .ref o_11, .ref o_12, .ref o_13, .int 0])), (o_3, .inl (o_14, 1600, .inl (fun _ => 0))), (o_4, .inr (5, [.int 0, .ref o_15, .ref o_16, .ref o_17, .ref o_18, .int 0, .ref o_19, .ref o_20, .ref o_21, .ref o_22, .ref o_23, .ref o_24])), (o_5, .inr (5, [.int 0, .ref o_25, .ref o_26, .ref o_27, .ref o_28, .int 0, .ref o_29, .ref o_30, .ref o_31, .ref o_32, .ref o_33, .ref o_34])), (o_6, .inr (3, [.ref o_35, .ref o_36, .int 0, .int (-1)])), (o_35, .inr (7, [.ref o_37, .int 0, .int 0, .ref kE, .int 0, .long 0, .int 0])), (o_7, .inl (o_38, 6, .inl (fun _ => 0))), (o_13, .inr (4, [.int 0, .ref o_39, .ref o_40, .ref o_41, .ref o_42, .ref o_43, .ref o_44, .ref o_45, .int 0, .ref o_46, .ref o_47, .ref o_48]))]) (w1 := [(q_49, .inr (9, mF o_51 0 0 0 (-1) 0 0 0 0 0 0 0 0 0 0 0 0 0 0 0 0 0 0 0 0 0)), ((o_51 0), .inl (o_52, 1620, .inl (fun _ => 0))), ((o_51 2), .inl (o_53, 2, .inl (fun _ => 0))), ((o_51 3), .inl (o_54, 2, .inl (fun _ => 0))), ((o_51 14), .inl (o_55, 6, .inl (fun _ => 0)))]) hP hD [8] [0, 1, 2, 3, 4, 5, 6, 7] rfl rfl (by decide) (by decide) hk1 hFc hP1 hD1
  have hK := hK.app hK1
  have hK : va_K (dC, dI) vwCl [(o_14, .byte), (o_38, .int), (o_52, .byte), (o_53, .int), (o_54, .int), (o_55, .int)] s := hK
  have hP : va_P (dC, dI) vwCl [(q_1, .inr (8, [.ref o_3, .int 0, .ref o_4, .ref o_5, .ref o_6, .ref o_7, .int 0, .ref o_8, .ref o_9, .ref o_10, .ref o_11, .ref o_12, .ref o_13, .int 0])), (o_3, .inl (o_14, 1600, .inl (fun _ => 0))), (o_4, .inr (5, [.int 0, .ref o_15, .ref o_16, .ref o_17, .ref o_18, .int 0, .ref o_19, .ref o_20, .ref o_21, .ref o_22, .ref o_23, .ref o_24])), (o_5, .inr (5, [.int 0, .ref o_25, .ref o_26, .ref o_27, .ref o_28, .int 0, .ref o_29, .ref o_30, .ref o_31, .ref o_32, .ref o_33, .ref o_34])), (o_6, .inr (3, [.ref o_35, .ref o_36, .int 0, .int (-1)])), (o_35, .inr (7, [.ref o_37, .int 0, .int 0, .ref kE, .int 0, .long 0, .int 0])), (o_7, .inl (o_38, 6, .inl (fun _ => 0))), (o_13, .inr (4, [.int 0, .ref o_39, .ref o_40, .ref o_41, .ref o_42, .ref o_43, .ref o_44, .ref o_45, .int 0, .ref o_46, .ref o_47, .ref o_48])), (q_49, .inr (9, mF o_51 0 0 0 (-1) 0 0 0 0 0 0 0 0 0 0 0 0 0 0 0 0 0 0 0 0 0)), ((o_51 0), .inl (o_52, 1620, .inl (fun _ => 0))), ((o_51 2), .inl (o_53, 2, .inl (fun _ => 0))), ((o_51 3), .inl (o_54, 2, .inl (fun _ => 0))), ((o_51 14), .inl (o_55, 6, .inl (fun _ => 0)))] H := hP
  have hD : va_D (fun q : Nat => s.heap.size ≤ q) [(q_1, .inr (8, [.ref o_3, .int 0, .ref o_4, .ref o_5, .ref o_6, .ref o_7, .int 0, .ref o_8, .ref o_9, .ref o_10, .ref o_11, .ref o_12, .ref o_13, .int 0])), (o_3, .inl (o_14, 1600, .inl (fun _ => 0))), (o_4, .inr (5, [.int 0, .ref o_15, .ref o_16, .ref o_17, .ref o_18, .int 0, .ref o_19, .ref o_20, .ref o_21, .ref o_22, .ref o_23, .ref o_24])), (o_5, .inr (5, [.int 0, .ref o_25, .ref o_26, .ref o_27, .ref o_28, .int 0, .ref o_29, .ref o_30, .ref o_31, .ref o_32, .ref o_33, .ref o_34])), (o_6, .inr (3, [.ref o_35, .ref o_36, .int 0, .int (-1)])), (o_35, .inr (7, [.ref o_37, .int 0, .int 0, .ref kE, .int 0, .long 0, .int 0])), (o_7, .inl (o_38, 6, .inl (fun _ => 0))), (o_13, .inr (4, [.int 0, .ref o_39, .ref o_40, .ref o_41, .ref o_42, .ref o_43, .ref o_44, .ref o_45, .int 0, .ref o_46, .ref o_47, .ref o_48])), (q_49, .inr (9, mF o_51 0 0 0 (-1) 0 0 0 0 0 0 0 0 0 0 0 0 0 0 0 0 0 0 0 0 0)), ((o_51 0), .inl (o_52, 1620, .inl (fun _ => 0))), ((o_51 2), .inl (o_53, 2, .inl (fun _ => 0))), ((o_51 3), .inl (o_54, 2, .inl (fun _ => 0))), ((o_51 14), .inl (o_55, 6, .inl (fun _ => 0)))] := hD
  refine W.widen (k := 162) (n := 9883) (by omega) (by omega) ?_
  refine lv_astore_n (lv' := [(2, .ref q_49), (1, .ref q_1), (0, .ref b)]) hx hb dL_law_15 rfl hl (by decide) rfl (fun ls hl => ?_)
  refine lv_iconst (v := 0) hx hb dL_law_16 (by decide) ?_
  refine lv_istore_n (lv' := [(3, .int 0), (2, .ref q_49), (1, .ref q_1), (0, .ref b)]) hx hb dL_law_17 rfl hl (by decide) rfl (fun ls hl => ?_)
  refine lv_iload_n hx hb dL_law_18 rfl (lv_at hl 0 rfl) ?_
  refine lv_aload_n hx hb dL_law_19 rfl (lv_at hl 3 rfl) ?_
  refine va_slen hx hb hX hbl hbA hS dL_law_20 ?_
  refine lv_bipush (v := 6) hx hb dL_law_21 (by decide) ?_
  refine lv_isub hx hb dL_law_23 ?_
  refine lv_icmp_gt (tgt := 1231) hx hb dL_law_24 (by decide) (fun c1 => ?_) (fun c1 => ?_)
  · refine lv_iconst (v := 1) hx hb dL_law_1231 (by decide) ?_
    refine va_forget (fun q h => hS.2.2 q h) ?_
    refine W.widen (k := 600000) (n := 7302250) (by omega) (by omega) ?_
    exact lw_ret hx hb hr hlocks dL_law_1232
  · have hL6 : L = 6 := by
      rcases Nat.lt_or_ge L 6 with q | q
      · exact absurd (lt6 L q) c1
      · omega
    subst hL6
    refine lv_aload_n hx hb dL_law_27 rfl (lv_at hl 3 rfl) ?_
    refine lv_iload_n hx hb dL_law_28 rfl (lv_at hl 0 rfl) ?_
    refine va_sld hx hb hX hbl hbA hS (by unfold vp_in; decide) dL_law_29 ?_
    refine lv_bipush (v := 31) hx hb dL_law_30 (by decide) ?_
    refine lv_iand hx hb dL_law_32 ?_
    refine lv_topi (fun z ez => ?_)
    obtain ⟨j, hj, ej⟩ := pk_andE (xs (0 : Int32).toNatClampNeg) (m := 31) 5 (by decide)
    have ez : z = nI j := ez.trans ej
    match j, hj, ez with
    | 0, _, ez =>
      subst ez
      refine lv_tableIn (off := 139) (tgt := 172) hx hb dL_law_33 (by decide) (by decide) (by decide) (by decide) ?_
      exact law_0 l C0 hE hK hP hD hS hl
    | 1, _, ez =>
      subst ez
      refine lv_tableIn (off := 202) (tgt := 235) hx hb dL_law_33 (by decide) (by decide) (by decide) (by decide) ?_
      exact law_1 l C0 hE hK hP hD hS hl
    | 2, _, ez =>
      subst ez
      refine lv_tableIn (off := 225) (tgt := 258) hx hb dL_law_33 (by decide) (by decide) (by decide) (by decide) ?_
      exact law_2 l C0 hE hK hP hD hS hl
    | 3, _, ez =>
      subst ez
      refine lv_tableIn (off := 238) (tgt := 271) hx hb dL_law_33 (by decide) (by decide) (by decide) (by decide) ?_
      exact law_3 l C0 hE hK hP hD hS hl
    | 4, _, ez =>
      subst ez
      refine lv_tableIn (off := 261) (tgt := 294) hx hb dL_law_33 (by decide) (by decide) (by decide) (by decide) ?_
      exact law_4 l C0 hE hK hP hD hS hl
    | 5, _, ez =>
      subst ez
      refine lv_tableIn (off := 294) (tgt := 327) hx hb dL_law_33 (by decide) (by decide) (by decide) (by decide) ?_
      exact law_5 l C0 hE hK hP hD hS hl
    | 6, _, ez =>
      subst ez
      refine lv_tableIn (off := 317) (tgt := 350) hx hb dL_law_33 (by decide) (by decide) (by decide) (by decide) ?_
      exact law_6 l C0 hE hK hP hD hS hl
    | 7, _, ez =>
      subst ez
      refine lv_tableIn (off := 340) (tgt := 373) hx hb dL_law_33 (by decide) (by decide) (by decide) (by decide) ?_
      exact law_7 l C0 hE hK hP hD hS hl
    | 8, _, ez =>
      subst ez
      refine lv_tableIn (off := 383) (tgt := 416) hx hb dL_law_33 (by decide) (by decide) (by decide) (by decide) ?_
      exact law_8 l C0 hE hK hP hD hS hl
    | 9, _, ez =>
      subst ez
      refine lv_tableIn (off := 427) (tgt := 460) hx hb dL_law_33 (by decide) (by decide) (by decide) (by decide) ?_
      exact law_9 l C0 hE hK hP hD hS hl
    | 10, _, ez =>
      subst ez
      refine lv_tableIn (off := 471) (tgt := 504) hx hb dL_law_33 (by decide) (by decide) (by decide) (by decide) ?_
      exact law_10 l C0 hE hK hP hD hS hl
    | 11, _, ez =>
      subst ez
      refine lv_tableIn (off := 494) (tgt := 527) hx hb dL_law_33 (by decide) (by decide) (by decide) (by decide) ?_
      exact law_11 l C0 hE hK hP hD hS hl
    | 12, _, ez =>
      subst ez
      refine lv_tableIn (off := 517) (tgt := 550) hx hb dL_law_33 (by decide) (by decide) (by decide) (by decide) ?_
      exact law_12 l C0 hE hK hP hD hS hl
    | 13, _, ez =>
      subst ez
      refine lv_tableIn (off := 550) (tgt := 583) hx hb dL_law_33 (by decide) (by decide) (by decide) (by decide) ?_
      exact law_13 l C0 hE hK hP hD hS hl
    | 14, _, ez =>
      subst ez
      refine lv_tableIn (off := 583) (tgt := 616) hx hb dL_law_33 (by decide) (by decide) (by decide) (by decide) ?_
      exact law_14 l C0 hE hK hP hD hS hl
    | 15, _, ez =>
      subst ez
      refine lv_tableIn (off := 626) (tgt := 659) hx hb dL_law_33 (by decide) (by decide) (by decide) (by decide) ?_
      exact law_15 l C0 hE hK hP hD hS hl
    | 16, _, ez =>
      subst ez
      refine lv_tableIn (off := 639) (tgt := 672) hx hb dL_law_33 (by decide) (by decide) (by decide) (by decide) ?_
      exact law_16 l C0 hE hK hP hD hS hl
    | 17, _, ez =>
      subst ez
      refine lv_tableIn (off := 672) (tgt := 705) hx hb dL_law_33 (by decide) (by decide) (by decide) (by decide) ?_
      exact law_17 l C0 hE hK hP hD hS hl
    | 18, _, ez =>
      subst ez
      refine lv_tableIn (off := 705) (tgt := 738) hx hb dL_law_33 (by decide) (by decide) (by decide) (by decide) ?_
      exact law_18 l C0 hE hK hP hD hS hl
    | 19, _, ez =>
      subst ez
      refine lv_tableIn (off := 759) (tgt := 792) hx hb dL_law_33 (by decide) (by decide) (by decide) (by decide) ?_
      exact law_19 l C0 hE hK hP hD hS hl
    | 20, _, ez =>
      subst ez
      refine lv_tableIn (off := 792) (tgt := 825) hx hb dL_law_33 (by decide) (by decide) (by decide) (by decide) ?_
      exact law_20 l C0 hE hK hP hD hS hl
    | 21, _, ez =>
      subst ez
      refine lv_tableIn (off := 815) (tgt := 848) hx hb dL_law_33 (by decide) (by decide) (by decide) (by decide) ?_
      exact law_21 l C0 hE hK hP hD hS hl
    | 22, _, ez =>
      subst ez
      refine lv_tableIn (off := 848) (tgt := 881) hx hb dL_law_33 (by decide) (by decide) (by decide) (by decide) ?_
      exact law_22 l C0 hE hK hP hD hS hl
    | 23, _, ez =>
      subst ez
      refine lv_tableIn (off := 891) (tgt := 924) hx hb dL_law_33 (by decide) (by decide) (by decide) (by decide) ?_
      exact law_23 l C0 hE hK hP hD hS hl
    | 24, _, ez =>
      subst ez
      refine lv_tableIn (off := 925) (tgt := 958) hx hb dL_law_33 (by decide) (by decide) (by decide) (by decide) ?_
      exact law_24 l C0 hE hK hP hD hS hl
    | 25, _, ez =>
      subst ez
      refine lv_tableIn (off := 1004) (tgt := 1037) hx hb dL_law_33 (by decide) (by decide) (by decide) (by decide) ?_
      exact law_25 l C0 hE hK hP hD hS hl
    | 26, _, ez =>
      subst ez
      refine lv_tableIn (off := 1027) (tgt := 1060) hx hb dL_law_33 (by decide) (by decide) (by decide) (by decide) ?_
      exact law_26 l C0 hE hK hP hD hS hl
    | 27, _, ez =>
      subst ez
      refine lv_tableIn (off := 1050) (tgt := 1083) hx hb dL_law_33 (by decide) (by decide) (by decide) (by decide) ?_
      exact law_27 l C0 hE hK hP hD hS hl
    | 28, _, ez =>
      subst ez
      refine lv_tableIn (off := 1103) (tgt := 1136) hx hb dL_law_33 (by decide) (by decide) (by decide) (by decide) ?_
      exact law_28 l C0 hE hK hP hD hS hl
    | 29, _, ez =>
      subst ez
      refine lv_tableIn (off := 1146) (tgt := 1179) hx hb dL_law_33 (by decide) (by decide) (by decide) (by decide) ?_
      exact law_29 l C0 hE hK hP hD hS hl
    | 30, _, ez =>
      subst ez
      refine lv_tableIn (off := 1169) (tgt := 1202) hx hb dL_law_33 (by decide) (by decide) (by decide) (by decide) ?_
      exact law_30 l C0 hE hK hP hD hS hl
    | 31, _, ez =>
      subst ez
      refine lv_tableOut (tgt := 1225) hx hb dL_law_33 (by decide) (by decide) ?_
      exact law_31 l C0 hE hK hP hD hS hl
    | j + 32, h, _ => exact absurd h (by omega)
-- ===== YOUR PART ENDS =====
set_option maxHeartbeats 4000000 in
theorem lw_walk (l : Launch) (b : Addr) (xs : List Int32) : MetFree l x (headSpec (Jvm.Cond.code x code maxLocals ret :: tables_1) room_1) (lw_P b xs) (fun _ _ _ _ _ => True) lw_Q := by
  refine MetFree.of_bodyS (code := code) (maxLocals := maxLocals) (ret := ret) (by decide) ?_ ?_
  · intro args s m h hn
    obtain ⟨meth, c, h1, h2, h3, h4, h5, h6, -, -⟩ := Cond.code_spec hn (atoms_spec (ws := Jvm.Cond.code x code maxLocals ret :: tables_1) h _ List.mem_cons_self)
    exact ⟨meth, c, h1, h2, h3, h4, h5, h6⟩
  · intro p e s m args below meth c s₁ B hml0 hP _
    obtain ⟨rfl, hx, hbd, hgv⟩ := hP
    obtain ⟨scr, harrAt, hlist, hof, hsmall⟩ := hx
    obtain ⟨hcb, hkn, -, -⟩ := State.arrayAt?_spec harrAt
    have hown : s.vm.findClass R_law = some m.cls := findClass_of_methodNamed B.named
    have hts0 : ∀ c ∈ (Jvm.Cond.code x code maxLocals ret :: tables_1), c.before #[Value.ref b] s = true := atoms_spec (ws := Jvm.Cond.code x code maxLocals ret :: tables_1) B.pre
    have hts : ∀ w ∈ lw_tbl, w.before #[Value.ref b] s = true := k2_hts_sels lw_privs (fun w hw => hts0 w (List.mem_cons_of_mem _ hw)) lw_privs_ok
    have hml : c.maxLocals = 4 := B.maxLocals_eq (hts0 _ List.mem_cons_self)
    have X₀ : Stand p l e room_1 s m #[Value.ref b] below meth c s₁ [] 0 0 := Stand.of_body B
    have hh0 : s₁.heap = s.heap := by rw [B.state]; rfl
    have hsz : scr.slots.size = xs.length := by rw [← Array.length_toList, hlist, List.length_map]
    have hval : ∀ j : Nat, j < xs.length → scr.slots[j]? = some (.int (xs.getD j 0)) := fun j hj => by
      rw [← Array.getElem?_toList, hlist]
      simp [hj]
    have hbl : b < s.heap.size := (Array.getElem?_eq_some_iff.mp hcb).1
    have hX : va_X b xs.length (fun j => xs.getD j 0) s s.heap := ⟨scr, hcb, hof, hkn, hsz, hval⟩
    have K : W p l e room_1 s m #[Value.ref b] below meth c s₁.heap [] 0 0 (lw_Z below #[Value.ref b] s) (entryFrame m ([Value.ref b] : List Value).toArray 4) := by
      rw [hh0]
      exact whole_start l hbd ⟨B.exec, B.bytes, B.returns, hml, hown, hts, hX, hbl, B.notSynchronized, hgv⟩
    obtain ⟨t, a1, o, b1, b2, b3⟩ := K s₁ rfl X₀
    exact ⟨t, o, a1, b1, b2, b3⟩
theorem lw_pre_spec {args : Array Value} {s : State} (h : (Jvm.Cond.and given_1 narrow_1).before args s = true) (hr : rest_1_c.before args s = true) : ∃ (b : Addr) (xs : List Int32), lw_P b xs args s := by
  have hs := flat_of_before _ h
  have hq := flat_of_before _ hr
  have hc : (Cond.count 1).before args s = true := hs _ (by decide +kernel)
  have harr : (Cond.arrayOf (.arg 0) .int).before args s = true := hs _ (by decide +kernel)
  have hle : (Cond.le (.length (.arg 0)) (.int 6)).before args s = true := hs _ (by decide +kernel)
  have hlen : (Cond.isInt (.length (.arg 0))).before args s = true := hq _ (by decide +kernel)
  have hall : (Cond.all (.arg 0) (.isInt (.elem (.arg 0) (.index 0)))).before args s = true := hq _ (by decide +kernel)
  obtain ⟨b, xs, hb, hx⟩ := State.ints_of_pre rfl harr hlen hall
  have hsm : xs.length < 2 ^ 31 := hx.choose_spec.2.2.2
  have hev : (Term.length (.arg 0)).eval args s none [] s = some (.int xs.length.toInt32) := hx.length_eval hb
  have hv := Cond.le_ints hev (show (Term.int 6).eval args s none [] s = some (.int 6) from rfl)
  have hd : xs.length.toInt32 ≤ 6 := by
    simpa [Cond.before, Cond.holds, hv] using hle
  have hN : xs.length ≤ 6 := (Int32.ofNat_le_ofNat hsm (by decide)).mp (show Int32.ofNat xs.length ≤ Int32.ofNat 6 from hd)
  exact ⟨b, xs, Cond.one_arg hc (show args[0]? = some (.ref b) from hb), hx, hN, h⟩
theorem lw_comes (l : Launch) : Comes l x (Jvm.Cond.code x code maxLocals ret :: tables_1) room_1 (fun tb e args s => Calls_1 tb e args s ∧ rest_1 tb e args s ∧ Pre_1 tb e args s)
    (fun _ _ args s o t => lw_Q args s o t) := by
  intro p e ha hc hk s m args below hf hfit hheap happ hpre
  obtain ⟨b, xs, hP⟩ := lw_pre_spec hpre.2.2 hpre.2.1
  obtain ⟨k, o, h1, h2, h3, hQ⟩ := lw_walk l b xs p e ha hc hk s m args below hf ((Spec.applies_iff_loose hf).mp happ).1 hP trivial
  exact ⟨k, o, h1, h2, h3, hQ⟩
theorem lw_frame {s t : State} {o : Outcome} {args : Array Value} (h : Framed s o t [] 600000 7302250) :
    Framed s o t (fieldLocs frame_1_writes args s ++ arrayLocs frame_1_arrays args s ++ staticLocs frame_1_statics s) 600000 7302250 := h
theorem lw_limb (L : Cond) (hL : ∀ (args : Array Value) (s t : State), L.after args s (.returned (some (.int 1))) t = true) :
    ArmFor flags0 classFile x code maxLocals ret World_1 tables_1 room_1 Calls_1 rest_1 Pre_1
      (fun tb e a s o t => postC L tb e a s o t ∧ Framed s o t (fieldLocs frame_1_writes a s ++ arrayLocs frame_1_arrays a s ++ staticLocs frame_1_statics s) 600000 7302250) := by
  intro l _ _ _ p e ha hc hk s m args below hf hfit hheap happ hpre
  obtain ⟨k, o, h1, h2, h3, rfl, hF⟩ := lw_comes l p e ha hc hk s m args below hf hfit hheap happ hpre
  exact ⟨k, _, h1, h2, h3, hL args s _, lw_frame hF⟩
theorem i_vc : Claimed_1_1 ∧ Claimed_1_2 := ⟨lw_limb limb_1_1 (fun args s t => by simp [limb_1_1, Cond.after, Cond.holds, Cond.value]), lw_limb limb_1_2 (fun args s t => Cond.after_iff.mpr (by
  first | (rw [show limb_1_2 = Cond.eq .result (.int 1) from rfl, Cond.eq_ints (x := 1) (y := 1) rfl rfl]; simp; done) | (simp [limb_1_2, Cond.value, Term.eval]; done)))⟩
