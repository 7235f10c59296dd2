theorem iw_X3_looksNeeded_X3 : ∀ w ∈ wsX30, w ∈ wsX3_looksNeeded := fun _ h => List.mem_cons_of_mem _ (List.mem_append_left _ (List.mem_append_right _ h))
set_option maxHeartbeats 4000000 in
set_option maxRecDepth 100000 in
theorem c_X3_looksNeeded (l : Launch) (dC : Nat → ClassId) (dI : Nat → Nat → Nat) (ad : Nat → Nat) (tN : Nat) (fN : Nat → Int64) (cB cI cJ cZ : ClassId) (h0 : Nat) (r0 : Nat → Nat) (pl0 : Nat) (w0 : va_W) (r1 : Nat → Nat) (fc1 : Int32) (dc1 : Int32) (rk1 : Nat → Int32) (w1 : va_W) (o0 : ok_frame ad cB cI cJ cZ h0 r0 pl0 w0) (o1 : ok_plan ad cB cI cJ cZ pl0 r1 fc1 dc1 rk1 w1) (sz : Nat) : Met l yX3_looksNeeded wsX3_looksNeeded ({ frames := 4, cells := 0, slots := 0, locals := 86 } : Room) (va_Pc [.ref h0] (fun U => U.heap.size = sz ∧ va_P (dC, dI) vwCl (List.flatten [w0, w1]) U.heap ∧ va_K (dC, dI) vwCl [(cB, .byte), (cI, .int), (cJ, .long), (cZ, .boolean)] U ∧ va_D (fun _ => True) (List.flatten [w0, w1]) ∧ ex_Y ad tN fN (va_A (List.flatten [w0, w1]) sz) U)) (va_Qi (fun (r : Int32) (_ : Unit) => 0 ≤ r.toInt ∧ r.toInt ≤ 71) (fun (_ : Unit) (t : State) => va_P (dC, dI) vwCl (List.flatten [w0, w1]) t.heap ∧ va_D (va_A (List.flatten [w0, w1]) sz) (List.flatten [w0, w1])) (va_A (List.flatten [w0, w1]) sz)) 0 0 (va_A (List.flatten [w0, w1]) sz) := by
  refine Met.ofW (cc := cX3_looksNeeded) (maxL := 4) (ret := (some .int)) (by decide) rfl ?_
  intro p e s m args below meth c s₁ B hml hv
  obtain ⟨rfl, hsz, hP, hK, hD0, hE⟩ := hv
  have hx := B.exec
  have hb := B.bytes
  have hr := B.returns
  have hts := atoms_spec (ws := wsX3_looksNeeded) B.pre
  have hown : s.vm.findClass RX3 = some m.cls := findClass_of_methodNamed B.named
  have hlocks := B.notSynchronized
  subst hsz
  have hD := hD0.self (sz := s.heap.size)
  generalize hAe : va_A (List.flatten [w0, w1]) s.heap.size = A at hD hE ⊢
  have hA : ∀ q : Nat, s.heap.size ≤ q → A q := fun q h => by rw [← hAe]; exact Or.inr h
  have hS : va_S A s.heap s.heap [] := va_S.rf
  have hl := lv_entry ([.ref h0]) (n := 4) (Nat.le_of_ble_eq_true rfl)
  rw [lg_entry_eq]
  generalize (lg_sl ([.ref h0]) ++ List.replicate (4 - (lg_sl ([.ref h0])).length) Slot.unset).toArray = ls at hl ⊢
  have hl : lv_has ls 4 [(0, .ref h0)] := hl
  clear hAe
  refine W_name (fun Q0 hQ0 => ?_)
  refine lv_iconst (v := (-1)) hx hb dX3_looksNeeded_0 (by decide) ?_
  refine lv_istore_n (lv' := [(1, .int (-1)), (0, .ref h0)]) hx hb dX3_looksNeeded_1 rfl hl (by decide) rfl (fun ls hl => ?_)
  refine lv_iconst (v := 0) hx hb dX3_looksNeeded_2 (by decide) ?_
  refine lv_istore_n (lv' := [(2, .int 0), (1, .int (-1)), (0, .ref h0)]) hx hb dX3_looksNeeded_3 rfl hl (by decide) rfl (fun ls hl => ?_)
  obtain ⟨fr_36, dr_39, rc_42, f_45, f_47, gn_48, f_49, f_50, f_51, f_52, f_53, sc_54, jc_55, f_58, f_60, rfl, hl_37, hh_38, hl_40, hh_41, hl_43, hh_44, hr_46, hl_56, hh_57, hr_59, hr_61⟩ := o0
  have lp_2169 : ∀ (n : Nat) (g_1 : Int32) (g_2 : Int32), 0 ≤ g_1.toInt → g_1.toInt ≤ 70 → -1 ≤ g_2.toInt → g_2.toInt ≤ 70 → g_1.toInt - jc_55.toInt ≤ 0 → g_2.toInt - g_1.toInt ≤ -1 → g_2.toInt - jc_55.toInt ≤ -1 → (70 - g_1.toInt).toNat < n → ∀ (H : Heap) (locs : List Loc), va_P (dC, dI) vwCl (List.flatten [[(h0, .inr (2, [.ref pl0, .int fr_36, .int dr_39, .int rc_42, .ref (r0 0), .ref (r0 1), .int gn_48, .ref (r0 2), .ref (r0 3), .ref (r0 4), .ref (r0 5), .ref (r0 6), .long sc_54, .int jc_55, .ref (r0 7), .ref (r0 8)])), (r0 0, .inl (cI, 10, .inl f_45)), (r0 1, .inl (cI, 10, .inl f_47)), (r0 2, .inl (cI, 6, .inl f_49)), (r0 3, .inl (cJ, 6, .inr (.inl f_50))), (r0 4, .inl (cJ, 6, .inr (.inl f_51))), (r0 5, .inl (cJ, 6, .inr (.inl f_52))), (r0 6, .inl (cJ, 10, .inr (.inl f_53))), (r0 7, .inl (cI, 70, .inl f_58)), (r0 8, .inl (cI, 70, .inl f_60))], w1]) H → va_D A (List.flatten [[(h0, .inr (2, [.ref pl0, .int fr_36, .int dr_39, .int rc_42, .ref (r0 0), .ref (r0 1), .int gn_48, .ref (r0 2), .ref (r0 3), .ref (r0 4), .ref (r0 5), .ref (r0 6), .long sc_54, .int jc_55, .ref (r0 7), .ref (r0 8)])), (r0 0, .inl (cI, 10, .inl f_45)), (r0 1, .inl (cI, 10, .inl f_47)), (r0 2, .inl (cI, 6, .inl f_49)), (r0 3, .inl (cJ, 6, .inr (.inl f_50))), (r0 4, .inl (cJ, 6, .inr (.inl f_51))), (r0 5, .inl (cJ, 6, .inr (.inl f_52))), (r0 6, .inl (cJ, 10, .inr (.inl f_53))), (r0 7, .inl (cI, 70, .inl f_58)), (r0 8, .inl (cI, 70, .inl f_60))], w1]) → va_S A s.heap H locs → ∀ (ls : Array Slot), lv_has ls 4 [(2, .int g_1), (1, .int g_2), (0, .ref h0)] → W p l e (headSpec wsX3_looksNeeded ({ frames := 4, cells := 0, slots := 0, locals := 86 } : Room)).room s m ([.ref h0] : List Value).toArray below meth c H locs 0 0 Q0 (F0 m 4 ls []) := by
    intro n
    induction n with
    | zero => intro g_1 g_2 iv_2162 iv_2163 iv_2164 iv_2165 iv_2166 iv_2167 iv_2168 hm; exact absurd hm (Nat.not_lt_zero _)
    | succ n ih_2170 =>
      intro g_1 g_2 iv_2162 iv_2163 iv_2164 iv_2165 iv_2166 iv_2167 iv_2168 hm H locs hP hD hS ls hl
      refine lv_iload_n hx hb dX3_looksNeeded_4 rfl (lv_at hl 0 rfl) ?_
      refine lv_aload_n hx hb dX3_looksNeeded_5 rfl (lv_at hl 2 rfl) ?_
      refine va_get (D := (dC, dI)) (ci := 2) (v := .int jc_55) (C := RX3) (T := TX3) (N := 16) hx hb hts iw_X3_looksNeeded_X3 hown hK hP 0 rfl rfl 13 (by decide) (hts (.fieldLink RX3 58 "HungFloors$Frame" "jointCount" "I") (by decide +kernel)) (fun _ h9 => h9) rfl dX3_looksNeeded_6 ?_
      refine lv_icmp_ge (tgt := 46) hx hb dX3_looksNeeded_9 (by decide) (fun c_2171 => ?_) (fun c_2171 => ?_)
      · have c_2171 : jc_55.toInt ≤ g_1.toInt := f_le rfl rfl c_2171
        refine lv_iload_n hx hb dX3_looksNeeded_46 rfl (lv_at hl 1 rfl) ?_
        refine lv_if_ge (tgt := 52) hx hb dX3_looksNeeded_47 (by decide) (fun c_2172 => ?_) (fun c_2172 => ?_)
        · have c_2172 : 0 ≤ g_2.toInt := f_le tI_0 rfl c_2172
          refine lv_iconst (v := 1) hx hb dX3_looksNeeded_52 (by decide) ?_
          refine lv_istore_n (lv' := [(2, .int 1), (1, .int g_2), (0, .ref h0)]) hx hb dX3_looksNeeded_53 rfl hl (by decide) rfl (fun ls hl => ?_)
          refine lv_iconst (v := 0) hx hb dX3_looksNeeded_54 (by decide) ?_
          refine lv_istore_n (lv' := [(3, .int 0), (2, .int 1), (1, .int g_2), (0, .ref h0)]) hx hb dX3_looksNeeded_55 rfl hl (by decide) rfl (fun ls hl => ?_)
          have lp_2440 : ∀ (n : Nat) (g_2173 : Int32) (g_2174 : Int32), 0 ≤ g_2173.toInt → g_2173.toInt ≤ 70 → 1 ≤ g_2174.toInt → g_2174.toInt ≤ 1024 → g_2173.toInt - g_1.toInt ≤ 0 → g_2173.toInt - jc_55.toInt ≤ 0 → g_2174.toInt - g_1.toInt ≤ 1 → g_2174.toInt - g_2173.toInt ≤ 1 → g_2174.toInt - jc_55.toInt ≤ 1 → (70 - g_2173.toInt).toNat < n → ∀ (H : Heap) (locs : List Loc), va_P (dC, dI) vwCl (List.flatten [[(h0, .inr (2, [.ref pl0, .int fr_36, .int dr_39, .int rc_42, .ref (r0 0), .ref (r0 1), .int gn_48, .ref (r0 2), .ref (r0 3), .ref (r0 4), .ref (r0 5), .ref (r0 6), .long sc_54, .int jc_55, .ref (r0 7), .ref (r0 8)])), (r0 0, .inl (cI, 10, .inl f_45)), (r0 1, .inl (cI, 10, .inl f_47)), (r0 2, .inl (cI, 6, .inl f_49)), (r0 3, .inl (cJ, 6, .inr (.inl f_50))), (r0 4, .inl (cJ, 6, .inr (.inl f_51))), (r0 5, .inl (cJ, 6, .inr (.inl f_52))), (r0 6, .inl (cJ, 10, .inr (.inl f_53))), (r0 7, .inl (cI, 70, .inl f_58)), (r0 8, .inl (cI, 70, .inl f_60))], w1]) H → va_D A (List.flatten [[(h0, .inr (2, [.ref pl0, .int fr_36, .int dr_39, .int rc_42, .ref (r0 0), .ref (r0 1), .int gn_48, .ref (r0 2), .ref (r0 3), .ref (r0 4), .ref (r0 5), .ref (r0 6), .long sc_54, .int jc_55, .ref (r0 7), .ref (r0 8)])), (r0 0, .inl (cI, 10, .inl f_45)), (r0 1, .inl (cI, 10, .inl f_47)), (r0 2, .inl (cI, 6, .inl f_49)), (r0 3, .inl (cJ, 6, .inr (.inl f_50))), (r0 4, .inl (cJ, 6, .inr (.inl f_51))), (r0 5, .inl (cJ, 6, .inr (.inl f_52))), (r0 6, .inl (cJ, 10, .inr (.inl f_53))), (r0 7, .inl (cI, 70, .inl f_58)), (r0 8, .inl (cI, 70, .inl f_60))], w1]) → va_S A s.heap H locs → ∀ (ls : Array Slot), lv_has ls 4 [(3, .int g_2173), (2, .int g_2174), (1, .int g_2), (0, .ref h0)] → W p l e (headSpec wsX3_looksNeeded ({ frames := 4, cells := 0, slots := 0, locals := 86 } : Room)).room s m ([.ref h0] : List Value).toArray below meth c H locs 0 0 Q0 (F0 m 56 ls []) := by
            intro n
            induction n with
            | zero => intro g_2173 g_2174 iv_2431 iv_2432 iv_2433 iv_2434 iv_2435 iv_2436 iv_2437 iv_2438 iv_2439 hm; exact absurd hm (Nat.not_lt_zero _)
            | succ n ih_2441 =>
              intro g_2173 g_2174 iv_2431 iv_2432 iv_2433 iv_2434 iv_2435 iv_2436 iv_2437 iv_2438 iv_2439 hm H locs hP hD hS ls hl
              refine lv_iload_n hx hb dX3_looksNeeded_56 rfl (lv_at hl 0 rfl) ?_
              refine lv_aload_n hx hb dX3_looksNeeded_57 rfl (lv_at hl 3 rfl) ?_
              refine va_get (D := (dC, dI)) (ci := 2) (v := .int jc_55) (C := RX3) (T := TX3) (N := 16) hx hb hts iw_X3_looksNeeded_X3 hown hK hP 0 rfl rfl 13 (by decide) (hts (.fieldLink RX3 58 "HungFloors$Frame" "jointCount" "I") (by decide +kernel)) (fun _ h9 => h9) rfl dX3_looksNeeded_58 ?_
              refine lv_icmp_ge (tgt := 106) hx hb dX3_looksNeeded_61 (by decide) (fun c_2442 => ?_) (fun c_2442 => ?_)
              · have c_2442 : jc_55.toInt ≤ g_2173.toInt := f_le rfl rfl c_2442
                refine lv_iload_n hx hb dX3_looksNeeded_106 rfl (lv_at hl 1 rfl) ?_
                rw [hQ0]
                exact W.iret (v := g_2174) hx hb hr (fun t ht hW => ⟨⟨g_2174, (), rfl, ⟨by omega, by omega⟩, ⟨by rw [ht]; exact hP, hD⟩⟩, hS.F ht⟩) hS.2.2 dX3_looksNeeded_107
              · have c_2442 : g_2173.toInt < jc_55.toInt := f_nle rfl rfl c_2442
                refine lv_aload_n hx hb dX3_looksNeeded_64 rfl (lv_at hl 3 rfl) ?_
                refine lv_iload_n hx hb dX3_looksNeeded_65 rfl (lv_at hl 0 rfl) ?_
                have hpm : List.Perm ([[(h0, .inr (2, [.ref pl0, .int fr_36, .int dr_39, .int rc_42, .ref (r0 0), .ref (r0 1), .int gn_48, .ref (r0 2), .ref (r0 3), .ref (r0 4), .ref (r0 5), .ref (r0 6), .long sc_54, .int jc_55, .ref (r0 7), .ref (r0 8)])), (r0 0, .inl (cI, 10, .inl f_45)), (r0 1, .inl (cI, 10, .inl f_47)), (r0 2, .inl (cI, 6, .inl f_49)), (r0 3, .inl (cJ, 6, .inr (.inl f_50))), (r0 4, .inl (cJ, 6, .inr (.inl f_51))), (r0 5, .inl (cJ, 6, .inr (.inl f_52))), (r0 6, .inl (cJ, 10, .inr (.inl f_53))), (r0 7, .inl (cI, 70, .inl f_58)), (r0 8, .inl (cI, 70, .inl f_60))], w1] : List va_W) (([[(h0, .inr (2, [.ref pl0, .int fr_36, .int dr_39, .int rc_42, .ref (r0 0), .ref (r0 1), .int gn_48, .ref (r0 2), .ref (r0 3), .ref (r0 4), .ref (r0 5), .ref (r0 6), .long sc_54, .int jc_55, .ref (r0 7), .ref (r0 8)])), (r0 0, .inl (cI, 10, .inl f_45)), (r0 1, .inl (cI, 10, .inl f_47)), (r0 2, .inl (cI, 6, .inl f_49)), (r0 3, .inl (cJ, 6, .inr (.inl f_50))), (r0 4, .inl (cJ, 6, .inr (.inl f_51))), (r0 5, .inl (cJ, 6, .inr (.inl f_52))), (r0 6, .inl (cJ, 10, .inr (.inl f_53))), (r0 7, .inl (cI, 70, .inl f_58)), (r0 8, .inl (cI, 70, .inl f_60))]] : List va_W) ++ ([w1] : List va_W)) := pm_n 2 [0, 1] (by decide) rfl rfl
                have hPc := bk_P hpm hP
                have hDc := bk_D hpm hD
                have hFc := bk_F hpm hD hS hA
                refine va_calll (va_runV (As := [.int g_2173]) (rest := []) ⟨hx, hb, hml, hown, hts⟩ (c_X3_bornBy l dC dI ad tN fN cB cI cJ cZ h0 g_2173 r0 pl0 _ ⟨fr_36, dr_39, rc_42, f_45, f_47, gn_48, f_49, f_50, f_51, f_52, f_53, sc_54, jc_55, f_58, f_60, rfl, by omega, by omega, by omega, by omega, by omega, by omega, hr_46, by omega, by omega, hr_59, hr_61⟩ H.size (by omega) (by omega)) (cwV 1 hts gX3_looksNeeded_X3_bornBy rfl rfl rfl (by decide +kernel) ⟨(Nat.le_of_ble_eq_true rfl), (Nat.le_of_ble_eq_true rfl)⟩) ⟨fun a U g mk q => by obtain ⟨q0, q1, qP, qK, qD, qE⟩ := q; exact ⟨q0, q1, qP, va_K.moved (u := U) (U := U.calling g mk a) (Vm.Alike.refl U.vm) qK, qD, ey_blind qE⟩, va_recv hK hPc (ci := 2) (q0 := 0) rfl rfl, fun U hU hW => ⟨rfl, by rw [hU], by rw [hU]; exact hPc, va_K.moved hW.alike hK, hDc.weaken (fun _ _ _ _ => trivial), ey_call hE hS hFc hU hW⟩⟩ rfl rfl hl.1 rfl (lv_room (Nat.le_of_ble_eq_true rfl)) dX3_looksNeeded_66 ⟨(Nat.le_of_ble_eq_true rfl), (Nat.le_of_ble_eq_true rfl)⟩) hS (fun q _ h => hFc q h) hFc (fun r_2443 u t H locs ht hvm hw hB hz1 hk1 hS => ?_)
                obtain ⟨hP1, hD1⟩ := hB
                rw [ht] at hP1
                obtain ⟨hP, hD⟩ := bk_join hpm hP hD hk1 hFc (Cs1 := [[(h0, .inr (2, [.ref pl0, .int fr_36, .int dr_39, .int rc_42, .ref (r0 0), .ref (r0 1), .int gn_48, .ref (r0 2), .ref (r0 3), .ref (r0 4), .ref (r0 5), .ref (r0 6), .long sc_54, .int jc_55, .ref (r0 7), .ref (r0 8)])), (r0 0, .inl (cI, 10, .inl f_45)), (r0 1, .inl (cI, 10, .inl f_47)), (r0 2, .inl (cI, 6, .inl f_49)), (r0 3, .inl (cJ, 6, .inr (.inl f_50))), (r0 4, .inl (cJ, 6, .inr (.inl f_51))), (r0 5, .inl (cJ, 6, .inr (.inl f_52))), (r0 6, .inl (cJ, 10, .inr (.inl f_53))), (r0 7, .inl (cI, 70, .inl f_58)), (r0 8, .inl (cI, 70, .inl f_60))]]) hP1 hD1
                have hpm2 : List.Perm (([[(h0, .inr (2, [.ref pl0, .int fr_36, .int dr_39, .int rc_42, .ref (r0 0), .ref (r0 1), .int gn_48, .ref (r0 2), .ref (r0 3), .ref (r0 4), .ref (r0 5), .ref (r0 6), .long sc_54, .int jc_55, .ref (r0 7), .ref (r0 8)])), (r0 0, .inl (cI, 10, .inl f_45)), (r0 1, .inl (cI, 10, .inl f_47)), (r0 2, .inl (cI, 6, .inl f_49)), (r0 3, .inl (cJ, 6, .inr (.inl f_50))), (r0 4, .inl (cJ, 6, .inr (.inl f_51))), (r0 5, .inl (cJ, 6, .inr (.inl f_52))), (r0 6, .inl (cJ, 10, .inr (.inl f_53))), (r0 7, .inl (cI, 70, .inl f_58)), (r0 8, .inl (cI, 70, .inl f_60))]] : List va_W) ++ ([w1] : List va_W)) ([[(h0, .inr (2, [.ref pl0, .int fr_36, .int dr_39, .int rc_42, .ref (r0 0), .ref (r0 1), .int gn_48, .ref (r0 2), .ref (r0 3), .ref (r0 4), .ref (r0 5), .ref (r0 6), .long sc_54, .int jc_55, .ref (r0 7), .ref (r0 8)])), (r0 0, .inl (cI, 10, .inl f_45)), (r0 1, .inl (cI, 10, .inl f_47)), (r0 2, .inl (cI, 6, .inl f_49)), (r0 3, .inl (cJ, 6, .inr (.inl f_50))), (r0 4, .inl (cJ, 6, .inr (.inl f_51))), (r0 5, .inl (cJ, 6, .inr (.inl f_52))), (r0 6, .inl (cJ, 10, .inr (.inl f_53))), (r0 7, .inl (cI, 70, .inl f_58)), (r0 8, .inl (cI, 70, .inl f_60))], w1] : List va_W) := pm_n 2 [0, 1] (by decide) rfl rfl
                have hP := bk_reP hpm2 hP
                have hD := bk_reD hpm2 hD
                have hP : va_P (dC, dI) vwCl (List.flatten [[(h0, .inr (2, [.ref pl0, .int fr_36, .int dr_39, .int rc_42, .ref (r0 0), .ref (r0 1), .int gn_48, .ref (r0 2), .ref (r0 3), .ref (r0 4), .ref (r0 5), .ref (r0 6), .long sc_54, .int jc_55, .ref (r0 7), .ref (r0 8)])), (r0 0, .inl (cI, 10, .inl f_45)), (r0 1, .inl (cI, 10, .inl f_47)), (r0 2, .inl (cI, 6, .inl f_49)), (r0 3, .inl (cJ, 6, .inr (.inl f_50))), (r0 4, .inl (cJ, 6, .inr (.inl f_51))), (r0 5, .inl (cJ, 6, .inr (.inl f_52))), (r0 6, .inl (cJ, 10, .inr (.inl f_53))), (r0 7, .inl (cI, 70, .inl f_58)), (r0 8, .inl (cI, 70, .inl f_60))], w1]) H := hP
                have hD : va_D A (List.flatten [[(h0, .inr (2, [.ref pl0, .int fr_36, .int dr_39, .int rc_42, .ref (r0 0), .ref (r0 1), .int gn_48, .ref (r0 2), .ref (r0 3), .ref (r0 4), .ref (r0 5), .ref (r0 6), .long sc_54, .int jc_55, .ref (r0 7), .ref (r0 8)])), (r0 0, .inl (cI, 10, .inl f_45)), (r0 1, .inl (cI, 10, .inl f_47)), (r0 2, .inl (cI, 6, .inl f_49)), (r0 3, .inl (cJ, 6, .inr (.inl f_50))), (r0 4, .inl (cJ, 6, .inr (.inl f_51))), (r0 5, .inl (cJ, 6, .inr (.inl f_52))), (r0 6, .inl (cJ, 10, .inr (.inl f_53))), (r0 7, .inl (cI, 70, .inl f_58)), (r0 8, .inl (cI, 70, .inl f_60))], w1]) := hD
                refine lv_aload_n hx hb dX3_looksNeeded_69 rfl (lv_at hl 3 rfl) ?_
                refine lv_iload_n hx hb dX3_looksNeeded_70 rfl (lv_at hl 2 rfl) ?_
                have hpm : List.Perm ([[(h0, .inr (2, [.ref pl0, .int fr_36, .int dr_39, .int rc_42, .ref (r0 0), .ref (r0 1), .int gn_48, .ref (r0 2), .ref (r0 3), .ref (r0 4), .ref (r0 5), .ref (r0 6), .long sc_54, .int jc_55, .ref (r0 7), .ref (r0 8)])), (r0 0, .inl (cI, 10, .inl f_45)), (r0 1, .inl (cI, 10, .inl f_47)), (r0 2, .inl (cI, 6, .inl f_49)), (r0 3, .inl (cJ, 6, .inr (.inl f_50))), (r0 4, .inl (cJ, 6, .inr (.inl f_51))), (r0 5, .inl (cJ, 6, .inr (.inl f_52))), (r0 6, .inl (cJ, 10, .inr (.inl f_53))), (r0 7, .inl (cI, 70, .inl f_58)), (r0 8, .inl (cI, 70, .inl f_60))], w1] : List va_W) (([[(h0, .inr (2, [.ref pl0, .int fr_36, .int dr_39, .int rc_42, .ref (r0 0), .ref (r0 1), .int gn_48, .ref (r0 2), .ref (r0 3), .ref (r0 4), .ref (r0 5), .ref (r0 6), .long sc_54, .int jc_55, .ref (r0 7), .ref (r0 8)])), (r0 0, .inl (cI, 10, .inl f_45)), (r0 1, .inl (cI, 10, .inl f_47)), (r0 2, .inl (cI, 6, .inl f_49)), (r0 3, .inl (cJ, 6, .inr (.inl f_50))), (r0 4, .inl (cJ, 6, .inr (.inl f_51))), (r0 5, .inl (cJ, 6, .inr (.inl f_52))), (r0 6, .inl (cJ, 10, .inr (.inl f_53))), (r0 7, .inl (cI, 70, .inl f_58)), (r0 8, .inl (cI, 70, .inl f_60))]] : List va_W) ++ ([w1] : List va_W)) := pm_n 2 [0, 1] (by decide) rfl rfl
                have hPc := bk_P hpm hP
                have hDc := bk_D hpm hD
                have hFc := bk_F hpm hD hS hA
                refine va_calll (va_runV (As := [.int g_2]) (rest := [.long r_2443]) ⟨hx, hb, hml, hown, hts⟩ (c_X3_bornBy l dC dI ad tN fN cB cI cJ cZ h0 g_2 r0 pl0 _ ⟨fr_36, dr_39, rc_42, f_45, f_47, gn_48, f_49, f_50, f_51, f_52, f_53, sc_54, jc_55, f_58, f_60, rfl, by omega, by omega, by omega, by omega, by omega, by omega, hr_46, by omega, by omega, hr_59, hr_61⟩ H.size (by omega) (by omega)) (cwV 1 hts gX3_looksNeeded_X3_bornBy rfl rfl rfl (by decide +kernel) ⟨(Nat.le_of_ble_eq_true rfl), (Nat.le_of_ble_eq_true rfl)⟩) ⟨fun a U g mk q => by obtain ⟨q0, q1, qP, qK, qD, qE⟩ := q; exact ⟨q0, q1, qP, va_K.moved (u := U) (U := U.calling g mk a) (Vm.Alike.refl U.vm) qK, qD, ey_blind qE⟩, va_recv hK hPc (ci := 2) (q0 := 0) rfl rfl, fun U hU hW => ⟨rfl, by rw [hU], by rw [hU]; exact hPc, va_K.moved hW.alike hK, hDc.weaken (fun _ _ _ _ => trivial), ey_call hE hS hFc hU hW⟩⟩ rfl rfl hl.1 rfl (lv_room (Nat.le_of_ble_eq_true rfl)) dX3_looksNeeded_71 ⟨(Nat.le_of_ble_eq_true rfl), (Nat.le_of_ble_eq_true rfl)⟩) hS (fun q _ h => hFc q h) hFc (fun r_2444 u t H locs ht hvm hw hB hz1 hk1 hS => ?_)
                obtain ⟨hP1, hD1⟩ := hB
                rw [ht] at hP1
                obtain ⟨hP, hD⟩ := bk_join hpm hP hD hk1 hFc (Cs1 := [[(h0, .inr (2, [.ref pl0, .int fr_36, .int dr_39, .int rc_42, .ref (r0 0), .ref (r0 1), .int gn_48, .ref (r0 2), .ref (r0 3), .ref (r0 4), .ref (r0 5), .ref (r0 6), .long sc_54, .int jc_55, .ref (r0 7), .ref (r0 8)])), (r0 0, .inl (cI, 10, .inl f_45)), (r0 1, .inl (cI, 10, .inl f_47)), (r0 2, .inl (cI, 6, .inl f_49)), (r0 3, .inl (cJ, 6, .inr (.inl f_50))), (r0 4, .inl (cJ, 6, .inr (.inl f_51))), (r0 5, .inl (cJ, 6, .inr (.inl f_52))), (r0 6, .inl (cJ, 10, .inr (.inl f_53))), (r0 7, .inl (cI, 70, .inl f_58)), (r0 8, .inl (cI, 70, .inl f_60))]]) hP1 hD1
                have hpm2 : List.Perm (([[(h0, .inr (2, [.ref pl0, .int fr_36, .int dr_39, .int rc_42, .ref (r0 0), .ref (r0 1), .int gn_48, .ref (r0 2), .ref (r0 3), .ref (r0 4), .ref (r0 5), .ref (r0 6), .long sc_54, .int jc_55, .ref (r0 7), .ref (r0 8)])), (r0 0, .inl (cI, 10, .inl f_45)), (r0 1, .inl (cI, 10, .inl f_47)), (r0 2, .inl (cI, 6, .inl f_49)), (r0 3, .inl (cJ, 6, .inr (.inl f_50))), (r0 4, .inl (cJ, 6, .inr (.inl f_51))), (r0 5, .inl (cJ, 6, .inr (.inl f_52))), (r0 6, .inl (cJ, 10, .inr (.inl f_53))), (r0 7, .inl (cI, 70, .inl f_58)), (r0 8, .inl (cI, 70, .inl f_60))]] : List va_W) ++ ([w1] : List va_W)) ([[(h0, .inr (2, [.ref pl0, .int fr_36, .int dr_39, .int rc_42, .ref (r0 0), .ref (r0 1), .int gn_48, .ref (r0 2), .ref (r0 3), .ref (r0 4), .ref (r0 5), .ref (r0 6), .long sc_54, .int jc_55, .ref (r0 7), .ref (r0 8)])), (r0 0, .inl (cI, 10, .inl f_45)), (r0 1, .inl (cI, 10, .inl f_47)), (r0 2, .inl (cI, 6, .inl f_49)), (r0 3, .inl (cJ, 6, .inr (.inl f_50))), (r0 4, .inl (cJ, 6, .inr (.inl f_51))), (r0 5, .inl (cJ, 6, .inr (.inl f_52))), (r0 6, .inl (cJ, 10, .inr (.inl f_53))), (r0 7, .inl (cI, 70, .inl f_58)), (r0 8, .inl (cI, 70, .inl f_60))], w1] : List va_W) := pm_n 2 [0, 1] (by decide) rfl rfl
                have hP := bk_reP hpm2 hP
                have hD := bk_reD hpm2 hD
                have hP : va_P (dC, dI) vwCl (List.flatten [[(h0, .inr (2, [.ref pl0, .int fr_36, .int dr_39, .int rc_42, .ref (r0 0), .ref (r0 1), .int gn_48, .ref (r0 2), .ref (r0 3), .ref (r0 4), .ref (r0 5), .ref (r0 6), .long sc_54, .int jc_55, .ref (r0 7), .ref (r0 8)])), (r0 0, .inl (cI, 10, .inl f_45)), (r0 1, .inl (cI, 10, .inl f_47)), (r0 2, .inl (cI, 6, .inl f_49)), (r0 3, .inl (cJ, 6, .inr (.inl f_50))), (r0 4, .inl (cJ, 6, .inr (.inl f_51))), (r0 5, .inl (cJ, 6, .inr (.inl f_52))), (r0 6, .inl (cJ, 10, .inr (.inl f_53))), (r0 7, .inl (cI, 70, .inl f_58)), (r0 8, .inl (cI, 70, .inl f_60))], w1]) H := hP
                have hD : va_D A (List.flatten [[(h0, .inr (2, [.ref pl0, .int fr_36, .int dr_39, .int rc_42, .ref (r0 0), .ref (r0 1), .int gn_48, .ref (r0 2), .ref (r0 3), .ref (r0 4), .ref (r0 5), .ref (r0 6), .long sc_54, .int jc_55, .ref (r0 7), .ref (r0 8)])), (r0 0, .inl (cI, 10, .inl f_45)), (r0 1, .inl (cI, 10, .inl f_47)), (r0 2, .inl (cI, 6, .inl f_49)), (r0 3, .inl (cJ, 6, .inr (.inl f_50))), (r0 4, .inl (cJ, 6, .inr (.inl f_51))), (r0 5, .inl (cJ, 6, .inr (.inl f_52))), (r0 6, .inl (cJ, 10, .inr (.inl f_53))), (r0 7, .inl (cI, 70, .inl f_58)), (r0 8, .inl (cI, 70, .inl f_60))], w1]) := hD
                refine W.lcmp hx hb dX3_looksNeeded_74 ?_
                refine lv_topi (fun z_2445 ez_2445 => ?_)
                refine lv_if_gt (tgt := 97) hx hb dX3_looksNeeded_75 (by decide) (fun c_2446 => ?_) (fun c_2446 => ?_)
                · have c_2446 : 0 < z_2445.toInt := f_lt tI_0 rfl c_2446
                  obtain ⟨z_2447, ez_2447⟩ : ∃ y : Int32, y = g_2174 + 1 := ⟨_, rfl⟩
                  have hz_2447 : z_2447.toInt = g_2174.toInt + 1 := by rw [ez_2447]; exact t_add rfl tI_1 (by omega) (by omega)
                  refine lv_iinc (v := z_2447) (lv' := [(2, .int z_2447), (3, .int g_2173), (1, .int g_2), (0, .ref h0)]) hx hb dX3_looksNeeded_97 hl (k := 1) rfl (by rw [ez_2447]; rfl) (by decide) rfl (fun ls hl => ?_)
                  obtain ⟨z_2448, ez_2448⟩ : ∃ y : Int32, y = g_2173 + 1 := ⟨_, rfl⟩
                  have hz_2448 : z_2448.toInt = g_2173.toInt + 1 := by rw [ez_2448]; exact t_add rfl tI_1 (by omega) (by omega)
                  refine lv_iinc (v := z_2448) (lv' := [(3, .int z_2448), (2, .int z_2447), (1, .int g_2), (0, .ref h0)]) hx hb dX3_looksNeeded_100 hl (k := 1) rfl (by rw [ez_2448]; rfl) (by decide) rfl (fun ls hl => ?_)
                  refine lv_goto (tgt := 56) hx hb dX3_looksNeeded_103 (by decide) ?_
                  exact ih_2441 z_2448 z_2447 (by omega) (by omega) (by omega) (by omega) (by omega) (by omega) (by omega) (by omega) (by omega) (by omega) _ _ hP hD hS ls (lv_sub hl [0, 1, 2, 3] rfl)
                · have c_2446 : z_2445.toInt ≤ 0 := f_nlt tI_0 rfl c_2446
                  refine lv_aload_n hx hb dX3_looksNeeded_78 rfl (lv_at hl 3 rfl) ?_
                  refine lv_iload_n hx hb dX3_looksNeeded_79 rfl (lv_at hl 0 rfl) ?_
                  have hpm : List.Perm ([[(h0, .inr (2, [.ref pl0, .int fr_36, .int dr_39, .int rc_42, .ref (r0 0), .ref (r0 1), .int gn_48, .ref (r0 2), .ref (r0 3), .ref (r0 4), .ref (r0 5), .ref (r0 6), .long sc_54, .int jc_55, .ref (r0 7), .ref (r0 8)])), (r0 0, .inl (cI, 10, .inl f_45)), (r0 1, .inl (cI, 10, .inl f_47)), (r0 2, .inl (cI, 6, .inl f_49)), (r0 3, .inl (cJ, 6, .inr (.inl f_50))), (r0 4, .inl (cJ, 6, .inr (.inl f_51))), (r0 5, .inl (cJ, 6, .inr (.inl f_52))), (r0 6, .inl (cJ, 10, .inr (.inl f_53))), (r0 7, .inl (cI, 70, .inl f_58)), (r0 8, .inl (cI, 70, .inl f_60))], w1] : List va_W) (([[(h0, .inr (2, [.ref pl0, .int fr_36, .int dr_39, .int rc_42, .ref (r0 0), .ref (r0 1), .int gn_48, .ref (r0 2), .ref (r0 3), .ref (r0 4), .ref (r0 5), .ref (r0 6), .long sc_54, .int jc_55, .ref (r0 7), .ref (r0 8)])), (r0 0, .inl (cI, 10, .inl f_45)), (r0 1, .inl (cI, 10, .inl f_47)), (r0 2, .inl (cI, 6, .inl f_49)), (r0 3, .inl (cJ, 6, .inr (.inl f_50))), (r0 4, .inl (cJ, 6, .inr (.inl f_51))), (r0 5, .inl (cJ, 6, .inr (.inl f_52))), (r0 6, .inl (cJ, 10, .inr (.inl f_53))), (r0 7, .inl (cI, 70, .inl f_58)), (r0 8, .inl (cI, 70, .inl f_60))]] : List va_W) ++ ([w1] : List va_W)) := pm_n 2 [0, 1] (by decide) rfl rfl
                  have hPc := bk_P hpm hP
                  have hDc := bk_D hpm hD
                  have hFc := bk_F hpm hD hS hA
                  refine va_calll (va_runV (As := [.int g_2173]) (rest := []) ⟨hx, hb, hml, hown, hts⟩ (c_X3_bornBy l dC dI ad tN fN cB cI cJ cZ h0 g_2173 r0 pl0 _ ⟨fr_36, dr_39, rc_42, f_45, f_47, gn_48, f_49, f_50, f_51, f_52, f_53, sc_54, jc_55, f_58, f_60, rfl, by omega, by omega, by omega, by omega, by omega, by omega, hr_46, by omega, by omega, hr_59, hr_61⟩ H.size (by omega) (by omega)) (cwV 1 hts gX3_looksNeeded_X3_bornBy rfl rfl rfl (by decide +kernel) ⟨(Nat.le_of_ble_eq_true rfl), (Nat.le_of_ble_eq_true rfl)⟩) ⟨fun a U g mk q => by obtain ⟨q0, q1, qP, qK, qD, qE⟩ := q; exact ⟨q0, q1, qP, va_K.moved (u := U) (U := U.calling g mk a) (Vm.Alike.refl U.vm) qK, qD, ey_blind qE⟩, va_recv hK hPc (ci := 2) (q0 := 0) rfl rfl, fun U hU hW => ⟨rfl, by rw [hU], by rw [hU]; exact hPc, va_K.moved hW.alike hK, hDc.weaken (fun _ _ _ _ => trivial), ey_call hE hS hFc hU hW⟩⟩ rfl rfl hl.1 rfl (lv_room (Nat.le_of_ble_eq_true rfl)) dX3_looksNeeded_80 ⟨(Nat.le_of_ble_eq_true rfl), (Nat.le_of_ble_eq_true rfl)⟩) hS (fun q _ h => hFc q h) hFc (fun r_2449 u t H locs ht hvm hw hB hz1 hk1 hS => ?_)
                  obtain ⟨hP1, hD1⟩ := hB
                  rw [ht] at hP1
                  obtain ⟨hP, hD⟩ := bk_join hpm hP hD hk1 hFc (Cs1 := [[(h0, .inr (2, [.ref pl0, .int fr_36, .int dr_39, .int rc_42, .ref (r0 0), .ref (r0 1), .int gn_48, .ref (r0 2), .ref (r0 3), .ref (r0 4), .ref (r0 5), .ref (r0 6), .long sc_54, .int jc_55, .ref (r0 7), .ref (r0 8)])), (r0 0, .inl (cI, 10, .inl f_45)), (r0 1, .inl (cI, 10, .inl f_47)), (r0 2, .inl (cI, 6, .inl f_49)), (r0 3, .inl (cJ, 6, .inr (.inl f_50))), (r0 4, .inl (cJ, 6, .inr (.inl f_51))), (r0 5, .inl (cJ, 6, .inr (.inl f_52))), (r0 6, .inl (cJ, 10, .inr (.inl f_53))), (r0 7, .inl (cI, 70, .inl f_58)), (r0 8, .inl (cI, 70, .inl f_60))]]) hP1 hD1
                  have hpm2 : List.Perm (([[(h0, .inr (2, [.ref pl0, .int fr_36, .int dr_39, .int rc_42, .ref (r0 0), .ref (r0 1), .int gn_48, .ref (r0 2), .ref (r0 3), .ref (r0 4), .ref (r0 5), .ref (r0 6), .long sc_54, .int jc_55, .ref (r0 7), .ref (r0 8)])), (r0 0, .inl (cI, 10, .inl f_45)), (r0 1, .inl (cI, 10, .inl f_47)), (r0 2, .inl (cI, 6, .inl f_49)), (r0 3, .inl (cJ, 6, .inr (.inl f_50))), (r0 4, .inl (cJ, 6, .inr (.inl f_51))), (r0 5, .inl (cJ, 6, .inr (.inl f_52))), (r0 6, .inl (cJ, 10, .inr (.inl f_53))), (r0 7, .inl (cI, 70, .inl f_58)), (r0 8, .inl (cI, 70, .inl f_60))]] : List va_W) ++ ([w1] : List va_W)) ([[(h0, .inr (2, [.ref pl0, .int fr_36, .int dr_39, .int rc_42, .ref (r0 0), .ref (r0 1), .int gn_48, .ref (r0 2), .ref (r0 3), .ref (r0 4), .ref (r0 5), .ref (r0 6), .long sc_54, .int jc_55, .ref (r0 7), .ref (r0 8)])), (r0 0, .inl (cI, 10, .inl f_45)), (r0 1, .inl (cI, 10, .inl f_47)), (r0 2, .inl (cI, 6, .inl f_49)), (r0 3, .inl (cJ, 6, .inr (.inl f_50))), (r0 4, .inl (cJ, 6, .inr (.inl f_51))), (r0 5, .inl (cJ, 6, .inr (.inl f_52))), (r0 6, .inl (cJ, 10, .inr (.inl f_53))), (r0 7, .inl (cI, 70, .inl f_58)), (r0 8, .inl (cI, 70, .inl f_60))], w1] : List va_W) := pm_n 2 [0, 1] (by decide) rfl rfl
                  have hP := bk_reP hpm2 hP
                  have hD := bk_reD hpm2 hD
                  have hP : va_P (dC, dI) vwCl (List.flatten [[(h0, .inr (2, [.ref pl0, .int fr_36, .int dr_39, .int rc_42, .ref (r0 0), .ref (r0 1), .int gn_48, .ref (r0 2), .ref (r0 3), .ref (r0 4), .ref (r0 5), .ref (r0 6), .long sc_54, .int jc_55, .ref (r0 7), .ref (r0 8)])), (r0 0, .inl (cI, 10, .inl f_45)), (r0 1, .inl (cI, 10, .inl f_47)), (r0 2, .inl (cI, 6, .inl f_49)), (r0 3, .inl (cJ, 6, .inr (.inl f_50))), (r0 4, .inl (cJ, 6, .inr (.inl f_51))), (r0 5, .inl (cJ, 6, .inr (.inl f_52))), (r0 6, .inl (cJ, 10, .inr (.inl f_53))), (r0 7, .inl (cI, 70, .inl f_58)), (r0 8, .inl (cI, 70, .inl f_60))], w1]) H := hP
                  have hD : va_D A (List.flatten [[(h0, .inr (2, [.ref pl0, .int fr_36, .int dr_39, .int rc_42, .ref (r0 0), .ref (r0 1), .int gn_48, .ref (r0 2), .ref (r0 3), .ref (r0 4), .ref (r0 5), .ref (r0 6), .long sc_54, .int jc_55, .ref (r0 7), .ref (r0 8)])), (r0 0, .inl (cI, 10, .inl f_45)), (r0 1, .inl (cI, 10, .inl f_47)), (r0 2, .inl (cI, 6, .inl f_49)), (r0 3, .inl (cJ, 6, .inr (.inl f_50))), (r0 4, .inl (cJ, 6, .inr (.inl f_51))), (r0 5, .inl (cJ, 6, .inr (.inl f_52))), (r0 6, .inl (cJ, 10, .inr (.inl f_53))), (r0 7, .inl (cI, 70, .inl f_58)), (r0 8, .inl (cI, 70, .inl f_60))], w1]) := hD
                  refine lv_aload_n hx hb dX3_looksNeeded_83 rfl (lv_at hl 3 rfl) ?_
                  refine lv_iload_n hx hb dX3_looksNeeded_84 rfl (lv_at hl 2 rfl) ?_
                  have hpm : List.Perm ([[(h0, .inr (2, [.ref pl0, .int fr_36, .int dr_39, .int rc_42, .ref (r0 0), .ref (r0 1), .int gn_48, .ref (r0 2), .ref (r0 3), .ref (r0 4), .ref (r0 5), .ref (r0 6), .long sc_54, .int jc_55, .ref (r0 7), .ref (r0 8)])), (r0 0, .inl (cI, 10, .inl f_45)), (r0 1, .inl (cI, 10, .inl f_47)), (r0 2, .inl (cI, 6, .inl f_49)), (r0 3, .inl (cJ, 6, .inr (.inl f_50))), (r0 4, .inl (cJ, 6, .inr (.inl f_51))), (r0 5, .inl (cJ, 6, .inr (.inl f_52))), (r0 6, .inl (cJ, 10, .inr (.inl f_53))), (r0 7, .inl (cI, 70, .inl f_58)), (r0 8, .inl (cI, 70, .inl f_60))], w1] : List va_W) (([[(h0, .inr (2, [.ref pl0, .int fr_36, .int dr_39, .int rc_42, .ref (r0 0), .ref (r0 1), .int gn_48, .ref (r0 2), .ref (r0 3), .ref (r0 4), .ref (r0 5), .ref (r0 6), .long sc_54, .int jc_55, .ref (r0 7), .ref (r0 8)])), (r0 0, .inl (cI, 10, .inl f_45)), (r0 1, .inl (cI, 10, .inl f_47)), (r0 2, .inl (cI, 6, .inl f_49)), (r0 3, .inl (cJ, 6, .inr (.inl f_50))), (r0 4, .inl (cJ, 6, .inr (.inl f_51))), (r0 5, .inl (cJ, 6, .inr (.inl f_52))), (r0 6, .inl (cJ, 10, .inr (.inl f_53))), (r0 7, .inl (cI, 70, .inl f_58)), (r0 8, .inl (cI, 70, .inl f_60))]] : List va_W) ++ ([w1] : List va_W)) := pm_n 2 [0, 1] (by decide) rfl rfl
                  have hPc := bk_P hpm hP
                  have hDc := bk_D hpm hD
                  have hFc := bk_F hpm hD hS hA
                  refine va_calll (va_runV (As := [.int g_2]) (rest := [.long r_2449]) ⟨hx, hb, hml, hown, hts⟩ (c_X3_bornBy l dC dI ad tN fN cB cI cJ cZ h0 g_2 r0 pl0 _ ⟨fr_36, dr_39, rc_42, f_45, f_47, gn_48, f_49, f_50, f_51, f_52, f_53, sc_54, jc_55, f_58, f_60, rfl, by omega, by omega, by omega, by omega, by omega, by omega, hr_46, by omega, by omega, hr_59, hr_61⟩ H.size (by omega) (by omega)) (cwV 1 hts gX3_looksNeeded_X3_bornBy rfl rfl rfl (by decide +kernel) ⟨(Nat.le_of_ble_eq_true rfl), (Nat.le_of_ble_eq_true rfl)⟩) ⟨fun a U g mk q => by obtain ⟨q0, q1, qP, qK, qD, qE⟩ := q; exact ⟨q0, q1, qP, va_K.moved (u := U) (U := U.calling g mk a) (Vm.Alike.refl U.vm) qK, qD, ey_blind qE⟩, va_recv hK hPc (ci := 2) (q0 := 0) rfl rfl, fun U hU hW => ⟨rfl, by rw [hU], by rw [hU]; exact hPc, va_K.moved hW.alike hK, hDc.weaken (fun _ _ _ _ => trivial), ey_call hE hS hFc hU hW⟩⟩ rfl rfl hl.1 rfl (lv_room (Nat.le_of_ble_eq_true rfl)) dX3_looksNeeded_85 ⟨(Nat.le_of_ble_eq_true rfl), (Nat.le_of_ble_eq_true rfl)⟩) hS (fun q _ h => hFc q h) hFc (fun r_2450 u t H locs ht hvm hw hB hz1 hk1 hS => ?_)
                  obtain ⟨hP1, hD1⟩ := hB
                  rw [ht] at hP1
                  obtain ⟨hP, hD⟩ := bk_join hpm hP hD hk1 hFc (Cs1 := [[(h0, .inr (2, [.ref pl0, .int fr_36, .int dr_39, .int rc_42, .ref (r0 0), .ref (r0 1), .int gn_48, .ref (r0 2), .ref (r0 3), .ref (r0 4), .ref (r0 5), .ref (r0 6), .long sc_54, .int jc_55, .ref (r0 7), .ref (r0 8)])), (r0 0, .inl (cI, 10, .inl f_45)), (r0 1, .inl (cI, 10, .inl f_47)), (r0 2, .inl (cI, 6, .inl f_49)), (r0 3, .inl (cJ, 6, .inr (.inl f_50))), (r0 4, .inl (cJ, 6, .inr (.inl f_51))), (r0 5, .inl (cJ, 6, .inr (.inl f_52))), (r0 6, .inl (cJ, 10, .inr (.inl f_53))), (r0 7, .inl (cI, 70, .inl f_58)), (r0 8, .inl (cI, 70, .inl f_60))]]) hP1 hD1
                  have hpm2 : List.Perm (([[(h0, .inr (2, [.ref pl0, .int fr_36, .int dr_39, .int rc_42, .ref (r0 0), .ref (r0 1), .int gn_48, .ref (r0 2), .ref (r0 3), .ref (r0 4), .ref (r0 5), .ref (r0 6), .long sc_54, .int jc_55, .ref (r0 7), .ref (r0 8)])), (r0 0, .inl (cI, 10, .inl f_45)), (r0 1, .inl (cI, 10, .inl f_47)), (r0 2, .inl (cI, 6, .inl f_49)), (r0 3, .inl (cJ, 6, .inr (.inl f_50))), (r0 4, .inl (cJ, 6, .inr (.inl f_51))), (r0 5, .inl (cJ, 6, .inr (.inl f_52))), (r0 6, .inl (cJ, 10, .inr (.inl f_53))), (r0 7, .inl (cI, 70, .inl f_58)), (r0 8, .inl (cI, 70, .inl f_60))]] : List va_W) ++ ([w1] : List va_W)) ([[(h0, .inr (2, [.ref pl0, .int fr_36, .int dr_39, .int rc_42, .ref (r0 0), .ref (r0 1), .int gn_48, .ref (r0 2), .ref (r0 3), .ref (r0 4), .ref (r0 5), .ref (r0 6), .long sc_54, .int jc_55, .ref (r0 7), .ref (r0 8)])), (r0 0, .inl (cI, 10, .inl f_45)), (r0 1, .inl (cI, 10, .inl f_47)), (r0 2, .inl (cI, 6, .inl f_49)), (r0 3, .inl (cJ, 6, .inr (.inl f_50))), (r0 4, .inl (cJ, 6, .inr (.inl f_51))), (r0 5, .inl (cJ, 6, .inr (.inl f_52))), (r0 6, .inl (cJ, 10, .inr (.inl f_53))), (r0 7, .inl (cI, 70, .inl f_58)), (r0 8, .inl (cI, 70, .inl f_60))], w1] : List va_W) := pm_n 2 [0, 1] (by decide) rfl rfl
                  have hP := bk_reP hpm2 hP
                  have hD := bk_reD hpm2 hD
                  have hP : va_P (dC, dI) vwCl (List.flatten [[(h0, .inr (2, [.ref pl0, .int fr_36, .int dr_39, .int rc_42, .ref (r0 0), .ref (r0 1), .int gn_48, .ref (r0 2), .ref (r0 3), .ref (r0 4), .ref (r0 5), .ref (r0 6), .long sc_54, .int jc_55, .ref (r0 7), .ref (r0 8)])), (r0 0, .inl (cI, 10, .inl f_45)), (r0 1, .inl (cI, 10, .inl f_47)), (r0 2, .inl (cI, 6, .inl f_49)), (r0 3, .inl (cJ, 6, .inr (.inl f_50))), (r0 4, .inl (cJ, 6, .inr (.inl f_51))), (r0 5, .inl (cJ, 6, .inr (.inl f_52))), (r0 6, .inl (cJ, 10, .inr (.inl f_53))), (r0 7, .inl (cI, 70, .inl f_58)), (r0 8, .inl (cI, 70, .inl f_60))], w1]) H := hP
                  have hD : va_D A (List.flatten [[(h0, .inr (2, [.ref pl0, .int fr_36, .int dr_39, .int rc_42, .ref (r0 0), .ref (r0 1), .int gn_48, .ref (r0 2), .ref (r0 3), .ref (r0 4), .ref (r0 5), .ref (r0 6), .long sc_54, .int jc_55, .ref (r0 7), .ref (r0 8)])), (r0 0, .inl (cI, 10, .inl f_45)), (r0 1, .inl (cI, 10, .inl f_47)), (r0 2, .inl (cI, 6, .inl f_49)), (r0 3, .inl (cJ, 6, .inr (.inl f_50))), (r0 4, .inl (cJ, 6, .inr (.inl f_51))), (r0 5, .inl (cJ, 6, .inr (.inl f_52))), (r0 6, .inl (cJ, 10, .inr (.inl f_53))), (r0 7, .inl (cI, 70, .inl f_58)), (r0 8, .inl (cI, 70, .inl f_60))], w1]) := hD
                  refine W.lcmp hx hb dX3_looksNeeded_88 ?_
                  refine lv_topi (fun z_2451 ez_2451 => ?_)
                  refine lv_if_ne (tgt := 100) hx hb dX3_looksNeeded_89 (by decide) (fun c_2452 => ?_) (fun c_2452 => ?_)
                  · have c_2452 : ¬ z_2451.toInt = 0 := f_ne rfl tI_0 c_2452
                    obtain ⟨z_2453, ez_2453⟩ : ∃ y : Int32, y = g_2173 + 1 := ⟨_, rfl⟩
                    have hz_2453 : z_2453.toInt = g_2173.toInt + 1 := by rw [ez_2453]; exact t_add rfl tI_1 (by omega) (by omega)
                    refine lv_iinc (v := z_2453) (lv' := [(3, .int z_2453), (2, .int g_2174), (1, .int g_2), (0, .ref h0)]) hx hb dX3_looksNeeded_100 hl (k := 0) rfl (by rw [ez_2453]; rfl) (by decide) rfl (fun ls hl => ?_)
                    refine lv_goto (tgt := 56) hx hb dX3_looksNeeded_103 (by decide) ?_
                    exact ih_2441 z_2453 g_2174 (by omega) (by omega) (by omega) (by omega) (by omega) (by omega) (by omega) (by omega) (by omega) (by omega) _ _ hP hD hS ls (lv_sub hl [0, 1, 2, 3] rfl)
                  · have c_2452 : z_2451.toInt = 0 := f_eq rfl tI_0 c_2452
                    refine lv_iload_n hx hb dX3_looksNeeded_92 rfl (lv_at hl 0 rfl) ?_
                    refine lv_iload_n hx hb dX3_looksNeeded_93 rfl (lv_at hl 2 rfl) ?_
                    refine lv_icmp_ge (tgt := 100) hx hb dX3_looksNeeded_94 (by decide) (fun c_2454 => ?_) (fun c_2454 => ?_)
                    · have c_2454 : g_2.toInt ≤ g_2173.toInt := f_le rfl rfl c_2454
                      obtain ⟨z_2455, ez_2455⟩ : ∃ y : Int32, y = g_2173 + 1 := ⟨_, rfl⟩
                      have hz_2455 : z_2455.toInt = g_2173.toInt + 1 := by rw [ez_2455]; exact t_add rfl tI_1 (by omega) (by omega)
                      refine lv_iinc (v := z_2455) (lv' := [(3, .int z_2455), (2, .int g_2174), (1, .int g_2), (0, .ref h0)]) hx hb dX3_looksNeeded_100 hl (k := 0) rfl (by rw [ez_2455]; rfl) (by decide) rfl (fun ls hl => ?_)
                      refine lv_goto (tgt := 56) hx hb dX3_looksNeeded_103 (by decide) ?_
                      exact ih_2441 z_2455 g_2174 (by omega) (by omega) (by omega) (by omega) (by omega) (by omega) (by omega) (by omega) (by omega) (by omega) _ _ hP hD hS ls (lv_sub hl [0, 1, 2, 3] rfl)
                    · have c_2454 : g_2173.toInt < g_2.toInt := f_nle rfl rfl c_2454
                      obtain ⟨z_2456, ez_2456⟩ : ∃ y : Int32, y = g_2174 + 1 := ⟨_, rfl⟩
                      have hz_2456 : z_2456.toInt = g_2174.toInt + 1 := by rw [ez_2456]; exact t_add rfl tI_1 (by omega) (by omega)
                      refine lv_iinc (v := z_2456) (lv' := [(2, .int z_2456), (3, .int g_2173), (1, .int g_2), (0, .ref h0)]) hx hb dX3_looksNeeded_97 hl (k := 1) rfl (by rw [ez_2456]; rfl) (by decide) rfl (fun ls hl => ?_)
                      obtain ⟨z_2457, ez_2457⟩ : ∃ y : Int32, y = g_2173 + 1 := ⟨_, rfl⟩
                      have hz_2457 : z_2457.toInt = g_2173.toInt + 1 := by rw [ez_2457]; exact t_add rfl tI_1 (by omega) (by omega)
                      refine lv_iinc (v := z_2457) (lv' := [(3, .int z_2457), (2, .int z_2456), (1, .int g_2), (0, .ref h0)]) hx hb dX3_looksNeeded_100 hl (k := 1) rfl (by rw [ez_2457]; rfl) (by decide) rfl (fun ls hl => ?_)
                      refine lv_goto (tgt := 56) hx hb dX3_looksNeeded_103 (by decide) ?_
                      exact ih_2441 z_2457 z_2456 (by omega) (by omega) (by omega) (by omega) (by omega) (by omega) (by omega) (by omega) (by omega) (by omega) _ _ hP hD hS ls (lv_sub hl [0, 1, 2, 3] rfl)
          exact lp_2440 _ 0 1 (by have := tI_0; have := tI_1; omega) (by have := tI_0; have := tI_1; omega) (by have := tI_0; have := tI_1; omega) (by have := tI_0; have := tI_1; omega) (by have := tI_0; have := tI_1; omega) (by have := tI_0; have := tI_1; omega) (by have := tI_0; have := tI_1; omega) (by have := tI_0; have := tI_1; omega) (by have := tI_0; have := tI_1; omega) (Nat.lt_succ_self _) _ _ hP hD hS ls (lv_sub hl [0, 1, 2, 3] rfl)
        · have c_2172 : g_2.toInt < 0 := f_nle tI_0 rfl c_2172
          refine lv_iconst (v := 0) hx hb dX3_looksNeeded_50 (by decide) ?_
          rw [hQ0]
          exact W.iret (v := 0) hx hb hr (fun t ht hW => ⟨⟨0, (), rfl, ⟨by decide, by decide⟩, ⟨by rw [ht]; exact hP, hD⟩⟩, hS.F ht⟩) hS.2.2 dX3_looksNeeded_51
      · have c_2171 : g_1.toInt < jc_55.toInt := f_nle rfl rfl c_2171
        refine lv_aload_n hx hb dX3_looksNeeded_12 rfl (lv_at hl 2 rfl) ?_
        refine lv_iload_n hx hb dX3_looksNeeded_13 rfl (lv_at hl 0 rfl) ?_
        have hpm : List.Perm ([[(h0, .inr (2, [.ref pl0, .int fr_36, .int dr_39, .int rc_42, .ref (r0 0), .ref (r0 1), .int gn_48, .ref (r0 2), .ref (r0 3), .ref (r0 4), .ref (r0 5), .ref (r0 6), .long sc_54, .int jc_55, .ref (r0 7), .ref (r0 8)])), (r0 0, .inl (cI, 10, .inl f_45)), (r0 1, .inl (cI, 10, .inl f_47)), (r0 2, .inl (cI, 6, .inl f_49)), (r0 3, .inl (cJ, 6, .inr (.inl f_50))), (r0 4, .inl (cJ, 6, .inr (.inl f_51))), (r0 5, .inl (cJ, 6, .inr (.inl f_52))), (r0 6, .inl (cJ, 10, .inr (.inl f_53))), (r0 7, .inl (cI, 70, .inl f_58)), (r0 8, .inl (cI, 70, .inl f_60))], w1] : List va_W) (([[(h0, .inr (2, [.ref pl0, .int fr_36, .int dr_39, .int rc_42, .ref (r0 0), .ref (r0 1), .int gn_48, .ref (r0 2), .ref (r0 3), .ref (r0 4), .ref (r0 5), .ref (r0 6), .long sc_54, .int jc_55, .ref (r0 7), .ref (r0 8)])), (r0 0, .inl (cI, 10, .inl f_45)), (r0 1, .inl (cI, 10, .inl f_47)), (r0 2, .inl (cI, 6, .inl f_49)), (r0 3, .inl (cJ, 6, .inr (.inl f_50))), (r0 4, .inl (cJ, 6, .inr (.inl f_51))), (r0 5, .inl (cJ, 6, .inr (.inl f_52))), (r0 6, .inl (cJ, 10, .inr (.inl f_53))), (r0 7, .inl (cI, 70, .inl f_58)), (r0 8, .inl (cI, 70, .inl f_60))], w1] : List va_W) ++ ([] : List va_W)) := pm_n 2 [0, 1] (by decide) rfl rfl
        have hPc := bk_P hpm hP
        have hDc := bk_D hpm hD
        have hFc := bk_F hpm hD hS hA
        refine va_calli (va_runV (As := [.int g_1]) (rest := []) ⟨hx, hb, hml, hown, hts⟩ (c_X3_isBeyond l dC dI ad tN fN cB cI cJ cZ h0 g_1 r0 pl0 _ r1 fc1 dc1 rk1 _ ⟨fr_36, dr_39, rc_42, f_45, f_47, gn_48, f_49, f_50, f_51, f_52, f_53, sc_54, jc_55, f_58, f_60, rfl, by omega, by omega, by omega, by omega, by omega, by omega, hr_46, by omega, by omega, hr_59, hr_61⟩ o1 H.size (by omega) (by omega)) (cwV 1 hts gX3_looksNeeded_X3_isBeyond rfl rfl rfl (by decide +kernel) ⟨(Nat.le_of_ble_eq_true rfl), (Nat.le_of_ble_eq_true rfl)⟩) ⟨fun a U g mk q => by obtain ⟨q0, q1, qP, qK, qD, qE⟩ := q; exact ⟨q0, q1, qP, va_K.moved (u := U) (U := U.calling g mk a) (Vm.Alike.refl U.vm) qK, qD, ey_blind qE⟩, va_recv hK hPc (ci := 2) (q0 := 0) rfl rfl, fun U hU hW => ⟨rfl, by rw [hU], by rw [hU]; exact hPc, va_K.moved hW.alike hK, hDc.weaken (fun _ _ _ _ => trivial), ey_call hE hS hFc hU hW⟩⟩ rfl rfl hl.1 rfl (lv_room (Nat.le_of_ble_eq_true rfl)) dX3_looksNeeded_14 ⟨(Nat.le_of_ble_eq_true rfl), (Nat.le_of_ble_eq_true rfl)⟩) hS (fun q _ h => hFc q h) hFc (fun r_2458 u t H locs ht hvm hw hB hz1 hk1 hS => ?_)
        obtain ⟨hP1, hD1⟩ := hB
        rw [ht] at hP1
        obtain ⟨hP, hD⟩ := bk_join hpm hP hD hk1 hFc (Cs1 := [[(h0, .inr (2, [.ref pl0, .int fr_36, .int dr_39, .int rc_42, .ref (r0 0), .ref (r0 1), .int gn_48, .ref (r0 2), .ref (r0 3), .ref (r0 4), .ref (r0 5), .ref (r0 6), .long sc_54, .int jc_55, .ref (r0 7), .ref (r0 8)])), (r0 0, .inl (cI, 10, .inl f_45)), (r0 1, .inl (cI, 10, .inl f_47)), (r0 2, .inl (cI, 6, .inl f_49)), (r0 3, .inl (cJ, 6, .inr (.inl f_50))), (r0 4, .inl (cJ, 6, .inr (.inl f_51))), (r0 5, .inl (cJ, 6, .inr (.inl f_52))), (r0 6, .inl (cJ, 10, .inr (.inl f_53))), (r0 7, .inl (cI, 70, .inl f_58)), (r0 8, .inl (cI, 70, .inl f_60))], w1]) hP1 hD1
        have hpm2 : List.Perm (([[(h0, .inr (2, [.ref pl0, .int fr_36, .int dr_39, .int rc_42, .ref (r0 0), .ref (r0 1), .int gn_48, .ref (r0 2), .ref (r0 3), .ref (r0 4), .ref (r0 5), .ref (r0 6), .long sc_54, .int jc_55, .ref (r0 7), .ref (r0 8)])), (r0 0, .inl (cI, 10, .inl f_45)), (r0 1, .inl (cI, 10, .inl f_47)), (r0 2, .inl (cI, 6, .inl f_49)), (r0 3, .inl (cJ, 6, .inr (.inl f_50))), (r0 4, .inl (cJ, 6, .inr (.inl f_51))), (r0 5, .inl (cJ, 6, .inr (.inl f_52))), (r0 6, .inl (cJ, 10, .inr (.inl f_53))), (r0 7, .inl (cI, 70, .inl f_58)), (r0 8, .inl (cI, 70, .inl f_60))], w1] : List va_W) ++ ([] : List va_W)) ([[(h0, .inr (2, [.ref pl0, .int fr_36, .int dr_39, .int rc_42, .ref (r0 0), .ref (r0 1), .int gn_48, .ref (r0 2), .ref (r0 3), .ref (r0 4), .ref (r0 5), .ref (r0 6), .long sc_54, .int jc_55, .ref (r0 7), .ref (r0 8)])), (r0 0, .inl (cI, 10, .inl f_45)), (r0 1, .inl (cI, 10, .inl f_47)), (r0 2, .inl (cI, 6, .inl f_49)), (r0 3, .inl (cJ, 6, .inr (.inl f_50))), (r0 4, .inl (cJ, 6, .inr (.inl f_51))), (r0 5, .inl (cJ, 6, .inr (.inl f_52))), (r0 6, .inl (cJ, 10, .inr (.inl f_53))), (r0 7, .inl (cI, 70, .inl f_58)), (r0 8, .inl (cI, 70, .inl f_60))], w1] : List va_W) := pm_n 2 [0, 1] (by decide) rfl rfl
        have hP := bk_reP hpm2 hP
        have hD := bk_reD hpm2 hD
        have hP : va_P (dC, dI) vwCl (List.flatten [[(h0, .inr (2, [.ref pl0, .int fr_36, .int dr_39, .int rc_42, .ref (r0 0), .ref (r0 1), .int gn_48, .ref (r0 2), .ref (r0 3), .ref (r0 4), .ref (r0 5), .ref (r0 6), .long sc_54, .int jc_55, .ref (r0 7), .ref (r0 8)])), (r0 0, .inl (cI, 10, .inl f_45)), (r0 1, .inl (cI, 10, .inl f_47)), (r0 2, .inl (cI, 6, .inl f_49)), (r0 3, .inl (cJ, 6, .inr (.inl f_50))), (r0 4, .inl (cJ, 6, .inr (.inl f_51))), (r0 5, .inl (cJ, 6, .inr (.inl f_52))), (r0 6, .inl (cJ, 10, .inr (.inl f_53))), (r0 7, .inl (cI, 70, .inl f_58)), (r0 8, .inl (cI, 70, .inl f_60))], w1]) H := hP
        have hD : va_D A (List.flatten [[(h0, .inr (2, [.ref pl0, .int fr_36, .int dr_39, .int rc_42, .ref (r0 0), .ref (r0 1), .int gn_48, .ref (r0 2), .ref (r0 3), .ref (r0 4), .ref (r0 5), .ref (r0 6), .long sc_54, .int jc_55, .ref (r0 7), .ref (r0 8)])), (r0 0, .inl (cI, 10, .inl f_45)), (r0 1, .inl (cI, 10, .inl f_47)), (r0 2, .inl (cI, 6, .inl f_49)), (r0 3, .inl (cJ, 6, .inr (.inl f_50))), (r0 4, .inl (cJ, 6, .inr (.inl f_51))), (r0 5, .inl (cJ, 6, .inr (.inl f_52))), (r0 6, .inl (cJ, 10, .inr (.inl f_53))), (r0 7, .inl (cI, 70, .inl f_58)), (r0 8, .inl (cI, 70, .inl f_60))], w1]) := hD
        obtain ⟨hlr_2458, hhr_2458⟩ := hw
        refine lv_if_eq (tgt := 40) hx hb dX3_looksNeeded_17 (by decide) (fun c_2459 => ?_) (fun c_2459 => ?_)
        · have c_2459 : r_2458.toInt = 0 := f_eq rfl tI_0 c_2459
          obtain ⟨z_2460, ez_2460⟩ : ∃ y : Int32, y = g_1 + 1 := ⟨_, rfl⟩
          have hz_2460 : z_2460.toInt = g_1.toInt + 1 := by rw [ez_2460]; exact t_add rfl tI_1 (by omega) (by omega)
          refine lv_iinc (v := z_2460) (lv' := [(2, .int z_2460), (1, .int g_2), (0, .ref h0)]) hx hb dX3_looksNeeded_40 hl (k := 0) rfl (by rw [ez_2460]; rfl) (by decide) rfl (fun ls hl => ?_)
          refine lv_goto (tgt := 4) hx hb dX3_looksNeeded_43 (by decide) ?_
          exact ih_2170 z_2460 g_2 (by omega) (by omega) (by omega) (by omega) (by omega) (by omega) (by omega) (by omega) _ _ hP hD hS ls (lv_sub hl [0, 1, 2] rfl)
        · have c_2459 : ¬ r_2458.toInt = 0 := f_ne rfl tI_0 c_2459
          refine lv_iload_n hx hb dX3_looksNeeded_20 rfl (lv_at hl 1 rfl) ?_
          refine lv_if_lt (tgt := 38) hx hb dX3_looksNeeded_21 (by decide) (fun c_2461 => ?_) (fun c_2461 => ?_)
          · have c_2461 : g_2.toInt < 0 := f_lt rfl tI_0 c_2461
            refine lv_iload_n hx hb dX3_looksNeeded_38 rfl (lv_at hl 0 rfl) ?_
            refine lv_istore_n (lv' := [(1, .int g_1), (2, .int g_1), (0, .ref h0)]) hx hb dX3_looksNeeded_39 rfl hl (by decide) rfl (fun ls hl => ?_)
            obtain ⟨z_2462, ez_2462⟩ : ∃ y : Int32, y = g_1 + 1 := ⟨_, rfl⟩
            have hz_2462 : z_2462.toInt = g_1.toInt + 1 := by rw [ez_2462]; exact t_add rfl tI_1 (by omega) (by omega)
            refine lv_iinc (v := z_2462) (lv' := [(2, .int z_2462), (1, .int g_1), (0, .ref h0)]) hx hb dX3_looksNeeded_40 hl (k := 1) rfl (by rw [ez_2462]; rfl) (by decide) rfl (fun ls hl => ?_)
            refine lv_goto (tgt := 4) hx hb dX3_looksNeeded_43 (by decide) ?_
            exact ih_2170 z_2462 g_1 (by omega) (by omega) (by omega) (by omega) (by omega) (by omega) (by omega) (by omega) _ _ hP hD hS ls (lv_sub hl [0, 1, 2] rfl)
          · have c_2461 : 0 ≤ g_2.toInt := f_nlt rfl tI_0 c_2461
            refine lv_aload_n hx hb dX3_looksNeeded_24 rfl (lv_at hl 2 rfl) ?_
            refine lv_iload_n hx hb dX3_looksNeeded_25 rfl (lv_at hl 0 rfl) ?_
            have hpm : List.Perm ([[(h0, .inr (2, [.ref pl0, .int fr_36, .int dr_39, .int rc_42, .ref (r0 0), .ref (r0 1), .int gn_48, .ref (r0 2), .ref (r0 3), .ref (r0 4), .ref (r0 5), .ref (r0 6), .long sc_54, .int jc_55, .ref (r0 7), .ref (r0 8)])), (r0 0, .inl (cI, 10, .inl f_45)), (r0 1, .inl (cI, 10, .inl f_47)), (r0 2, .inl (cI, 6, .inl f_49)), (r0 3, .inl (cJ, 6, .inr (.inl f_50))), (r0 4, .inl (cJ, 6, .inr (.inl f_51))), (r0 5, .inl (cJ, 6, .inr (.inl f_52))), (r0 6, .inl (cJ, 10, .inr (.inl f_53))), (r0 7, .inl (cI, 70, .inl f_58)), (r0 8, .inl (cI, 70, .inl f_60))], w1] : List va_W) (([[(h0, .inr (2, [.ref pl0, .int fr_36, .int dr_39, .int rc_42, .ref (r0 0), .ref (r0 1), .int gn_48, .ref (r0 2), .ref (r0 3), .ref (r0 4), .ref (r0 5), .ref (r0 6), .long sc_54, .int jc_55, .ref (r0 7), .ref (r0 8)])), (r0 0, .inl (cI, 10, .inl f_45)), (r0 1, .inl (cI, 10, .inl f_47)), (r0 2, .inl (cI, 6, .inl f_49)), (r0 3, .inl (cJ, 6, .inr (.inl f_50))), (r0 4, .inl (cJ, 6, .inr (.inl f_51))), (r0 5, .inl (cJ, 6, .inr (.inl f_52))), (r0 6, .inl (cJ, 10, .inr (.inl f_53))), (r0 7, .inl (cI, 70, .inl f_58)), (r0 8, .inl (cI, 70, .inl f_60))]] : List va_W) ++ ([w1] : List va_W)) := pm_n 2 [0, 1] (by decide) rfl rfl
            have hPc := bk_P hpm hP
            have hDc := bk_D hpm hD
            have hFc := bk_F hpm hD hS hA
            refine va_calll (va_runV (As := [.int g_1]) (rest := []) ⟨hx, hb, hml, hown, hts⟩ (c_X3_bornBy l dC dI ad tN fN cB cI cJ cZ h0 g_1 r0 pl0 _ ⟨fr_36, dr_39, rc_42, f_45, f_47, gn_48, f_49, f_50, f_51, f_52, f_53, sc_54, jc_55, f_58, f_60, rfl, by omega, by omega, by omega, by omega, by omega, by omega, hr_46, by omega, by omega, hr_59, hr_61⟩ H.size (by omega) (by omega)) (cwV 1 hts gX3_looksNeeded_X3_bornBy rfl rfl rfl (by decide +kernel) ⟨(Nat.le_of_ble_eq_true rfl), (Nat.le_of_ble_eq_true rfl)⟩) ⟨fun a U g mk q => by obtain ⟨q0, q1, qP, qK, qD, qE⟩ := q; exact ⟨q0, q1, qP, va_K.moved (u := U) (U := U.calling g mk a) (Vm.Alike.refl U.vm) qK, qD, ey_blind qE⟩, va_recv hK hPc (ci := 2) (q0 := 0) rfl rfl, fun U hU hW => ⟨rfl, by rw [hU], by rw [hU]; exact hPc, va_K.moved hW.alike hK, hDc.weaken (fun _ _ _ _ => trivial), ey_call hE hS hFc hU hW⟩⟩ rfl rfl hl.1 rfl (lv_room (Nat.le_of_ble_eq_true rfl)) dX3_looksNeeded_26 ⟨(Nat.le_of_ble_eq_true rfl), (Nat.le_of_ble_eq_true rfl)⟩) hS (fun q _ h => hFc q h) hFc (fun r_2463 u t H locs ht hvm hw hB hz1 hk1 hS => ?_)
            obtain ⟨hP1, hD1⟩ := hB
            rw [ht] at hP1
            obtain ⟨hP, hD⟩ := bk_join hpm hP hD hk1 hFc (Cs1 := [[(h0, .inr (2, [.ref pl0, .int fr_36, .int dr_39, .int rc_42, .ref (r0 0), .ref (r0 1), .int gn_48, .ref (r0 2), .ref (r0 3), .ref (r0 4), .ref (r0 5), .ref (r0 6), .long sc_54, .int jc_55, .ref (r0 7), .ref (r0 8)])), (r0 0, .inl (cI, 10, .inl f_45)), (r0 1, .inl (cI, 10, .inl f_47)), (r0 2, .inl (cI, 6, .inl f_49)), (r0 3, .inl (cJ, 6, .inr (.inl f_50))), (r0 4, .inl (cJ, 6, .inr (.inl f_51))), (r0 5, .inl (cJ, 6, .inr (.inl f_52))), (r0 6, .inl (cJ, 10, .inr (.inl f_53))), (r0 7, .inl (cI, 70, .inl f_58)), (r0 8, .inl (cI, 70, .inl f_60))]]) hP1 hD1
            have hpm2 : List.Perm (([[(h0, .inr (2, [.ref pl0, .int fr_36, .int dr_39, .int rc_42, .ref (r0 0), .ref (r0 1), .int gn_48, .ref (r0 2), .ref (r0 3), .ref (r0 4), .ref (r0 5), .ref (r0 6), .long sc_54, .int jc_55, .ref (r0 7), .ref (r0 8)])), (r0 0, .inl (cI, 10, .inl f_45)), (r0 1, .inl (cI, 10, .inl f_47)), (r0 2, .inl (cI, 6, .inl f_49)), (r0 3, .inl (cJ, 6, .inr (.inl f_50))), (r0 4, .inl (cJ, 6, .inr (.inl f_51))), (r0 5, .inl (cJ, 6, .inr (.inl f_52))), (r0 6, .inl (cJ, 10, .inr (.inl f_53))), (r0 7, .inl (cI, 70, .inl f_58)), (r0 8, .inl (cI, 70, .inl f_60))]] : List va_W) ++ ([w1] : List va_W)) ([[(h0, .inr (2, [.ref pl0, .int fr_36, .int dr_39, .int rc_42, .ref (r0 0), .ref (r0 1), .int gn_48, .ref (r0 2), .ref (r0 3), .ref (r0 4), .ref (r0 5), .ref (r0 6), .long sc_54, .int jc_55, .ref (r0 7), .ref (r0 8)])), (r0 0, .inl (cI, 10, .inl f_45)), (r0 1, .inl (cI, 10, .inl f_47)), (r0 2, .inl (cI, 6, .inl f_49)), (r0 3, .inl (cJ, 6, .inr (.inl f_50))), (r0 4, .inl (cJ, 6, .inr (.inl f_51))), (r0 5, .inl (cJ, 6, .inr (.inl f_52))), (r0 6, .inl (cJ, 10, .inr (.inl f_53))), (r0 7, .inl (cI, 70, .inl f_58)), (r0 8, .inl (cI, 70, .inl f_60))], w1] : List va_W) := pm_n 2 [0, 1] (by decide) rfl rfl
            have hP := bk_reP hpm2 hP
            have hD := bk_reD hpm2 hD
            have hP : va_P (dC, dI) vwCl (List.flatten [[(h0, .inr (2, [.ref pl0, .int fr_36, .int dr_39, .int rc_42, .ref (r0 0), .ref (r0 1), .int gn_48, .ref (r0 2), .ref (r0 3), .ref (r0 4), .ref (r0 5), .ref (r0 6), .long sc_54, .int jc_55, .ref (r0 7), .ref (r0 8)])), (r0 0, .inl (cI, 10, .inl f_45)), (r0 1, .inl (cI, 10, .inl f_47)), (r0 2, .inl (cI, 6, .inl f_49)), (r0 3, .inl (cJ, 6, .inr (.inl f_50))), (r0 4, .inl (cJ, 6, .inr (.inl f_51))), (r0 5, .inl (cJ, 6, .inr (.inl f_52))), (r0 6, .inl (cJ, 10, .inr (.inl f_53))), (r0 7, .inl (cI, 70, .inl f_58)), (r0 8, .inl (cI, 70, .inl f_60))], w1]) H := hP
            have hD : va_D A (List.flatten [[(h0, .inr (2, [.ref pl0, .int fr_36, .int dr_39, .int rc_42, .ref (r0 0), .ref (r0 1), .int gn_48, .ref (r0 2), .ref (r0 3), .ref (r0 4), .ref (r0 5), .ref (r0 6), .long sc_54, .int jc_55, .ref (r0 7), .ref (r0 8)])), (r0 0, .inl (cI, 10, .inl f_45)), (r0 1, .inl (cI, 10, .inl f_47)), (r0 2, .inl (cI, 6, .inl f_49)), (r0 3, .inl (cJ, 6, .inr (.inl f_50))), (r0 4, .inl (cJ, 6, .inr (.inl f_51))), (r0 5, .inl (cJ, 6, .inr (.inl f_52))), (r0 6, .inl (cJ, 10, .inr (.inl f_53))), (r0 7, .inl (cI, 70, .inl f_58)), (r0 8, .inl (cI, 70, .inl f_60))], w1]) := hD
            refine lv_aload_n hx hb dX3_looksNeeded_29 rfl (lv_at hl 2 rfl) ?_
            refine lv_iload_n hx hb dX3_looksNeeded_30 rfl (lv_at hl 1 rfl) ?_
            have hpm : List.Perm ([[(h0, .inr (2, [.ref pl0, .int fr_36, .int dr_39, .int rc_42, .ref (r0 0), .ref (r0 1), .int gn_48, .ref (r0 2), .ref (r0 3), .ref (r0 4), .ref (r0 5), .ref (r0 6), .long sc_54, .int jc_55, .ref (r0 7), .ref (r0 8)])), (r0 0, .inl (cI, 10, .inl f_45)), (r0 1, .inl (cI, 10, .inl f_47)), (r0 2, .inl (cI, 6, .inl f_49)), (r0 3, .inl (cJ, 6, .inr (.inl f_50))), (r0 4, .inl (cJ, 6, .inr (.inl f_51))), (r0 5, .inl (cJ, 6, .inr (.inl f_52))), (r0 6, .inl (cJ, 10, .inr (.inl f_53))), (r0 7, .inl (cI, 70, .inl f_58)), (r0 8, .inl (cI, 70, .inl f_60))], w1] : List va_W) (([[(h0, .inr (2, [.ref pl0, .int fr_36, .int dr_39, .int rc_42, .ref (r0 0), .ref (r0 1), .int gn_48, .ref (r0 2), .ref (r0 3), .ref (r0 4), .ref (r0 5), .ref (r0 6), .long sc_54, .int jc_55, .ref (r0 7), .ref (r0 8)])), (r0 0, .inl (cI, 10, .inl f_45)), (r0 1, .inl (cI, 10, .inl f_47)), (r0 2, .inl (cI, 6, .inl f_49)), (r0 3, .inl (cJ, 6, .inr (.inl f_50))), (r0 4, .inl (cJ, 6, .inr (.inl f_51))), (r0 5, .inl (cJ, 6, .inr (.inl f_52))), (r0 6, .inl (cJ, 10, .inr (.inl f_53))), (r0 7, .inl (cI, 70, .inl f_58)), (r0 8, .inl (cI, 70, .inl f_60))]] : List va_W) ++ ([w1] : List va_W)) := pm_n 2 [0, 1] (by decide) rfl rfl
            have hPc := bk_P hpm hP
            have hDc := bk_D hpm hD
            have hFc := bk_F hpm hD hS hA
            refine va_calll (va_runV (As := [.int g_2]) (rest := [.long r_2463]) ⟨hx, hb, hml, hown, hts⟩ (c_X3_bornBy l dC dI ad tN fN cB cI cJ cZ h0 g_2 r0 pl0 _ ⟨fr_36, dr_39, rc_42, f_45, f_47, gn_48, f_49, f_50, f_51, f_52, f_53, sc_54, jc_55, f_58, f_60, rfl, by omega, by omega, by omega, by omega, by omega, by omega, hr_46, by omega, by omega, hr_59, hr_61⟩ H.size (by omega) (by omega)) (cwV 1 hts gX3_looksNeeded_X3_bornBy rfl rfl rfl (by decide +kernel) ⟨(Nat.le_of_ble_eq_true rfl), (Nat.le_of_ble_eq_true rfl)⟩) ⟨fun a U g mk q => by obtain ⟨q0, q1, qP, qK, qD, qE⟩ := q; exact ⟨q0, q1, qP, va_K.moved (u := U) (U := U.calling g mk a) (Vm.Alike.refl U.vm) qK, qD, ey_blind qE⟩, va_recv hK hPc (ci := 2) (q0 := 0) rfl rfl, fun U hU hW => ⟨rfl, by rw [hU], by rw [hU]; exact hPc, va_K.moved hW.alike hK, hDc.weaken (fun _ _ _ _ => trivial), ey_call hE hS hFc hU hW⟩⟩ rfl rfl hl.1 rfl (lv_room (Nat.le_of_ble_eq_true rfl)) dX3_looksNeeded_31 ⟨(Nat.le_of_ble_eq_true rfl), (Nat.le_of_ble_eq_true rfl)⟩) hS (fun q _ h => hFc q h) hFc (fun r_2464 u t H locs ht hvm hw hB hz1 hk1 hS => ?_)
            obtain ⟨hP1, hD1⟩ := hB
            rw [ht] at hP1
            obtain ⟨hP, hD⟩ := bk_join hpm hP hD hk1 hFc (Cs1 := [[(h0, .inr (2, [.ref pl0, .int fr_36, .int dr_39, .int rc_42, .ref (r0 0), .ref (r0 1), .int gn_48, .ref (r0 2), .ref (r0 3), .ref (r0 4), .ref (r0 5), .ref (r0 6), .long sc_54, .int jc_55, .ref (r0 7), .ref (r0 8)])), (r0 0, .inl (cI, 10, .inl f_45)), (r0 1, .inl (cI, 10, .inl f_47)), (r0 2, .inl (cI, 6, .inl f_49)), (r0 3, .inl (cJ, 6, .inr (.inl f_50))), (r0 4, .inl (cJ, 6, .inr (.inl f_51))), (r0 5, .inl (cJ, 6, .inr (.inl f_52))), (r0 6, .inl (cJ, 10, .inr (.inl f_53))), (r0 7, .inl (cI, 70, .inl f_58)), (r0 8, .inl (cI, 70, .inl f_60))]]) hP1 hD1
            have hpm2 : List.Perm (([[(h0, .inr (2, [.ref pl0, .int fr_36, .int dr_39, .int rc_42, .ref (r0 0), .ref (r0 1), .int gn_48, .ref (r0 2), .ref (r0 3), .ref (r0 4), .ref (r0 5), .ref (r0 6), .long sc_54, .int jc_55, .ref (r0 7), .ref (r0 8)])), (r0 0, .inl (cI, 10, .inl f_45)), (r0 1, .inl (cI, 10, .inl f_47)), (r0 2, .inl (cI, 6, .inl f_49)), (r0 3, .inl (cJ, 6, .inr (.inl f_50))), (r0 4, .inl (cJ, 6, .inr (.inl f_51))), (r0 5, .inl (cJ, 6, .inr (.inl f_52))), (r0 6, .inl (cJ, 10, .inr (.inl f_53))), (r0 7, .inl (cI, 70, .inl f_58)), (r0 8, .inl (cI, 70, .inl f_60))]] : List va_W) ++ ([w1] : List va_W)) ([[(h0, .inr (2, [.ref pl0, .int fr_36, .int dr_39, .int rc_42, .ref (r0 0), .ref (r0 1), .int gn_48, .ref (r0 2), .ref (r0 3), .ref (r0 4), .ref (r0 5), .ref (r0 6), .long sc_54, .int jc_55, .ref (r0 7), .ref (r0 8)])), (r0 0, .inl (cI, 10, .inl f_45)), (r0 1, .inl (cI, 10, .inl f_47)), (r0 2, .inl (cI, 6, .inl f_49)), (r0 3, .inl (cJ, 6, .inr (.inl f_50))), (r0 4, .inl (cJ, 6, .inr (.inl f_51))), (r0 5, .inl (cJ, 6, .inr (.inl f_52))), (r0 6, .inl (cJ, 10, .inr (.inl f_53))), (r0 7, .inl (cI, 70, .inl f_58)), (r0 8, .inl (cI, 70, .inl f_60))], w1] : List va_W) := pm_n 2 [0, 1] (by decide) rfl rfl
            have hP := bk_reP hpm2 hP
            have hD := bk_reD hpm2 hD
            have hP : va_P (dC, dI) vwCl (List.flatten [[(h0, .inr (2, [.ref pl0, .int fr_36, .int dr_39, .int rc_42, .ref (r0 0), .ref (r0 1), .int gn_48, .ref (r0 2), .ref (r0 3), .ref (r0 4), .ref (r0 5), .ref (r0 6), .long sc_54, .int jc_55, .ref (r0 7), .ref (r0 8)])), (r0 0, .inl (cI, 10, .inl f_45)), (r0 1, .inl (cI, 10, .inl f_47)), (r0 2, .inl (cI, 6, .inl f_49)), (r0 3, .inl (cJ, 6, .inr (.inl f_50))), (r0 4, .inl (cJ, 6, .inr (.inl f_51))), (r0 5, .inl (cJ, 6, .inr (.inl f_52))), (r0 6, .inl (cJ, 10, .inr (.inl f_53))), (r0 7, .inl (cI, 70, .inl f_58)), (r0 8, .inl (cI, 70, .inl f_60))], w1]) H := hP
            have hD : va_D A (List.flatten [[(h0, .inr (2, [.ref pl0, .int fr_36, .int dr_39, .int rc_42, .ref (r0 0), .ref (r0 1), .int gn_48, .ref (r0 2), .ref (r0 3), .ref (r0 4), .ref (r0 5), .ref (r0 6), .long sc_54, .int jc_55, .ref (r0 7), .ref (r0 8)])), (r0 0, .inl (cI, 10, .inl f_45)), (r0 1, .inl (cI, 10, .inl f_47)), (r0 2, .inl (cI, 6, .inl f_49)), (r0 3, .inl (cJ, 6, .inr (.inl f_50))), (r0 4, .inl (cJ, 6, .inr (.inl f_51))), (r0 5, .inl (cJ, 6, .inr (.inl f_52))), (r0 6, .inl (cJ, 10, .inr (.inl f_53))), (r0 7, .inl (cI, 70, .inl f_58)), (r0 8, .inl (cI, 70, .inl f_60))], w1]) := hD
            refine W.lcmp hx hb dX3_looksNeeded_34 ?_
            refine lv_topi (fun z_2465 ez_2465 => ?_)
            refine lv_if_le (tgt := 40) hx hb dX3_looksNeeded_35 (by decide) (fun c_2466 => ?_) (fun c_2466 => ?_)
            · have c_2466 : z_2465.toInt ≤ 0 := f_le rfl tI_0 c_2466
              obtain ⟨z_2467, ez_2467⟩ : ∃ y : Int32, y = g_1 + 1 := ⟨_, rfl⟩
              have hz_2467 : z_2467.toInt = g_1.toInt + 1 := by rw [ez_2467]; exact t_add rfl tI_1 (by omega) (by omega)
              refine lv_iinc (v := z_2467) (lv' := [(2, .int z_2467), (1, .int g_2), (0, .ref h0)]) hx hb dX3_looksNeeded_40 hl (k := 0) rfl (by rw [ez_2467]; rfl) (by decide) rfl (fun ls hl => ?_)
              refine lv_goto (tgt := 4) hx hb dX3_looksNeeded_43 (by decide) ?_
              exact ih_2170 z_2467 g_2 (by omega) (by omega) (by omega) (by omega) (by omega) (by omega) (by omega) (by omega) _ _ hP hD hS ls (lv_sub hl [0, 1, 2] rfl)
            · have c_2466 : 0 < z_2465.toInt := f_nle rfl tI_0 c_2466
              refine lv_iload_n hx hb dX3_looksNeeded_38 rfl (lv_at hl 0 rfl) ?_
              refine lv_istore_n (lv' := [(1, .int g_1), (2, .int g_1), (0, .ref h0)]) hx hb dX3_looksNeeded_39 rfl hl (by decide) rfl (fun ls hl => ?_)
              obtain ⟨z_2468, ez_2468⟩ : ∃ y : Int32, y = g_1 + 1 := ⟨_, rfl⟩
              have hz_2468 : z_2468.toInt = g_1.toInt + 1 := by rw [ez_2468]; exact t_add rfl tI_1 (by omega) (by omega)
              refine lv_iinc (v := z_2468) (lv' := [(2, .int z_2468), (1, .int g_1), (0, .ref h0)]) hx hb dX3_looksNeeded_40 hl (k := 1) rfl (by rw [ez_2468]; rfl) (by decide) rfl (fun ls hl => ?_)
              refine lv_goto (tgt := 4) hx hb dX3_looksNeeded_43 (by decide) ?_
              exact ih_2170 z_2468 g_1 (by omega) (by omega) (by omega) (by omega) (by omega) (by omega) (by omega) (by omega) _ _ hP hD hS ls (lv_sub hl [0, 1, 2] rfl)
  exact lp_2169 _ 0 (-1) (by have := tI_m1; have := tI_0; omega) (by have := tI_m1; have := tI_0; omega) (by have := tI_m1; have := tI_0; omega) (by have := tI_m1; have := tI_0; omega) (by have := tI_m1; have := tI_0; omega) (by have := tI_m1; have := tI_0; omega) (by have := tI_m1; have := tI_0; omega) (Nat.lt_succ_self _) _ _ hP hD hS ls (lv_sub hl [0, 1, 2] rfl)
set_option maxHeartbeats 4000000 in
set_option maxRecDepth 100000 in
theorem c_J6_bitCount_0f7a4 (l : Launch) (dC : Nat → ClassId) (dI : Nat → Nat → Nat) (ad : Nat → Nat) (tN : Nat) (fN : Nat → Int64) (cB cI cJ cZ : ClassId) (p1 : Int32) (sz : Nat) : Met l yJ6_bitCount_0f7a4 wsJ6_bitCount_0f7a4 ({ frames := 0, cells := 0, slots := 0, locals := 0 } : Room) (va_Pc [.int p1] (fun U => U.heap.size = sz ∧ va_P (dC, dI) vwCl (List.flatten []) U.heap ∧ va_K (dC, dI) vwCl [(cB, .byte), (cI, .int), (cJ, .long), (cZ, .boolean)] U ∧ va_D (fun _ => True) (List.flatten []) ∧ ex_Y ad tN fN (va_A (List.flatten []) sz) U)) (va_Qi (fun (r : Int32) (_ : Unit) => True) (fun (_ : Unit) (t : State) => va_P (dC, dI) vwCl (List.flatten []) t.heap ∧ va_D (va_A (List.flatten []) sz) (List.flatten [])) (va_A (List.flatten []) sz)) 0 0 (va_A (List.flatten []) sz) := by
  refine Met.ofW (cc := cJ6_bitCount_0f7a4) (maxL := 1) (ret := (some .int)) (by decide) rfl ?_
  intro p e s m args below meth c s₁ B hml hv
  obtain ⟨rfl, hsz, hP, hK, hD0, hE⟩ := hv
  have hx := B.exec
  have hb := B.bytes
  have hr := B.returns
  have hts := atoms_spec (ws := wsJ6_bitCount_0f7a4) B.pre
  have hown : s.vm.findClass RJ6 = some m.cls := findClass_of_methodNamed B.named
  have hlocks := B.notSynchronized
  subst hsz
  have hD := hD0.self (sz := s.heap.size)
  generalize hAe : va_A (List.flatten []) s.heap.size = A at hD hE ⊢
  have hA : ∀ q : Nat, s.heap.size ≤ q → A q := fun q h => by rw [← hAe]; exact Or.inr h
  have hS : va_S A s.heap s.heap [] := va_S.rf
  have hl := lv_entry ([.int p1]) (n := 1) (Nat.le_of_ble_eq_true rfl)
  rw [lg_entry_eq]
  generalize (lg_sl ([.int p1]) ++ List.replicate (1 - (lg_sl ([.int p1])).length) Slot.unset).toArray = ls at hl ⊢
  have hl : lv_has ls 1 [(0, .int p1)] := hl
  clear hAe
  refine W_name (fun Q0 hQ0 => ?_)
  refine lv_iload_n hx hb dJ6_bitCount_0f7a4_0 rfl (lv_at hl 0 rfl) ?_
  refine lv_iload_n hx hb dJ6_bitCount_0f7a4_1 rfl (lv_at hl 0 rfl) ?_
  refine lv_iconst (v := 1) hx hb dJ6_bitCount_0f7a4_2 (by decide) ?_
  refine lv_iushr hx hb dJ6_bitCount_0f7a4_3 rfl ?_
  refine lv_topi (fun z_1 ez_1 => ?_)
  refine lv_ldcw hx hb hown (hts (.constant RJ6 265 (1431655765)) (by decide +kernel)) dJ6_bitCount_0f7a4_4 ?_
  refine lv_iand hx hb dJ6_bitCount_0f7a4_7 ?_
  refine lv_topi (fun z_2 ez_2 => ?_)
  refine lv_isub hx hb dJ6_bitCount_0f7a4_8 ?_
  refine lv_topi (fun z_3 ez_3 => ?_)
  refine lv_istore_n (lv' := [(0, .int z_3)]) hx hb dJ6_bitCount_0f7a4_9 rfl hl (by decide) rfl (fun ls hl => ?_)
  refine lv_iload_n hx hb dJ6_bitCount_0f7a4_10 rfl (lv_at hl 0 rfl) ?_
  refine lv_ldcw hx hb hown (hts (.constant RJ6 266 (858993459)) (by decide +kernel)) dJ6_bitCount_0f7a4_11 ?_
  refine lv_iand hx hb dJ6_bitCount_0f7a4_14 ?_
  refine lv_topi (fun z_4 ez_4 => ?_)
  refine lv_iload_n hx hb dJ6_bitCount_0f7a4_15 rfl (lv_at hl 0 rfl) ?_
  refine lv_iconst (v := 2) hx hb dJ6_bitCount_0f7a4_16 (by decide) ?_
  refine lv_iushr hx hb dJ6_bitCount_0f7a4_17 rfl ?_
  refine lv_topi (fun z_5 ez_5 => ?_)
  refine lv_ldcw hx hb hown (hts (.constant RJ6 266 (858993459)) (by decide +kernel)) dJ6_bitCount_0f7a4_18 ?_
  refine lv_iand hx hb dJ6_bitCount_0f7a4_21 ?_
  refine lv_topi (fun z_6 ez_6 => ?_)
  refine lv_iadd hx hb dJ6_bitCount_0f7a4_22 ?_
  refine lv_topi (fun z_7 ez_7 => ?_)
  refine lv_istore_n (lv' := [(0, .int z_7)]) hx hb dJ6_bitCount_0f7a4_23 rfl hl (by decide) rfl (fun ls hl => ?_)
  refine lv_iload_n hx hb dJ6_bitCount_0f7a4_24 rfl (lv_at hl 0 rfl) ?_
  refine lv_iload_n hx hb dJ6_bitCount_0f7a4_25 rfl (lv_at hl 0 rfl) ?_
  refine lv_iconst (v := 4) hx hb dJ6_bitCount_0f7a4_26 (by decide) ?_
  refine lv_iushr hx hb dJ6_bitCount_0f7a4_27 rfl ?_
  refine lv_topi (fun z_8 ez_8 => ?_)
  refine lv_iadd hx hb dJ6_bitCount_0f7a4_28 ?_
  refine lv_topi (fun z_9 ez_9 => ?_)
  refine lv_ldcw hx hb hown (hts (.constant RJ6 267 (252645135)) (by decide +kernel)) dJ6_bitCount_0f7a4_29 ?_
  refine lv_iand hx hb dJ6_bitCount_0f7a4_32 ?_
  refine lv_topi (fun z_10 ez_10 => ?_)
  refine lv_istore_n (lv' := [(0, .int z_10)]) hx hb dJ6_bitCount_0f7a4_33 rfl hl (by decide) rfl (fun ls hl => ?_)
  refine lv_iload_n hx hb dJ6_bitCount_0f7a4_34 rfl (lv_at hl 0 rfl) ?_
  refine lv_iload_n hx hb dJ6_bitCount_0f7a4_35 rfl (lv_at hl 0 rfl) ?_
  refine lv_bipush (v := 8) hx hb dJ6_bitCount_0f7a4_36 (by decide) ?_
  refine lv_iushr hx hb dJ6_bitCount_0f7a4_38 rfl ?_
  refine lv_topi (fun z_11 ez_11 => ?_)
  refine lv_iadd hx hb dJ6_bitCount_0f7a4_39 ?_
  refine lv_topi (fun z_12 ez_12 => ?_)
  refine lv_istore_n (lv' := [(0, .int z_12)]) hx hb dJ6_bitCount_0f7a4_40 rfl hl (by decide) rfl (fun ls hl => ?_)
  refine lv_iload_n hx hb dJ6_bitCount_0f7a4_41 rfl (lv_at hl 0 rfl) ?_
  refine lv_iload_n hx hb dJ6_bitCount_0f7a4_42 rfl (lv_at hl 0 rfl) ?_
  refine lv_bipush (v := 16) hx hb dJ6_bitCount_0f7a4_43 (by decide) ?_
  refine lv_iushr hx hb dJ6_bitCount_0f7a4_45 rfl ?_
  refine lv_topi (fun z_13 ez_13 => ?_)
  refine lv_iadd hx hb dJ6_bitCount_0f7a4_46 ?_
  refine lv_topi (fun z_14 ez_14 => ?_)
  refine lv_istore_n (lv' := [(0, .int z_14)]) hx hb dJ6_bitCount_0f7a4_47 rfl hl (by decide) rfl (fun ls hl => ?_)
  refine lv_iload_n hx hb dJ6_bitCount_0f7a4_48 rfl (lv_at hl 0 rfl) ?_
  refine lv_bipush (v := 63) hx hb dJ6_bitCount_0f7a4_49 (by decide) ?_
  refine lv_iand hx hb dJ6_bitCount_0f7a4_51 ?_
  refine lv_topi (fun z_15 ez_15 => ?_)
  rw [hQ0]
  exact W.iret (v := z_15) hx hb hr (fun t ht hW => ⟨⟨z_15, (), rfl, trivial, ⟨by rw [ht]; exact hP, hD⟩⟩, hS.F ht⟩) hS.2.2 dJ6_bitCount_0f7a4_52
theorem iw_X3_fewestToRoof_X3 : ∀ w ∈ wsX30, w ∈ wsX3_fewestToRoof := fun _ h => List.mem_cons_of_mem _ (List.mem_append_left _ (List.mem_append_right _ h))
set_option maxHeartbeats 4000000 in
set_option maxRecDepth 100000 in
theorem c_X3_fewestToRoof (l : Launch) (dC : Nat → ClassId) (dI : Nat → Nat → Nat) (ad : Nat → Nat) (tN : Nat) (fN : Nat → Int64) (cB cI cJ cZ : ClassId) (h0 : Nat) (r0 : Nat → Nat) (pl0 : Nat) (w0 : va_W) (r1 : Nat → Nat) (fc1 : Int32) (dc1 : Int32) (rk1 : Nat → Int32) (w1 : va_W) (o0 : ok_frame ad cB cI cJ cZ h0 r0 pl0 w0) (o1 : ok_plan ad cB cI cJ cZ pl0 r1 fc1 dc1 rk1 w1) (sz : Nat) : Met l yX3_fewestToRoof wsX3_fewestToRoof ({ frames := 3, cells := 0, slots := 0, locals := 67 } : Room) (va_Pc [.ref h0] (fun U => U.heap.size = sz ∧ va_P (dC, dI) vwCl (List.flatten [w0, w1]) U.heap ∧ va_K (dC, dI) vwCl [(cB, .byte), (cI, .int), (cJ, .long), (cZ, .boolean)] U ∧ va_D (fun _ => True) (List.flatten [w0, w1]) ∧ ex_Y ad tN fN (va_A (List.flatten [w0, w1]) sz) U)) (va_Qi (fun (r : Int32) (_ : Unit) => -1 ≤ r.toInt ∧ r.toInt ≤ 1024) (fun (_ : Unit) (t : State) => ∃ (w09 : va_W), ok_frame ad cB cI cJ cZ h0 r0 pl0 w09 ∧ va_P (dC, dI) vwCl (List.flatten [w09, w1]) t.heap ∧ va_D (va_A (List.flatten [w0, w1]) sz) (List.flatten [w09, w1])) (va_A (List.flatten [w0, w1]) sz)) 0 0 (va_A (List.flatten [w0, w1]) sz) := by
  refine Met.ofW (cc := cX3_fewestToRoof) (maxL := 5) (ret := (some .int)) (by decide) rfl ?_
  intro p e s m args below meth c s₁ B hml hv
  obtain ⟨rfl, hsz, hP, hK, hD0, hE⟩ := hv
  have hx := B.exec
  have hb := B.bytes
  have hr := B.returns
  have hts := atoms_spec (ws := wsX3_fewestToRoof) B.pre
  have hown : s.vm.findClass RX3 = some m.cls := findClass_of_methodNamed B.named
  have hlocks := B.notSynchronized
  subst hsz
  have hD := hD0.self (sz := s.heap.size)
  generalize hAe : va_A (List.flatten [w0, w1]) s.heap.size = A at hD hE ⊢
  have hA : ∀ q : Nat, s.heap.size ≤ q → A q := fun q h => by rw [← hAe]; exact Or.inr h
  have hS : va_S A s.heap s.heap [] := va_S.rf
  have hl := lv_entry ([.ref h0]) (n := 5) (Nat.le_of_ble_eq_true rfl)
  rw [lg_entry_eq]
  generalize (lg_sl ([.ref h0]) ++ List.replicate (5 - (lg_sl ([.ref h0])).length) Slot.unset).toArray = ls at hl ⊢
  have hl : lv_has ls 5 [(0, .ref h0)] := hl
  clear hAe
  refine W_name (fun Q0 hQ0 => ?_)
  refine lv_aload_n hx hb dX3_fewestToRoof_0 rfl (lv_at hl 0 rfl) ?_
  obtain ⟨fr_1, dr_4, rc_7, f_10, f_12, gn_13, f_14, f_15, f_16, f_17, f_18, sc_19, jc_20, f_23, f_25, rfl, hl_2, hh_3, hl_5, hh_6, hl_8, hh_9, hr_11, hl_21, hh_22, hr_24, hr_26⟩ := o0
  have hpm : List.Perm ([[(h0, .inr (2, [.ref pl0, .int fr_1, .int dr_4, .int rc_7, .ref (r0 0), .ref (r0 1), .int gn_13, .ref (r0 2), .ref (r0 3), .ref (r0 4), .ref (r0 5), .ref (r0 6), .long sc_19, .int jc_20, .ref (r0 7), .ref (r0 8)])), (r0 0, .inl (cI, 10, .inl f_10)), (r0 1, .inl (cI, 10, .inl f_12)), (r0 2, .inl (cI, 6, .inl f_14)), (r0 3, .inl (cJ, 6, .inr (.inl f_15))), (r0 4, .inl (cJ, 6, .inr (.inl f_16))), (r0 5, .inl (cJ, 6, .inr (.inl f_17))), (r0 6, .inl (cJ, 10, .inr (.inl f_18))), (r0 7, .inl (cI, 70, .inl f_23)), (r0 8, .inl (cI, 70, .inl f_25))], w1] : List va_W) (([[(h0, .inr (2, [.ref pl0, .int fr_1, .int dr_4, .int rc_7, .ref (r0 0), .ref (r0 1), .int gn_13, .ref (r0 2), .ref (r0 3), .ref (r0 4), .ref (r0 5), .ref (r0 6), .long sc_19, .int jc_20, .ref (r0 7), .ref (r0 8)])), (r0 0, .inl (cI, 10, .inl f_10)), (r0 1, .inl (cI, 10, .inl f_12)), (r0 2, .inl (cI, 6, .inl f_14)), (r0 3, .inl (cJ, 6, .inr (.inl f_15))), (r0 4, .inl (cJ, 6, .inr (.inl f_16))), (r0 5, .inl (cJ, 6, .inr (.inl f_17))), (r0 6, .inl (cJ, 10, .inr (.inl f_18))), (r0 7, .inl (cI, 70, .inl f_23)), (r0 8, .inl (cI, 70, .inl f_25))]] : List va_W) ++ ([w1] : List va_W)) := pm_n 2 [0, 1] (by decide) rfl rfl
  have hPc := bk_P hpm hP
  have hDc := bk_D hpm hD
  have hFc := bk_F hpm hD hS hA
  refine va_calli (va_runV (As := []) (rest := []) ⟨hx, hb, hml, hown, hts⟩ (c_X3_rodsFromRoof l dC dI ad tN fN cB cI cJ cZ h0 r0 pl0 _ ⟨fr_1, dr_4, rc_7, f_10, f_12, gn_13, f_14, f_15, f_16, f_17, f_18, sc_19, jc_20, f_23, f_25, rfl, by omega, by omega, by omega, by omega, by omega, by omega, hr_11, by omega, by omega, hr_24, hr_26⟩ s.heap.size) (cwV 0 hts gX3_fewestToRoof_X3_rodsFromRoof rfl rfl rfl (by decide +kernel) ⟨(Nat.le_of_ble_eq_true rfl), (Nat.le_of_ble_eq_true rfl)⟩) ⟨fun a U g mk q => by obtain ⟨q0, q1, qP, qK, qD, qE⟩ := q; exact ⟨q0, q1, qP, va_K.moved (u := U) (U := U.calling g mk a) (Vm.Alike.refl U.vm) qK, qD, ey_blind qE⟩, va_recv hK hPc (ci := 2) (q0 := 0) rfl rfl, fun U hU hW => ⟨rfl, by rw [hU], by rw [hU]; exact hPc, va_K.moved hW.alike hK, hDc.weaken (fun _ _ _ _ => trivial), ey_call hE hS hFc hU hW⟩⟩ rfl rfl hl.1 rfl (lv_room (Nat.le_of_ble_eq_true rfl)) dX3_fewestToRoof_1 ⟨(Nat.le_of_ble_eq_true rfl), (Nat.le_of_ble_eq_true rfl)⟩) hS (fun q _ h => hFc q h) hFc (fun r_27 u t H locs ht hvm hw hB hz1 hk1 hS => ?_)
  obtain ⟨hP1, hD1⟩ := hB
  rw [ht] at hP1
  obtain ⟨hP, hD⟩ := bk_join hpm hP hD hk1 hFc (Cs1 := [[(h0, .inr (2, [.ref pl0, .int fr_1, .int dr_4, .int rc_7, .ref (r0 0), .ref (r0 1), .int gn_13, .ref (r0 2), .ref (r0 3), .ref (r0 4), .ref (r0 5), .ref (r0 6), .long sc_19, .int jc_20, .ref (r0 7), .ref (r0 8)])), (r0 0, .inl (cI, 10, .inl f_10)), (r0 1, .inl (cI, 10, .inl f_12)), (r0 2, .inl (cI, 6, .inl f_14)), (r0 3, .inl (cJ, 6, .inr (.inl f_15))), (r0 4, .inl (cJ, 6, .inr (.inl f_16))), (r0 5, .inl (cJ, 6, .inr (.inl f_17))), (r0 6, .inl (cJ, 10, .inr (.inl f_18))), (r0 7, .inl (cI, 70, .inl f_23)), (r0 8, .inl (cI, 70, .inl f_25))]]) hP1 hD1
  have hpm2 : List.Perm (([[(h0, .inr (2, [.ref pl0, .int fr_1, .int dr_4, .int rc_7, .ref (r0 0), .ref (r0 1), .int gn_13, .ref (r0 2), .ref (r0 3), .ref (r0 4), .ref (r0 5), .ref (r0 6), .long sc_19, .int jc_20, .ref (r0 7), .ref (r0 8)])), (r0 0, .inl (cI, 10, .inl f_10)), (r0 1, .inl (cI, 10, .inl f_12)), (r0 2, .inl (cI, 6, .inl f_14)), (r0 3, .inl (cJ, 6, .inr (.inl f_15))), (r0 4, .inl (cJ, 6, .inr (.inl f_16))), (r0 5, .inl (cJ, 6, .inr (.inl f_17))), (r0 6, .inl (cJ, 10, .inr (.inl f_18))), (r0 7, .inl (cI, 70, .inl f_23)), (r0 8, .inl (cI, 70, .inl f_25))]] : List va_W) ++ ([w1] : List va_W)) ([[(h0, .inr (2, [.ref pl0, .int fr_1, .int dr_4, .int rc_7, .ref (r0 0), .ref (r0 1), .int gn_13, .ref (r0 2), .ref (r0 3), .ref (r0 4), .ref (r0 5), .ref (r0 6), .long sc_19, .int jc_20, .ref (r0 7), .ref (r0 8)])), (r0 0, .inl (cI, 10, .inl f_10)), (r0 1, .inl (cI, 10, .inl f_12)), (r0 2, .inl (cI, 6, .inl f_14)), (r0 3, .inl (cJ, 6, .inr (.inl f_15))), (r0 4, .inl (cJ, 6, .inr (.inl f_16))), (r0 5, .inl (cJ, 6, .inr (.inl f_17))), (r0 6, .inl (cJ, 10, .inr (.inl f_18))), (r0 7, .inl (cI, 70, .inl f_23)), (r0 8, .inl (cI, 70, .inl f_25))], w1] : List va_W) := pm_n 2 [0, 1] (by decide) rfl rfl
  have hP := bk_reP hpm2 hP
  have hD := bk_reD hpm2 hD
  have hP : va_P (dC, dI) vwCl (List.flatten [[(h0, .inr (2, [.ref pl0, .int fr_1, .int dr_4, .int rc_7, .ref (r0 0), .ref (r0 1), .int gn_13, .ref (r0 2), .ref (r0 3), .ref (r0 4), .ref (r0 5), .ref (r0 6), .long sc_19, .int jc_20, .ref (r0 7), .ref (r0 8)])), (r0 0, .inl (cI, 10, .inl f_10)), (r0 1, .inl (cI, 10, .inl f_12)), (r0 2, .inl (cI, 6, .inl f_14)), (r0 3, .inl (cJ, 6, .inr (.inl f_15))), (r0 4, .inl (cJ, 6, .inr (.inl f_16))), (r0 5, .inl (cJ, 6, .inr (.inl f_17))), (r0 6, .inl (cJ, 10, .inr (.inl f_18))), (r0 7, .inl (cI, 70, .inl f_23)), (r0 8, .inl (cI, 70, .inl f_25))], w1]) H := hP
  have hD : va_D A (List.flatten [[(h0, .inr (2, [.ref pl0, .int fr_1, .int dr_4, .int rc_7, .ref (r0 0), .ref (r0 1), .int gn_13, .ref (r0 2), .ref (r0 3), .ref (r0 4), .ref (r0 5), .ref (r0 6), .long sc_19, .int jc_20, .ref (r0 7), .ref (r0 8)])), (r0 0, .inl (cI, 10, .inl f_10)), (r0 1, .inl (cI, 10, .inl f_12)), (r0 2, .inl (cI, 6, .inl f_14)), (r0 3, .inl (cJ, 6, .inr (.inl f_15))), (r0 4, .inl (cJ, 6, .inr (.inl f_16))), (r0 5, .inl (cJ, 6, .inr (.inl f_17))), (r0 6, .inl (cJ, 10, .inr (.inl f_18))), (r0 7, .inl (cI, 70, .inl f_23)), (r0 8, .inl (cI, 70, .inl f_25))], w1]) := hD
  refine lv_istore_n (lv' := [(1, .int r_27), (0, .ref h0)]) hx hb dX3_fewestToRoof_4 rfl hl (by decide) rfl (fun ls hl => ?_)
  refine lv_iconst (v := (-1)) hx hb dX3_fewestToRoof_5 (by decide) ?_
  refine lv_istore_n (lv' := [(2, .int (-1)), (1, .int r_27), (0, .ref h0)]) hx hb dX3_fewestToRoof_6 rfl hl (by decide) rfl (fun ls hl => ?_)
  refine lv_iconst (v := 0) hx hb dX3_fewestToRoof_7 (by decide) ?_
  refine lv_istore_n (lv' := [(3, .int 0), (2, .int (-1)), (1, .int r_27), (0, .ref h0)]) hx hb dX3_fewestToRoof_8 rfl hl (by decide) rfl (fun ls hl => ?_)
  have lp_2690 : ∀ (n : Nat) (g_28 : Int32) (g_29 : Int32) (gw_99 : va_W), ok_frame ad cB cI cJ cZ h0 r0 pl0 gw_99 → 0 ≤ g_28.toInt → g_28.toInt ≤ 1024 → -1 ≤ g_29.toInt → g_29.toInt ≤ 1024 → g_29.toInt - g_28.toInt ≤ -1 → (1024 - g_28.toInt).toNat < n → ∀ (H : Heap) (locs : List Loc), va_P (dC, dI) vwCl (List.flatten [gw_99, w1]) H → va_D A (List.flatten [gw_99, w1]) → va_S A s.heap H locs → ∀ (ls : Array Slot), lv_has ls 5 [(3, .int g_28), (2, .int g_29), (1, .int r_27), (0, .ref h0)] → W p l e (headSpec wsX3_fewestToRoof ({ frames := 3, cells := 0, slots := 0, locals := 67 } : Room)).room s m ([.ref h0] : List Value).toArray below meth c H locs 0 0 Q0 (F0 m 9 ls []) := by
    intro n
    induction n with
    | zero => intro g_28 g_29 gw_99 okgw_99 iv_2685 iv_2686 iv_2687 iv_2688 iv_2689 hm; exact absurd hm (Nat.not_lt_zero _)
    | succ n ih_2691 =>
      intro g_28 g_29 gw_99 okgw_99 iv_2685 iv_2686 iv_2687 iv_2688 iv_2689 hm H locs hP hD hS ls hl
      refine lv_iload_n hx hb dX3_fewestToRoof_9 rfl (lv_at hl 0 rfl) ?_
      refine lv_iconst (v := 1) hx hb dX3_fewestToRoof_10 (by decide) ?_
      refine lv_aload_n hx hb dX3_fewestToRoof_11 rfl (lv_at hl 3 rfl) ?_
      obtain ⟨fr_2692, dr_2695, rc_2698, f_2701, f_2703, gn_2704, f_2705, f_2706, f_2707, f_2708, f_2709, sc_2710, jc_2711, f_2714, f_2716, rfl, hl_2693, hh_2694, hl_2696, hh_2697, hl_2699, hh_2700, hr_2702, hl_2712, hh_2713, hr_2715, hr_2717⟩ := okgw_99
      refine va_get (D := (dC, dI)) (ci := 2) (v := .int rc_2698) (C := RX3) (T := TX3) (N := 16) hx hb hts iw_X3_fewestToRoof_X3 hown hK hP 0 rfl rfl 3 (by decide) (hts (.fieldLink RX3 25 "HungFloors$Frame" "rodCount" "I") (by decide +kernel)) (fun _ h9 => h9) rfl dX3_fewestToRoof_12 ?_
      refine lv_ishl hx hb dX3_fewestToRoof_15 ?_
      refine lv_topi (fun z_2718 ez_2718 => ?_)
      have hz_2718 := t_shl1 (by omega) (by omega) ez_2718
      have h1z_2718 := hz_2718.1
      have h2z_2718 := hz_2718.2
      refine lv_icmp_ge (tgt := 80) hx hb dX3_fewestToRoof_16 (by decide) (fun c_2719 => ?_) (fun c_2719 => ?_)
      · have c_2719 : z_2718.toInt ≤ g_28.toInt := f_le rfl rfl c_2719
        refine lv_iload_n hx hb dX3_fewestToRoof_80 rfl (lv_at hl 1 rfl) ?_
        rw [hQ0]
        exact W.iret (v := g_29) hx hb hr (fun t ht hW => ⟨⟨g_29, (), rfl, ⟨by omega, by omega⟩, ⟨_, ⟨fr_2692, dr_2695, rc_2698, f_2701, f_2703, gn_2704, f_2705, f_2706, f_2707, f_2708, f_2709, sc_2710, jc_2711, f_2714, f_2716, rfl, by omega, by omega, by omega, by omega, by omega, by omega, hr_2702, by omega, by omega, hr_2715, hr_2717⟩, by rw [ht]; exact hP, hD⟩⟩, hS.F ht⟩) hS.2.2 dX3_fewestToRoof_81
      · have c_2719 : g_28.toInt < z_2718.toInt := f_nle rfl rfl c_2719
        refine lv_iload_n hx hb dX3_fewestToRoof_19 rfl (lv_at hl 1 rfl) ?_
        refine lv_if_lt (tgt := 34) hx hb dX3_fewestToRoof_20 (by decide) (fun c_2720 => ?_) (fun c_2720 => ?_)
        · have c_2720 : g_29.toInt < 0 := f_lt rfl tI_0 c_2720
          refine lv_iconst (v := 1) hx hb dX3_fewestToRoof_34 (by decide) ?_
          refine lv_goto (tgt := 39) hx hb dX3_fewestToRoof_35 (by decide) ?_
          refine lv_istore (lv' := [(4, .int 1), (3, .int g_28), (2, .int g_29), (1, .int r_27), (0, .ref h0)]) hx hb dX3_fewestToRoof_39 hl (by decide) rfl (fun ls hl => ?_)
          refine lv_iload hx hb dX3_fewestToRoof_41 (lv_at hl 0 rfl) ?_
          refine lv_if_eq (tgt := 74) hx hb dX3_fewestToRoof_43 (by decide) (fun c_2721 => absurd c_2721 (by decide)) (fun c_2721 => ?_)
          refine lv_iload_n hx hb dX3_fewestToRoof_46 rfl (lv_at hl 1 rfl) ?_
          refine lv_iload_n hx hb dX3_fewestToRoof_47 rfl (lv_at hl 3 rfl) ?_
          refine lv_iand hx hb dX3_fewestToRoof_48 ?_
          refine lv_topi (fun z_2722 ez_2722 => ?_)
          refine lv_if_ne (tgt := 74) hx hb dX3_fewestToRoof_49 (by decide) (fun c_2723 => ?_) (fun c_2723 => ?_)
          · have c_2723 : ¬ z_2722.toInt = 0 := f_ne rfl tI_0 c_2723
            obtain ⟨z_2724, ez_2724⟩ : ∃ y : Int32, y = g_28 + 1 := ⟨_, rfl⟩
            have hz_2724 : z_2724.toInt = g_28.toInt + 1 := by rw [ez_2724]; exact t_add rfl tI_1 (by omega) (by omega)
            refine lv_iinc (v := z_2724) (lv' := [(3, .int z_2724), (4, .int 1), (2, .int g_29), (1, .int r_27), (0, .ref h0)]) hx hb dX3_fewestToRoof_74 hl (k := 1) rfl (by rw [ez_2724]; rfl) (by decide) rfl (fun ls hl => ?_)
            refine lv_goto (tgt := 9) hx hb dX3_fewestToRoof_77 (by decide) ?_
            exact ih_2691 z_2724 g_29 _ ⟨fr_2692, dr_2695, rc_2698, f_2701, f_2703, gn_2704, f_2705, f_2706, f_2707, f_2708, f_2709, sc_2710, jc_2711, f_2714, f_2716, rfl, by omega, by omega, by omega, by omega, by omega, by omega, hr_2702, by omega, by omega, hr_2715, hr_2717⟩ (by omega) (by omega) (by omega) (by omega) (by omega) (by omega) _ _ hP hD hS ls (lv_sub hl [0, 2, 3, 4] rfl)
          · have c_2723 : z_2722.toInt = 0 := f_eq rfl tI_0 c_2723
            refine lv_aload_n hx hb dX3_fewestToRoof_52 rfl (lv_at hl 4 rfl) ?_
            refine lv_iload_n hx hb dX3_fewestToRoof_53 rfl (lv_at hl 1 rfl) ?_
            have hpm : List.Perm ([[(h0, .inr (2, [.ref pl0, .int fr_2692, .int dr_2695, .int rc_2698, .ref (r0 0), .ref (r0 1), .int gn_2704, .ref (r0 2), .ref (r0 3), .ref (r0 4), .ref (r0 5), .ref (r0 6), .long sc_2710, .int jc_2711, .ref (r0 7), .ref (r0 8)])), (r0 0, .inl (cI, 10, .inl f_2701)), (r0 1, .inl (cI, 10, .inl f_2703)), (r0 2, .inl (cI, 6, .inl f_2705)), (r0 3, .inl (cJ, 6, .inr (.inl f_2706))), (r0 4, .inl (cJ, 6, .inr (.inl f_2707))), (r0 5, .inl (cJ, 6, .inr (.inl f_2708))), (r0 6, .inl (cJ, 10, .inr (.inl f_2709))), (r0 7, .inl (cI, 70, .inl f_2714)), (r0 8, .inl (cI, 70, .inl f_2716))], w1] : List va_W) (([[(h0, .inr (2, [.ref pl0, .int fr_2692, .int dr_2695, .int rc_2698, .ref (r0 0), .ref (r0 1), .int gn_2704, .ref (r0 2), .ref (r0 3), .ref (r0 4), .ref (r0 5), .ref (r0 6), .long sc_2710, .int jc_2711, .ref (r0 7), .ref (r0 8)])), (r0 0, .inl (cI, 10, .inl f_2701)), (r0 1, .inl (cI, 10, .inl f_2703)), (r0 2, .inl (cI, 6, .inl f_2705)), (r0 3, .inl (cJ, 6, .inr (.inl f_2706))), (r0 4, .inl (cJ, 6, .inr (.inl f_2707))), (r0 5, .inl (cJ, 6, .inr (.inl f_2708))), (r0 6, .inl (cJ, 10, .inr (.inl f_2709))), (r0 7, .inl (cI, 70, .inl f_2714)), (r0 8, .inl (cI, 70, .inl f_2716))], w1] : List va_W) ++ ([] : List va_W)) := pm_n 2 [0, 1] (by decide) rfl rfl
            have hPc := bk_P hpm hP
            have hDc := bk_D hpm hD
            have hFc := bk_F hpm hD hS hA
            refine va_callv (va_runV (As := [.int g_28]) (rest := []) ⟨hx, hb, hml, hown, hts⟩ (c_X3_hangFromRoof l dC dI ad tN fN cB cI cJ cZ h0 g_28 r0 pl0 _ r1 fc1 dc1 rk1 _ ⟨fr_2692, dr_2695, rc_2698, f_2701, f_2703, gn_2704, f_2705, f_2706, f_2707, f_2708, f_2709, sc_2710, jc_2711, f_2714, f_2716, rfl, by omega, by omega, by omega, by omega, by omega, by omega, hr_2702, by omega, by omega, hr_2715, hr_2717⟩ o1 H.size) (cwV 1 hts gX3_fewestToRoof_X3_hangFromRoof rfl rfl rfl (by decide +kernel) ⟨(Nat.le_of_ble_eq_true rfl), (Nat.le_of_ble_eq_true rfl)⟩) ⟨fun a U g mk q => by obtain ⟨q0, q1, qP, qK, qD, qE⟩ := q; exact ⟨q0, q1, qP, va_K.moved (u := U) (U := U.calling g mk a) (Vm.Alike.refl U.vm) qK, qD, ey_blind qE⟩, va_recv hK hPc (ci := 2) (q0 := 0) rfl rfl, fun U hU hW => ⟨rfl, by rw [hU], by rw [hU]; exact hPc, va_K.moved hW.alike hK, hDc.weaken (fun _ _ _ _ => trivial), ey_call hE hS hFc hU hW⟩⟩ rfl rfl hl.1 rfl (lv_room (Nat.le_of_ble_eq_true rfl)) dX3_fewestToRoof_54 ⟨(Nat.le_of_ble_eq_true rfl), (Nat.le_of_ble_eq_true rfl)⟩) hS (fun q _ h => hFc q h) hFc (fun u t H locs ht hvm hw hB hz1 hk1 hS => ?_)
            obtain ⟨w_2726, o_2727, hP1, hD1⟩ := hB
            rw [ht] at hP1
            obtain ⟨hP, hD⟩ := bk_join hpm hP hD hk1 hFc (Cs1 := [w_2726, w1]) hP1 hD1
            have hpm2 : List.Perm (([w_2726, w1] : List va_W) ++ ([] : List va_W)) ([w_2726, w1] : List va_W) := pm_n 2 [0, 1] (by decide) rfl rfl
            have hP := bk_reP hpm2 hP
            have hD := bk_reD hpm2 hD
            have hP : va_P (dC, dI) vwCl (List.flatten [w_2726, w1]) H := hP
            have hD : va_D A (List.flatten [w_2726, w1]) := hD
            refine lv_aload_n hx hb dX3_fewestToRoof_57 rfl (lv_at hl 4 rfl) ?_
            obtain ⟨fr_2728, dr_2731, rc_2734, f_2737, f_2739, gn_2740, f_2741, f_2742, f_2743, f_2744, f_2745, sc_2746, jc_2747, f_2750, f_2752, rfl, hl_2729, hh_2730, hl_2732, hh_2733, hl_2735, hh_2736, hr_2738, hl_2748, hh_2749, hr_2751, hr_2753⟩ := o_2727
            have hpm : List.Perm ([[(h0, .inr (2, [.ref pl0, .int fr_2728, .int dr_2731, .int rc_2734, .ref (r0 0), .ref (r0 1), .int gn_2740, .ref (r0 2), .ref (r0 3), .ref (r0 4), .ref (r0 5), .ref (r0 6), .long sc_2746, .int jc_2747, .ref (r0 7), .ref (r0 8)])), (r0 0, .inl (cI, 10, .inl f_2737)), (r0 1, .inl (cI, 10, .inl f_2739)), (r0 2, .inl (cI, 6, .inl f_2741)), (r0 3, .inl (cJ, 6, .inr (.inl f_2742))), (r0 4, .inl (cJ, 6, .inr (.inl f_2743))), (r0 5, .inl (cJ, 6, .inr (.inl f_2744))), (r0 6, .inl (cJ, 10, .inr (.inl f_2745))), (r0 7, .inl (cI, 70, .inl f_2750)), (r0 8, .inl (cI, 70, .inl f_2752))], w1] : List va_W) (([[(h0, .inr (2, [.ref pl0, .int fr_2728, .int dr_2731, .int rc_2734, .ref (r0 0), .ref (r0 1), .int gn_2740, .ref (r0 2), .ref (r0 3), .ref (r0 4), .ref (r0 5), .ref (r0 6), .long sc_2746, .int jc_2747, .ref (r0 7), .ref (r0 8)])), (r0 0, .inl (cI, 10, .inl f_2737)), (r0 1, .inl (cI, 10, .inl f_2739)), (r0 2, .inl (cI, 6, .inl f_2741)), (r0 3, .inl (cJ, 6, .inr (.inl f_2742))), (r0 4, .inl (cJ, 6, .inr (.inl f_2743))), (r0 5, .inl (cJ, 6, .inr (.inl f_2744))), (r0 6, .inl (cJ, 10, .inr (.inl f_2745))), (r0 7, .inl (cI, 70, .inl f_2750)), (r0 8, .inl (cI, 70, .inl f_2752))], w1] : List va_W) ++ ([] : List va_W)) := pm_n 2 [0, 1] (by decide) rfl rfl
            have hPc := bk_P hpm hP
            have hDc := bk_D hpm hD
            have hFc := bk_F hpm hD hS hA
            refine va_callv (va_runV (As := []) (rest := []) ⟨hx, hb, hml, hown, hts⟩ (c_X3_passUp l dC dI ad tN fN cB cI cJ cZ h0 r0 pl0 _ r1 fc1 dc1 rk1 _ ⟨fr_2728, dr_2731, rc_2734, f_2737, f_2739, gn_2740, f_2741, f_2742, f_2743, f_2744, f_2745, sc_2746, jc_2747, f_2750, f_2752, rfl, by omega, by omega, by omega, by omega, by omega, by omega, hr_2738, by omega, by omega, hr_2751, hr_2753⟩ o1 H.size) (cwV 0 hts gX3_fewestToRoof_X3_passUp rfl rfl rfl (by decide +kernel) ⟨(Nat.le_of_ble_eq_true rfl), (Nat.le_of_ble_eq_true rfl)⟩) ⟨fun a U g mk q => by obtain ⟨q0, q1, qP, qK, qD, qE⟩ := q; exact ⟨q0, q1, qP, va_K.moved (u := U) (U := U.calling g mk a) (Vm.Alike.refl U.vm) qK, qD, ey_blind qE⟩, va_recv hK hPc (ci := 2) (q0 := 0) rfl rfl, fun U hU hW => ⟨rfl, by rw [hU], by rw [hU]; exact hPc, va_K.moved hW.alike hK, hDc.weaken (fun _ _ _ _ => trivial), ey_call hE hS hFc hU hW⟩⟩ rfl rfl hl.1 rfl (lv_room (Nat.le_of_ble_eq_true rfl)) dX3_fewestToRoof_58 ⟨(Nat.le_of_ble_eq_true rfl), (Nat.le_of_ble_eq_true rfl)⟩) hS (fun q _ h => hFc q h) hFc (fun u t H locs ht hvm hw hB hz1 hk1 hS => ?_)
            obtain ⟨w_2755, o_2756, hP1, hD1⟩ := hB
            rw [ht] at hP1
            obtain ⟨hP, hD⟩ := bk_join hpm hP hD hk1 hFc (Cs1 := [w_2755, w1]) hP1 hD1
            have hpm2 : List.Perm (([w_2755, w1] : List va_W) ++ ([] : List va_W)) ([w_2755, w1] : List va_W) := pm_n 2 [0, 1] (by decide) rfl rfl
            have hP := bk_reP hpm2 hP
            have hD := bk_reD hpm2 hD
            have hP : va_P (dC, dI) vwCl (List.flatten [w_2755, w1]) H := hP
            have hD : va_D A (List.flatten [w_2755, w1]) := hD
            refine lv_aload_n hx hb dX3_fewestToRoof_61 rfl (lv_at hl 4 rfl) ?_
            obtain ⟨fr_2757, dr_2760, rc_2763, f_2766, f_2768, gn_2769, f_2770, f_2771, f_2772, f_2773, f_2774, sc_2775, jc_2776, f_2779, f_2781, rfl, hl_2758, hh_2759, hl_2761, hh_2762, hl_2764, hh_2765, hr_2767, hl_2777, hh_2778, hr_2780, hr_2782⟩ := o_2756
            have hpm : List.Perm ([[(h0, .inr (2, [.ref pl0, .int fr_2757, .int dr_2760, .int rc_2763, .ref (r0 0), .ref (r0 1), .int gn_2769, .ref (r0 2), .ref (r0 3), .ref (r0 4), .ref (r0 5), .ref (r0 6), .long sc_2775, .int jc_2776, .ref (r0 7), .ref (r0 8)])), (r0 0, .inl (cI, 10, .inl f_2766)), (r0 1, .inl (cI, 10, .inl f_2768)), (r0 2, .inl (cI, 6, .inl f_2770)), (r0 3, .inl (cJ, 6, .inr (.inl f_2771))), (r0 4, .inl (cJ, 6, .inr (.inl f_2772))), (r0 5, .inl (cJ, 6, .inr (.inl f_2773))), (r0 6, .inl (cJ, 10, .inr (.inl f_2774))), (r0 7, .inl (cI, 70, .inl f_2779)), (r0 8, .inl (cI, 70, .inl f_2781))], w1] : List va_W) (([[(h0, .inr (2, [.ref pl0, .int fr_2757, .int dr_2760, .int rc_2763, .ref (r0 0), .ref (r0 1), .int gn_2769, .ref (r0 2), .ref (r0 3), .ref (r0 4), .ref (r0 5), .ref (r0 6), .long sc_2775, .int jc_2776, .ref (r0 7), .ref (r0 8)])), (r0 0, .inl (cI, 10, .inl f_2766)), (r0 1, .inl (cI, 10, .inl f_2768)), (r0 2, .inl (cI, 6, .inl f_2770)), (r0 3, .inl (cJ, 6, .inr (.inl f_2771))), (r0 4, .inl (cJ, 6, .inr (.inl f_2772))), (r0 5, .inl (cJ, 6, .inr (.inl f_2773))), (r0 6, .inl (cJ, 10, .inr (.inl f_2774))), (r0 7, .inl (cI, 70, .inl f_2779)), (r0 8, .inl (cI, 70, .inl f_2781))], w1] : List va_W) ++ ([] : List va_W)) := pm_n 2 [0, 1] (by decide) rfl rfl
            have hPc := bk_P hpm hP
            have hDc := bk_D hpm hD
            have hFc := bk_F hpm hD hS hA
            refine va_calli (va_runV (As := []) (rest := []) ⟨hx, hb, hml, hown, hts⟩ (c_X3_isAnyBeyond l dC dI ad tN fN cB cI cJ cZ h0 r0 pl0 _ r1 fc1 dc1 rk1 _ ⟨fr_2757, dr_2760, rc_2763, f_2766, f_2768, gn_2769, f_2770, f_2771, f_2772, f_2773, f_2774, sc_2775, jc_2776, f_2779, f_2781, rfl, by omega, by omega, by omega, by omega, by omega, by omega, hr_2767, by omega, by omega, hr_2780, hr_2782⟩ o1 H.size) (cwV 0 hts gX3_fewestToRoof_X3_isAnyBeyond rfl rfl rfl (by decide +kernel) ⟨(Nat.le_of_ble_eq_true rfl), (Nat.le_of_ble_eq_true rfl)⟩) ⟨fun a U g mk q => by obtain ⟨q0, q1, qP, qK, qD, qE⟩ := q; exact ⟨q0, q1, qP, va_K.moved (u := U) (U := U.calling g mk a) (Vm.Alike.refl U.vm) qK, qD, ey_blind qE⟩, va_recv hK hPc (ci := 2) (q0 := 0) rfl rfl, fun U hU hW => ⟨rfl, by rw [hU], by rw [hU]; exact hPc, va_K.moved hW.alike hK, hDc.weaken (fun _ _ _ _ => trivial), ey_call hE hS hFc hU hW⟩⟩ rfl rfl hl.1 rfl (lv_room (Nat.le_of_ble_eq_true rfl)) dX3_fewestToRoof_62 ⟨(Nat.le_of_ble_eq_true rfl), (Nat.le_of_ble_eq_true rfl)⟩) hS (fun q _ h => hFc q h) hFc (fun r_2783 u t H locs ht hvm hw hB hz1 hk1 hS => ?_)
            obtain ⟨hP1, hD1⟩ := hB
            rw [ht] at hP1
            obtain ⟨hP, hD⟩ := bk_join hpm hP hD hk1 hFc (Cs1 := [[(h0, .inr (2, [.ref pl0, .int fr_2757, .int dr_2760, .int rc_2763, .ref (r0 0), .ref (r0 1), .int gn_2769, .ref (r0 2), .ref (r0 3), .ref (r0 4), .ref (r0 5), .ref (r0 6), .long sc_2775, .int jc_2776, .ref (r0 7), .ref (r0 8)])), (r0 0, .inl (cI, 10, .inl f_2766)), (r0 1, .inl (cI, 10, .inl f_2768)), (r0 2, .inl (cI, 6, .inl f_2770)), (r0 3, .inl (cJ, 6, .inr (.inl f_2771))), (r0 4, .inl (cJ, 6, .inr (.inl f_2772))), (r0 5, .inl (cJ, 6, .inr (.inl f_2773))), (r0 6, .inl (cJ, 10, .inr (.inl f_2774))), (r0 7, .inl (cI, 70, .inl f_2779)), (r0 8, .inl (cI, 70, .inl f_2781))], w1]) hP1 hD1
            have hpm2 : List.Perm (([[(h0, .inr (2, [.ref pl0, .int fr_2757, .int dr_2760, .int rc_2763, .ref (r0 0), .ref (r0 1), .int gn_2769, .ref (r0 2), .ref (r0 3), .ref (r0 4), .ref (r0 5), .ref (r0 6), .long sc_2775, .int jc_2776, .ref (r0 7), .ref (r0 8)])), (r0 0, .inl (cI, 10, .inl f_2766)), (r0 1, .inl (cI, 10, .inl f_2768)), (r0 2, .inl (cI, 6, .inl f_2770)), (r0 3, .inl (cJ, 6, .inr (.inl f_2771))), (r0 4, .inl (cJ, 6, .inr (.inl f_2772))), (r0 5, .inl (cJ, 6, .inr (.inl f_2773))), (r0 6, .inl (cJ, 10, .inr (.inl f_2774))), (r0 7, .inl (cI, 70, .inl f_2779)), (r0 8, .inl (cI, 70, .inl f_2781))], w1] : List va_W) ++ ([] : List va_W)) ([[(h0, .inr (2, [.ref pl0, .int fr_2757, .int dr_2760, .int rc_2763, .ref (r0 0), .ref (r0 1), .int gn_2769, .ref (r0 2), .ref (r0 3), .ref (r0 4), .ref (r0 5), .ref (r0 6), .long sc_2775, .int jc_2776, .ref (r0 7), .ref (r0 8)])), (r0 0, .inl (cI, 10, .inl f_2766)), (r0 1, .inl (cI, 10, .inl f_2768)), (r0 2, .inl (cI, 6, .inl f_2770)), (r0 3, .inl (cJ, 6, .inr (.inl f_2771))), (r0 4, .inl (cJ, 6, .inr (.inl f_2772))), (r0 5, .inl (cJ, 6, .inr (.inl f_2773))), (r0 6, .inl (cJ, 10, .inr (.inl f_2774))), (r0 7, .inl (cI, 70, .inl f_2779)), (r0 8, .inl (cI, 70, .inl f_2781))], w1] : List va_W) := pm_n 2 [0, 1] (by decide) rfl rfl
            have hP := bk_reP hpm2 hP
            have hD := bk_reD hpm2 hD
            have hP : va_P (dC, dI) vwCl (List.flatten [[(h0, .inr (2, [.ref pl0, .int fr_2757, .int dr_2760, .int rc_2763, .ref (r0 0), .ref (r0 1), .int gn_2769, .ref (r0 2), .ref (r0 3), .ref (r0 4), .ref (r0 5), .ref (r0 6), .long sc_2775, .int jc_2776, .ref (r0 7), .ref (r0 8)])), (r0 0, .inl (cI, 10, .inl f_2766)), (r0 1, .inl (cI, 10, .inl f_2768)), (r0 2, .inl (cI, 6, .inl f_2770)), (r0 3, .inl (cJ, 6, .inr (.inl f_2771))), (r0 4, .inl (cJ, 6, .inr (.inl f_2772))), (r0 5, .inl (cJ, 6, .inr (.inl f_2773))), (r0 6, .inl (cJ, 10, .inr (.inl f_2774))), (r0 7, .inl (cI, 70, .inl f_2779)), (r0 8, .inl (cI, 70, .inl f_2781))], w1]) H := hP
            have hD : va_D A (List.flatten [[(h0, .inr (2, [.ref pl0, .int fr_2757, .int dr_2760, .int rc_2763, .ref (r0 0), .ref (r0 1), .int gn_2769, .ref (r0 2), .ref (r0 3), .ref (r0 4), .ref (r0 5), .ref (r0 6), .long sc_2775, .int jc_2776, .ref (r0 7), .ref (r0 8)])), (r0 0, .inl (cI, 10, .inl f_2766)), (r0 1, .inl (cI, 10, .inl f_2768)), (r0 2, .inl (cI, 6, .inl f_2770)), (r0 3, .inl (cJ, 6, .inr (.inl f_2771))), (r0 4, .inl (cJ, 6, .inr (.inl f_2772))), (r0 5, .inl (cJ, 6, .inr (.inl f_2773))), (r0 6, .inl (cJ, 10, .inr (.inl f_2774))), (r0 7, .inl (cI, 70, .inl f_2779)), (r0 8, .inl (cI, 70, .inl f_2781))], w1]) := hD
            obtain ⟨hlr_2783, hhr_2783⟩ := hw
            refine lv_if_eq (tgt := 72) hx hb dX3_fewestToRoof_65 (by decide) (fun c_2784 => ?_) (fun c_2784 => ?_)
            · have c_2784 : r_2783.toInt = 0 := f_eq rfl tI_0 c_2784
              refine lv_iload_n hx hb dX3_fewestToRoof_72 rfl (lv_at hl 1 rfl) ?_
              refine lv_istore_n (lv' := [(2, .int g_28), (4, .int 1), (3, .int g_28), (1, .int r_27), (0, .ref h0)]) hx hb dX3_fewestToRoof_73 rfl hl (by decide) rfl (fun ls hl => ?_)
              obtain ⟨z_2785, ez_2785⟩ : ∃ y : Int32, y = g_28 + 1 := ⟨_, rfl⟩
              have hz_2785 : z_2785.toInt = g_28.toInt + 1 := by rw [ez_2785]; exact t_add rfl tI_1 (by omega) (by omega)
              refine lv_iinc (v := z_2785) (lv' := [(3, .int z_2785), (2, .int g_28), (4, .int 1), (1, .int r_27), (0, .ref h0)]) hx hb dX3_fewestToRoof_74 hl (k := 2) rfl (by rw [ez_2785]; rfl) (by decide) rfl (fun ls hl => ?_)
              refine lv_goto (tgt := 9) hx hb dX3_fewestToRoof_77 (by decide) ?_
              exact ih_2691 z_2785 g_28 _ ⟨fr_2757, dr_2760, rc_2763, f_2766, f_2768, gn_2769, f_2770, f_2771, f_2772, f_2773, f_2774, sc_2775, jc_2776, f_2779, f_2781, rfl, by omega, by omega, by omega, by omega, by omega, by omega, hr_2767, by omega, by omega, hr_2780, hr_2782⟩ (by omega) (by omega) (by omega) (by omega) (by omega) (by omega) _ _ hP hD hS ls (lv_sub hl [0, 1, 3, 4] rfl)
            · have c_2784 : ¬ r_2783.toInt = 0 := f_ne rfl tI_0 c_2784
              refine lv_iload_n hx hb dX3_fewestToRoof_68 rfl (lv_at hl 2 rfl) ?_
              refine lv_goto (tgt := 73) hx hb dX3_fewestToRoof_69 (by decide) ?_
              refine lv_istore_n (lv' := [(2, .int g_29), (4, .int 1), (3, .int g_28), (1, .int r_27), (0, .ref h0)]) hx hb dX3_fewestToRoof_73 rfl hl (by decide) rfl (fun ls hl => ?_)
              obtain ⟨z_2786, ez_2786⟩ : ∃ y : Int32, y = g_28 + 1 := ⟨_, rfl⟩
              have hz_2786 : z_2786.toInt = g_28.toInt + 1 := by rw [ez_2786]; exact t_add rfl tI_1 (by omega) (by omega)
              refine lv_iinc (v := z_2786) (lv' := [(3, .int z_2786), (2, .int g_29), (4, .int 1), (1, .int r_27), (0, .ref h0)]) hx hb dX3_fewestToRoof_74 hl (k := 2) rfl (by rw [ez_2786]; rfl) (by decide) rfl (fun ls hl => ?_)
              refine lv_goto (tgt := 9) hx hb dX3_fewestToRoof_77 (by decide) ?_
              exact ih_2691 z_2786 g_29 _ ⟨fr_2757, dr_2760, rc_2763, f_2766, f_2768, gn_2769, f_2770, f_2771, f_2772, f_2773, f_2774, sc_2775, jc_2776, f_2779, f_2781, rfl, by omega, by omega, by omega, by omega, by omega, by omega, hr_2767, by omega, by omega, hr_2780, hr_2782⟩ (by omega) (by omega) (by omega) (by omega) (by omega) (by omega) _ _ hP hD hS ls (lv_sub hl [0, 1, 3, 4] rfl)
        · have c_2720 : 0 ≤ g_29.toInt := f_nlt rfl tI_0 c_2720
          refine lv_iload_n hx hb dX3_fewestToRoof_23 rfl (lv_at hl 0 rfl) ?_
          have hpm : List.Perm ([[(h0, .inr (2, [.ref pl0, .int fr_2692, .int dr_2695, .int rc_2698, .ref (r0 0), .ref (r0 1), .int gn_2704, .ref (r0 2), .ref (r0 3), .ref (r0 4), .ref (r0 5), .ref (r0 6), .long sc_2710, .int jc_2711, .ref (r0 7), .ref (r0 8)])), (r0 0, .inl (cI, 10, .inl f_2701)), (r0 1, .inl (cI, 10, .inl f_2703)), (r0 2, .inl (cI, 6, .inl f_2705)), (r0 3, .inl (cJ, 6, .inr (.inl f_2706))), (r0 4, .inl (cJ, 6, .inr (.inl f_2707))), (r0 5, .inl (cJ, 6, .inr (.inl f_2708))), (r0 6, .inl (cJ, 10, .inr (.inl f_2709))), (r0 7, .inl (cI, 70, .inl f_2714)), (r0 8, .inl (cI, 70, .inl f_2716))], w1] : List va_W) (([] : List va_W) ++ ([[(h0, .inr (2, [.ref pl0, .int fr_2692, .int dr_2695, .int rc_2698, .ref (r0 0), .ref (r0 1), .int gn_2704, .ref (r0 2), .ref (r0 3), .ref (r0 4), .ref (r0 5), .ref (r0 6), .long sc_2710, .int jc_2711, .ref (r0 7), .ref (r0 8)])), (r0 0, .inl (cI, 10, .inl f_2701)), (r0 1, .inl (cI, 10, .inl f_2703)), (r0 2, .inl (cI, 6, .inl f_2705)), (r0 3, .inl (cJ, 6, .inr (.inl f_2706))), (r0 4, .inl (cJ, 6, .inr (.inl f_2707))), (r0 5, .inl (cJ, 6, .inr (.inl f_2708))), (r0 6, .inl (cJ, 10, .inr (.inl f_2709))), (r0 7, .inl (cI, 70, .inl f_2714)), (r0 8, .inl (cI, 70, .inl f_2716))], w1] : List va_W)) := pm_n 2 [0, 1] (by decide) rfl rfl
          have hPc := bk_P hpm hP
          have hDc := bk_D hpm hD
          have hFc := bk_F hpm hD hS hA
          refine va_calli (va_runS (As := [.int g_28]) (rest := []) ⟨hx, hb, hml, hown, hts⟩ (c_J6_bitCount_0f7a4 l dC dI ad tN fN cB cI cJ cZ g_28 H.size) (va_cwS 1 hts gX3_fewestToRoof_J6_bitCount_0f7a4 rfl rfl rfl (by decide +kernel) ⟨(Nat.le_of_ble_eq_true rfl), (Nat.le_of_ble_eq_true rfl)⟩) ⟨fun a U g mk q => by obtain ⟨q0, q1, qP, qK, qD, qE⟩ := q; exact ⟨q0, q1, qP, va_K.moved (u := U) (U := U.calling g mk a) (Vm.Alike.refl U.vm) qK, qD, ey_blind qE⟩, fun U hU hW => ⟨rfl, by rw [hU], by rw [hU]; exact hPc, va_K.moved hW.alike hK, hDc.weaken (fun _ _ _ _ => trivial), ey_call hE hS hFc hU hW⟩⟩ rfl rfl hl.1 rfl (lv_room (Nat.le_of_ble_eq_true rfl)) dX3_fewestToRoof_24 ⟨(Nat.le_of_ble_eq_true rfl), (Nat.le_of_ble_eq_true rfl)⟩) hS (fun q _ h => hFc q h) hFc (fun r_2787 u t H locs ht hvm hw hB hz1 hk1 hS => ?_)
          obtain ⟨hP1, hD1⟩ := hB
          rw [ht] at hP1
          obtain ⟨hP, hD⟩ := bk_join hpm hP hD hk1 hFc (Cs1 := []) hP1 hD1
          have hpm2 : List.Perm (([] : List va_W) ++ ([[(h0, .inr (2, [.ref pl0, .int fr_2692, .int dr_2695, .int rc_2698, .ref (r0 0), .ref (r0 1), .int gn_2704, .ref (r0 2), .ref (r0 3), .ref (r0 4), .ref (r0 5), .ref (r0 6), .long sc_2710, .int jc_2711, .ref (r0 7), .ref (r0 8)])), (r0 0, .inl (cI, 10, .inl f_2701)), (r0 1, .inl (cI, 10, .inl f_2703)), (r0 2, .inl (cI, 6, .inl f_2705)), (r0 3, .inl (cJ, 6, .inr (.inl f_2706))), (r0 4, .inl (cJ, 6, .inr (.inl f_2707))), (r0 5, .inl (cJ, 6, .inr (.inl f_2708))), (r0 6, .inl (cJ, 10, .inr (.inl f_2709))), (r0 7, .inl (cI, 70, .inl f_2714)), (r0 8, .inl (cI, 70, .inl f_2716))], w1] : List va_W)) ([[(h0, .inr (2, [.ref pl0, .int fr_2692, .int dr_2695, .int rc_2698, .ref (r0 0), .ref (r0 1), .int gn_2704, .ref (r0 2), .ref (r0 3), .ref (r0 4), .ref (r0 5), .ref (r0 6), .long sc_2710, .int jc_2711, .ref (r0 7), .ref (r0 8)])), (r0 0, .inl (cI, 10, .inl f_2701)), (r0 1, .inl (cI, 10, .inl f_2703)), (r0 2, .inl (cI, 6, .inl f_2705)), (r0 3, .inl (cJ, 6, .inr (.inl f_2706))), (r0 4, .inl (cJ, 6, .inr (.inl f_2707))), (r0 5, .inl (cJ, 6, .inr (.inl f_2708))), (r0 6, .inl (cJ, 10, .inr (.inl f_2709))), (r0 7, .inl (cI, 70, .inl f_2714)), (r0 8, .inl (cI, 70, .inl f_2716))], w1] : List va_W) := pm_n 2 [0, 1] (by decide) rfl rfl
          have hP := bk_reP hpm2 hP
          have hD := bk_reD hpm2 hD
          have hP : va_P (dC, dI) vwCl (List.flatten [[(h0, .inr (2, [.ref pl0, .int fr_2692, .int dr_2695, .int rc_2698, .ref (r0 0), .ref (r0 1), .int gn_2704, .ref (r0 2), .ref (r0 3), .ref (r0 4), .ref (r0 5), .ref (r0 6), .long sc_2710, .int jc_2711, .ref (r0 7), .ref (r0 8)])), (r0 0, .inl (cI, 10, .inl f_2701)), (r0 1, .inl (cI, 10, .inl f_2703)), (r0 2, .inl (cI, 6, .inl f_2705)), (r0 3, .inl (cJ, 6, .inr (.inl f_2706))), (r0 4, .inl (cJ, 6, .inr (.inl f_2707))), (r0 5, .inl (cJ, 6, .inr (.inl f_2708))), (r0 6, .inl (cJ, 10, .inr (.inl f_2709))), (r0 7, .inl (cI, 70, .inl f_2714)), (r0 8, .inl (cI, 70, .inl f_2716))], w1]) H := hP
          have hD : va_D A (List.flatten [[(h0, .inr (2, [.ref pl0, .int fr_2692, .int dr_2695, .int rc_2698, .ref (r0 0), .ref (r0 1), .int gn_2704, .ref (r0 2), .ref (r0 3), .ref (r0 4), .ref (r0 5), .ref (r0 6), .long sc_2710, .int jc_2711, .ref (r0 7), .ref (r0 8)])), (r0 0, .inl (cI, 10, .inl f_2701)), (r0 1, .inl (cI, 10, .inl f_2703)), (r0 2, .inl (cI, 6, .inl f_2705)), (r0 3, .inl (cJ, 6, .inr (.inl f_2706))), (r0 4, .inl (cJ, 6, .inr (.inl f_2707))), (r0 5, .inl (cJ, 6, .inr (.inl f_2708))), (r0 6, .inl (cJ, 10, .inr (.inl f_2709))), (r0 7, .inl (cI, 70, .inl f_2714)), (r0 8, .inl (cI, 70, .inl f_2716))], w1]) := hD
          refine lv_iload_n hx hb dX3_fewestToRoof_27 rfl (lv_at hl 1 rfl) ?_
          have hpm : List.Perm ([[(h0, .inr (2, [.ref pl0, .int fr_2692, .int dr_2695, .int rc_2698, .ref (r0 0), .ref (r0 1), .int gn_2704, .ref (r0 2), .ref (r0 3), .ref (r0 4), .ref (r0 5), .ref (r0 6), .long sc_2710, .int jc_2711, .ref (r0 7), .ref (r0 8)])), (r0 0, .inl (cI, 10, .inl f_2701)), (r0 1, .inl (cI, 10, .inl f_2703)), (r0 2, .inl (cI, 6, .inl f_2705)), (r0 3, .inl (cJ, 6, .inr (.inl f_2706))), (r0 4, .inl (cJ, 6, .inr (.inl f_2707))), (r0 5, .inl (cJ, 6, .inr (.inl f_2708))), (r0 6, .inl (cJ, 10, .inr (.inl f_2709))), (r0 7, .inl (cI, 70, .inl f_2714)), (r0 8, .inl (cI, 70, .inl f_2716))], w1] : List va_W) (([] : List va_W) ++ ([[(h0, .inr (2, [.ref pl0, .int fr_2692, .int dr_2695, .int rc_2698, .ref (r0 0), .ref (r0 1), .int gn_2704, .ref (r0 2), .ref (r0 3), .ref (r0 4), .ref (r0 5), .ref (r0 6), .long sc_2710, .int jc_2711, .ref (r0 7), .ref (r0 8)])), (r0 0, .inl (cI, 10, .inl f_2701)), (r0 1, .inl (cI, 10, .inl f_2703)), (r0 2, .inl (cI, 6, .inl f_2705)), (r0 3, .inl (cJ, 6, .inr (.inl f_2706))), (r0 4, .inl (cJ, 6, .inr (.inl f_2707))), (r0 5, .inl (cJ, 6, .inr (.inl f_2708))), (r0 6, .inl (cJ, 10, .inr (.inl f_2709))), (r0 7, .inl (cI, 70, .inl f_2714)), (r0 8, .inl (cI, 70, .inl f_2716))], w1] : List va_W)) := pm_n 2 [0, 1] (by decide) rfl rfl
          have hPc := bk_P hpm hP
          have hDc := bk_D hpm hD
          have hFc := bk_F hpm hD hS hA
          refine va_calli (va_runS (As := [.int g_29]) (rest := [.int r_2787]) ⟨hx, hb, hml, hown, hts⟩ (c_J6_bitCount_0f7a4 l dC dI ad tN fN cB cI cJ cZ g_29 H.size) (va_cwS 1 hts gX3_fewestToRoof_J6_bitCount_0f7a4 rfl rfl rfl (by decide +kernel) ⟨(Nat.le_of_ble_eq_true rfl), (Nat.le_of_ble_eq_true rfl)⟩) ⟨fun a U g mk q => by obtain ⟨q0, q1, qP, qK, qD, qE⟩ := q; exact ⟨q0, q1, qP, va_K.moved (u := U) (U := U.calling g mk a) (Vm.Alike.refl U.vm) qK, qD, ey_blind qE⟩, fun U hU hW => ⟨rfl, by rw [hU], by rw [hU]; exact hPc, va_K.moved hW.alike hK, hDc.weaken (fun _ _ _ _ => trivial), ey_call hE hS hFc hU hW⟩⟩ rfl rfl hl.1 rfl (lv_room (Nat.le_of_ble_eq_true rfl)) dX3_fewestToRoof_28 ⟨(Nat.le_of_ble_eq_true rfl), (Nat.le_of_ble_eq_true rfl)⟩) hS (fun q _ h => hFc q h) hFc (fun r_2788 u t H locs ht hvm hw hB hz1 hk1 hS => ?_)
          obtain ⟨hP1, hD1⟩ := hB
          rw [ht] at hP1
          obtain ⟨hP, hD⟩ := bk_join hpm hP hD hk1 hFc (Cs1 := []) hP1 hD1
          have hpm2 : List.Perm (([] : List va_W) ++ ([[(h0, .inr (2, [.ref pl0, .int fr_2692, .int dr_2695, .int rc_2698, .ref (r0 0), .ref (r0 1), .int gn_2704, .ref (r0 2), .ref (r0 3), .ref (r0 4), .ref (r0 5), .ref (r0 6), .long sc_2710, .int jc_2711, .ref (r0 7), .ref (r0 8)])), (r0 0, .inl (cI, 10, .inl f_2701)), (r0 1, .inl (cI, 10, .inl f_2703)), (r0 2, .inl (cI, 6, .inl f_2705)), (r0 3, .inl (cJ, 6, .inr (.inl f_2706))), (r0 4, .inl (cJ, 6, .inr (.inl f_2707))), (r0 5, .inl (cJ, 6, .inr (.inl f_2708))), (r0 6, .inl (cJ, 10, .inr (.inl f_2709))), (r0 7, .inl (cI, 70, .inl f_2714)), (r0 8, .inl (cI, 70, .inl f_2716))], w1] : List va_W)) ([[(h0, .inr (2, [.ref pl0, .int fr_2692, .int dr_2695, .int rc_2698, .ref (r0 0), .ref (r0 1), .int gn_2704, .ref (r0 2), .ref (r0 3), .ref (r0 4), .ref (r0 5), .ref (r0 6), .long sc_2710, .int jc_2711, .ref (r0 7), .ref (r0 8)])), (r0 0, .inl (cI, 10, .inl f_2701)), (r0 1, .inl (cI, 10, .inl f_2703)), (r0 2, .inl (cI, 6, .inl f_2705)), (r0 3, .inl (cJ, 6, .inr (.inl f_2706))), (r0 4, .inl (cJ, 6, .inr (.inl f_2707))), (r0 5, .inl (cJ, 6, .inr (.inl f_2708))), (r0 6, .inl (cJ, 10, .inr (.inl f_2709))), (r0 7, .inl (cI, 70, .inl f_2714)), (r0 8, .inl (cI, 70, .inl f_2716))], w1] : List va_W) := pm_n 2 [0, 1] (by decide) rfl rfl
          have hP := bk_reP hpm2 hP
          have hD := bk_reD hpm2 hD
          have hP : va_P (dC, dI) vwCl (List.flatten [[(h0, .inr (2, [.ref pl0, .int fr_2692, .int dr_2695, .int rc_2698, .ref (r0 0), .ref (r0 1), .int gn_2704, .ref (r0 2), .ref (r0 3), .ref (r0 4), .ref (r0 5), .ref (r0 6), .long sc_2710, .int jc_2711, .ref (r0 7), .ref (r0 8)])), (r0 0, .inl (cI, 10, .inl f_2701)), (r0 1, .inl (cI, 10, .inl f_2703)), (r0 2, .inl (cI, 6, .inl f_2705)), (r0 3, .inl (cJ, 6, .inr (.inl f_2706))), (r0 4, .inl (cJ, 6, .inr (.inl f_2707))), (r0 5, .inl (cJ, 6, .inr (.inl f_2708))), (r0 6, .inl (cJ, 10, .inr (.inl f_2709))), (r0 7, .inl (cI, 70, .inl f_2714)), (r0 8, .inl (cI, 70, .inl f_2716))], w1]) H := hP
          have hD : va_D A (List.flatten [[(h0, .inr (2, [.ref pl0, .int fr_2692, .int dr_2695, .int rc_2698, .ref (r0 0), .ref (r0 1), .int gn_2704, .ref (r0 2), .ref (r0 3), .ref (r0 4), .ref (r0 5), .ref (r0 6), .long sc_2710, .int jc_2711, .ref (r0 7), .ref (r0 8)])), (r0 0, .inl (cI, 10, .inl f_2701)), (r0 1, .inl (cI, 10, .inl f_2703)), (r0 2, .inl (cI, 6, .inl f_2705)), (r0 3, .inl (cJ, 6, .inr (.inl f_2706))), (r0 4, .inl (cJ, 6, .inr (.inl f_2707))), (r0 5, .inl (cJ, 6, .inr (.inl f_2708))), (r0 6, .inl (cJ, 10, .inr (.inl f_2709))), (r0 7, .inl (cI, 70, .inl f_2714)), (r0 8, .inl (cI, 70, .inl f_2716))], w1]) := hD
          refine lv_icmp_ge (tgt := 38) hx hb dX3_fewestToRoof_31 (by decide) (fun c_2789 => ?_) (fun c_2789 => ?_)
          · have c_2789 : r_2788.toInt ≤ r_2787.toInt := f_le rfl rfl c_2789
            refine lv_iconst (v := 0) hx hb dX3_fewestToRoof_38 (by decide) ?_
            refine lv_istore (lv' := [(4, .int 0), (3, .int g_28), (2, .int g_29), (1, .int r_27), (0, .ref h0)]) hx hb dX3_fewestToRoof_39 hl (by decide) rfl (fun ls hl => ?_)
            refine lv_iload hx hb dX3_fewestToRoof_41 (lv_at hl 0 rfl) ?_
            refine lv_if_eq (tgt := 74) hx hb dX3_fewestToRoof_43 (by decide) (fun c_2790 => ?_) (fun c_2790 => absurd c_2790 (by decide))
            obtain ⟨z_2791, ez_2791⟩ : ∃ y : Int32, y = g_28 + 1 := ⟨_, rfl⟩
            have hz_2791 : z_2791.toInt = g_28.toInt + 1 := by rw [ez_2791]; exact t_add rfl tI_1 (by omega) (by omega)
            refine lv_iinc (v := z_2791) (lv' := [(3, .int z_2791), (4, .int 0), (2, .int g_29), (1, .int r_27), (0, .ref h0)]) hx hb dX3_fewestToRoof_74 hl (k := 1) rfl (by rw [ez_2791]; rfl) (by decide) rfl (fun ls hl => ?_)
            refine lv_goto (tgt := 9) hx hb dX3_fewestToRoof_77 (by decide) ?_
            exact ih_2691 z_2791 g_29 _ ⟨fr_2692, dr_2695, rc_2698, f_2701, f_2703, gn_2704, f_2705, f_2706, f_2707, f_2708, f_2709, sc_2710, jc_2711, f_2714, f_2716, rfl, by omega, by omega, by omega, by omega, by omega, by omega, hr_2702, by omega, by omega, hr_2715, hr_2717⟩ (by omega) (by omega) (by omega) (by omega) (by omega) (by omega) _ _ hP hD hS ls (lv_sub hl [0, 2, 3, 4] rfl)
          · have c_2789 : r_2787.toInt < r_2788.toInt := f_nle rfl rfl c_2789
            refine lv_iconst (v := 1) hx hb dX3_fewestToRoof_34 (by decide) ?_
            refine lv_goto (tgt := 39) hx hb dX3_fewestToRoof_35 (by decide) ?_
            refine lv_istore (lv' := [(4, .int 1), (3, .int g_28), (2, .int g_29), (1, .int r_27), (0, .ref h0)]) hx hb dX3_fewestToRoof_39 hl (by decide) rfl (fun ls hl => ?_)
            refine lv_iload hx hb dX3_fewestToRoof_41 (lv_at hl 0 rfl) ?_
            refine lv_if_eq (tgt := 74) hx hb dX3_fewestToRoof_43 (by decide) (fun c_2792 => absurd c_2792 (by decide)) (fun c_2792 => ?_)
            refine lv_iload_n hx hb dX3_fewestToRoof_46 rfl (lv_at hl 1 rfl) ?_
            refine lv_iload_n hx hb dX3_fewestToRoof_47 rfl (lv_at hl 3 rfl) ?_
            refine lv_iand hx hb dX3_fewestToRoof_48 ?_
            refine lv_topi (fun z_2793 ez_2793 => ?_)
            refine lv_if_ne (tgt := 74) hx hb dX3_fewestToRoof_49 (by decide) (fun c_2794 => ?_) (fun c_2794 => ?_)
            · have c_2794 : ¬ z_2793.toInt = 0 := f_ne rfl tI_0 c_2794
              obtain ⟨z_2795, ez_2795⟩ : ∃ y : Int32, y = g_28 + 1 := ⟨_, rfl⟩
              have hz_2795 : z_2795.toInt = g_28.toInt + 1 := by rw [ez_2795]; exact t_add rfl tI_1 (by omega) (by omega)
              refine lv_iinc (v := z_2795) (lv' := [(3, .int z_2795), (4, .int 1), (2, .int g_29), (1, .int r_27), (0, .ref h0)]) hx hb dX3_fewestToRoof_74 hl (k := 1) rfl (by rw [ez_2795]; rfl) (by decide) rfl (fun ls hl => ?_)
              refine lv_goto (tgt := 9) hx hb dX3_fewestToRoof_77 (by decide) ?_
              exact ih_2691 z_2795 g_29 _ ⟨fr_2692, dr_2695, rc_2698, f_2701, f_2703, gn_2704, f_2705, f_2706, f_2707, f_2708, f_2709, sc_2710, jc_2711, f_2714, f_2716, rfl, by omega, by omega, by omega, by omega, by omega, by omega, hr_2702, by omega, by omega, hr_2715, hr_2717⟩ (by omega) (by omega) (by omega) (by omega) (by omega) (by omega) _ _ hP hD hS ls (lv_sub hl [0, 2, 3, 4] rfl)
            · have c_2794 : z_2793.toInt = 0 := f_eq rfl tI_0 c_2794
              refine lv_aload_n hx hb dX3_fewestToRoof_52 rfl (lv_at hl 4 rfl) ?_
              refine lv_iload_n hx hb dX3_fewestToRoof_53 rfl (lv_at hl 1 rfl) ?_
              have hpm : List.Perm ([[(h0, .inr (2, [.ref pl0, .int fr_2692, .int dr_2695, .int rc_2698, .ref (r0 0), .ref (r0 1), .int gn_2704, .ref (r0 2), .ref (r0 3), .ref (r0 4), .ref (r0 5), .ref (r0 6), .long sc_2710, .int jc_2711, .ref (r0 7), .ref (r0 8)])), (r0 0, .inl (cI, 10, .inl f_2701)), (r0 1, .inl (cI, 10, .inl f_2703)), (r0 2, .inl (cI, 6, .inl f_2705)), (r0 3, .inl (cJ, 6, .inr (.inl f_2706))), (r0 4, .inl (cJ, 6, .inr (.inl f_2707))), (r0 5, .inl (cJ, 6, .inr (.inl f_2708))), (r0 6, .inl (cJ, 10, .inr (.inl f_2709))), (r0 7, .inl (cI, 70, .inl f_2714)), (r0 8, .inl (cI, 70, .inl f_2716))], w1] : List va_W) (([[(h0, .inr (2, [.ref pl0, .int fr_2692, .int dr_2695, .int rc_2698, .ref (r0 0), .ref (r0 1), .int gn_2704, .ref (r0 2), .ref (r0 3), .ref (r0 4), .ref (r0 5), .ref (r0 6), .long sc_2710, .int jc_2711, .ref (r0 7), .ref (r0 8)])), (r0 0, .inl (cI, 10, .inl f_2701)), (r0 1, .inl (cI, 10, .inl f_2703)), (r0 2, .inl (cI, 6, .inl f_2705)), (r0 3, .inl (cJ, 6, .inr (.inl f_2706))), (r0 4, .inl (cJ, 6, .inr (.inl f_2707))), (r0 5, .inl (cJ, 6, .inr (.inl f_2708))), (r0 6, .inl (cJ, 10, .inr (.inl f_2709))), (r0 7, .inl (cI, 70, .inl f_2714)), (r0 8, .inl (cI, 70, .inl f_2716))], w1] : List va_W) ++ ([] : List va_W)) := pm_n 2 [0, 1] (by decide) rfl rfl
              have hPc := bk_P hpm hP
              have hDc := bk_D hpm hD
              have hFc := bk_F hpm hD hS hA
              refine va_callv (va_runV (As := [.int g_28]) (rest := []) ⟨hx, hb, hml, hown, hts⟩ (c_X3_hangFromRoof l dC dI ad tN fN cB cI cJ cZ h0 g_28 r0 pl0 _ r1 fc1 dc1 rk1 _ ⟨fr_2692, dr_2695, rc_2698, f_2701, f_2703, gn_2704, f_2705, f_2706, f_2707, f_2708, f_2709, sc_2710, jc_2711, f_2714, f_2716, rfl, by omega, by omega, by omega, by omega, by omega, by omega, hr_2702, by omega, by omega, hr_2715, hr_2717⟩ o1 H.size) (cwV 1 hts gX3_fewestToRoof_X3_hangFromRoof rfl rfl rfl (by decide +kernel) ⟨(Nat.le_of_ble_eq_true rfl), (Nat.le_of_ble_eq_true rfl)⟩) ⟨fun a U g mk q => by obtain ⟨q0, q1, qP, qK, qD, qE⟩ := q; exact ⟨q0, q1, qP, va_K.moved (u := U) (U := U.calling g mk a) (Vm.Alike.refl U.vm) qK, qD, ey_blind qE⟩, va_recv hK hPc (ci := 2) (q0 := 0) rfl rfl, fun U hU hW => ⟨rfl, by rw [hU], by rw [hU]; exact hPc, va_K.moved hW.alike hK, hDc.weaken (fun _ _ _ _ => trivial), ey_call hE hS hFc hU hW⟩⟩ rfl rfl hl.1 rfl (lv_room (Nat.le_of_ble_eq_true rfl)) dX3_fewestToRoof_54 ⟨(Nat.le_of_ble_eq_true rfl), (Nat.le_of_ble_eq_true rfl)⟩) hS (fun q _ h => hFc q h) hFc (fun u t H locs ht hvm hw hB hz1 hk1 hS => ?_)
              obtain ⟨w_2797, o_2798, hP1, hD1⟩ := hB
              rw [ht] at hP1
              obtain ⟨hP, hD⟩ := bk_join hpm hP hD hk1 hFc (Cs1 := [w_2797, w1]) hP1 hD1
              have hpm2 : List.Perm (([w_2797, w1] : List va_W) ++ ([] : List va_W)) ([w_2797, w1] : List va_W) := pm_n 2 [0, 1] (by decide) rfl rfl
              have hP := bk_reP hpm2 hP
              have hD := bk_reD hpm2 hD
              have hP : va_P (dC, dI) vwCl (List.flatten [w_2797, w1]) H := hP
              have hD : va_D A (List.flatten [w_2797, w1]) := hD
              refine lv_aload_n hx hb dX3_fewestToRoof_57 rfl (lv_at hl 4 rfl) ?_
              obtain ⟨fr_2799, dr_2802, rc_2805, f_2808, f_2810, gn_2811, f_2812, f_2813, f_2814, f_2815, f_2816, sc_2817, jc_2818, f_2821, f_2823, rfl, hl_2800, hh_2801, hl_2803, hh_2804, hl_2806, hh_2807, hr_2809, hl_2819, hh_2820, hr_2822, hr_2824⟩ := o_2798
              have hpm : List.Perm ([[(h0, .inr (2, [.ref pl0, .int fr_2799, .int dr_2802, .int rc_2805, .ref (r0 0), .ref (r0 1), .int gn_2811, .ref (r0 2), .ref (r0 3), .ref (r0 4), .ref (r0 5), .ref (r0 6), .long sc_2817, .int jc_2818, .ref (r0 7), .ref (r0 8)])), (r0 0, .inl (cI, 10, .inl f_2808)), (r0 1, .inl (cI, 10, .inl f_2810)), (r0 2, .inl (cI, 6, .inl f_2812)), (r0 3, .inl (cJ, 6, .inr (.inl f_2813))), (r0 4, .inl (cJ, 6, .inr (.inl f_2814))), (r0 5, .inl (cJ, 6, .inr (.inl f_2815))), (r0 6, .inl (cJ, 10, .inr (.inl f_2816))), (r0 7, .inl (cI, 70, .inl f_2821)), (r0 8, .inl (cI, 70, .inl f_2823))], w1] : List va_W) (([[(h0, .inr (2, [.ref pl0, .int fr_2799, .int dr_2802, .int rc_2805, .ref (r0 0), .ref (r0 1), .int gn_2811, .ref (r0 2), .ref (r0 3), .ref (r0 4), .ref (r0 5), .ref (r0 6), .long sc_2817, .int jc_2818, .ref (r0 7), .ref (r0 8)])), (r0 0, .inl (cI, 10, .inl f_2808)), (r0 1, .inl (cI, 10, .inl f_2810)), (r0 2, .inl (cI, 6, .inl f_2812)), (r0 3, .inl (cJ, 6, .inr (.inl f_2813))), (r0 4, .inl (cJ, 6, .inr (.inl f_2814))), (r0 5, .inl (cJ, 6, .inr (.inl f_2815))), (r0 6, .inl (cJ, 10, .inr (.inl f_2816))), (r0 7, .inl (cI, 70, .inl f_2821)), (r0 8, .inl (cI, 70, .inl f_2823))], w1] : List va_W) ++ ([] : List va_W)) := pm_n 2 [0, 1] (by decide) rfl rfl
              have hPc := bk_P hpm hP
              have hDc := bk_D hpm hD
              have hFc := bk_F hpm hD hS hA
              refine va_callv (va_runV (As := []) (rest := []) ⟨hx, hb, hml, hown, hts⟩ (c_X3_passUp l dC dI ad tN fN cB cI cJ cZ h0 r0 pl0 _ r1 fc1 dc1 rk1 _ ⟨fr_2799, dr_2802, rc_2805, f_2808, f_2810, gn_2811, f_2812, f_2813, f_2814, f_2815, f_2816, sc_2817, jc_2818, f_2821, f_2823, rfl, by omega, by omega, by omega, by omega, by omega, by omega, hr_2809, by omega, by omega, hr_2822, hr_2824⟩ o1 H.size) (cwV 0 hts gX3_fewestToRoof_X3_passUp rfl rfl rfl (by decide +kernel) ⟨(Nat.le_of_ble_eq_true rfl), (Nat.le_of_ble_eq_true rfl)⟩) ⟨fun a U g mk q => by obtain ⟨q0, q1, qP, qK, qD, qE⟩ := q; exact ⟨q0, q1, qP, va_K.moved (u := U) (U := U.calling g mk a) (Vm.Alike.refl U.vm) qK, qD, ey_blind qE⟩, va_recv hK hPc (ci := 2) (q0 := 0) rfl rfl, fun U hU hW => ⟨rfl, by rw [hU], by rw [hU]; exact hPc, va_K.moved hW.alike hK, hDc.weaken (fun _ _ _ _ => trivial), ey_call hE hS hFc hU hW⟩⟩ rfl rfl hl.1 rfl (lv_room (Nat.le_of_ble_eq_true rfl)) dX3_fewestToRoof_58 ⟨(Nat.le_of_ble_eq_true rfl), (Nat.le_of_ble_eq_true rfl)⟩) hS (fun q _ h => hFc q h) hFc (fun u t H locs ht hvm hw hB hz1 hk1 hS => ?_)
              obtain ⟨w_2826, o_2827, hP1, hD1⟩ := hB
              rw [ht] at hP1
              obtain ⟨hP, hD⟩ := bk_join hpm hP hD hk1 hFc (Cs1 := [w_2826, w1]) hP1 hD1
              have hpm2 : List.Perm (([w_2826, w1] : List va_W) ++ ([] : List va_W)) ([w_2826, w1] : List va_W) := pm_n 2 [0, 1] (by decide) rfl rfl
              have hP := bk_reP hpm2 hP
              have hD := bk_reD hpm2 hD
              have hP : va_P (dC, dI) vwCl (List.flatten [w_2826, w1]) H := hP
              have hD : va_D A (List.flatten [w_2826, w1]) := hD
              refine lv_aload_n hx hb dX3_fewestToRoof_61 rfl (lv_at hl 4 rfl) ?_
              obtain ⟨fr_2828, dr_2831, rc_2834, f_2837, f_2839, gn_2840, f_2841, f_2842, f_2843, f_2844, f_2845, sc_2846, jc_2847, f_2850, f_2852, rfl, hl_2829, hh_2830, hl_2832, hh_2833, hl_2835, hh_2836, hr_2838, hl_2848, hh_2849, hr_2851, hr_2853⟩ := o_2827
              have hpm : List.Perm ([[(h0, .inr (2, [.ref pl0, .int fr_2828, .int dr_2831, .int rc_2834, .ref (r0 0), .ref (r0 1), .int gn_2840, .ref (r0 2), .ref (r0 3), .ref (r0 4), .ref (r0 5), .ref (r0 6), .long sc_2846, .int jc_2847, .ref (r0 7), .ref (r0 8)])), (r0 0, .inl (cI, 10, .inl f_2837)), (r0 1, .inl (cI, 10, .inl f_2839)), (r0 2, .inl (cI, 6, .inl f_2841)), (r0 3, .inl (cJ, 6, .inr (.inl f_2842))), (r0 4, .inl (cJ, 6, .inr (.inl f_2843))), (r0 5, .inl (cJ, 6, .inr (.inl f_2844))), (r0 6, .inl (cJ, 10, .inr (.inl f_2845))), (r0 7, .inl (cI, 70, .inl f_2850)), (r0 8, .inl (cI, 70, .inl f_2852))], w1] : List va_W) (([[(h0, .inr (2, [.ref pl0, .int fr_2828, .int dr_2831, .int rc_2834, .ref (r0 0), .ref (r0 1), .int gn_2840, .ref (r0 2), .ref (r0 3), .ref (r0 4), .ref (r0 5), .ref (r0 6), .long sc_2846, .int jc_2847, .ref (r0 7), .ref (r0 8)])), (r0 0, .inl (cI, 10, .inl f_2837)), (r0 1, .inl (cI, 10, .inl f_2839)), (r0 2, .inl (cI, 6, .inl f_2841)), (r0 3, .inl (cJ, 6, .inr (.inl f_2842))), (r0 4, .inl (cJ, 6, .inr (.inl f_2843))), (r0 5, .inl (cJ, 6, .inr (.inl f_2844))), (r0 6, .inl (cJ, 10, .inr (.inl f_2845))), (r0 7, .inl (cI, 70, .inl f_2850)), (r0 8, .inl (cI, 70, .inl f_2852))], w1] : List va_W) ++ ([] : List va_W)) := pm_n 2 [0, 1] (by decide) rfl rfl
              have hPc := bk_P hpm hP
              have hDc := bk_D hpm hD
              have hFc := bk_F hpm hD hS hA
              refine va_calli (va_runV (As := []) (rest := []) ⟨hx, hb, hml, hown, hts⟩ (c_X3_isAnyBeyond l dC dI ad tN fN cB cI cJ cZ h0 r0 pl0 _ r1 fc1 dc1 rk1 _ ⟨fr_2828, dr_2831, rc_2834, f_2837, f_2839, gn_2840, f_2841, f_2842, f_2843, f_2844, f_2845, sc_2846, jc_2847, f_2850, f_2852, rfl, by omega, by omega, by omega, by omega, by omega, by omega, hr_2838, by omega, by omega, hr_2851, hr_2853⟩ o1 H.size) (cwV 0 hts gX3_fewestToRoof_X3_isAnyBeyond rfl rfl rfl (by decide +kernel) ⟨(Nat.le_of_ble_eq_true rfl), (Nat.le_of_ble_eq_true rfl)⟩) ⟨fun a U g mk q => by obtain ⟨q0, q1, qP, qK, qD, qE⟩ := q; exact ⟨q0, q1, qP, va_K.moved (u := U) (U := U.calling g mk a) (Vm.Alike.refl U.vm) qK, qD, ey_blind qE⟩, va_recv hK hPc (ci := 2) (q0 := 0) rfl rfl, fun U hU hW => ⟨rfl, by rw [hU], by rw [hU]; exact hPc, va_K.moved hW.alike hK, hDc.weaken (fun _ _ _ _ => trivial), ey_call hE hS hFc hU hW⟩⟩ rfl rfl hl.1 rfl (lv_room (Nat.le_of_ble_eq_true rfl)) dX3_fewestToRoof_62 ⟨(Nat.le_of_ble_eq_true rfl), (Nat.le_of_ble_eq_true rfl)⟩) hS (fun q _ h => hFc q h) hFc (fun r_2854 u t H locs ht hvm hw hB hz1 hk1 hS => ?_)
              obtain ⟨hP1, hD1⟩ := hB
              rw [ht] at hP1
              obtain ⟨hP, hD⟩ := bk_join hpm hP hD hk1 hFc (Cs1 := [[(h0, .inr (2, [.ref pl0, .int fr_2828, .int dr_2831, .int rc_2834, .ref (r0 0), .ref (r0 1), .int gn_2840, .ref (r0 2), .ref (r0 3), .ref (r0 4), .ref (r0 5), .ref (r0 6), .long sc_2846, .int jc_2847, .ref (r0 7), .ref (r0 8)])), (r0 0, .inl (cI, 10, .inl f_2837)), (r0 1, .inl (cI, 10, .inl f_2839)), (r0 2, .inl (cI, 6, .inl f_2841)), (r0 3, .inl (cJ, 6, .inr (.inl f_2842))), (r0 4, .inl (cJ, 6, .inr (.inl f_2843))), (r0 5, .inl (cJ, 6, .inr (.inl f_2844))), (r0 6, .inl (cJ, 10, .inr (.inl f_2845))), (r0 7, .inl (cI, 70, .inl f_2850)), (r0 8, .inl (cI, 70, .inl f_2852))], w1]) hP1 hD1
              have hpm2 : List.Perm (([[(h0, .inr (2, [.ref pl0, .int fr_2828, .int dr_2831, .int rc_2834, .ref (r0 0), .ref (r0 1), .int gn_2840, .ref (r0 2), .ref (r0 3), .ref (r0 4), .ref (r0 5), .ref (r0 6), .long sc_2846, .int jc_2847, .ref (r0 7), .ref (r0 8)])), (r0 0, .inl (cI, 10, .inl f_2837)), (r0 1, .inl (cI, 10, .inl f_2839)), (r0 2, .inl (cI, 6, .inl f_2841)), (r0 3, .inl (cJ, 6, .inr (.inl f_2842))), (r0 4, .inl (cJ, 6, .inr (.inl f_2843))), (r0 5, .inl (cJ, 6, .inr (.inl f_2844))), (r0 6, .inl (cJ, 10, .inr (.inl f_2845))), (r0 7, .inl (cI, 70, .inl f_2850)), (r0 8, .inl (cI, 70, .inl f_2852))], w1] : List va_W) ++ ([] : List va_W)) ([[(h0, .inr (2, [.ref pl0, .int fr_2828, .int dr_2831, .int rc_2834, .ref (r0 0), .ref (r0 1), .int gn_2840, .ref (r0 2), .ref (r0 3), .ref (r0 4), .ref (r0 5), .ref (r0 6), .long sc_2846, .int jc_2847, .ref (r0 7), .ref (r0 8)])), (r0 0, .inl (cI, 10, .inl f_2837)), (r0 1, .inl (cI, 10, .inl f_2839)), (r0 2, .inl (cI, 6, .inl f_2841)), (r0 3, .inl (cJ, 6, .inr (.inl f_2842))), (r0 4, .inl (cJ, 6, .inr (.inl f_2843))), (r0 5, .inl (cJ, 6, .inr (.inl f_2844))), (r0 6, .inl (cJ, 10, .inr (.inl f_2845))), (r0 7, .inl (cI, 70, .inl f_2850)), (r0 8, .inl (cI, 70, .inl f_2852))], w1] : List va_W) := pm_n 2 [0, 1] (by decide) rfl rfl
              have hP := bk_reP hpm2 hP
              have hD := bk_reD hpm2 hD
              have hP : va_P (dC, dI) vwCl (List.flatten [[(h0, .inr (2, [.ref pl0, .int fr_2828, .int dr_2831, .int rc_2834, .ref (r0 0), .ref (r0 1), .int gn_2840, .ref (r0 2), .ref (r0 3), .ref (r0 4), .ref (r0 5), .ref (r0 6), .long sc_2846, .int jc_2847, .ref (r0 7), .ref (r0 8)])), (r0 0, .inl (cI, 10, .inl f_2837)), (r0 1, .inl (cI, 10, .inl f_2839)), (r0 2, .inl (cI, 6, .inl f_2841)), (r0 3, .inl (cJ, 6, .inr (.inl f_2842))), (r0 4, .inl (cJ, 6, .inr (.inl f_2843))), (r0 5, .inl (cJ, 6, .inr (.inl f_2844))), (r0 6, .inl (cJ, 10, .inr (.inl f_2845))), (r0 7, .inl (cI, 70, .inl f_2850)), (r0 8, .inl (cI, 70, .inl f_2852))], w1]) H := hP
              have hD : va_D A (List.flatten [[(h0, .inr (2, [.ref pl0, .int fr_2828, .int dr_2831, .int rc_2834, .ref (r0 0), .ref (r0 1), .int gn_2840, .ref (r0 2), .ref (r0 3), .ref (r0 4), .ref (r0 5), .ref (r0 6), .long sc_2846, .int jc_2847, .ref (r0 7), .ref (r0 8)])), (r0 0, .inl (cI, 10, .inl f_2837)), (r0 1, .inl (cI, 10, .inl f_2839)), (r0 2, .inl (cI, 6, .inl f_2841)), (r0 3, .inl (cJ, 6, .inr (.inl f_2842))), (r0 4, .inl (cJ, 6, .inr (.inl f_2843))), (r0 5, .inl (cJ, 6, .inr (.inl f_2844))), (r0 6, .inl (cJ, 10, .inr (.inl f_2845))), (r0 7, .inl (cI, 70, .inl f_2850)), (r0 8, .inl (cI, 70, .inl f_2852))], w1]) := hD
              obtain ⟨hlr_2854, hhr_2854⟩ := hw
              refine lv_if_eq (tgt := 72) hx hb dX3_fewestToRoof_65 (by decide) (fun c_2855 => ?_) (fun c_2855 => ?_)
              · have c_2855 : r_2854.toInt = 0 := f_eq rfl tI_0 c_2855
                refine lv_iload_n hx hb dX3_fewestToRoof_72 rfl (lv_at hl 1 rfl) ?_
                refine lv_istore_n (lv' := [(2, .int g_28), (4, .int 1), (3, .int g_28), (1, .int r_27), (0, .ref h0)]) hx hb dX3_fewestToRoof_73 rfl hl (by decide) rfl (fun ls hl => ?_)
                obtain ⟨z_2856, ez_2856⟩ : ∃ y : Int32, y = g_28 + 1 := ⟨_, rfl⟩
                have hz_2856 : z_2856.toInt = g_28.toInt + 1 := by rw [ez_2856]; exact t_add rfl tI_1 (by omega) (by omega)
                refine lv_iinc (v := z_2856) (lv' := [(3, .int z_2856), (2, .int g_28), (4, .int 1), (1, .int r_27), (0, .ref h0)]) hx hb dX3_fewestToRoof_74 hl (k := 2) rfl (by rw [ez_2856]; rfl) (by decide) rfl (fun ls hl => ?_)
                refine lv_goto (tgt := 9) hx hb dX3_fewestToRoof_77 (by decide) ?_
                exact ih_2691 z_2856 g_28 _ ⟨fr_2828, dr_2831, rc_2834, f_2837, f_2839, gn_2840, f_2841, f_2842, f_2843, f_2844, f_2845, sc_2846, jc_2847, f_2850, f_2852, rfl, by omega, by omega, by omega, by omega, by omega, by omega, hr_2838, by omega, by omega, hr_2851, hr_2853⟩ (by omega) (by omega) (by omega) (by omega) (by omega) (by omega) _ _ hP hD hS ls (lv_sub hl [0, 1, 3, 4] rfl)
              · have c_2855 : ¬ r_2854.toInt = 0 := f_ne rfl tI_0 c_2855
                refine lv_iload_n hx hb dX3_fewestToRoof_68 rfl (lv_at hl 2 rfl) ?_
                refine lv_goto (tgt := 73) hx hb dX3_fewestToRoof_69 (by decide) ?_
                refine lv_istore_n (lv' := [(2, .int g_29), (4, .int 1), (3, .int g_28), (1, .int r_27), (0, .ref h0)]) hx hb dX3_fewestToRoof_73 rfl hl (by decide) rfl (fun ls hl => ?_)
                obtain ⟨z_2857, ez_2857⟩ : ∃ y : Int32, y = g_28 + 1 := ⟨_, rfl⟩
                have hz_2857 : z_2857.toInt = g_28.toInt + 1 := by rw [ez_2857]; exact t_add rfl tI_1 (by omega) (by omega)
                refine lv_iinc (v := z_2857) (lv' := [(3, .int z_2857), (2, .int g_29), (4, .int 1), (1, .int r_27), (0, .ref h0)]) hx hb dX3_fewestToRoof_74 hl (k := 2) rfl (by rw [ez_2857]; rfl) (by decide) rfl (fun ls hl => ?_)
                refine lv_goto (tgt := 9) hx hb dX3_fewestToRoof_77 (by decide) ?_
                exact ih_2691 z_2857 g_29 _ ⟨fr_2828, dr_2831, rc_2834, f_2837, f_2839, gn_2840, f_2841, f_2842, f_2843, f_2844, f_2845, sc_2846, jc_2847, f_2850, f_2852, rfl, by omega, by omega, by omega, by omega, by omega, by omega, hr_2838, by omega, by omega, hr_2851, hr_2853⟩ (by omega) (by omega) (by omega) (by omega) (by omega) (by omega) _ _ hP hD hS ls (lv_sub hl [0, 1, 3, 4] rfl)
  exact lp_2690 _ 0 (-1) _ ⟨fr_1, dr_4, rc_7, f_10, f_12, gn_13, f_14, f_15, f_16, f_17, f_18, sc_19, jc_20, f_23, f_25, rfl, by omega, by omega, by omega, by omega, by omega, by omega, hr_11, by omega, by omega, hr_24, hr_26⟩ (by have := tI_m1; have := tI_0; omega) (by have := tI_m1; have := tI_0; omega) (by have := tI_m1; have := tI_0; omega) (by have := tI_m1; have := tI_0; omega) (by have := tI_m1; have := tI_0; omega) (Nat.lt_succ_self _) _ _ hP hD hS ls (lv_sub hl [0, 1, 2, 3] rfl)
set_option maxHeartbeats 4000000 in
set_option maxRecDepth 100000 in
theorem c_X2_greatestCommon (l : Launch) (dC : Nat → ClassId) (dI : Nat → Nat → Nat) (ad : Nat → Nat) (tN : Nat) (fN : Nat → Int64) (cB cI cJ cZ : ClassId) (q1 : Int64) (q2 : Int64) (sz : Nat) : Met l yX2_greatestCommon wsX2_greatestCommon ({ frames := 0, cells := 0, slots := 0, locals := 0 } : Room) (va_Pc [.long q1, .long q2] (fun U => U.heap.size = sz ∧ va_P (dC, dI) vwCl (List.flatten []) U.heap ∧ va_K (dC, dI) vwCl [(cB, .byte), (cI, .int), (cJ, .long), (cZ, .boolean)] U ∧ va_D (fun _ => True) (List.flatten []) ∧ ex_Y ad tN fN (va_A (List.flatten []) sz) U)) (va_Ql (fun (r : Int64) (_ : Unit) => True) (fun (_ : Unit) (t : State) => va_P (dC, dI) vwCl (List.flatten []) t.heap ∧ va_D (va_A (List.flatten []) sz) (List.flatten [])) (va_A (List.flatten []) sz)) 0 0 (va_A (List.flatten []) sz) := by
  refine Met.ofW (cc := cX2_greatestCommon) (maxL := 11) (ret := (some .long)) (by decide) rfl ?_
  intro p e s m args below meth c s₁ B hml hv
  obtain ⟨rfl, hsz, hP, hK, hD0, hE⟩ := hv
  have hx := B.exec
  have hb := B.bytes
  have hr := B.returns
  have hts := atoms_spec (ws := wsX2_greatestCommon) B.pre
  have hown : s.vm.findClass RX2 = some m.cls := findClass_of_methodNamed B.named
  have hlocks := B.notSynchronized
  subst hsz
  have hD := hD0.self (sz := s.heap.size)
  generalize hAe : va_A (List.flatten []) s.heap.size = A at hD hE ⊢
  have hA : ∀ q : Nat, s.heap.size ≤ q → A q := fun q h => by rw [← hAe]; exact Or.inr h
  have hS : va_S A s.heap s.heap [] := va_S.rf
  have hl := lv_entry ([.long q1, .long q2]) (n := 11) (Nat.le_of_ble_eq_true rfl)
  rw [lg_entry_eq]
  generalize (lg_sl ([.long q1, .long q2]) ++ List.replicate (11 - (lg_sl ([.long q1, .long q2])).length) Slot.unset).toArray = ls at hl ⊢
  have hl : lv_has ls 11 [(0, .long q1), (2, .long q2)] := hl
  clear hAe
  refine W_name (fun Q0 hQ0 => ?_)
  refine lv_lload_n hx hb dX2_greatestCommon_0 rfl (lv_at hl 0 rfl) ?_
  refine lv_lstore (lv' := [(4, .long q1), (0, .long q1), (2, .long q2)]) hx hb dX2_greatestCommon_1 hl (by decide) rfl (fun ls hl => ?_)
  refine lv_lload_n hx hb dX2_greatestCommon_3 rfl (lv_at hl 2 rfl) ?_
  refine lv_lstore (lv' := [(6, .long q2), (4, .long q1), (0, .long q1), (2, .long q2)]) hx hb dX2_greatestCommon_4 hl (by decide) rfl (fun ls hl => ?_)
  refine lv_iconst (v := 0) hx hb dX2_greatestCommon_6 (by decide) ?_
  refine lv_istore (lv' := [(8, .int 0), (6, .long q2), (4, .long q1), (0, .long q1), (2, .long q2)]) hx hb dX2_greatestCommon_7 hl (by decide) rfl (fun ls hl => ?_)
  have lp_102 : ∀ (n : Nat) (g_1 : Int32) (g_2 : Int64) (g_3 : Int64), 0 ≤ g_1.toInt → g_1.toInt ≤ 1024 → (1024 - g_1.toInt).toNat < n → ∀ (H : Heap) (locs : List Loc), va_P (dC, dI) vwCl (List.flatten []) H → va_D A (List.flatten []) → va_S A s.heap H locs → ∀ (ls : Array Slot), lv_has ls 11 [(8, .int g_1), (6, .long g_2), (4, .long g_3), (0, .long q1), (2, .long q2)] → W p l e (headSpec wsX2_greatestCommon ({ frames := 0, cells := 0, slots := 0, locals := 0 } : Room)).room s m ([.long q1, .long q2] : List Value).toArray below meth c H locs 0 0 Q0 (F0 m 9 ls []) := by
    intro n
    induction n with
    | zero => intro g_1 g_2 g_3 iv_100 iv_101 hm; exact absurd hm (Nat.not_lt_zero _)
    | succ n ih_103 =>
      intro g_1 g_2 g_3 iv_100 iv_101 hm H locs hP hD hS ls hl
      refine lv_iload hx hb dX2_greatestCommon_9 (lv_at hl 0 rfl) ?_
      refine lv_sipush (v := 200) hx hb dX2_greatestCommon_11 (by decide) ?_
      refine lv_icmp_ge (tgt := 45) hx hb dX2_greatestCommon_14 (by decide) (fun c_104 => ?_) (fun c_104 => ?_)
      · have c_104 : 200 ≤ g_1.toInt := f_le tI_200 rfl c_104
        refine lv_lload hx hb dX2_greatestCommon_45 (lv_at hl 2 rfl) ?_
        rw [hQ0]
        exact W.lret (v := g_3) hx hb hr (fun t ht hW => ⟨⟨g_3, (), rfl, trivial, ⟨by rw [ht]; exact hP, hD⟩⟩, hS.F ht⟩) hS.2.2 dX2_greatestCommon_47
      · have c_104 : g_1.toInt < 200 := f_nle tI_200 rfl c_104
        refine lv_lload hx hb dX2_greatestCommon_17 (lv_at hl 1 rfl) ?_
        refine lv_lconst (v := 0) hx hb dX2_greatestCommon_19 (by decide) ?_
        refine W.lcmp hx hb dX2_greatestCommon_20 ?_
        refine lv_topi (fun z_105 ez_105 => ?_)
        refine lv_if_eq (tgt := 45) hx hb dX2_greatestCommon_21 (by decide) (fun c_106 => ?_) (fun c_106 => ?_)
        · have c_106 : z_105.toInt = 0 := f_eq rfl tI_0 c_106
          refine lv_lload hx hb dX2_greatestCommon_45 (lv_at hl 2 rfl) ?_
          rw [hQ0]
          exact W.lret (v := g_3) hx hb hr (fun t ht hW => ⟨⟨g_3, (), rfl, trivial, ⟨by rw [ht]; exact hP, hD⟩⟩, hS.F ht⟩) hS.2.2 dX2_greatestCommon_47
        · have n_107 : ¬ g_2 = 0 := lc_ne ez_105 c_106
          have c_106 : ¬ z_105.toInt = 0 := f_ne rfl tI_0 c_106
          refine lv_lload hx hb dX2_greatestCommon_24 (lv_at hl 2 rfl) ?_
          refine lv_lload hx hb dX2_greatestCommon_26 (lv_at hl 1 rfl) ?_
          refine lv_lrem hx hb dX2_greatestCommon_28 n_107 ?_
          refine lv_topl (fun z_108 ez_108 => ?_)
          refine lv_lstore (lv' := [(9, .long z_108), (8, .int g_1), (6, .long g_2), (4, .long g_3), (0, .long q1), (2, .long q2)]) hx hb dX2_greatestCommon_29 hl (by decide) rfl (fun ls hl => ?_)
          refine lv_lload hx hb dX2_greatestCommon_31 (lv_at hl 2 rfl) ?_
          refine lv_lstore (lv' := [(4, .long g_2), (9, .long z_108), (8, .int g_1), (6, .long g_2), (0, .long q1), (2, .long q2)]) hx hb dX2_greatestCommon_33 hl (by decide) rfl (fun ls hl => ?_)
          refine lv_lload hx hb dX2_greatestCommon_35 (lv_at hl 1 rfl) ?_
          refine lv_lstore (lv' := [(6, .long z_108), (4, .long g_2), (9, .long z_108), (8, .int g_1), (0, .long q1), (2, .long q2)]) hx hb dX2_greatestCommon_37 hl (by decide) rfl (fun ls hl => ?_)
          obtain ⟨z_109, ez_109⟩ : ∃ y : Int32, y = g_1 + 1 := ⟨_, rfl⟩
          have hz_109 : z_109.toInt = g_1.toInt + 1 := by rw [ez_109]; exact t_add rfl tI_1 (by omega) (by omega)
          refine lv_iinc (v := z_109) (lv' := [(8, .int z_109), (6, .long z_108), (4, .long g_2), (9, .long z_108), (0, .long q1), (2, .long q2)]) hx hb dX2_greatestCommon_39 hl (k := 3) rfl (by rw [ez_109]; rfl) (by decide) rfl (fun ls hl => ?_)
          refine lv_goto (tgt := 9) hx hb dX2_greatestCommon_42 (by decide) ?_
          exact ih_103 z_109 z_108 g_2 (by omega) (by omega) (by omega) _ _ hP hD hS ls (lv_sub hl [0, 1, 2, 4, 5] rfl)
  exact lp_102 _ 0 q2 q1 (by have := tI_0; omega) (by have := tI_0; omega) (Nat.lt_succ_self _) _ _ hP hD hS ls (lv_sub hl [0, 1, 2, 3, 4] rfl)
set_option maxHeartbeats 4000000 in
set_option maxRecDepth 100000 in
theorem c_X10_isPart (l : Launch) (dC : Nat → ClassId) (dI : Nat → Nat → Nat) (ad : Nat → Nat) (tN : Nat) (fN : Nat → Int64) (cB cI cJ cZ : ClassId) (p1 : Int32) (sz : Nat) : Met l yX10_isPart wsX10_isPart ({ frames := 0, cells := 0, slots := 0, locals := 0 } : Room) (va_Pc [.int p1] (fun U => U.heap.size = sz ∧ va_P (dC, dI) vwCl (List.flatten []) U.heap ∧ va_K (dC, dI) vwCl [(cB, .byte), (cI, .int), (cJ, .long), (cZ, .boolean)] U ∧ va_D (fun _ => True) (List.flatten []) ∧ ex_Y ad tN fN (va_A (List.flatten []) sz) U)) (va_Qi (fun (r : Int32) (_ : Unit) => (r = 1 ∧ p1.toInt = 0) ∨ (r = 0 ∧ ¬ p1.toInt = 0 ∧ ¬ p1.toInt = 1) ∨ (r = 1 ∧ ¬ p1.toInt = 0 ∧ p1.toInt = 1)) (fun (_ : Unit) (t : State) => va_P (dC, dI) vwCl (List.flatten []) t.heap ∧ va_D (va_A (List.flatten []) sz) (List.flatten [])) (va_A (List.flatten []) sz)) 0 0 (va_A (List.flatten []) sz) := by
  refine Met.ofW (cc := cX10_isPart) (maxL := 1) (ret := (some .boolean)) (by decide) rfl ?_
  intro p e s m args below meth c s₁ B hml hv
  obtain ⟨rfl, hsz, hP, hK, hD0, hE⟩ := hv
  have hx := B.exec
  have hb := B.bytes
  have hr := B.returns
  have hts := atoms_spec (ws := wsX10_isPart) B.pre
  have hown : s.vm.findClass RX10 = some m.cls := findClass_of_methodNamed B.named
  have hlocks := B.notSynchronized
  subst hsz
  have hD := hD0.self (sz := s.heap.size)
  generalize hAe : va_A (List.flatten []) s.heap.size = A at hD hE ⊢
  have hA : ∀ q : Nat, s.heap.size ≤ q → A q := fun q h => by rw [← hAe]; exact Or.inr h
  have hS : va_S A s.heap s.heap [] := va_S.rf
  have hl := lv_entry ([.int p1]) (n := 1) (Nat.le_of_ble_eq_true rfl)
  rw [lg_entry_eq]
  generalize (lg_sl ([.int p1]) ++ List.replicate (1 - (lg_sl ([.int p1])).length) Slot.unset).toArray = ls at hl ⊢
  have hl : lv_has ls 1 [(0, .int p1)] := hl
  clear hAe
  refine W_name (fun Q0 hQ0 => ?_)
  refine lv_iload_n hx hb dX10_isPart_0 rfl (lv_at hl 0 rfl) ?_
  refine lv_if_eq (tgt := 9) hx hb dX10_isPart_1 (by decide) (fun c_1 => ?_) (fun c_1 => ?_)
  · have c_1 : p1.toInt = 0 := f_eq rfl tI_0 c_1
    refine lv_iconst (v := 1) hx hb dX10_isPart_9 (by decide) ?_
    refine lv_goto (tgt := 14) hx hb dX10_isPart_10 (by decide) ?_
    rw [hQ0]
    exact W.zret (v := 1) hx hb hr (by decide) (fun t ht hW => ⟨⟨1, (), rfl, Or.inl ⟨rfl, c_1⟩, ⟨by rw [ht]; exact hP, hD⟩⟩, hS.F ht⟩) hS.2.2 dX10_isPart_14
  · have c_1 : ¬ p1.toInt = 0 := f_ne rfl tI_0 c_1
    refine lv_iload_n hx hb dX10_isPart_4 rfl (lv_at hl 0 rfl) ?_
    refine lv_iconst (v := 1) hx hb dX10_isPart_5 (by decide) ?_
    refine lv_icmp_ne (tgt := 13) hx hb dX10_isPart_6 (by decide) (fun c_2 => ?_) (fun c_2 => ?_)
    · have c_2 : ¬ p1.toInt = 1 := f_ne rfl tI_1 c_2
      refine lv_iconst (v := 0) hx hb dX10_isPart_13 (by decide) ?_
      rw [hQ0]
      exact W.zret (v := 0) hx hb hr (by decide) (fun t ht hW => ⟨⟨0, (), rfl, Or.inr (Or.inl ⟨rfl, c_1, c_2⟩), ⟨by rw [ht]; exact hP, hD⟩⟩, hS.F ht⟩) hS.2.2 dX10_isPart_14
    · have c_2 : p1.toInt = 1 := f_eq rfl tI_1 c_2
      refine lv_iconst (v := 1) hx hb dX10_isPart_9 (by decide) ?_
      refine lv_goto (tgt := 14) hx hb dX10_isPart_10 (by decide) ?_
      rw [hQ0]
      exact W.zret (v := 1) hx hb hr (by decide) (fun t ht hW => ⟨⟨1, (), rfl, Or.inr (Or.inr (⟨rfl, c_1, c_2⟩)), ⟨by rw [ht]; exact hP, hD⟩⟩, hS.F ht⟩) hS.2.2 dX10_isPart_14
set_option maxHeartbeats 4000000 in
set_option maxRecDepth 100000 in
theorem c_X2_partOf (l : Launch) (dC : Nat → ClassId) (dI : Nat → Nat → Nat) (ad : Nat → Nat) (tN : Nat) (fN : Nat → Int64) (cB cI cJ cZ : ClassId) (q1 : Int64) (q2 : Int64) (p3 : Int32) (sz : Nat) : Met l yX2_partOf wsX2_partOf ({ frames := 1, cells := 0, slots := 0, locals := 30 } : Room) (va_Pc [.long q1, .long q2, .int p3] (fun U => U.heap.size = sz ∧ va_P (dC, dI) vwCl (List.flatten []) U.heap ∧ va_K (dC, dI) vwCl [(cB, .byte), (cI, .int), (cJ, .long), (cZ, .boolean)] U ∧ va_D (fun _ => True) (List.flatten []) ∧ ex_Y ad tN fN (va_A (List.flatten []) sz) U)) (va_Ql (fun (r : Int64) (_ : Unit) => True) (fun (_ : Unit) (t : State) => va_P (dC, dI) vwCl (List.flatten []) t.heap ∧ va_D (va_A (List.flatten []) sz) (List.flatten [])) (va_A (List.flatten []) sz)) 0 0 (va_A (List.flatten []) sz) := by
  refine Met.ofW (cc := cX2_partOf) (maxL := 7) (ret := (some .long)) (by decide) rfl ?_
  intro p e s m args below meth c s₁ B hml hv
  obtain ⟨rfl, hsz, hP, hK, hD0, hE⟩ := hv
  have hx := B.exec
  have hb := B.bytes
  have hr := B.returns
  have hts := atoms_spec (ws := wsX2_partOf) B.pre
  have hown : s.vm.findClass RX2 = some m.cls := findClass_of_methodNamed B.named
  have hlocks := B.notSynchronized
  subst hsz
  have hD := hD0.self (sz := s.heap.size)
  generalize hAe : va_A (List.flatten []) s.heap.size = A at hD hE ⊢
  have hA : ∀ q : Nat, s.heap.size ≤ q → A q := fun q h => by rw [← hAe]; exact Or.inr h
  have hS : va_S A s.heap s.heap [] := va_S.rf
  have hl := lv_entry ([.long q1, .long q2, .int p3]) (n := 7) (Nat.le_of_ble_eq_true rfl)
  rw [lg_entry_eq]
  generalize (lg_sl ([.long q1, .long q2, .int p3]) ++ List.replicate (7 - (lg_sl ([.long q1, .long q2, .int p3])).length) Slot.unset).toArray = ls at hl ⊢
  have hl : lv_has ls 7 [(0, .long q1), (2, .long q2), (4, .int p3)] := hl
  clear hAe
  refine W_name (fun Q0 hQ0 => ?_)
  refine lv_lload_n hx hb dX2_partOf_0 rfl (lv_at hl 1 rfl) ?_
  refine lv_lconst (v := 0) hx hb dX2_partOf_1 (by decide) ?_
  refine W.lcmp hx hb dX2_partOf_2 ?_
  refine lv_topi (fun z_1 ez_1 => ?_)
  refine lv_if_le (tgt := 14) hx hb dX2_partOf_3 (by decide) (fun c_2 => ?_) (fun c_2 => ?_)
  · have c_2 : z_1.toInt ≤ 0 := f_le rfl tI_0 c_2
    refine lv_ldc2 hx hb hown (hts (.constantLong RX2 15 ((-1))) (by decide +kernel)) dX2_partOf_14 ?_
    rw [hQ0]
    exact W.lret (v := (-1)) hx hb hr (fun t ht hW => ⟨⟨(-1), (), rfl, trivial, ⟨by rw [ht]; exact hP, hD⟩⟩, hS.F ht⟩) hS.2.2 dX2_partOf_17
  · have n_3 : ¬ q2 = 0 := lc_nle ez_1 c_2
    have c_2 : 0 < z_1.toInt := f_nle rfl tI_0 c_2
    refine lv_iload hx hb dX2_partOf_6 (lv_at hl 2 rfl) ?_
    have hpm : List.Perm ([] : List va_W) (([] : List va_W) ++ ([] : List va_W)) := pm_n 0 [] (by decide) rfl rfl
    have hPc := bk_P hpm hP
    have hDc := bk_D hpm hD
    have hFc := bk_F hpm hD hS hA
    refine va_calli (va_runSN (As := [.int p3]) (rest := []) ⟨hx, hb, hml, hown, hts⟩ (c_X10_isPart l dC dI ad tN fN cB cI cJ cZ p3 s.heap.size) ⟨va_cnB 1 hts gX2_partOf_X10_isPart_n11 rfl rfl rfl hE.1 (hts (.initialized RX10) (by decide +kernel)) (by decide +kernel) ⟨(Nat.le_of_ble_eq_true rfl), (Nat.le_of_ble_eq_true rfl)⟩, hts (.static yX10_isPart) (by decide +kernel), trivial⟩ ⟨fun a U g mk q => by obtain ⟨q0, q1, qP, qK, qD, qE⟩ := q; exact ⟨q0, q1, qP, va_K.moved (u := U) (U := U.calling g mk a) (Vm.Alike.refl U.vm) qK, qD, ey_blind qE⟩, fun U hU hW => ⟨rfl, by rw [hU], by rw [hU]; exact hPc, va_K.moved hW.alike hK, hDc.weaken (fun _ _ _ _ => trivial), ey_call hE hS hFc hU hW⟩⟩ rfl rfl hl.1 rfl (lv_room (Nat.le_of_ble_eq_true rfl)) dX2_partOf_8 ⟨(Nat.le_of_ble_eq_true rfl), (Nat.le_of_ble_eq_true rfl)⟩) hS (fun q _ h => hFc q h) hFc (fun r_4 u t H locs ht hvm hw hB hz1 hk1 hS => ?_)
    obtain ⟨hP1, hD1⟩ := hB
    rw [ht] at hP1
    obtain ⟨hP, hD⟩ := bk_join hpm hP hD hk1 hFc (Cs1 := []) hP1 hD1
    have hpm2 : List.Perm (([] : List va_W) ++ ([] : List va_W)) ([] : List va_W) := pm_n 0 [] (by decide) rfl rfl
    have hP := bk_reP hpm2 hP
    have hD := bk_reD hpm2 hD
    have hP : va_P (dC, dI) vwCl (List.flatten []) H := hP
    have hD : va_D A (List.flatten []) := hD
    rcases hw with ⟨rfl, c_5⟩ | ⟨rfl, c_6, c_7⟩ | ⟨rfl, c_8, c_9⟩
    · refine lv_if_ne (tgt := 18) hx hb dX2_partOf_11 (by decide) (fun c_10 => ?_) (fun c_10 => absurd c_10 (by decide))
      refine lv_lload_n hx hb dX2_partOf_18 rfl (lv_at hl 0 rfl) ?_
      refine lv_lload_n hx hb dX2_partOf_19 rfl (lv_at hl 1 rfl) ?_
      have hpm : List.Perm ([] : List va_W) (([] : List va_W) ++ ([] : List va_W)) := pm_n 0 [] (by decide) rfl rfl
      have hPc := bk_P hpm hP
      have hDc := bk_D hpm hD
      have hFc := bk_F hpm hD hS hA
      refine va_calll (va_runS (As := [.long q1, .long q2]) (rest := []) ⟨hx, hb, hml, hown, hts⟩ (c_X2_greatestCommon l dC dI ad tN fN cB cI cJ cZ q1 q2 H.size) (va_cwS 2 hts gX2_partOf_X2_greatestCommon rfl rfl rfl (by decide +kernel) ⟨(Nat.le_of_ble_eq_true rfl), (Nat.le_of_ble_eq_true rfl)⟩) ⟨fun a U g mk q => by obtain ⟨q0, q1, qP, qK, qD, qE⟩ := q; exact ⟨q0, q1, qP, va_K.moved (u := U) (U := U.calling g mk a) (Vm.Alike.refl U.vm) qK, qD, ey_blind qE⟩, fun U hU hW => ⟨rfl, by rw [hU], by rw [hU]; exact hPc, va_K.moved hW.alike hK, hDc.weaken (fun _ _ _ _ => trivial), ey_call hE hS hFc hU hW⟩⟩ rfl rfl hl.1 rfl (lv_room (Nat.le_of_ble_eq_true rfl)) dX2_partOf_20 ⟨(Nat.le_of_ble_eq_true rfl), (Nat.le_of_ble_eq_true rfl)⟩) hS (fun q _ h => hFc q h) hFc (fun r_11 u t H locs ht hvm hw hB hz1 hk1 hS => ?_)
      obtain ⟨hP1, hD1⟩ := hB
      rw [ht] at hP1
      obtain ⟨hP, hD⟩ := bk_join hpm hP hD hk1 hFc (Cs1 := []) hP1 hD1
      have hpm2 : List.Perm (([] : List va_W) ++ ([] : List va_W)) ([] : List va_W) := pm_n 0 [] (by decide) rfl rfl
      have hP := bk_reP hpm2 hP
      have hD := bk_reD hpm2 hD
      have hP : va_P (dC, dI) vwCl (List.flatten []) H := hP
      have hD : va_D A (List.flatten []) := hD
      refine lv_lstore (lv' := [(5, .long r_11), (0, .long q1), (2, .long q2), (4, .int p3)]) hx hb dX2_partOf_23 hl (by decide) rfl (fun ls hl => ?_)
      refine lv_lload hx hb dX2_partOf_25 (lv_at hl 0 rfl) ?_
      refine lv_lconst (v := 0) hx hb dX2_partOf_27 (by decide) ?_
      refine W.lcmp hx hb dX2_partOf_28 ?_
      refine lv_topi (fun z_12 ez_12 => ?_)
      refine lv_if_ne (tgt := 36) hx hb dX2_partOf_29 (by decide) (fun c_13 => ?_) (fun c_13 => ?_)
      · have n_14 : ¬ r_11 = 0 := lc_ne ez_12 c_13
        have c_13 : ¬ z_12.toInt = 0 := f_ne rfl tI_0 c_13
        refine lv_iload hx hb dX2_partOf_36 (lv_at hl 3 rfl) ?_
        refine lv_if_ne (tgt := 48) hx hb dX2_partOf_38 (by decide) (fun c_15 => False.elim (by have c_15 := f_ne rfl tI_0 c_15; omega)) (fun c_15 => ?_)
        have c_15 : p3.toInt = 0 := f_eq rfl tI_0 c_15
        refine lv_lload_n hx hb dX2_partOf_41 rfl (lv_at hl 1 rfl) ?_
        refine lv_lload hx hb dX2_partOf_42 (lv_at hl 0 rfl) ?_
        refine lv_ldiv hx hb dX2_partOf_44 n_14 ?_
        refine lv_topl (fun z_16 ez_16 => ?_)
        refine lv_goto (tgt := 52) hx hb dX2_partOf_45 (by decide) ?_
        rw [hQ0]
        exact W.lret (v := z_16) hx hb hr (fun t ht hW => ⟨⟨z_16, (), rfl, trivial, ⟨by rw [ht]; exact hP, hD⟩⟩, hS.F ht⟩) hS.2.2 dX2_partOf_52
      · have c_13 : z_12.toInt = 0 := f_eq rfl tI_0 c_13
        refine lv_ldc2 hx hb hown (hts (.constantLong RX2 15 ((-1))) (by decide +kernel)) dX2_partOf_32 ?_
        rw [hQ0]
        exact W.lret (v := (-1)) hx hb hr (fun t ht hW => ⟨⟨(-1), (), rfl, trivial, ⟨by rw [ht]; exact hP, hD⟩⟩, hS.F ht⟩) hS.2.2 dX2_partOf_35
    · refine lv_if_ne (tgt := 18) hx hb dX2_partOf_11 (by decide) (fun c_17 => absurd c_17 (by decide)) (fun c_17 => ?_)
      refine lv_ldc2 hx hb hown (hts (.constantLong RX2 15 ((-1))) (by decide +kernel)) dX2_partOf_14 ?_
      rw [hQ0]
      exact W.lret (v := (-1)) hx hb hr (fun t ht hW => ⟨⟨(-1), (), rfl, trivial, ⟨by rw [ht]; exact hP, hD⟩⟩, hS.F ht⟩) hS.2.2 dX2_partOf_17
    · refine lv_if_ne (tgt := 18) hx hb dX2_partOf_11 (by decide) (fun c_18 => ?_) (fun c_18 => absurd c_18 (by decide))
      refine lv_lload_n hx hb dX2_partOf_18 rfl (lv_at hl 0 rfl) ?_
      refine lv_lload_n hx hb dX2_partOf_19 rfl (lv_at hl 1 rfl) ?_
      have hpm : List.Perm ([] : List va_W) (([] : List va_W) ++ ([] : List va_W)) := pm_n 0 [] (by decide) rfl rfl
      have hPc := bk_P hpm hP
      have hDc := bk_D hpm hD
      have hFc := bk_F hpm hD hS hA
      refine va_calll (va_runS (As := [.long q1, .long q2]) (rest := []) ⟨hx, hb, hml, hown, hts⟩ (c_X2_greatestCommon l dC dI ad tN fN cB cI cJ cZ q1 q2 H.size) (va_cwS 2 hts gX2_partOf_X2_greatestCommon rfl rfl rfl (by decide +kernel) ⟨(Nat.le_of_ble_eq_true rfl), (Nat.le_of_ble_eq_true rfl)⟩) ⟨fun a U g mk q => by obtain ⟨q0, q1, qP, qK, qD, qE⟩ := q; exact ⟨q0, q1, qP, va_K.moved (u := U) (U := U.calling g mk a) (Vm.Alike.refl U.vm) qK, qD, ey_blind qE⟩, fun U hU hW => ⟨rfl, by rw [hU], by rw [hU]; exact hPc, va_K.moved hW.alike hK, hDc.weaken (fun _ _ _ _ => trivial), ey_call hE hS hFc hU hW⟩⟩ rfl rfl hl.1 rfl (lv_room (Nat.le_of_ble_eq_true rfl)) dX2_partOf_20 ⟨(Nat.le_of_ble_eq_true rfl), (Nat.le_of_ble_eq_true rfl)⟩) hS (fun q _ h => hFc q h) hFc (fun r_19 u t H locs ht hvm hw hB hz1 hk1 hS => ?_)
      obtain ⟨hP1, hD1⟩ := hB
      rw [ht] at hP1
      obtain ⟨hP, hD⟩ := bk_join hpm hP hD hk1 hFc (Cs1 := []) hP1 hD1
      have hpm2 : List.Perm (([] : List va_W) ++ ([] : List va_W)) ([] : List va_W) := pm_n 0 [] (by decide) rfl rfl
      have hP := bk_reP hpm2 hP
      have hD := bk_reD hpm2 hD
      have hP : va_P (dC, dI) vwCl (List.flatten []) H := hP
      have hD : va_D A (List.flatten []) := hD
      refine lv_lstore (lv' := [(5, .long r_19), (0, .long q1), (2, .long q2), (4, .int p3)]) hx hb dX2_partOf_23 hl (by decide) rfl (fun ls hl => ?_)
      refine lv_lload hx hb dX2_partOf_25 (lv_at hl 0 rfl) ?_
      refine lv_lconst (v := 0) hx hb dX2_partOf_27 (by decide) ?_
      refine W.lcmp hx hb dX2_partOf_28 ?_
      refine lv_topi (fun z_20 ez_20 => ?_)
      refine lv_if_ne (tgt := 36) hx hb dX2_partOf_29 (by decide) (fun c_21 => ?_) (fun c_21 => ?_)
      · have n_22 : ¬ r_19 = 0 := lc_ne ez_20 c_21
        have c_21 : ¬ z_20.toInt = 0 := f_ne rfl tI_0 c_21
        refine lv_iload hx hb dX2_partOf_36 (lv_at hl 3 rfl) ?_
        refine lv_if_ne (tgt := 48) hx hb dX2_partOf_38 (by decide) (fun c_23 => ?_) (fun c_23 => False.elim (by have c_23 := f_eq rfl tI_0 c_23; omega))
        have c_23 : ¬ p3.toInt = 0 := f_ne rfl tI_0 c_23
        refine lv_lload_n hx hb dX2_partOf_48 rfl (lv_at hl 2 rfl) ?_
        refine lv_lload hx hb dX2_partOf_49 (lv_at hl 0 rfl) ?_
        refine lv_ldiv hx hb dX2_partOf_51 n_22 ?_
        refine lv_topl (fun z_24 ez_24 => ?_)
        rw [hQ0]
        exact W.lret (v := z_24) hx hb hr (fun t ht hW => ⟨⟨z_24, (), rfl, trivial, ⟨by rw [ht]; exact hP, hD⟩⟩, hS.F ht⟩) hS.2.2 dX2_partOf_52
      · have c_21 : z_20.toInt = 0 := f_eq rfl tI_0 c_21
        refine lv_ldc2 hx hb hown (hts (.constantLong RX2 15 ((-1))) (by decide +kernel)) dX2_partOf_32 ?_
        rw [hQ0]
        exact W.lret (v := (-1)) hx hb hr (fun t ht hW => ⟨⟨(-1), (), rfl, trivial, ⟨by rw [ht]; exact hP, hD⟩⟩, hS.F ht⟩) hS.2.2 dX2_partOf_35
