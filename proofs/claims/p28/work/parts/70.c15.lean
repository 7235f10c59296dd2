set_option maxHeartbeats 4000000 in
set_option maxRecDepth 100000 in
theorem c_J13_compare_74951 (l : Launch) (dC : Nat → ClassId) (dI : Nat → Nat → Nat) (ad : Nat → Nat) (tN : Nat) (fN : Nat → Int64) (cB cI cJ cZ : ClassId) (q1 : Int64) (q2 : Int64) (sz : Nat) : Met l yJ13_compare_74951 wsJ13_compare_74951 ({ frames := 0, cells := 0, slots := 0, locals := 0 } : Room) (va_Pc [.long q1, .long q2] (fun U => U.heap.size = sz ∧ va_P (dC, dI) vwCl (List.flatten []) U.heap ∧ va_K (dC, dI) vwCl [(cB, .byte), (cI, .int), (cJ, .long), (cZ, .boolean)] U ∧ va_D (fun _ => True) (List.flatten []) ∧ ex_Y ad tN fN (va_A (List.flatten []) sz) U)) (va_Qi (fun (r : Int32) (_ : Unit) => -1 ≤ r.toInt ∧ r.toInt ≤ 1) (fun (_ : Unit) (t : State) => va_P (dC, dI) vwCl (List.flatten []) t.heap ∧ va_D (va_A (List.flatten []) sz) (List.flatten [])) (va_A (List.flatten []) sz)) 0 0 (va_A (List.flatten []) sz) := by
  refine Met.ofW (cc := cJ13_compare_74951) (maxL := 4) (ret := (some .int)) (by decide) rfl ?_
  intro p e s m args below meth c s₁ B hml hv
  obtain ⟨rfl, hsz, hP, hK, hD0, hE⟩ := hv
  have hx := B.exec
  have hb := B.bytes
  have hr := B.returns
  have hts := atoms_spec (ws := wsJ13_compare_74951) B.pre
  have hown : s.vm.findClass RJ13 = some m.cls := findClass_of_methodNamed B.named
  have hlocks := B.notSynchronized
  subst hsz
  have hD := hD0.self (sz := s.heap.size)
  generalize hAe : va_A (List.flatten []) s.heap.size = A at hD hE ⊢
  have hA : ∀ q : Nat, s.heap.size ≤ q → A q := fun q h => by rw [← hAe]; exact Or.inr h
  have hS : va_S A s.heap s.heap [] := va_S.rf
  have hl := lv_entry ([.long q1, .long q2]) (n := 4) (Nat.le_of_ble_eq_true rfl)
  rw [lg_entry_eq]
  generalize (lg_sl ([.long q1, .long q2]) ++ List.replicate (4 - (lg_sl ([.long q1, .long q2])).length) Slot.unset).toArray = ls at hl ⊢
  have hl : lv_has ls 4 [(0, .long q1), (2, .long q2)] := hl
  clear hAe
  refine W_name (fun Q0 hQ0 => ?_)
  refine lv_lload_n hx hb dJ13_compare_74951_0 rfl (lv_at hl 0 rfl) ?_
  refine lv_lload_n hx hb dJ13_compare_74951_1 rfl (lv_at hl 1 rfl) ?_
  refine W.lcmp hx hb dJ13_compare_74951_2 ?_
  refine lv_topi (fun z_1 ez_1 => ?_)
  refine lv_if_ge (tgt := 10) hx hb dJ13_compare_74951_3 (by decide) (fun c_2 => ?_) (fun c_2 => ?_)
  · have c_2 : 0 ≤ z_1.toInt := f_le tI_0 rfl c_2
    refine lv_lload_n hx hb dJ13_compare_74951_10 rfl (lv_at hl 0 rfl) ?_
    refine lv_lload_n hx hb dJ13_compare_74951_11 rfl (lv_at hl 1 rfl) ?_
    refine W.lcmp hx hb dJ13_compare_74951_12 ?_
    refine lv_topi (fun z_3 ez_3 => ?_)
    refine lv_if_ne (tgt := 20) hx hb dJ13_compare_74951_13 (by decide) (fun c_4 => ?_) (fun c_4 => ?_)
    · have c_4 : ¬ z_3.toInt = 0 := f_ne rfl tI_0 c_4
      refine lv_iconst (v := 1) hx hb dJ13_compare_74951_20 (by decide) ?_
      rw [hQ0]
      exact W.iret (v := 1) hx hb hr (fun t ht hW => ⟨⟨1, (), rfl, ⟨by decide, by decide⟩, ⟨by rw [ht]; exact hP, hD⟩⟩, hS.F ht⟩) hS.2.2 dJ13_compare_74951_21
    · have c_4 : z_3.toInt = 0 := f_eq rfl tI_0 c_4
      refine lv_iconst (v := 0) hx hb dJ13_compare_74951_16 (by decide) ?_
      refine lv_goto (tgt := 21) hx hb dJ13_compare_74951_17 (by decide) ?_
      rw [hQ0]
      exact W.iret (v := 0) hx hb hr (fun t ht hW => ⟨⟨0, (), rfl, ⟨by decide, by decide⟩, ⟨by rw [ht]; exact hP, hD⟩⟩, hS.F ht⟩) hS.2.2 dJ13_compare_74951_21
  · have c_2 : z_1.toInt < 0 := f_nle tI_0 rfl c_2
    refine lv_iconst (v := (-1)) hx hb dJ13_compare_74951_6 (by decide) ?_
    refine lv_goto (tgt := 21) hx hb dJ13_compare_74951_7 (by decide) ?_
    rw [hQ0]
    exact W.iret (v := (-1)) hx hb hr (fun t ht hW => ⟨⟨(-1), (), rfl, ⟨by decide, by decide⟩, ⟨by rw [ht]; exact hP, hD⟩⟩, hS.F ht⟩) hS.2.2 dJ13_compare_74951_21
set_option maxHeartbeats 4000000 in
set_option maxRecDepth 100000 in
theorem c_X2_order (l : Launch) (dC : Nat → ClassId) (dI : Nat → Nat → Nat) (ad : Nat → Nat) (tN : Nat) (fN : Nat → Int64) (cB cI cJ cZ : ClassId) (q1 : Int64) (q2 : Int64) (q3 : Int64) (q4 : Int64) (sz : Nat) : Met l yX2_order wsX2_order ({ frames := 1, cells := 0, slots := 0, locals := 23 } : Room) (va_Pc [.long q1, .long q2, .long q3, .long q4] (fun U => U.heap.size = sz ∧ va_P (dC, dI) vwCl (List.flatten []) U.heap ∧ va_K (dC, dI) vwCl [(cB, .byte), (cI, .int), (cJ, .long), (cZ, .boolean)] U ∧ va_D (fun _ => True) (List.flatten []) ∧ ex_Y ad tN fN (va_A (List.flatten []) sz) U)) (va_Qi (fun (r : Int32) (_ : Unit) => True) (fun (_ : Unit) (t : State) => va_P (dC, dI) vwCl (List.flatten []) t.heap ∧ va_D (va_A (List.flatten []) sz) (List.flatten [])) (va_A (List.flatten []) sz)) 0 0 (va_A (List.flatten []) sz) := by
  refine Met.ofW (cc := cX2_order) (maxL := 26) (ret := (some .int)) (by decide) rfl ?_
  intro p e s m args below meth c s₁ B hml hv
  obtain ⟨rfl, hsz, hP, hK, hD0, hE⟩ := hv
  have hx := B.exec
  have hb := B.bytes
  have hr := B.returns
  have hts := atoms_spec (ws := wsX2_order) B.pre
  have hown : s.vm.findClass RX2 = some m.cls := findClass_of_methodNamed B.named
  have hlocks := B.notSynchronized
  subst hsz
  have hD := hD0.self (sz := s.heap.size)
  generalize hAe : va_A (List.flatten []) s.heap.size = A at hD hE ⊢
  have hA : ∀ q : Nat, s.heap.size ≤ q → A q := fun q h => by rw [← hAe]; exact Or.inr h
  have hS : va_S A s.heap s.heap [] := va_S.rf
  have hl := lv_entry ([.long q1, .long q2, .long q3, .long q4]) (n := 26) (Nat.le_of_ble_eq_true rfl)
  rw [lg_entry_eq]
  generalize (lg_sl ([.long q1, .long q2, .long q3, .long q4]) ++ List.replicate (26 - (lg_sl ([.long q1, .long q2, .long q3, .long q4])).length) Slot.unset).toArray = ls at hl ⊢
  have hl : lv_has ls 26 [(0, .long q1), (2, .long q2), (4, .long q3), (6, .long q4)] := hl
  clear hAe
  refine W_name (fun Q0 hQ0 => ?_)
  refine lv_lload_n hx hb dX2_order_0 rfl (lv_at hl 0 rfl) ?_
  refine lv_lstore (lv' := [(8, .long q1), (0, .long q1), (2, .long q2), (4, .long q3), (6, .long q4)]) hx hb dX2_order_1 hl (by decide) rfl (fun ls hl => ?_)
  refine lv_lload_n hx hb dX2_order_3 rfl (lv_at hl 2 rfl) ?_
  refine lv_lstore (lv' := [(10, .long q2), (8, .long q1), (0, .long q1), (2, .long q2), (4, .long q3), (6, .long q4)]) hx hb dX2_order_4 hl (by decide) rfl (fun ls hl => ?_)
  refine lv_lload hx hb dX2_order_6 (lv_at hl 4 rfl) ?_
  refine lv_lstore (lv' := [(12, .long q3), (10, .long q2), (8, .long q1), (0, .long q1), (2, .long q2), (4, .long q3), (6, .long q4)]) hx hb dX2_order_8 hl (by decide) rfl (fun ls hl => ?_)
  refine lv_lload hx hb dX2_order_10 (lv_at hl 6 rfl) ?_
  refine lv_lstore (lv' := [(14, .long q4), (12, .long q3), (10, .long q2), (8, .long q1), (0, .long q1), (2, .long q2), (4, .long q3), (6, .long q4)]) hx hb dX2_order_12 hl (by decide) rfl (fun ls hl => ?_)
  refine lv_iconst (v := 1) hx hb dX2_order_14 (by decide) ?_
  refine lv_istore (lv' := [(16, .int 1), (14, .long q4), (12, .long q3), (10, .long q2), (8, .long q1), (0, .long q1), (2, .long q2), (4, .long q3), (6, .long q4)]) hx hb dX2_order_15 hl (by decide) rfl (fun ls hl => ?_)
  refine lv_iconst (v := 0) hx hb dX2_order_17 (by decide) ?_
  refine lv_istore (lv' := [(17, .int 0), (16, .int 1), (14, .long q4), (12, .long q3), (10, .long q2), (8, .long q1), (0, .long q1), (2, .long q2), (4, .long q3), (6, .long q4)]) hx hb dX2_order_18 hl (by decide) rfl (fun ls hl => ?_)
  have lp_457 : ∀ (n : Nat) (g_1 : Int32) (g_2 : Int32) (g_3 : Int64) (g_4 : Int64) (g_5 : Int64) (g_6 : Int64), 0 ≤ g_1.toInt → g_1.toInt ≤ 1024 → (1024 - g_1.toInt).toNat < n → ∀ (H : Heap) (locs : List Loc), va_P (dC, dI) vwCl (List.flatten []) H → va_D A (List.flatten []) → va_S A s.heap H locs → ∀ (ls : Array Slot), lv_has ls 26 [(17, .int g_1), (16, .int g_2), (14, .long g_3), (12, .long g_4), (10, .long g_5), (8, .long g_6), (0, .long q1), (2, .long q2), (4, .long q3), (6, .long q4)] → W p l e (headSpec wsX2_order ({ frames := 1, cells := 0, slots := 0, locals := 23 } : Room)).room s m ([.long q1, .long q2, .long q3, .long q4] : List Value).toArray below meth c H locs 0 0 Q0 (F0 m 20 ls []) := by
    intro n
    induction n with
    | zero => intro g_1 g_2 g_3 g_4 g_5 g_6 iv_455 iv_456 hm; exact absurd hm (Nat.not_lt_zero _)
    | succ n ih_458 =>
      intro g_1 g_2 g_3 g_4 g_5 g_6 iv_455 iv_456 hm H locs hP hD hS ls hl
      refine lv_iload hx hb dX2_order_20 (lv_at hl 0 rfl) ?_
      refine lv_sipush (v := 200) hx hb dX2_order_22 (by decide) ?_
      refine lv_icmp_ge (tgt := 147) hx hb dX2_order_25 (by decide) (fun c_459 => ?_) (fun c_459 => ?_)
      · have c_459 : 200 ≤ g_1.toInt := f_le tI_200 rfl c_459
        refine lv_iconst (v := 0) hx hb dX2_order_147 (by decide) ?_
        rw [hQ0]
        exact W.iret (v := 0) hx hb hr (fun t ht hW => ⟨⟨0, (), rfl, trivial, ⟨by rw [ht]; exact hP, hD⟩⟩, hS.F ht⟩) hS.2.2 dX2_order_148
      · have c_459 : g_1.toInt < 200 := f_nle tI_200 rfl c_459
        refine lv_lload hx hb dX2_order_28 (lv_at hl 4 rfl) ?_
        refine lv_lconst (v := 0) hx hb dX2_order_30 (by decide) ?_
        refine W.lcmp hx hb dX2_order_31 ?_
        refine lv_topi (fun z_460 ez_460 => ?_)
        refine lv_if_le (tgt := 147) hx hb dX2_order_32 (by decide) (fun c_461 => ?_) (fun c_461 => ?_)
        · have c_461 : z_460.toInt ≤ 0 := f_le rfl tI_0 c_461
          refine lv_iconst (v := 0) hx hb dX2_order_147 (by decide) ?_
          rw [hQ0]
          exact W.iret (v := 0) hx hb hr (fun t ht hW => ⟨⟨0, (), rfl, trivial, ⟨by rw [ht]; exact hP, hD⟩⟩, hS.F ht⟩) hS.2.2 dX2_order_148
        · have n_462 : ¬ g_5 = 0 := lc_nle ez_460 c_461
          have c_461 : 0 < z_460.toInt := f_nle rfl tI_0 c_461
          refine lv_lload hx hb dX2_order_35 (lv_at hl 2 rfl) ?_
          refine lv_lconst (v := 0) hx hb dX2_order_37 (by decide) ?_
          refine W.lcmp hx hb dX2_order_38 ?_
          refine lv_topi (fun z_463 ez_463 => ?_)
          refine lv_if_le (tgt := 147) hx hb dX2_order_39 (by decide) (fun c_464 => ?_) (fun c_464 => ?_)
          · have c_464 : z_463.toInt ≤ 0 := f_le rfl tI_0 c_464
            refine lv_iconst (v := 0) hx hb dX2_order_147 (by decide) ?_
            rw [hQ0]
            exact W.iret (v := 0) hx hb hr (fun t ht hW => ⟨⟨0, (), rfl, trivial, ⟨by rw [ht]; exact hP, hD⟩⟩, hS.F ht⟩) hS.2.2 dX2_order_148
          · have n_465 : ¬ g_3 = 0 := lc_nle ez_463 c_464
            have c_464 : 0 < z_463.toInt := f_nle rfl tI_0 c_464
            refine lv_lload hx hb dX2_order_42 (lv_at hl 5 rfl) ?_
            refine lv_lload hx hb dX2_order_44 (lv_at hl 4 rfl) ?_
            refine lv_ldiv hx hb dX2_order_46 n_462 ?_
            refine lv_topl (fun z_466 ez_466 => ?_)
            refine lv_lstore (lv' := [(18, .long z_466), (17, .int g_1), (16, .int g_2), (14, .long g_3), (12, .long g_4), (10, .long g_5), (8, .long g_6), (0, .long q1), (2, .long q2), (4, .long q3), (6, .long q4)]) hx hb dX2_order_47 hl (by decide) rfl (fun ls hl => ?_)
            refine lv_lload hx hb dX2_order_49 (lv_at hl 4 rfl) ?_
            refine lv_lload hx hb dX2_order_51 (lv_at hl 3 rfl) ?_
            refine lv_ldiv hx hb dX2_order_53 n_465 ?_
            refine lv_topl (fun z_467 ez_467 => ?_)
            refine lv_lstore (lv' := [(20, .long z_467), (18, .long z_466), (17, .int g_1), (16, .int g_2), (14, .long g_3), (12, .long g_4), (10, .long g_5), (8, .long g_6), (0, .long q1), (2, .long q2), (4, .long q3), (6, .long q4)]) hx hb dX2_order_54 hl (by decide) rfl (fun ls hl => ?_)
            refine lv_lload hx hb dX2_order_56 (lv_at hl 1 rfl) ?_
            refine lv_lload hx hb dX2_order_58 (lv_at hl 0 rfl) ?_
            refine W.lcmp hx hb dX2_order_60 ?_
            refine lv_topi (fun z_468 ez_468 => ?_)
            refine lv_if_eq (tgt := 81) hx hb dX2_order_61 (by decide) (fun c_469 => ?_) (fun c_469 => ?_)
            · have c_469 : z_468.toInt = 0 := f_eq rfl tI_0 c_469
              refine lv_lload hx hb dX2_order_81 (lv_at hl 7 rfl) ?_
              refine lv_lload hx hb dX2_order_83 (lv_at hl 6 rfl) ?_
              refine lv_lrem hx hb dX2_order_85 n_462 ?_
              refine lv_topl (fun z_470 ez_470 => ?_)
              refine lv_lstore (lv' := [(22, .long z_470), (20, .long z_467), (18, .long z_466), (17, .int g_1), (16, .int g_2), (14, .long g_3), (12, .long g_4), (10, .long g_5), (8, .long g_6), (0, .long q1), (2, .long q2), (4, .long q3), (6, .long q4)]) hx hb dX2_order_86 hl (by decide) rfl (fun ls hl => ?_)
              refine lv_lload hx hb dX2_order_88 (lv_at hl 6 rfl) ?_
              refine lv_lload hx hb dX2_order_90 (lv_at hl 5 rfl) ?_
              refine lv_lrem hx hb dX2_order_92 n_465 ?_
              refine lv_topl (fun z_471 ez_471 => ?_)
              refine lv_lstore (lv' := [(24, .long z_471), (22, .long z_470), (20, .long z_467), (18, .long z_466), (17, .int g_1), (16, .int g_2), (14, .long g_3), (12, .long g_4), (10, .long g_5), (8, .long g_6), (0, .long q1), (2, .long q2), (4, .long q3), (6, .long q4)]) hx hb dX2_order_93 hl (by decide) rfl (fun ls hl => ?_)
              refine lv_lload hx hb dX2_order_95 (lv_at hl 1 rfl) ?_
              refine lv_lconst (v := 0) hx hb dX2_order_97 (by decide) ?_
              refine W.lcmp hx hb dX2_order_98 ?_
              refine lv_topi (fun z_472 ez_472 => ?_)
              refine lv_if_eq (tgt := 109) hx hb dX2_order_99 (by decide) (fun c_473 => ?_) (fun c_473 => ?_)
              · have c_473 : z_472.toInt = 0 := f_eq rfl tI_0 c_473
                refine lv_iload hx hb dX2_order_109 (lv_at hl 5 rfl) ?_
                refine lv_lload hx hb dX2_order_111 (lv_at hl 1 rfl) ?_
                refine lv_lload hx hb dX2_order_113 (lv_at hl 0 rfl) ?_
                have hpm : List.Perm ([] : List va_W) (([] : List va_W) ++ ([] : List va_W)) := pm_n 0 [] (by decide) rfl rfl
                have hPc := bk_P hpm hP
                have hDc := bk_D hpm hD
                have hFc := bk_F hpm hD hS hA
                refine va_calli (va_runS (As := [.long z_470, .long z_471]) (rest := [.int g_2]) ⟨hx, hb, hml, hown, hts⟩ (c_J13_compare_74951 l dC dI ad tN fN cB cI cJ cZ z_470 z_471 H.size) (va_cwS 2 hts gX2_order_J13_compare_74951 rfl rfl rfl (by decide +kernel) ⟨(Nat.le_of_ble_eq_true rfl), (Nat.le_of_ble_eq_true rfl)⟩) ⟨fun a U g mk q => by obtain ⟨q0, q1, qP, qK, qD, qE⟩ := q; exact ⟨q0, q1, qP, va_K.moved (u := U) (U := U.calling g mk a) (Vm.Alike.refl U.vm) qK, qD, ey_blind qE⟩, fun U hU hW => ⟨rfl, by rw [hU], by rw [hU]; exact hPc, va_K.moved hW.alike hK, hDc.weaken (fun _ _ _ _ => trivial), ey_call hE hS hFc hU hW⟩⟩ rfl rfl hl.1 rfl (lv_room (Nat.le_of_ble_eq_true rfl)) dX2_order_115 ⟨(Nat.le_of_ble_eq_true rfl), (Nat.le_of_ble_eq_true rfl)⟩) hS (fun q _ h => hFc q h) hFc (fun r_474 u t H locs ht hvm hw hB hz1 hk1 hS => ?_)
                obtain ⟨hP1, hD1⟩ := hB
                rw [ht] at hP1
                obtain ⟨hP, hD⟩ := bk_join hpm hP hD hk1 hFc (Cs1 := []) hP1 hD1
                have hpm2 : List.Perm (([] : List va_W) ++ ([] : List va_W)) ([] : List va_W) := pm_n 0 [] (by decide) rfl rfl
                have hP := bk_reP hpm2 hP
                have hD := bk_reD hpm2 hD
                have hP : va_P (dC, dI) vwCl (List.flatten []) H := hP
                have hD : va_D A (List.flatten []) := hD
                obtain ⟨hlr_474, hhr_474⟩ := hw
                refine lv_imul hx hb dX2_order_118 ?_
                refine lv_topi (fun z_475 ez_475 => ?_)
                rw [hQ0]
                exact W.iret (v := z_475) hx hb hr (fun t ht hW => ⟨⟨z_475, (), rfl, trivial, ⟨by rw [ht]; exact hP, hD⟩⟩, hS.F ht⟩) hS.2.2 dX2_order_119
              · have n_476 : ¬ z_470 = 0 := lc_ne ez_472 c_473
                have c_473 : ¬ z_472.toInt = 0 := f_ne rfl tI_0 c_473
                refine lv_lload hx hb dX2_order_102 (lv_at hl 0 rfl) ?_
                refine lv_lconst (v := 0) hx hb dX2_order_104 (by decide) ?_
                refine W.lcmp hx hb dX2_order_105 ?_
                refine lv_topi (fun z_477 ez_477 => ?_)
                refine lv_if_ne (tgt := 120) hx hb dX2_order_106 (by decide) (fun c_478 => ?_) (fun c_478 => ?_)
                · have n_479 : ¬ z_471 = 0 := lc_ne ez_477 c_478
                  have c_478 : ¬ z_477.toInt = 0 := f_ne rfl tI_0 c_478
                  refine lv_lload hx hb dX2_order_120 (lv_at hl 8 rfl) ?_
                  refine lv_lstore (lv' := [(8, .long g_5), (24, .long z_471), (22, .long z_470), (20, .long z_467), (18, .long z_466), (17, .int g_1), (16, .int g_2), (14, .long g_3), (12, .long g_4), (10, .long g_5), (0, .long q1), (2, .long q2), (4, .long q3), (6, .long q4)]) hx hb dX2_order_122 hl (by decide) rfl (fun ls hl => ?_)
                  refine lv_lload hx hb dX2_order_124 (lv_at hl 2 rfl) ?_
                  refine lv_lstore (lv' := [(10, .long z_470), (8, .long g_5), (24, .long z_471), (22, .long z_470), (20, .long z_467), (18, .long z_466), (17, .int g_1), (16, .int g_2), (14, .long g_3), (12, .long g_4), (0, .long q1), (2, .long q2), (4, .long q3), (6, .long q4)]) hx hb dX2_order_126 hl (by decide) rfl (fun ls hl => ?_)
                  refine lv_lload hx hb dX2_order_128 (lv_at hl 8 rfl) ?_
                  refine lv_lstore (lv' := [(12, .long g_3), (10, .long z_470), (8, .long g_5), (24, .long z_471), (22, .long z_470), (20, .long z_467), (18, .long z_466), (17, .int g_1), (16, .int g_2), (14, .long g_3), (0, .long q1), (2, .long q2), (4, .long q3), (6, .long q4)]) hx hb dX2_order_130 hl (by decide) rfl (fun ls hl => ?_)
                  refine lv_lload hx hb dX2_order_132 (lv_at hl 3 rfl) ?_
                  refine lv_lstore (lv' := [(14, .long z_471), (12, .long g_3), (10, .long z_470), (8, .long g_5), (24, .long z_471), (22, .long z_470), (20, .long z_467), (18, .long z_466), (17, .int g_1), (16, .int g_2), (0, .long q1), (2, .long q2), (4, .long q3), (6, .long q4)]) hx hb dX2_order_134 hl (by decide) rfl (fun ls hl => ?_)
                  refine lv_iload hx hb dX2_order_136 (lv_at hl 9 rfl) ?_
                  refine lv_ineg hx hb dX2_order_138 ?_
                  refine lv_topi (fun z_480 ez_480 => ?_)
                  refine lv_istore (lv' := [(16, .int z_480), (14, .long z_471), (12, .long g_3), (10, .long z_470), (8, .long g_5), (24, .long z_471), (22, .long z_470), (20, .long z_467), (18, .long z_466), (17, .int g_1), (0, .long q1), (2, .long q2), (4, .long q3), (6, .long q4)]) hx hb dX2_order_139 hl (by decide) rfl (fun ls hl => ?_)
                  obtain ⟨z_481, ez_481⟩ : ∃ y : Int32, y = g_1 + 1 := ⟨_, rfl⟩
                  have hz_481 : z_481.toInt = g_1.toInt + 1 := by rw [ez_481]; exact t_add rfl tI_1 (by omega) (by omega)
                  refine lv_iinc (v := z_481) (lv' := [(17, .int z_481), (16, .int z_480), (14, .long z_471), (12, .long g_3), (10, .long z_470), (8, .long g_5), (24, .long z_471), (22, .long z_470), (20, .long z_467), (18, .long z_466), (0, .long q1), (2, .long q2), (4, .long q3), (6, .long q4)]) hx hb dX2_order_141 hl (k := 9) rfl (by rw [ez_481]; rfl) (by decide) rfl (fun ls hl => ?_)
                  refine lv_goto (tgt := 20) hx hb dX2_order_144 (by decide) ?_
                  exact ih_458 z_481 z_480 z_471 g_3 z_470 g_5 (by omega) (by omega) (by omega) _ _ hP hD hS ls (lv_sub hl [0, 1, 2, 3, 4, 5, 10, 11, 12, 13] rfl)
                · have c_478 : z_477.toInt = 0 := f_eq rfl tI_0 c_478
                  refine lv_iload hx hb dX2_order_109 (lv_at hl 5 rfl) ?_
                  refine lv_lload hx hb dX2_order_111 (lv_at hl 1 rfl) ?_
                  refine lv_lload hx hb dX2_order_113 (lv_at hl 0 rfl) ?_
                  have hpm : List.Perm ([] : List va_W) (([] : List va_W) ++ ([] : List va_W)) := pm_n 0 [] (by decide) rfl rfl
                  have hPc := bk_P hpm hP
                  have hDc := bk_D hpm hD
                  have hFc := bk_F hpm hD hS hA
                  refine va_calli (va_runS (As := [.long z_470, .long z_471]) (rest := [.int g_2]) ⟨hx, hb, hml, hown, hts⟩ (c_J13_compare_74951 l dC dI ad tN fN cB cI cJ cZ z_470 z_471 H.size) (va_cwS 2 hts gX2_order_J13_compare_74951 rfl rfl rfl (by decide +kernel) ⟨(Nat.le_of_ble_eq_true rfl), (Nat.le_of_ble_eq_true rfl)⟩) ⟨fun a U g mk q => by obtain ⟨q0, q1, qP, qK, qD, qE⟩ := q; exact ⟨q0, q1, qP, va_K.moved (u := U) (U := U.calling g mk a) (Vm.Alike.refl U.vm) qK, qD, ey_blind qE⟩, fun U hU hW => ⟨rfl, by rw [hU], by rw [hU]; exact hPc, va_K.moved hW.alike hK, hDc.weaken (fun _ _ _ _ => trivial), ey_call hE hS hFc hU hW⟩⟩ rfl rfl hl.1 rfl (lv_room (Nat.le_of_ble_eq_true rfl)) dX2_order_115 ⟨(Nat.le_of_ble_eq_true rfl), (Nat.le_of_ble_eq_true rfl)⟩) hS (fun q _ h => hFc q h) hFc (fun r_482 u t H locs ht hvm hw hB hz1 hk1 hS => ?_)
                  obtain ⟨hP1, hD1⟩ := hB
                  rw [ht] at hP1
                  obtain ⟨hP, hD⟩ := bk_join hpm hP hD hk1 hFc (Cs1 := []) hP1 hD1
                  have hpm2 : List.Perm (([] : List va_W) ++ ([] : List va_W)) ([] : List va_W) := pm_n 0 [] (by decide) rfl rfl
                  have hP := bk_reP hpm2 hP
                  have hD := bk_reD hpm2 hD
                  have hP : va_P (dC, dI) vwCl (List.flatten []) H := hP
                  have hD : va_D A (List.flatten []) := hD
                  obtain ⟨hlr_482, hhr_482⟩ := hw
                  refine lv_imul hx hb dX2_order_118 ?_
                  refine lv_topi (fun z_483 ez_483 => ?_)
                  rw [hQ0]
                  exact W.iret (v := z_483) hx hb hr (fun t ht hW => ⟨⟨z_483, (), rfl, trivial, ⟨by rw [ht]; exact hP, hD⟩⟩, hS.F ht⟩) hS.2.2 dX2_order_119
            · have c_469 : ¬ z_468.toInt = 0 := f_ne rfl tI_0 c_469
              refine lv_lload hx hb dX2_order_64 (lv_at hl 1 rfl) ?_
              refine lv_lload hx hb dX2_order_66 (lv_at hl 0 rfl) ?_
              refine W.lcmp hx hb dX2_order_68 ?_
              refine lv_topi (fun z_484 ez_484 => ?_)
              refine lv_if_le (tgt := 77) hx hb dX2_order_69 (by decide) (fun c_485 => ?_) (fun c_485 => ?_)
              · have c_485 : z_484.toInt ≤ 0 := f_le rfl tI_0 c_485
                refine lv_iload hx hb dX2_order_77 (lv_at hl 3 rfl) ?_
                refine lv_ineg hx hb dX2_order_79 ?_
                refine lv_topi (fun z_486 ez_486 => ?_)
                rw [hQ0]
                exact W.iret (v := z_486) hx hb hr (fun t ht hW => ⟨⟨z_486, (), rfl, trivial, ⟨by rw [ht]; exact hP, hD⟩⟩, hS.F ht⟩) hS.2.2 dX2_order_80
              · have c_485 : 0 < z_484.toInt := f_nle rfl tI_0 c_485
                refine lv_iload hx hb dX2_order_72 (lv_at hl 3 rfl) ?_
                refine lv_goto (tgt := 80) hx hb dX2_order_74 (by decide) ?_
                rw [hQ0]
                exact W.iret (v := g_2) hx hb hr (fun t ht hW => ⟨⟨g_2, (), rfl, trivial, ⟨by rw [ht]; exact hP, hD⟩⟩, hS.F ht⟩) hS.2.2 dX2_order_80
  exact lp_457 _ 0 1 q4 q3 q2 q1 (by have := tI_0; have := tI_1; omega) (by have := tI_0; have := tI_1; omega) (Nat.lt_succ_self _) _ _ hP hD hS ls (lv_sub hl [0, 1, 2, 3, 4, 5, 6, 7, 8, 9] rfl)
theorem iw_X1_letGo_X3 : ∀ w ∈ wsX30, w ∈ wsX1_letGo := fun _ h => List.mem_cons_of_mem _ (List.mem_append_right _ h)
set_option maxHeartbeats 4000000 in
set_option maxRecDepth 100000 in
theorem c_X1_letGo (l : Launch) (dC : Nat → ClassId) (dI : Nat → Nat → Nat) (ad : Nat → Nat) (tN : Nat) (fN : Nat → Int64) (cB cI cJ cZ : ClassId) (h1 : Nat) (p2 : Int32) (r0 : Nat → Nat) (pl0 : Nat) (w0 : va_W) (o0 : ok_frame ad cB cI cJ cZ h1 r0 pl0 w0) (sz : Nat) (up21 : 0 ≤ p2.toInt) (up22 : p2.toInt ≤ 69) : Met l yX1_letGo wsX1_letGo ({ frames := 0, cells := 0, slots := 0, locals := 0 } : Room) (va_Pc [.ref h1, .int p2] (fun U => U.heap.size = sz ∧ va_P (dC, dI) vwCl (List.flatten [w0]) U.heap ∧ va_K (dC, dI) vwCl [(cB, .byte), (cI, .int), (cJ, .long), (cZ, .boolean)] U ∧ va_D (fun _ => True) (List.flatten [w0]) ∧ ex_Y ad tN fN (va_A (List.flatten [w0]) sz) U)) (va_Qv (fun _ : Unit => True) (fun (_ : Unit) (t : State) => ∃ (w09 : va_W), ok_frame ad cB cI cJ cZ h1 r0 pl0 w09 ∧ va_P (dC, dI) vwCl (List.flatten [w09]) t.heap ∧ va_D (va_A (List.flatten [w0]) sz) (List.flatten [w09])) (va_A (List.flatten [w0]) sz)) 0 0 (va_A (List.flatten [w0]) sz) := by
  refine Met.ofW (cc := cX1_letGo) (maxL := 4) (ret := none) (by decide) rfl ?_
  intro p e s m args below meth c s₁ B hml hv
  obtain ⟨rfl, hsz, hP, hK, hD0, hE⟩ := hv
  have hx := B.exec
  have hb := B.bytes
  have hr := B.returns
  have hts := atoms_spec (ws := wsX1_letGo) B.pre
  have hown : s.vm.findClass RX1 = some m.cls := findClass_of_methodNamed B.named
  have hlocks := B.notSynchronized
  subst hsz
  have hD := hD0.self (sz := s.heap.size)
  generalize hAe : va_A (List.flatten [w0]) s.heap.size = A at hD hE ⊢
  have hA : ∀ q : Nat, s.heap.size ≤ q → A q := fun q h => by rw [← hAe]; exact Or.inr h
  have hS : va_S A s.heap s.heap [] := va_S.rf
  have hl := lv_entry ([.ref h1, .int p2]) (n := 4) (Nat.le_of_ble_eq_true rfl)
  rw [lg_entry_eq]
  generalize (lg_sl ([.ref h1, .int p2]) ++ List.replicate (4 - (lg_sl ([.ref h1, .int p2])).length) Slot.unset).toArray = ls at hl ⊢
  have hl : lv_has ls 4 [(0, .ref h1), (1, .int p2)] := hl
  clear hAe
  refine W_name (fun Q0 hQ0 => ?_)
  refine lv_aload_n hx hb dX1_letGo_0 rfl (lv_at hl 0 rfl) ?_
  obtain ⟨fr_1, dr_4, rc_7, f_10, f_12, gn_13, f_14, f_15, f_16, f_17, f_18, sc_19, jc_20, f_23, f_25, rfl, hl_2, hh_3, hl_5, hh_6, hl_8, hh_9, hr_11, hl_21, hh_22, hr_24, hr_26⟩ := o0
  refine va_get (D := (dC, dI)) (ci := 2) (v := .ref (r0 7)) (C := RX3) (T := TX3) (N := 16) hx hb hts iw_X1_letGo_X3 hown hK hP 0 rfl rfl 14 (by decide) (hts (.fieldLink RX1 45 "HungFloors$Frame" "jointRod" "[I") (by decide +kernel)) (fun _ h9 => h9) rfl dX1_letGo_1 ?_
  refine lv_iload_n hx hb dX1_letGo_4 rfl (lv_at hl 1 rfl) ?_
  refine va_iald hx hb hK hP 8 1 rfl rfl (v_in rfl (by omega) (by omega)) dX1_letGo_5 ?_
  refine lv_topi (fun z_27 ez_27 => ?_)
  have gz_27 := rg_at hr_24 ez_27
  have g1z_27 := gz_27.1
  have g2z_27 := gz_27.2
  refine lv_istore_n (lv' := [(2, .int z_27), (0, .ref h1), (1, .int p2)]) hx hb dX1_letGo_6 rfl hl (by decide) rfl (fun ls hl => ?_)
  refine lv_aload_n hx hb dX1_letGo_7 rfl (lv_at hl 1 rfl) ?_
  refine va_get (D := (dC, dI)) (ci := 2) (v := .ref (r0 8)) (C := RX3) (T := TX3) (N := 16) hx hb hts iw_X1_letGo_X3 hown hK hP 0 rfl rfl 15 (by decide) (hts (.fieldLink RX1 48 "HungFloors$Frame" "jointFloor" "[I") (by decide +kernel)) (fun _ h9 => h9) rfl dX1_letGo_8 ?_
  refine lv_iload_n hx hb dX1_letGo_11 rfl (lv_at hl 2 rfl) ?_
  refine va_iald hx hb hK hP 9 1 rfl rfl (v_in rfl (by omega) (by omega)) dX1_letGo_12 ?_
  refine lv_topi (fun z_28 ez_28 => ?_)
  have gz_28 := rg_at hr_26 ez_28
  have g1z_28 := gz_28.1
  have g2z_28 := gz_28.2
  refine lv_istore_n (lv' := [(3, .int z_28), (2, .int z_27), (0, .ref h1), (1, .int p2)]) hx hb dX1_letGo_13 rfl hl (by decide) rfl (fun ls hl => ?_)
  refine lv_iload_n hx hb dX1_letGo_14 rfl (lv_at hl 0 rfl) ?_
  refine lv_if_ge (tgt := 33) hx hb dX1_letGo_15 (by decide) (fun c_29 => ?_) (fun c_29 => ?_)
  · have c_29 : 0 ≤ z_28.toInt := f_le tI_0 rfl c_29
    refine lv_aload_n hx hb dX1_letGo_33 rfl (lv_at hl 2 rfl) ?_
    refine va_get (D := (dC, dI)) (ci := 2) (v := .ref (r0 1)) (C := RX3) (T := TX3) (N := 16) hx hb hts iw_X1_letGo_X3 hown hK hP 0 rfl rfl 5 (by decide) (hts (.fieldLink RX1 54 "HungFloors$Frame" "holds" "[I") (by decide +kernel)) (fun _ h9 => h9) rfl dX1_letGo_34 ?_
    refine lv_iload_n hx hb dX1_letGo_37 rfl (lv_at hl 1 rfl) ?_
    refine lv_dup2_11 hx hb dX1_letGo_38 rfl rfl ?_
    refine va_iald hx hb hK hP 2 1 rfl rfl (v_in rfl (by omega) (by omega)) dX1_letGo_39 ?_
    refine lv_topi (fun z_30 ez_30 => ?_)
    refine lv_iconst (v := 1) hx hb dX1_letGo_40 (by decide) ?_
    refine lv_iload_n hx hb dX1_letGo_41 rfl (lv_at hl 0 rfl) ?_
    refine lv_ishl hx hb dX1_letGo_42 ?_
    refine lv_topi (fun z_31 ez_31 => ?_)
    have hz_31 := t_shl5 (by omega) (by omega) ez_31
    have h1z_31 := hz_31.1
    have h2z_31 := hz_31.2
    refine lv_iconst (v := (-1)) hx hb dX1_letGo_43 (by decide) ?_
    refine lv_ixor hx hb dX1_letGo_44 ?_
    refine lv_topi (fun z_32 ez_32 => ?_)
    refine lv_iand hx hb dX1_letGo_45 ?_
    refine lv_topi (fun z_33 ez_33 => ?_)
    refine va_iast hx hb hK hP hD hS 2 1 rfl rfl (v_in rfl (by omega) (by omega)) dX1_letGo_46 (fun H locs hP hD hS => ?_)
    obtain ⟨f_34, hP, hD⟩ : ∃ f_34 : Nat → Int32, va_P (dC, dI) vwCl (List.flatten [[(h1, .inr (2, [.ref pl0, .int fr_1, .int dr_4, .int rc_7, .ref (r0 0), .ref (r0 1), .int gn_13, .ref (r0 2), .ref (r0 3), .ref (r0 4), .ref (r0 5), .ref (r0 6), .long sc_19, .int jc_20, .ref (r0 7), .ref (r0 8)])), (r0 0, .inl (cI, 10, .inl f_10)), (r0 1, .inl (cI, 10, .inl f_34)), (r0 2, .inl (cI, 6, .inl f_14)), (r0 3, .inl (cJ, 6, .inr (.inl f_15))), (r0 4, .inl (cJ, 6, .inr (.inl f_16))), (r0 5, .inl (cJ, 6, .inr (.inl f_17))), (r0 6, .inl (cJ, 10, .inr (.inl f_18))), (r0 7, .inl (cI, 70, .inl f_23)), (r0 8, .inl (cI, 70, .inl f_25))]]) H ∧ va_D A (List.flatten [[(h1, .inr (2, [.ref pl0, .int fr_1, .int dr_4, .int rc_7, .ref (r0 0), .ref (r0 1), .int gn_13, .ref (r0 2), .ref (r0 3), .ref (r0 4), .ref (r0 5), .ref (r0 6), .long sc_19, .int jc_20, .ref (r0 7), .ref (r0 8)])), (r0 0, .inl (cI, 10, .inl f_10)), (r0 1, .inl (cI, 10, .inl f_34)), (r0 2, .inl (cI, 6, .inl f_14)), (r0 3, .inl (cJ, 6, .inr (.inl f_15))), (r0 4, .inl (cJ, 6, .inr (.inl f_16))), (r0 5, .inl (cJ, 6, .inr (.inl f_17))), (r0 6, .inl (cJ, 10, .inr (.inl f_18))), (r0 7, .inl (cI, 70, .inl f_23)), (r0 8, .inl (cI, 70, .inl f_25))]]) := ⟨_, hP, hD⟩
    rw [hQ0]
    exact W.vret hx hb hr (fun t ht hW => ⟨⟨(), rfl, trivial, ⟨_, ⟨fr_1, dr_4, rc_7, f_10, f_34, gn_13, f_14, f_15, f_16, f_17, f_18, sc_19, jc_20, f_23, f_25, rfl, by omega, by omega, by omega, by omega, by omega, by omega, hr_11, by omega, by omega, hr_24, hr_26⟩, by rw [ht]; exact hP, hD⟩⟩, hS.F ht⟩) hS.2.2 dX1_letGo_47
  · have c_29 : z_28.toInt < 0 := f_nle tI_0 rfl c_29
    refine lv_aload_n hx hb dX1_letGo_18 rfl (lv_at hl 2 rfl) ?_
    refine lv_dup hx hb dX1_letGo_19 rfl ?_
    refine va_get (D := (dC, dI)) (ci := 2) (v := .int gn_13) (C := RX3) (T := TX3) (N := 16) hx hb hts iw_X1_letGo_X3 hown hK hP 0 rfl rfl 6 (by decide) (hts (.fieldLink RX1 51 "HungFloors$Frame" "gone" "I") (by decide +kernel)) (fun _ h9 => h9) rfl dX1_letGo_20 ?_
    refine lv_iconst (v := 1) hx hb dX1_letGo_23 (by decide) ?_
    refine lv_iload_n hx hb dX1_letGo_24 rfl (lv_at hl 1 rfl) ?_
    refine lv_ishl hx hb dX1_letGo_25 ?_
    refine lv_topi (fun z_35 ez_35 => ?_)
    have hz_35 := t_shl1 (by omega) (by omega) ez_35
    have h1z_35 := hz_35.1
    have h2z_35 := hz_35.2
    refine lv_ior hx hb dX1_letGo_26 ?_
    refine lv_topi (fun z_36 ez_36 => ?_)
    refine va_put (D := (dC, dI)) (ci := 2) (v := .int z_36) (ty := .int) (C := RX3) (T := TX3) (N := 16) hx hb hts iw_X1_letGo_X3 tyX3 tyX3_ok nmX3 hown hK hP hD hS 0 rfl rfl 6 (by decide) (hts (.fieldLink RX1 51 "HungFloors$Frame" "gone" "I") (by decide +kernel)) (fun _ h9 => h9) rfl (by decide +kernel) rfl rfl (Nat.le_of_ble_eq_true rfl) dX1_letGo_27 (fun H locs hP hD hS => ?_)
    have hP : va_P (dC, dI) vwCl (List.flatten [[(h1, .inr (2, [.ref pl0, .int fr_1, .int dr_4, .int rc_7, .ref (r0 0), .ref (r0 1), .int z_36, .ref (r0 2), .ref (r0 3), .ref (r0 4), .ref (r0 5), .ref (r0 6), .long sc_19, .int jc_20, .ref (r0 7), .ref (r0 8)])), (r0 0, .inl (cI, 10, .inl f_10)), (r0 1, .inl (cI, 10, .inl f_12)), (r0 2, .inl (cI, 6, .inl f_14)), (r0 3, .inl (cJ, 6, .inr (.inl f_15))), (r0 4, .inl (cJ, 6, .inr (.inl f_16))), (r0 5, .inl (cJ, 6, .inr (.inl f_17))), (r0 6, .inl (cJ, 10, .inr (.inl f_18))), (r0 7, .inl (cI, 70, .inl f_23)), (r0 8, .inl (cI, 70, .inl f_25))]]) H := hP
    have hD : va_D A (List.flatten [[(h1, .inr (2, [.ref pl0, .int fr_1, .int dr_4, .int rc_7, .ref (r0 0), .ref (r0 1), .int z_36, .ref (r0 2), .ref (r0 3), .ref (r0 4), .ref (r0 5), .ref (r0 6), .long sc_19, .int jc_20, .ref (r0 7), .ref (r0 8)])), (r0 0, .inl (cI, 10, .inl f_10)), (r0 1, .inl (cI, 10, .inl f_12)), (r0 2, .inl (cI, 6, .inl f_14)), (r0 3, .inl (cJ, 6, .inr (.inl f_15))), (r0 4, .inl (cJ, 6, .inr (.inl f_16))), (r0 5, .inl (cJ, 6, .inr (.inl f_17))), (r0 6, .inl (cJ, 10, .inr (.inl f_18))), (r0 7, .inl (cI, 70, .inl f_23)), (r0 8, .inl (cI, 70, .inl f_25))]]) := hD
    refine lv_goto (tgt := 47) hx hb dX1_letGo_30 (by decide) ?_
    rw [hQ0]
    exact W.vret hx hb hr (fun t ht hW => ⟨⟨(), rfl, trivial, ⟨_, ⟨fr_1, dr_4, rc_7, f_10, f_12, z_36, f_14, f_15, f_16, f_17, f_18, sc_19, jc_20, f_23, f_25, rfl, by omega, by omega, by omega, by omega, by omega, by omega, hr_11, by omega, by omega, hr_24, hr_26⟩, by rw [ht]; exact hP, hD⟩⟩, hS.F ht⟩) hS.2.2 dX1_letGo_47
theorem iw_X1_dropFloors_X1 : ∀ w ∈ wsX10, w ∈ wsX1_dropFloors := fun _ h => List.mem_cons_of_mem _ (List.mem_append_left _ (List.mem_append_left _ (List.mem_append_right _ h)))
theorem iw_X1_dropFloors_X3 : ∀ w ∈ wsX30, w ∈ wsX1_dropFloors := fun _ h => List.mem_cons_of_mem _ (List.mem_append_left _ (List.mem_append_right _ h))
set_option maxHeartbeats 4000000 in
set_option maxRecDepth 100000 in
theorem c_X1_dropFloors (l : Launch) (dC : Nat → ClassId) (dI : Nat → Nat → Nat) (ad : Nat → Nat) (tN : Nat) (fN : Nat → Int64) (cB cI cJ cZ : ClassId) (h0 : Nat) (h1 : Nat) (p2 : Int32) (r0 : Nat → Nat) (wc0 : Int32) (w0 : va_W) (r1 : Nat → Nat) (pl1 : Nat) (w1 : va_W) (r2 : Nat → Nat) (fc2 : Int32) (dc2 : Int32) (rk2 : Nat → Int32) (w2 : va_W) (o0 : ok_fall ad cB cI cJ cZ h0 r0 wc0 w0) (o1 : ok_frame ad cB cI cJ cZ h1 r1 pl1 w1) (o2 : ok_plan ad cB cI cJ cZ pl1 r2 fc2 dc2 rk2 w2) (sz : Nat) : Met l yX1_dropFloors wsX1_dropFloors ({ frames := 2, cells := 0, slots := 0, locals := 43 } : Room) (va_Pc [.ref h0, .ref h1, .int p2] (fun U => U.heap.size = sz ∧ va_P (dC, dI) vwCl (List.flatten [w0, w1, w2]) U.heap ∧ va_K (dC, dI) vwCl [(cB, .byte), (cI, .int), (cJ, .long), (cZ, .boolean)] U ∧ va_D (fun _ => True) (List.flatten [w0, w1, w2]) ∧ ex_Y ad tN fN (va_A (List.flatten [w0, w1, w2]) sz) U)) (va_Qv (fun _ : Unit => True) (fun (_ : Unit) (t : State) => ∃ (w09 : va_W) (w19 : va_W), ok_fall ad cB cI cJ cZ h0 r0 wc0 w09 ∧ ok_frame ad cB cI cJ cZ h1 r1 pl1 w19 ∧ va_P (dC, dI) vwCl (List.flatten [w09, w19, w2]) t.heap ∧ va_D (va_A (List.flatten [w0, w1, w2]) sz) (List.flatten [w09, w19, w2])) (va_A (List.flatten [w0, w1, w2]) sz)) 0 0 (va_A (List.flatten [w0, w1, w2]) sz) := by
  refine Met.ofW (cc := cX1_dropFloors) (maxL := 5) (ret := none) (by decide) rfl ?_
  intro p e s m args below meth c s₁ B hml hv
  obtain ⟨rfl, hsz, hP, hK, hD0, hE⟩ := hv
  have hx := B.exec
  have hb := B.bytes
  have hr := B.returns
  have hts := atoms_spec (ws := wsX1_dropFloors) B.pre
  have hown : s.vm.findClass RX1 = some m.cls := findClass_of_methodNamed B.named
  have hlocks := B.notSynchronized
  subst hsz
  have hD := hD0.self (sz := s.heap.size)
  generalize hAe : va_A (List.flatten [w0, w1, w2]) s.heap.size = A at hD hE ⊢
  have hA : ∀ q : Nat, s.heap.size ≤ q → A q := fun q h => by rw [← hAe]; exact Or.inr h
  have hS : va_S A s.heap s.heap [] := va_S.rf
  have hl := lv_entry ([.ref h0, .ref h1, .int p2]) (n := 5) (Nat.le_of_ble_eq_true rfl)
  rw [lg_entry_eq]
  generalize (lg_sl ([.ref h0, .ref h1, .int p2]) ++ List.replicate (5 - (lg_sl ([.ref h0, .ref h1, .int p2])).length) Slot.unset).toArray = ls at hl ⊢
  have hl : lv_has ls 5 [(0, .ref h0), (1, .ref h1), (2, .int p2)] := hl
  clear hAe
  refine W_name (fun Q0 hQ0 => ?_)
  refine lv_iconst (v := 0) hx hb dX1_dropFloors_0 (by decide) ?_
  refine lv_istore_n (lv' := [(3, .int 0), (0, .ref h0), (1, .ref h1), (2, .int p2)]) hx hb dX1_dropFloors_1 rfl hl (by decide) rfl (fun ls hl => ?_)
  obtain ⟨fn_161, f_164, rfl, hl_162, hh_163⟩ := o0
  obtain ⟨fr_165, dr_168, rc_171, f_174, f_176, gn_177, f_178, f_179, f_180, f_181, f_182, sc_183, jc_184, f_187, f_189, rfl, hl_166, hh_167, hl_169, hh_170, hl_172, hh_173, hr_175, hl_185, hh_186, hr_188, hr_190⟩ := o1
  have lp_1227 : ∀ (n : Nat) (g_1 : Int32) (g_320 : Int32) (g_321 : Int32), 0 ≤ g_1.toInt → g_1.toInt ≤ 6 → (6 - g_1.toInt).toNat < n → ∀ (H : Heap) (locs : List Loc), va_P (dC, dI) vwCl (List.flatten [[(h0, .inr (1, [.int g_320, .int wc0, .ref (r0 0)])), (r0 0, .inl (cI, 70, .inl f_164))], [(h1, .inr (2, [.ref pl1, .int fr_165, .int dr_168, .int rc_171, .ref (r1 0), .ref (r1 1), .int g_321, .ref (r1 2), .ref (r1 3), .ref (r1 4), .ref (r1 5), .ref (r1 6), .long sc_183, .int jc_184, .ref (r1 7), .ref (r1 8)])), (r1 0, .inl (cI, 10, .inl f_174)), (r1 1, .inl (cI, 10, .inl f_176)), (r1 2, .inl (cI, 6, .inl f_178)), (r1 3, .inl (cJ, 6, .inr (.inl f_179))), (r1 4, .inl (cJ, 6, .inr (.inl f_180))), (r1 5, .inl (cJ, 6, .inr (.inl f_181))), (r1 6, .inl (cJ, 10, .inr (.inl f_182))), (r1 7, .inl (cI, 70, .inl f_187)), (r1 8, .inl (cI, 70, .inl f_189))], w2]) H → va_D A (List.flatten [[(h0, .inr (1, [.int g_320, .int wc0, .ref (r0 0)])), (r0 0, .inl (cI, 70, .inl f_164))], [(h1, .inr (2, [.ref pl1, .int fr_165, .int dr_168, .int rc_171, .ref (r1 0), .ref (r1 1), .int g_321, .ref (r1 2), .ref (r1 3), .ref (r1 4), .ref (r1 5), .ref (r1 6), .long sc_183, .int jc_184, .ref (r1 7), .ref (r1 8)])), (r1 0, .inl (cI, 10, .inl f_174)), (r1 1, .inl (cI, 10, .inl f_176)), (r1 2, .inl (cI, 6, .inl f_178)), (r1 3, .inl (cJ, 6, .inr (.inl f_179))), (r1 4, .inl (cJ, 6, .inr (.inl f_180))), (r1 5, .inl (cJ, 6, .inr (.inl f_181))), (r1 6, .inl (cJ, 10, .inr (.inl f_182))), (r1 7, .inl (cI, 70, .inl f_187)), (r1 8, .inl (cI, 70, .inl f_189))], w2]) → va_S A s.heap H locs → ∀ (ls : Array Slot), lv_has ls 5 [(3, .int g_1), (0, .ref h0), (1, .ref h1), (2, .int p2)] → W p l e (headSpec wsX1_dropFloors ({ frames := 2, cells := 0, slots := 0, locals := 43 } : Room)).room s m ([.ref h0, .ref h1, .int p2] : List Value).toArray below meth c H locs 0 0 Q0 (F0 m 2 ls []) := by
    intro n
    induction n with
    | zero => intro g_1 g_320 g_321 iv_1225 iv_1226 hm; exact absurd hm (Nat.not_lt_zero _)
    | succ n ih_1228 =>
      intro g_1 g_320 g_321 iv_1225 iv_1226 hm H locs hP hD hS ls hl
      refine lv_iload_n hx hb dX1_dropFloors_2 rfl (lv_at hl 0 rfl) ?_
      refine lv_bipush (v := 6) hx hb dX1_dropFloors_3 (by decide) ?_
      refine lv_icmp_ge (tgt := 87) hx hb dX1_dropFloors_5 (by decide) (fun c_1229 => ?_) (fun c_1229 => ?_)
      · have c_1229 : 6 ≤ g_1.toInt := f_le tI_6 rfl c_1229
        rw [hQ0]
        exact W.vret hx hb hr (fun t ht hW => ⟨⟨(), rfl, trivial, ⟨_, _, ⟨g_320, f_164, rfl, by omega, by omega⟩, ⟨fr_165, dr_168, rc_171, f_174, f_176, g_321, f_178, f_179, f_180, f_181, f_182, sc_183, jc_184, f_187, f_189, rfl, by omega, by omega, by omega, by omega, by omega, by omega, hr_175, by omega, by omega, hr_188, hr_190⟩, by rw [ht]; exact hP, hD⟩⟩, hS.F ht⟩) hS.2.2 dX1_dropFloors_87
      · have c_1229 : g_1.toInt < 6 := f_nle tI_6 rfl c_1229
        refine lv_aload_n hx hb dX1_dropFloors_8 rfl (lv_at hl 2 rfl) ?_
        have hpm : List.Perm ([[(h0, .inr (1, [.int g_320, .int wc0, .ref (r0 0)])), (r0 0, .inl (cI, 70, .inl f_164))], [(h1, .inr (2, [.ref pl1, .int fr_165, .int dr_168, .int rc_171, .ref (r1 0), .ref (r1 1), .int g_321, .ref (r1 2), .ref (r1 3), .ref (r1 4), .ref (r1 5), .ref (r1 6), .long sc_183, .int jc_184, .ref (r1 7), .ref (r1 8)])), (r1 0, .inl (cI, 10, .inl f_174)), (r1 1, .inl (cI, 10, .inl f_176)), (r1 2, .inl (cI, 6, .inl f_178)), (r1 3, .inl (cJ, 6, .inr (.inl f_179))), (r1 4, .inl (cJ, 6, .inr (.inl f_180))), (r1 5, .inl (cJ, 6, .inr (.inl f_181))), (r1 6, .inl (cJ, 10, .inr (.inl f_182))), (r1 7, .inl (cI, 70, .inl f_187)), (r1 8, .inl (cI, 70, .inl f_189))], w2] : List va_W) (([[(h1, .inr (2, [.ref pl1, .int fr_165, .int dr_168, .int rc_171, .ref (r1 0), .ref (r1 1), .int g_321, .ref (r1 2), .ref (r1 3), .ref (r1 4), .ref (r1 5), .ref (r1 6), .long sc_183, .int jc_184, .ref (r1 7), .ref (r1 8)])), (r1 0, .inl (cI, 10, .inl f_174)), (r1 1, .inl (cI, 10, .inl f_176)), (r1 2, .inl (cI, 6, .inl f_178)), (r1 3, .inl (cJ, 6, .inr (.inl f_179))), (r1 4, .inl (cJ, 6, .inr (.inl f_180))), (r1 5, .inl (cJ, 6, .inr (.inl f_181))), (r1 6, .inl (cJ, 10, .inr (.inl f_182))), (r1 7, .inl (cI, 70, .inl f_187)), (r1 8, .inl (cI, 70, .inl f_189))], w2] : List va_W) ++ ([[(h0, .inr (1, [.int g_320, .int wc0, .ref (r0 0)])), (r0 0, .inl (cI, 70, .inl f_164))]] : List va_W)) := pm_n 3 [1, 2, 0] (by decide) rfl rfl
        have hPc := bk_P hpm hP
        have hDc := bk_D hpm hD
        have hFc := bk_F hpm hD hS hA
        refine va_calli (va_runV (As := []) (rest := []) ⟨hx, hb, hml, hown, hts⟩ (c_X3_openFloors l dC dI ad tN fN cB cI cJ cZ h1 r1 pl1 _ r2 fc2 dc2 rk2 _ ⟨fr_165, dr_168, rc_171, f_174, f_176, g_321, f_178, f_179, f_180, f_181, f_182, sc_183, jc_184, f_187, f_189, rfl, by omega, by omega, by omega, by omega, by omega, by omega, hr_175, by omega, by omega, hr_188, hr_190⟩ o2 H.size) (cwV 0 hts gX1_dropFloors_X3_openFloors rfl rfl rfl (by decide +kernel) ⟨(Nat.le_of_ble_eq_true rfl), (Nat.le_of_ble_eq_true rfl)⟩) ⟨fun a U g mk q => by obtain ⟨q0, q1, qP, qK, qD, qE⟩ := q; exact ⟨q0, q1, qP, va_K.moved (u := U) (U := U.calling g mk a) (Vm.Alike.refl U.vm) qK, qD, ey_blind qE⟩, va_recv hK hPc (ci := 2) (q0 := 0) rfl rfl, fun U hU hW => ⟨rfl, by rw [hU], by rw [hU]; exact hPc, va_K.moved hW.alike hK, hDc.weaken (fun _ _ _ _ => trivial), ey_call hE hS hFc hU hW⟩⟩ rfl rfl hl.1 rfl (lv_room (Nat.le_of_ble_eq_true rfl)) dX1_dropFloors_9 ⟨(Nat.le_of_ble_eq_true rfl), (Nat.le_of_ble_eq_true rfl)⟩) hS (fun q _ h => hFc q h) hFc (fun r_1230 u t H locs ht hvm hw hB hz1 hk1 hS => ?_)
        obtain ⟨hP1, hD1⟩ := hB
        rw [ht] at hP1
        obtain ⟨hP, hD⟩ := bk_join hpm hP hD hk1 hFc (Cs1 := [[(h1, .inr (2, [.ref pl1, .int fr_165, .int dr_168, .int rc_171, .ref (r1 0), .ref (r1 1), .int g_321, .ref (r1 2), .ref (r1 3), .ref (r1 4), .ref (r1 5), .ref (r1 6), .long sc_183, .int jc_184, .ref (r1 7), .ref (r1 8)])), (r1 0, .inl (cI, 10, .inl f_174)), (r1 1, .inl (cI, 10, .inl f_176)), (r1 2, .inl (cI, 6, .inl f_178)), (r1 3, .inl (cJ, 6, .inr (.inl f_179))), (r1 4, .inl (cJ, 6, .inr (.inl f_180))), (r1 5, .inl (cJ, 6, .inr (.inl f_181))), (r1 6, .inl (cJ, 10, .inr (.inl f_182))), (r1 7, .inl (cI, 70, .inl f_187)), (r1 8, .inl (cI, 70, .inl f_189))], w2]) hP1 hD1
        have hpm2 : List.Perm (([[(h1, .inr (2, [.ref pl1, .int fr_165, .int dr_168, .int rc_171, .ref (r1 0), .ref (r1 1), .int g_321, .ref (r1 2), .ref (r1 3), .ref (r1 4), .ref (r1 5), .ref (r1 6), .long sc_183, .int jc_184, .ref (r1 7), .ref (r1 8)])), (r1 0, .inl (cI, 10, .inl f_174)), (r1 1, .inl (cI, 10, .inl f_176)), (r1 2, .inl (cI, 6, .inl f_178)), (r1 3, .inl (cJ, 6, .inr (.inl f_179))), (r1 4, .inl (cJ, 6, .inr (.inl f_180))), (r1 5, .inl (cJ, 6, .inr (.inl f_181))), (r1 6, .inl (cJ, 10, .inr (.inl f_182))), (r1 7, .inl (cI, 70, .inl f_187)), (r1 8, .inl (cI, 70, .inl f_189))], w2] : List va_W) ++ ([[(h0, .inr (1, [.int g_320, .int wc0, .ref (r0 0)])), (r0 0, .inl (cI, 70, .inl f_164))]] : List va_W)) ([[(h0, .inr (1, [.int g_320, .int wc0, .ref (r0 0)])), (r0 0, .inl (cI, 70, .inl f_164))], [(h1, .inr (2, [.ref pl1, .int fr_165, .int dr_168, .int rc_171, .ref (r1 0), .ref (r1 1), .int g_321, .ref (r1 2), .ref (r1 3), .ref (r1 4), .ref (r1 5), .ref (r1 6), .long sc_183, .int jc_184, .ref (r1 7), .ref (r1 8)])), (r1 0, .inl (cI, 10, .inl f_174)), (r1 1, .inl (cI, 10, .inl f_176)), (r1 2, .inl (cI, 6, .inl f_178)), (r1 3, .inl (cJ, 6, .inr (.inl f_179))), (r1 4, .inl (cJ, 6, .inr (.inl f_180))), (r1 5, .inl (cJ, 6, .inr (.inl f_181))), (r1 6, .inl (cJ, 10, .inr (.inl f_182))), (r1 7, .inl (cI, 70, .inl f_187)), (r1 8, .inl (cI, 70, .inl f_189))], w2] : List va_W) := pm_n 3 [2, 0, 1] (by decide) rfl rfl
        have hP := bk_reP hpm2 hP
        have hD := bk_reD hpm2 hD
        have hP : va_P (dC, dI) vwCl (List.flatten [[(h0, .inr (1, [.int g_320, .int wc0, .ref (r0 0)])), (r0 0, .inl (cI, 70, .inl f_164))], [(h1, .inr (2, [.ref pl1, .int fr_165, .int dr_168, .int rc_171, .ref (r1 0), .ref (r1 1), .int g_321, .ref (r1 2), .ref (r1 3), .ref (r1 4), .ref (r1 5), .ref (r1 6), .long sc_183, .int jc_184, .ref (r1 7), .ref (r1 8)])), (r1 0, .inl (cI, 10, .inl f_174)), (r1 1, .inl (cI, 10, .inl f_176)), (r1 2, .inl (cI, 6, .inl f_178)), (r1 3, .inl (cJ, 6, .inr (.inl f_179))), (r1 4, .inl (cJ, 6, .inr (.inl f_180))), (r1 5, .inl (cJ, 6, .inr (.inl f_181))), (r1 6, .inl (cJ, 10, .inr (.inl f_182))), (r1 7, .inl (cI, 70, .inl f_187)), (r1 8, .inl (cI, 70, .inl f_189))], w2]) H := hP
        have hD : va_D A (List.flatten [[(h0, .inr (1, [.int g_320, .int wc0, .ref (r0 0)])), (r0 0, .inl (cI, 70, .inl f_164))], [(h1, .inr (2, [.ref pl1, .int fr_165, .int dr_168, .int rc_171, .ref (r1 0), .ref (r1 1), .int g_321, .ref (r1 2), .ref (r1 3), .ref (r1 4), .ref (r1 5), .ref (r1 6), .long sc_183, .int jc_184, .ref (r1 7), .ref (r1 8)])), (r1 0, .inl (cI, 10, .inl f_174)), (r1 1, .inl (cI, 10, .inl f_176)), (r1 2, .inl (cI, 6, .inl f_178)), (r1 3, .inl (cJ, 6, .inr (.inl f_179))), (r1 4, .inl (cJ, 6, .inr (.inl f_180))), (r1 5, .inl (cJ, 6, .inr (.inl f_181))), (r1 6, .inl (cJ, 10, .inr (.inl f_182))), (r1 7, .inl (cI, 70, .inl f_187)), (r1 8, .inl (cI, 70, .inl f_189))], w2]) := hD
        refine lv_iload_n hx hb dX1_dropFloors_12 rfl (lv_at hl 3 rfl) ?_
        refine lv_iconst (v := (-1)) hx hb dX1_dropFloors_13 (by decide) ?_
        refine lv_ixor hx hb dX1_dropFloors_14 ?_
        refine lv_topi (fun z_1231 ez_1231 => ?_)
        refine lv_iand hx hb dX1_dropFloors_15 ?_
        refine lv_topi (fun z_1232 ez_1232 => ?_)
        refine lv_iconst (v := 1) hx hb dX1_dropFloors_16 (by decide) ?_
        refine lv_iload_n hx hb dX1_dropFloors_17 rfl (lv_at hl 0 rfl) ?_
        refine lv_ishl hx hb dX1_dropFloors_18 ?_
        refine lv_topi (fun z_1233 ez_1233 => ?_)
        have hz_1233 := t_shl5 (by omega) (by omega) ez_1233
        have h1z_1233 := hz_1233.1
        have h2z_1233 := hz_1233.2
        refine lv_iand hx hb dX1_dropFloors_19 ?_
        refine lv_topi (fun z_1234 ez_1234 => ?_)
        refine lv_if_eq (tgt := 81) hx hb dX1_dropFloors_20 (by decide) (fun c_1235 => ?_) (fun c_1235 => ?_)
        · have c_1235 : z_1234.toInt = 0 := f_eq rfl tI_0 c_1235
          obtain ⟨z_1236, ez_1236⟩ : ∃ y : Int32, y = g_1 + 1 := ⟨_, rfl⟩
          have hz_1236 : z_1236.toInt = g_1.toInt + 1 := by rw [ez_1236]; exact t_add rfl tI_1 (by omega) (by omega)
          refine lv_iinc (v := z_1236) (lv' := [(3, .int z_1236), (0, .ref h0), (1, .ref h1), (2, .int p2)]) hx hb dX1_dropFloors_81 hl (k := 0) rfl (by rw [ez_1236]; rfl) (by decide) rfl (fun ls hl => ?_)
          refine lv_goto (tgt := 2) hx hb dX1_dropFloors_84 (by decide) ?_
          exact ih_1228 z_1236 g_320 g_321 (by omega) (by omega) (by omega) _ _ hP hD hS ls (lv_sub hl [0, 1, 2, 3] rfl)
        · have c_1235 : ¬ z_1234.toInt = 0 := f_ne rfl tI_0 c_1235
          refine lv_aload_n hx hb dX1_dropFloors_23 rfl (lv_at hl 1 rfl) ?_
          refine lv_dup hx hb dX1_dropFloors_24 rfl ?_
          refine va_get (D := (dC, dI)) (ci := 1) (v := .int g_320) (C := RX1) (T := TX1) (N := 3) hx hb hts iw_X1_dropFloors_X1 hown hK hP 0 rfl rfl 0 (by decide) (hts (.fieldLink RX1 9 "HungFloors$Fall" "fallen" "I") (by decide +kernel)) (fun _ h9 => h9) rfl dX1_dropFloors_25 ?_
          refine lv_iconst (v := 1) hx hb dX1_dropFloors_28 (by decide) ?_
          refine lv_iload_n hx hb dX1_dropFloors_29 rfl (lv_at hl 0 rfl) ?_
          refine lv_ishl hx hb dX1_dropFloors_30 ?_
          refine lv_topi (fun z_1237 ez_1237 => ?_)
          have hz_1237 := t_shl5 (by omega) (by omega) ez_1237
          have h1z_1237 := hz_1237.1
          have h2z_1237 := hz_1237.2
          refine lv_ior hx hb dX1_dropFloors_31 ?_
          refine lv_topi (fun z_1238 ez_1238 => ?_)
          refine va_put (D := (dC, dI)) (ci := 1) (v := .int z_1238) (ty := .int) (C := RX1) (T := TX1) (N := 3) hx hb hts iw_X1_dropFloors_X1 tyX1 tyX1_ok nmX1 hown hK hP hD hS 0 rfl rfl 0 (by decide) (hts (.fieldLink RX1 9 "HungFloors$Fall" "fallen" "I") (by decide +kernel)) (fun _ h9 => h9) rfl (by decide +kernel) rfl rfl (Nat.le_of_ble_eq_true rfl) dX1_dropFloors_32 (fun H locs hP hD hS => ?_)
          have hP : va_P (dC, dI) vwCl (List.flatten [[(h0, .inr (1, [.int z_1238, .int wc0, .ref (r0 0)])), (r0 0, .inl (cI, 70, .inl f_164))], [(h1, .inr (2, [.ref pl1, .int fr_165, .int dr_168, .int rc_171, .ref (r1 0), .ref (r1 1), .int g_321, .ref (r1 2), .ref (r1 3), .ref (r1 4), .ref (r1 5), .ref (r1 6), .long sc_183, .int jc_184, .ref (r1 7), .ref (r1 8)])), (r1 0, .inl (cI, 10, .inl f_174)), (r1 1, .inl (cI, 10, .inl f_176)), (r1 2, .inl (cI, 6, .inl f_178)), (r1 3, .inl (cJ, 6, .inr (.inl f_179))), (r1 4, .inl (cJ, 6, .inr (.inl f_180))), (r1 5, .inl (cJ, 6, .inr (.inl f_181))), (r1 6, .inl (cJ, 10, .inr (.inl f_182))), (r1 7, .inl (cI, 70, .inl f_187)), (r1 8, .inl (cI, 70, .inl f_189))], w2]) H := hP
          have hD : va_D A (List.flatten [[(h0, .inr (1, [.int z_1238, .int wc0, .ref (r0 0)])), (r0 0, .inl (cI, 70, .inl f_164))], [(h1, .inr (2, [.ref pl1, .int fr_165, .int dr_168, .int rc_171, .ref (r1 0), .ref (r1 1), .int g_321, .ref (r1 2), .ref (r1 3), .ref (r1 4), .ref (r1 5), .ref (r1 6), .long sc_183, .int jc_184, .ref (r1 7), .ref (r1 8)])), (r1 0, .inl (cI, 10, .inl f_174)), (r1 1, .inl (cI, 10, .inl f_176)), (r1 2, .inl (cI, 6, .inl f_178)), (r1 3, .inl (cJ, 6, .inr (.inl f_179))), (r1 4, .inl (cJ, 6, .inr (.inl f_180))), (r1 5, .inl (cJ, 6, .inr (.inl f_181))), (r1 6, .inl (cJ, 10, .inr (.inl f_182))), (r1 7, .inl (cI, 70, .inl f_187)), (r1 8, .inl (cI, 70, .inl f_189))], w2]) := hD
          refine lv_iconst (v := 0) hx hb dX1_dropFloors_35 (by decide) ?_
          refine lv_istore (lv' := [(4, .int 0), (3, .int g_1), (0, .ref h0), (1, .ref h1), (2, .int p2)]) hx hb dX1_dropFloors_36 hl (by decide) rfl (fun ls hl => ?_)
          have lp_1352 : ∀ (n : Nat) (g_1239 : Int32) (g_1249 : Int32), 0 ≤ g_1239.toInt → g_1239.toInt ≤ 10 → g_1239.toInt - rc_171.toInt ≤ 0 → (10 - g_1239.toInt).toNat < n → ∀ (H : Heap) (locs : List Loc), va_P (dC, dI) vwCl (List.flatten [[(h0, .inr (1, [.int z_1238, .int wc0, .ref (r0 0)])), (r0 0, .inl (cI, 70, .inl f_164))], [(h1, .inr (2, [.ref pl1, .int fr_165, .int dr_168, .int rc_171, .ref (r1 0), .ref (r1 1), .int g_1249, .ref (r1 2), .ref (r1 3), .ref (r1 4), .ref (r1 5), .ref (r1 6), .long sc_183, .int jc_184, .ref (r1 7), .ref (r1 8)])), (r1 0, .inl (cI, 10, .inl f_174)), (r1 1, .inl (cI, 10, .inl f_176)), (r1 2, .inl (cI, 6, .inl f_178)), (r1 3, .inl (cJ, 6, .inr (.inl f_179))), (r1 4, .inl (cJ, 6, .inr (.inl f_180))), (r1 5, .inl (cJ, 6, .inr (.inl f_181))), (r1 6, .inl (cJ, 10, .inr (.inl f_182))), (r1 7, .inl (cI, 70, .inl f_187)), (r1 8, .inl (cI, 70, .inl f_189))], w2]) H → va_D A (List.flatten [[(h0, .inr (1, [.int z_1238, .int wc0, .ref (r0 0)])), (r0 0, .inl (cI, 70, .inl f_164))], [(h1, .inr (2, [.ref pl1, .int fr_165, .int dr_168, .int rc_171, .ref (r1 0), .ref (r1 1), .int g_1249, .ref (r1 2), .ref (r1 3), .ref (r1 4), .ref (r1 5), .ref (r1 6), .long sc_183, .int jc_184, .ref (r1 7), .ref (r1 8)])), (r1 0, .inl (cI, 10, .inl f_174)), (r1 1, .inl (cI, 10, .inl f_176)), (r1 2, .inl (cI, 6, .inl f_178)), (r1 3, .inl (cJ, 6, .inr (.inl f_179))), (r1 4, .inl (cJ, 6, .inr (.inl f_180))), (r1 5, .inl (cJ, 6, .inr (.inl f_181))), (r1 6, .inl (cJ, 10, .inr (.inl f_182))), (r1 7, .inl (cI, 70, .inl f_187)), (r1 8, .inl (cI, 70, .inl f_189))], w2]) → va_S A s.heap H locs → ∀ (ls : Array Slot), lv_has ls 5 [(4, .int g_1239), (3, .int g_1), (0, .ref h0), (1, .ref h1), (2, .int p2)] → W p l e (headSpec wsX1_dropFloors ({ frames := 2, cells := 0, slots := 0, locals := 43 } : Room)).room s m ([.ref h0, .ref h1, .int p2] : List Value).toArray below meth c H locs 0 0 Q0 (F0 m 38 ls []) := by
            intro n
            induction n with
            | zero => intro g_1239 g_1249 iv_1349 iv_1350 iv_1351 hm; exact absurd hm (Nat.not_lt_zero _)
            | succ n ih_1353 =>
              intro g_1239 g_1249 iv_1349 iv_1350 iv_1351 hm H locs hP hD hS ls hl
              refine lv_iload hx hb dX1_dropFloors_38 (lv_at hl 0 rfl) ?_
              refine lv_aload_n hx hb dX1_dropFloors_40 rfl (lv_at hl 3 rfl) ?_
              refine va_get (D := (dC, dI)) (ci := 2) (v := .int rc_171) (C := RX3) (T := TX3) (N := 16) hx hb hts iw_X1_dropFloors_X3 hown hK hP 2 rfl rfl 3 (by decide) (hts (.fieldLink RX1 57 "HungFloors$Frame" "rodCount" "I") (by decide +kernel)) (fun _ h9 => h9) rfl dX1_dropFloors_41 ?_
              refine lv_icmp_ge (tgt := 81) hx hb dX1_dropFloors_44 (by decide) (fun c_1354 => ?_) (fun c_1354 => ?_)
              · have c_1354 : rc_171.toInt ≤ g_1239.toInt := f_le rfl rfl c_1354
                obtain ⟨z_1355, ez_1355⟩ : ∃ y : Int32, y = g_1 + 1 := ⟨_, rfl⟩
                have hz_1355 : z_1355.toInt = g_1.toInt + 1 := by rw [ez_1355]; exact t_add rfl tI_1 (by omega) (by omega)
                refine lv_iinc (v := z_1355) (lv' := [(3, .int z_1355), (4, .int g_1239), (0, .ref h0), (1, .ref h1), (2, .int p2)]) hx hb dX1_dropFloors_81 hl (k := 1) rfl (by rw [ez_1355]; rfl) (by decide) rfl (fun ls hl => ?_)
                refine lv_goto (tgt := 2) hx hb dX1_dropFloors_84 (by decide) ?_
                exact ih_1228 z_1355 z_1238 g_1249 (by omega) (by omega) (by omega) _ _ hP hD hS ls (lv_sub hl [0, 2, 3, 4] rfl)
              · have c_1354 : g_1239.toInt < rc_171.toInt := f_nle rfl rfl c_1354
                refine lv_aload_n hx hb dX1_dropFloors_47 rfl (lv_at hl 3 rfl) ?_
                refine lv_dup hx hb dX1_dropFloors_48 rfl ?_
                refine va_get (D := (dC, dI)) (ci := 2) (v := .int g_1249) (C := RX3) (T := TX3) (N := 16) hx hb hts iw_X1_dropFloors_X3 hown hK hP 2 rfl rfl 6 (by decide) (hts (.fieldLink RX1 51 "HungFloors$Frame" "gone" "I") (by decide +kernel)) (fun _ h9 => h9) rfl dX1_dropFloors_49 ?_
                refine lv_aload_n hx hb dX1_dropFloors_52 rfl (lv_at hl 3 rfl) ?_
                refine va_get (D := (dC, dI)) (ci := 2) (v := .ref (r1 0)) (C := RX3) (T := TX3) (N := 16) hx hb hts iw_X1_dropFloors_X3 hown hK hP 2 rfl rfl 4 (by decide) (hts (.fieldLink RX1 60 "HungFloors$Frame" "from" "[I") (by decide +kernel)) (fun _ h9 => h9) rfl dX1_dropFloors_53 ?_
                refine lv_iload hx hb dX1_dropFloors_56 (lv_at hl 0 rfl) ?_
                refine va_iald hx hb hK hP 3 1 rfl rfl (v_in rfl (by omega) (by omega)) dX1_dropFloors_58 ?_
                refine lv_topi (fun z_1356 ez_1356 => ?_)
                have gz_1356 := rg_at hr_175 ez_1356
                have g1z_1356 := gz_1356.1
                have g2z_1356 := gz_1356.2
                refine lv_iload_n hx hb dX1_dropFloors_59 rfl (lv_at hl 1 rfl) ?_
                refine lv_icmp_ne (tgt := 70) hx hb dX1_dropFloors_60 (by decide) (fun c_1357 => ?_) (fun c_1357 => ?_)
                · have c_1357 : ¬ z_1356.toInt = g_1.toInt := f_ne rfl rfl c_1357
                  refine lv_iconst (v := 0) hx hb dX1_dropFloors_70 (by decide) ?_
                  refine lv_ior hx hb dX1_dropFloors_71 ?_
                  refine lv_topi (fun z_1358 ez_1358 => ?_)
                  refine va_put (D := (dC, dI)) (ci := 2) (v := .int z_1358) (ty := .int) (C := RX3) (T := TX3) (N := 16) hx hb hts iw_X1_dropFloors_X3 tyX3 tyX3_ok nmX3 hown hK hP hD hS 2 rfl rfl 6 (by decide) (hts (.fieldLink RX1 51 "HungFloors$Frame" "gone" "I") (by decide +kernel)) (fun _ h9 => h9) rfl (by decide +kernel) rfl rfl (Nat.le_of_ble_eq_true rfl) dX1_dropFloors_72 (fun H locs hP hD hS => ?_)
                  have hP : va_P (dC, dI) vwCl (List.flatten [[(h0, .inr (1, [.int z_1238, .int wc0, .ref (r0 0)])), (r0 0, .inl (cI, 70, .inl f_164))], [(h1, .inr (2, [.ref pl1, .int fr_165, .int dr_168, .int rc_171, .ref (r1 0), .ref (r1 1), .int z_1358, .ref (r1 2), .ref (r1 3), .ref (r1 4), .ref (r1 5), .ref (r1 6), .long sc_183, .int jc_184, .ref (r1 7), .ref (r1 8)])), (r1 0, .inl (cI, 10, .inl f_174)), (r1 1, .inl (cI, 10, .inl f_176)), (r1 2, .inl (cI, 6, .inl f_178)), (r1 3, .inl (cJ, 6, .inr (.inl f_179))), (r1 4, .inl (cJ, 6, .inr (.inl f_180))), (r1 5, .inl (cJ, 6, .inr (.inl f_181))), (r1 6, .inl (cJ, 10, .inr (.inl f_182))), (r1 7, .inl (cI, 70, .inl f_187)), (r1 8, .inl (cI, 70, .inl f_189))], w2]) H := hP
                  have hD : va_D A (List.flatten [[(h0, .inr (1, [.int z_1238, .int wc0, .ref (r0 0)])), (r0 0, .inl (cI, 70, .inl f_164))], [(h1, .inr (2, [.ref pl1, .int fr_165, .int dr_168, .int rc_171, .ref (r1 0), .ref (r1 1), .int z_1358, .ref (r1 2), .ref (r1 3), .ref (r1 4), .ref (r1 5), .ref (r1 6), .long sc_183, .int jc_184, .ref (r1 7), .ref (r1 8)])), (r1 0, .inl (cI, 10, .inl f_174)), (r1 1, .inl (cI, 10, .inl f_176)), (r1 2, .inl (cI, 6, .inl f_178)), (r1 3, .inl (cJ, 6, .inr (.inl f_179))), (r1 4, .inl (cJ, 6, .inr (.inl f_180))), (r1 5, .inl (cJ, 6, .inr (.inl f_181))), (r1 6, .inl (cJ, 10, .inr (.inl f_182))), (r1 7, .inl (cI, 70, .inl f_187)), (r1 8, .inl (cI, 70, .inl f_189))], w2]) := hD
                  obtain ⟨z_1359, ez_1359⟩ : ∃ y : Int32, y = g_1239 + 1 := ⟨_, rfl⟩
                  have hz_1359 : z_1359.toInt = g_1239.toInt + 1 := by rw [ez_1359]; exact t_add rfl tI_1 (by omega) (by omega)
                  refine lv_iinc (v := z_1359) (lv' := [(4, .int z_1359), (3, .int g_1), (0, .ref h0), (1, .ref h1), (2, .int p2)]) hx hb dX1_dropFloors_75 hl (k := 0) rfl (by rw [ez_1359]; rfl) (by decide) rfl (fun ls hl => ?_)
                  refine lv_goto (tgt := 38) hx hb dX1_dropFloors_78 (by decide) ?_
                  exact ih_1353 z_1359 z_1358 (by omega) (by omega) (by omega) (by omega) _ _ hP hD hS ls (lv_sub hl [0, 1, 2, 3, 4] rfl)
                · have c_1357 : z_1356.toInt = g_1.toInt := f_eq rfl rfl c_1357
                  refine lv_iconst (v := 1) hx hb dX1_dropFloors_63 (by decide) ?_
                  refine lv_iload hx hb dX1_dropFloors_64 (lv_at hl 0 rfl) ?_
                  refine lv_ishl hx hb dX1_dropFloors_66 ?_
                  refine lv_topi (fun z_1360 ez_1360 => ?_)
                  have hz_1360 := t_shl1 (by omega) (by omega) ez_1360
                  have h1z_1360 := hz_1360.1
                  have h2z_1360 := hz_1360.2
                  refine lv_goto (tgt := 71) hx hb dX1_dropFloors_67 (by decide) ?_
                  refine lv_ior hx hb dX1_dropFloors_71 ?_
                  refine lv_topi (fun z_1361 ez_1361 => ?_)
                  refine va_put (D := (dC, dI)) (ci := 2) (v := .int z_1361) (ty := .int) (C := RX3) (T := TX3) (N := 16) hx hb hts iw_X1_dropFloors_X3 tyX3 tyX3_ok nmX3 hown hK hP hD hS 2 rfl rfl 6 (by decide) (hts (.fieldLink RX1 51 "HungFloors$Frame" "gone" "I") (by decide +kernel)) (fun _ h9 => h9) rfl (by decide +kernel) rfl rfl (Nat.le_of_ble_eq_true rfl) dX1_dropFloors_72 (fun H locs hP hD hS => ?_)
                  have hP : va_P (dC, dI) vwCl (List.flatten [[(h0, .inr (1, [.int z_1238, .int wc0, .ref (r0 0)])), (r0 0, .inl (cI, 70, .inl f_164))], [(h1, .inr (2, [.ref pl1, .int fr_165, .int dr_168, .int rc_171, .ref (r1 0), .ref (r1 1), .int z_1361, .ref (r1 2), .ref (r1 3), .ref (r1 4), .ref (r1 5), .ref (r1 6), .long sc_183, .int jc_184, .ref (r1 7), .ref (r1 8)])), (r1 0, .inl (cI, 10, .inl f_174)), (r1 1, .inl (cI, 10, .inl f_176)), (r1 2, .inl (cI, 6, .inl f_178)), (r1 3, .inl (cJ, 6, .inr (.inl f_179))), (r1 4, .inl (cJ, 6, .inr (.inl f_180))), (r1 5, .inl (cJ, 6, .inr (.inl f_181))), (r1 6, .inl (cJ, 10, .inr (.inl f_182))), (r1 7, .inl (cI, 70, .inl f_187)), (r1 8, .inl (cI, 70, .inl f_189))], w2]) H := hP
                  have hD : va_D A (List.flatten [[(h0, .inr (1, [.int z_1238, .int wc0, .ref (r0 0)])), (r0 0, .inl (cI, 70, .inl f_164))], [(h1, .inr (2, [.ref pl1, .int fr_165, .int dr_168, .int rc_171, .ref (r1 0), .ref (r1 1), .int z_1361, .ref (r1 2), .ref (r1 3), .ref (r1 4), .ref (r1 5), .ref (r1 6), .long sc_183, .int jc_184, .ref (r1 7), .ref (r1 8)])), (r1 0, .inl (cI, 10, .inl f_174)), (r1 1, .inl (cI, 10, .inl f_176)), (r1 2, .inl (cI, 6, .inl f_178)), (r1 3, .inl (cJ, 6, .inr (.inl f_179))), (r1 4, .inl (cJ, 6, .inr (.inl f_180))), (r1 5, .inl (cJ, 6, .inr (.inl f_181))), (r1 6, .inl (cJ, 10, .inr (.inl f_182))), (r1 7, .inl (cI, 70, .inl f_187)), (r1 8, .inl (cI, 70, .inl f_189))], w2]) := hD
                  obtain ⟨z_1362, ez_1362⟩ : ∃ y : Int32, y = g_1239 + 1 := ⟨_, rfl⟩
                  have hz_1362 : z_1362.toInt = g_1239.toInt + 1 := by rw [ez_1362]; exact t_add rfl tI_1 (by omega) (by omega)
                  refine lv_iinc (v := z_1362) (lv' := [(4, .int z_1362), (3, .int g_1), (0, .ref h0), (1, .ref h1), (2, .int p2)]) hx hb dX1_dropFloors_75 hl (k := 0) rfl (by rw [ez_1362]; rfl) (by decide) rfl (fun ls hl => ?_)
                  refine lv_goto (tgt := 38) hx hb dX1_dropFloors_78 (by decide) ?_
                  exact ih_1353 z_1362 z_1361 (by omega) (by omega) (by omega) (by omega) _ _ hP hD hS ls (lv_sub hl [0, 1, 2, 3, 4] rfl)
          exact lp_1352 _ 0 g_321 (by have := tI_0; omega) (by have := tI_0; omega) (by have := tI_0; omega) (Nat.lt_succ_self _) _ _ hP hD hS ls (lv_sub hl [0, 1, 2, 3, 4] rfl)
  exact lp_1227 _ 0 fn_161 gn_177 (by have := tI_0; omega) (by have := tI_0; omega) (Nat.lt_succ_self _) _ _ hP hD hS ls (lv_sub hl [0, 1, 2, 3] rfl)
theorem iw_X1_run_X1 : ∀ w ∈ wsX10, w ∈ wsX1_run := fun _ h => List.mem_cons_of_mem _ (List.mem_append_left _ (List.mem_append_left _ (List.mem_append_right _ h)))
set_option maxHeartbeats 4000000 in
set_option maxRecDepth 100000 in
theorem c_X1_run (l : Launch) (dC : Nat → ClassId) (dI : Nat → Nat → Nat) (ad : Nat → Nat) (tN : Nat) (fN : Nat → Int64) (cB cI cJ cZ : ClassId) (h0 : Nat) (h1 : Nat) (r0 : Nat → Nat) (wc0 : Int32) (w0 : va_W) (r1 : Nat → Nat) (pl1 : Nat) (w1 : va_W) (r2 : Nat → Nat) (fc2 : Int32) (dc2 : Int32) (rk2 : Nat → Int32) (w2 : va_W) (o0 : ok_fall ad cB cI cJ cZ h0 r0 wc0 w0) (o1 : ok_frame ad cB cI cJ cZ h1 r1 pl1 w1) (o2 : ok_plan ad cB cI cJ cZ pl1 r2 fc2 dc2 rk2 w2) (sz : Nat) : Met l yX1_run wsX1_run ({ frames := 4, cells := 0, slots := 0, locals := 87 } : Room) (va_Pc [.ref h0, .ref h1] (fun U => U.heap.size = sz ∧ va_P (dC, dI) vwCl (List.flatten [w0, w1, w2]) U.heap ∧ va_K (dC, dI) vwCl [(cB, .byte), (cI, .int), (cJ, .long), (cZ, .boolean)] U ∧ va_D (fun _ => True) (List.flatten [w0, w1, w2]) ∧ ex_Y ad tN fN (va_A (List.flatten [w0, w1, w2]) sz) U)) (va_Qv (fun _ : Unit => True) (fun (_ : Unit) (t : State) => ∃ (wc09 : Int32) (w09 : va_W) (w19 : va_W), ok_fall ad cB cI cJ cZ h0 r0 wc09 w09 ∧ ok_frame ad cB cI cJ cZ h1 r1 pl1 w19 ∧ va_P (dC, dI) vwCl (List.flatten [w09, w19, w2]) t.heap ∧ va_D (va_A (List.flatten [w0, w1, w2]) sz) (List.flatten [w09, w19, w2])) (va_A (List.flatten [w0, w1, w2]) sz)) 0 0 (va_A (List.flatten [w0, w1, w2]) sz) := by
  refine Met.ofW (cc := cX1_run) (maxL := 5) (ret := none) (by decide) rfl ?_
  intro p e s m args below meth c s₁ B hml hv
  obtain ⟨rfl, hsz, hP, hK, hD0, hE⟩ := hv
  have hx := B.exec
  have hb := B.bytes
  have hr := B.returns
  have hts := atoms_spec (ws := wsX1_run) B.pre
  have hown : s.vm.findClass RX1 = some m.cls := findClass_of_methodNamed B.named
  have hlocks := B.notSynchronized
  subst hsz
  have hD := hD0.self (sz := s.heap.size)
  generalize hAe : va_A (List.flatten [w0, w1, w2]) s.heap.size = A at hD hE ⊢
  have hA : ∀ q : Nat, s.heap.size ≤ q → A q := fun q h => by rw [← hAe]; exact Or.inr h
  have hS : va_S A s.heap s.heap [] := va_S.rf
  have hl := lv_entry ([.ref h0, .ref h1]) (n := 5) (Nat.le_of_ble_eq_true rfl)
  rw [lg_entry_eq]
  generalize (lg_sl ([.ref h0, .ref h1]) ++ List.replicate (5 - (lg_sl ([.ref h0, .ref h1])).length) Slot.unset).toArray = ls at hl ⊢
  have hl : lv_has ls 5 [(0, .ref h0), (1, .ref h1)] := hl
  clear hAe
  refine W_name (fun Q0 hQ0 => ?_)
  refine lv_aload_n hx hb dX1_run_0 rfl (lv_at hl 1 rfl) ?_
  obtain ⟨fr_1, dr_4, rc_7, f_10, f_12, gn_13, f_14, f_15, f_16, f_17, f_18, sc_19, jc_20, f_23, f_25, rfl, hl_2, hh_3, hl_5, hh_6, hl_8, hh_9, hr_11, hl_21, hh_22, hr_24, hr_26⟩ := o1
  have hpm : List.Perm ([w0, [(h1, .inr (2, [.ref pl1, .int fr_1, .int dr_4, .int rc_7, .ref (r1 0), .ref (r1 1), .int gn_13, .ref (r1 2), .ref (r1 3), .ref (r1 4), .ref (r1 5), .ref (r1 6), .long sc_19, .int jc_20, .ref (r1 7), .ref (r1 8)])), (r1 0, .inl (cI, 10, .inl f_10)), (r1 1, .inl (cI, 10, .inl f_12)), (r1 2, .inl (cI, 6, .inl f_14)), (r1 3, .inl (cJ, 6, .inr (.inl f_15))), (r1 4, .inl (cJ, 6, .inr (.inl f_16))), (r1 5, .inl (cJ, 6, .inr (.inl f_17))), (r1 6, .inl (cJ, 10, .inr (.inl f_18))), (r1 7, .inl (cI, 70, .inl f_23)), (r1 8, .inl (cI, 70, .inl f_25))], w2] : List va_W) (([[(h1, .inr (2, [.ref pl1, .int fr_1, .int dr_4, .int rc_7, .ref (r1 0), .ref (r1 1), .int gn_13, .ref (r1 2), .ref (r1 3), .ref (r1 4), .ref (r1 5), .ref (r1 6), .long sc_19, .int jc_20, .ref (r1 7), .ref (r1 8)])), (r1 0, .inl (cI, 10, .inl f_10)), (r1 1, .inl (cI, 10, .inl f_12)), (r1 2, .inl (cI, 6, .inl f_14)), (r1 3, .inl (cJ, 6, .inr (.inl f_15))), (r1 4, .inl (cJ, 6, .inr (.inl f_16))), (r1 5, .inl (cJ, 6, .inr (.inl f_17))), (r1 6, .inl (cJ, 10, .inr (.inl f_18))), (r1 7, .inl (cI, 70, .inl f_23)), (r1 8, .inl (cI, 70, .inl f_25))], w2] : List va_W) ++ ([w0] : List va_W)) := pm_n 3 [1, 2, 0] (by decide) rfl rfl
  have hPc := bk_P hpm hP
  have hDc := bk_D hpm hD
  have hFc := bk_F hpm hD hS hA
  refine va_calli (va_runV (As := []) (rest := []) ⟨hx, hb, hml, hown, hts⟩ (c_X3_openFloors l dC dI ad tN fN cB cI cJ cZ h1 r1 pl1 _ r2 fc2 dc2 rk2 _ ⟨fr_1, dr_4, rc_7, f_10, f_12, gn_13, f_14, f_15, f_16, f_17, f_18, sc_19, jc_20, f_23, f_25, rfl, by omega, by omega, by omega, by omega, by omega, by omega, hr_11, by omega, by omega, hr_24, hr_26⟩ o2 s.heap.size) (cwV 0 hts gX1_run_X3_openFloors rfl rfl rfl (by decide +kernel) ⟨(Nat.le_of_ble_eq_true rfl), (Nat.le_of_ble_eq_true rfl)⟩) ⟨fun a U g mk q => by obtain ⟨q0, q1, qP, qK, qD, qE⟩ := q; exact ⟨q0, q1, qP, va_K.moved (u := U) (U := U.calling g mk a) (Vm.Alike.refl U.vm) qK, qD, ey_blind qE⟩, va_recv hK hPc (ci := 2) (q0 := 0) rfl rfl, fun U hU hW => ⟨rfl, by rw [hU], by rw [hU]; exact hPc, va_K.moved hW.alike hK, hDc.weaken (fun _ _ _ _ => trivial), ey_call hE hS hFc hU hW⟩⟩ rfl rfl hl.1 rfl (lv_room (Nat.le_of_ble_eq_true rfl)) dX1_run_1 ⟨(Nat.le_of_ble_eq_true rfl), (Nat.le_of_ble_eq_true rfl)⟩) hS (fun q _ h => hFc q h) hFc (fun r_27 u t H locs ht hvm hw hB hz1 hk1 hS => ?_)
  obtain ⟨hP1, hD1⟩ := hB
  rw [ht] at hP1
  obtain ⟨hP, hD⟩ := bk_join hpm hP hD hk1 hFc (Cs1 := [[(h1, .inr (2, [.ref pl1, .int fr_1, .int dr_4, .int rc_7, .ref (r1 0), .ref (r1 1), .int gn_13, .ref (r1 2), .ref (r1 3), .ref (r1 4), .ref (r1 5), .ref (r1 6), .long sc_19, .int jc_20, .ref (r1 7), .ref (r1 8)])), (r1 0, .inl (cI, 10, .inl f_10)), (r1 1, .inl (cI, 10, .inl f_12)), (r1 2, .inl (cI, 6, .inl f_14)), (r1 3, .inl (cJ, 6, .inr (.inl f_15))), (r1 4, .inl (cJ, 6, .inr (.inl f_16))), (r1 5, .inl (cJ, 6, .inr (.inl f_17))), (r1 6, .inl (cJ, 10, .inr (.inl f_18))), (r1 7, .inl (cI, 70, .inl f_23)), (r1 8, .inl (cI, 70, .inl f_25))], w2]) hP1 hD1
  have hpm2 : List.Perm (([[(h1, .inr (2, [.ref pl1, .int fr_1, .int dr_4, .int rc_7, .ref (r1 0), .ref (r1 1), .int gn_13, .ref (r1 2), .ref (r1 3), .ref (r1 4), .ref (r1 5), .ref (r1 6), .long sc_19, .int jc_20, .ref (r1 7), .ref (r1 8)])), (r1 0, .inl (cI, 10, .inl f_10)), (r1 1, .inl (cI, 10, .inl f_12)), (r1 2, .inl (cI, 6, .inl f_14)), (r1 3, .inl (cJ, 6, .inr (.inl f_15))), (r1 4, .inl (cJ, 6, .inr (.inl f_16))), (r1 5, .inl (cJ, 6, .inr (.inl f_17))), (r1 6, .inl (cJ, 10, .inr (.inl f_18))), (r1 7, .inl (cI, 70, .inl f_23)), (r1 8, .inl (cI, 70, .inl f_25))], w2] : List va_W) ++ ([w0] : List va_W)) ([w0, [(h1, .inr (2, [.ref pl1, .int fr_1, .int dr_4, .int rc_7, .ref (r1 0), .ref (r1 1), .int gn_13, .ref (r1 2), .ref (r1 3), .ref (r1 4), .ref (r1 5), .ref (r1 6), .long sc_19, .int jc_20, .ref (r1 7), .ref (r1 8)])), (r1 0, .inl (cI, 10, .inl f_10)), (r1 1, .inl (cI, 10, .inl f_12)), (r1 2, .inl (cI, 6, .inl f_14)), (r1 3, .inl (cJ, 6, .inr (.inl f_15))), (r1 4, .inl (cJ, 6, .inr (.inl f_16))), (r1 5, .inl (cJ, 6, .inr (.inl f_17))), (r1 6, .inl (cJ, 10, .inr (.inl f_18))), (r1 7, .inl (cI, 70, .inl f_23)), (r1 8, .inl (cI, 70, .inl f_25))], w2] : List va_W) := pm_n 3 [2, 0, 1] (by decide) rfl rfl
  have hP := bk_reP hpm2 hP
  have hD := bk_reD hpm2 hD
  have hP : va_P (dC, dI) vwCl (List.flatten [w0, [(h1, .inr (2, [.ref pl1, .int fr_1, .int dr_4, .int rc_7, .ref (r1 0), .ref (r1 1), .int gn_13, .ref (r1 2), .ref (r1 3), .ref (r1 4), .ref (r1 5), .ref (r1 6), .long sc_19, .int jc_20, .ref (r1 7), .ref (r1 8)])), (r1 0, .inl (cI, 10, .inl f_10)), (r1 1, .inl (cI, 10, .inl f_12)), (r1 2, .inl (cI, 6, .inl f_14)), (r1 3, .inl (cJ, 6, .inr (.inl f_15))), (r1 4, .inl (cJ, 6, .inr (.inl f_16))), (r1 5, .inl (cJ, 6, .inr (.inl f_17))), (r1 6, .inl (cJ, 10, .inr (.inl f_18))), (r1 7, .inl (cI, 70, .inl f_23)), (r1 8, .inl (cI, 70, .inl f_25))], w2]) H := hP
  have hD : va_D A (List.flatten [w0, [(h1, .inr (2, [.ref pl1, .int fr_1, .int dr_4, .int rc_7, .ref (r1 0), .ref (r1 1), .int gn_13, .ref (r1 2), .ref (r1 3), .ref (r1 4), .ref (r1 5), .ref (r1 6), .long sc_19, .int jc_20, .ref (r1 7), .ref (r1 8)])), (r1 0, .inl (cI, 10, .inl f_10)), (r1 1, .inl (cI, 10, .inl f_12)), (r1 2, .inl (cI, 6, .inl f_14)), (r1 3, .inl (cJ, 6, .inr (.inl f_15))), (r1 4, .inl (cJ, 6, .inr (.inl f_16))), (r1 5, .inl (cJ, 6, .inr (.inl f_17))), (r1 6, .inl (cJ, 10, .inr (.inl f_18))), (r1 7, .inl (cI, 70, .inl f_23)), (r1 8, .inl (cI, 70, .inl f_25))], w2]) := hD
  refine lv_istore_n (lv' := [(2, .int r_27), (0, .ref h0), (1, .ref h1)]) hx hb dX1_run_4 rfl hl (by decide) rfl (fun ls hl => ?_)
  refine lv_aload_n hx hb dX1_run_5 rfl (lv_at hl 1 rfl) ?_
  refine lv_iconst (v := 0) hx hb dX1_run_6 (by decide) ?_
  obtain ⟨fn_28, f_31, rfl, hl_29, hh_30⟩ := o0
  refine va_put (D := (dC, dI)) (ci := 1) (v := .int 0) (ty := .int) (C := RX1) (T := TX1) (N := 3) hx hb hts iw_X1_run_X1 tyX1 tyX1_ok nmX1 hown hK hP hD hS 0 rfl rfl 0 (by decide) (hts (.fieldLink RX1 9 "HungFloors$Fall" "fallen" "I") (by decide +kernel)) (fun _ h9 => h9) rfl (by decide +kernel) rfl rfl (Nat.le_of_ble_eq_true rfl) dX1_run_7 (fun H locs hP hD hS => ?_)
  have hP : va_P (dC, dI) vwCl (List.flatten [[(h0, .inr (1, [.int 0, .int wc0, .ref (r0 0)])), (r0 0, .inl (cI, 70, .inl f_31))], [(h1, .inr (2, [.ref pl1, .int fr_1, .int dr_4, .int rc_7, .ref (r1 0), .ref (r1 1), .int gn_13, .ref (r1 2), .ref (r1 3), .ref (r1 4), .ref (r1 5), .ref (r1 6), .long sc_19, .int jc_20, .ref (r1 7), .ref (r1 8)])), (r1 0, .inl (cI, 10, .inl f_10)), (r1 1, .inl (cI, 10, .inl f_12)), (r1 2, .inl (cI, 6, .inl f_14)), (r1 3, .inl (cJ, 6, .inr (.inl f_15))), (r1 4, .inl (cJ, 6, .inr (.inl f_16))), (r1 5, .inl (cJ, 6, .inr (.inl f_17))), (r1 6, .inl (cJ, 10, .inr (.inl f_18))), (r1 7, .inl (cI, 70, .inl f_23)), (r1 8, .inl (cI, 70, .inl f_25))], w2]) H := hP
  have hD : va_D A (List.flatten [[(h0, .inr (1, [.int 0, .int wc0, .ref (r0 0)])), (r0 0, .inl (cI, 70, .inl f_31))], [(h1, .inr (2, [.ref pl1, .int fr_1, .int dr_4, .int rc_7, .ref (r1 0), .ref (r1 1), .int gn_13, .ref (r1 2), .ref (r1 3), .ref (r1 4), .ref (r1 5), .ref (r1 6), .long sc_19, .int jc_20, .ref (r1 7), .ref (r1 8)])), (r1 0, .inl (cI, 10, .inl f_10)), (r1 1, .inl (cI, 10, .inl f_12)), (r1 2, .inl (cI, 6, .inl f_14)), (r1 3, .inl (cJ, 6, .inr (.inl f_15))), (r1 4, .inl (cJ, 6, .inr (.inl f_16))), (r1 5, .inl (cJ, 6, .inr (.inl f_17))), (r1 6, .inl (cJ, 10, .inr (.inl f_18))), (r1 7, .inl (cI, 70, .inl f_23)), (r1 8, .inl (cI, 70, .inl f_25))], w2]) := hD
  refine lv_aload_n hx hb dX1_run_10 rfl (lv_at hl 1 rfl) ?_
  refine lv_iconst (v := 0) hx hb dX1_run_11 (by decide) ?_
  refine va_put (D := (dC, dI)) (ci := 1) (v := .int 0) (ty := .int) (C := RX1) (T := TX1) (N := 3) hx hb hts iw_X1_run_X1 tyX1 tyX1_ok nmX1 hown hK hP hD hS 0 rfl rfl 1 (by decide) (hts (.fieldLink RX1 15 "HungFloors$Fall" "wentCount" "I") (by decide +kernel)) (fun _ h9 => h9) rfl (by decide +kernel) rfl rfl (Nat.le_of_ble_eq_true rfl) dX1_run_12 (fun H locs hP hD hS => ?_)
  have hP : va_P (dC, dI) vwCl (List.flatten [[(h0, .inr (1, [.int 0, .int 0, .ref (r0 0)])), (r0 0, .inl (cI, 70, .inl f_31))], [(h1, .inr (2, [.ref pl1, .int fr_1, .int dr_4, .int rc_7, .ref (r1 0), .ref (r1 1), .int gn_13, .ref (r1 2), .ref (r1 3), .ref (r1 4), .ref (r1 5), .ref (r1 6), .long sc_19, .int jc_20, .ref (r1 7), .ref (r1 8)])), (r1 0, .inl (cI, 10, .inl f_10)), (r1 1, .inl (cI, 10, .inl f_12)), (r1 2, .inl (cI, 6, .inl f_14)), (r1 3, .inl (cJ, 6, .inr (.inl f_15))), (r1 4, .inl (cJ, 6, .inr (.inl f_16))), (r1 5, .inl (cJ, 6, .inr (.inl f_17))), (r1 6, .inl (cJ, 10, .inr (.inl f_18))), (r1 7, .inl (cI, 70, .inl f_23)), (r1 8, .inl (cI, 70, .inl f_25))], w2]) H := hP
  have hD : va_D A (List.flatten [[(h0, .inr (1, [.int 0, .int 0, .ref (r0 0)])), (r0 0, .inl (cI, 70, .inl f_31))], [(h1, .inr (2, [.ref pl1, .int fr_1, .int dr_4, .int rc_7, .ref (r1 0), .ref (r1 1), .int gn_13, .ref (r1 2), .ref (r1 3), .ref (r1 4), .ref (r1 5), .ref (r1 6), .long sc_19, .int jc_20, .ref (r1 7), .ref (r1 8)])), (r1 0, .inl (cI, 10, .inl f_10)), (r1 1, .inl (cI, 10, .inl f_12)), (r1 2, .inl (cI, 6, .inl f_14)), (r1 3, .inl (cJ, 6, .inr (.inl f_15))), (r1 4, .inl (cJ, 6, .inr (.inl f_16))), (r1 5, .inl (cJ, 6, .inr (.inl f_17))), (r1 6, .inl (cJ, 10, .inr (.inl f_18))), (r1 7, .inl (cI, 70, .inl f_23)), (r1 8, .inl (cI, 70, .inl f_25))], w2]) := hD
  refine lv_iconst (v := 0) hx hb dX1_run_15 (by decide) ?_
  refine lv_istore_n (lv' := [(3, .int 0), (2, .int r_27), (0, .ref h0), (1, .ref h1)]) hx hb dX1_run_16 rfl hl (by decide) rfl (fun ls hl => ?_)
  have lp_1137 : ∀ (n : Nat) (g_32 : Int32) (g_155 : Int32) (gw_78 : va_W) (gw_79 : va_W), ok_fall ad cB cI cJ cZ h0 r0 g_155 gw_78 → ok_frame ad cB cI cJ cZ h1 r1 pl1 gw_79 → 0 ≤ g_32.toInt → g_32.toInt ≤ 70 → 0 ≤ g_155.toInt → g_155.toInt ≤ 70 → g_155.toInt - g_32.toInt ≤ 0 → g_32.toInt - g_155.toInt ≤ 0 → (70 - g_32.toInt).toNat < n → ∀ (H : Heap) (locs : List Loc), va_P (dC, dI) vwCl (List.flatten [gw_78, gw_79, w2]) H → va_D A (List.flatten [gw_78, gw_79, w2]) → va_S A s.heap H locs → ∀ (ls : Array Slot), lv_has ls 5 [(3, .int g_32), (2, .int r_27), (0, .ref h0), (1, .ref h1)] → W p l e (headSpec wsX1_run ({ frames := 4, cells := 0, slots := 0, locals := 87 } : Room)).room s m ([.ref h0, .ref h1] : List Value).toArray below meth c H locs 0 0 Q0 (F0 m 17 ls []) := by
    intro n
    induction n with
    | zero => intro g_32 g_155 gw_78 gw_79 okgw_78 okgw_79 iv_1131 iv_1132 iv_1133 iv_1134 iv_1135 iv_1136 hm; exact absurd hm (Nat.not_lt_zero _)
    | succ n ih_1138 =>
      intro g_32 g_155 gw_78 gw_79 okgw_78 okgw_79 iv_1131 iv_1132 iv_1133 iv_1134 iv_1135 iv_1136 hm H locs hP hD hS ls hl
      refine lv_iload_n hx hb dX1_run_17 rfl (lv_at hl 0 rfl) ?_
      refine lv_bipush (v := 70) hx hb dX1_run_18 (by decide) ?_
      refine lv_icmp_ge (tgt := 87) hx hb dX1_run_20 (by decide) (fun c_1139 => ?_) (fun c_1139 => ?_)
      · have c_1139 : 70 ≤ g_32.toInt := f_le tI_70 rfl c_1139
        rw [hQ0]
        exact W.vret hx hb hr (fun t ht hW => ⟨⟨(), rfl, trivial, ⟨g_155, _, _, okgw_78, okgw_79, by rw [ht]; exact hP, hD⟩⟩, hS.F ht⟩) hS.2.2 dX1_run_87
      · have c_1139 : g_32.toInt < 70 := f_nle tI_70 rfl c_1139
        refine lv_aload_n hx hb dX1_run_23 rfl (lv_at hl 3 rfl) ?_
        obtain ⟨fr_1140, dr_1143, rc_1146, f_1149, f_1151, gn_1152, f_1153, f_1154, f_1155, f_1156, f_1157, sc_1158, jc_1159, f_1162, f_1164, rfl, hl_1141, hh_1142, hl_1144, hh_1145, hl_1147, hh_1148, hr_1150, hl_1160, hh_1161, hr_1163, hr_1165⟩ := okgw_79
        have hpm : List.Perm ([gw_78, [(h1, .inr (2, [.ref pl1, .int fr_1140, .int dr_1143, .int rc_1146, .ref (r1 0), .ref (r1 1), .int gn_1152, .ref (r1 2), .ref (r1 3), .ref (r1 4), .ref (r1 5), .ref (r1 6), .long sc_1158, .int jc_1159, .ref (r1 7), .ref (r1 8)])), (r1 0, .inl (cI, 10, .inl f_1149)), (r1 1, .inl (cI, 10, .inl f_1151)), (r1 2, .inl (cI, 6, .inl f_1153)), (r1 3, .inl (cJ, 6, .inr (.inl f_1154))), (r1 4, .inl (cJ, 6, .inr (.inl f_1155))), (r1 5, .inl (cJ, 6, .inr (.inl f_1156))), (r1 6, .inl (cJ, 10, .inr (.inl f_1157))), (r1 7, .inl (cI, 70, .inl f_1162)), (r1 8, .inl (cI, 70, .inl f_1164))], w2] : List va_W) (([[(h1, .inr (2, [.ref pl1, .int fr_1140, .int dr_1143, .int rc_1146, .ref (r1 0), .ref (r1 1), .int gn_1152, .ref (r1 2), .ref (r1 3), .ref (r1 4), .ref (r1 5), .ref (r1 6), .long sc_1158, .int jc_1159, .ref (r1 7), .ref (r1 8)])), (r1 0, .inl (cI, 10, .inl f_1149)), (r1 1, .inl (cI, 10, .inl f_1151)), (r1 2, .inl (cI, 6, .inl f_1153)), (r1 3, .inl (cJ, 6, .inr (.inl f_1154))), (r1 4, .inl (cJ, 6, .inr (.inl f_1155))), (r1 5, .inl (cJ, 6, .inr (.inl f_1156))), (r1 6, .inl (cJ, 10, .inr (.inl f_1157))), (r1 7, .inl (cI, 70, .inl f_1162)), (r1 8, .inl (cI, 70, .inl f_1164))], w2] : List va_W) ++ ([gw_78] : List va_W)) := pm_n 3 [1, 2, 0] (by decide) rfl rfl
        have hPc := bk_P hpm hP
        have hDc := bk_D hpm hD
        have hFc := bk_F hpm hD hS hA
        refine va_calli (va_runV (As := []) (rest := []) ⟨hx, hb, hml, hown, hts⟩ (c_X3_worstJoint l dC dI ad tN fN cB cI cJ cZ h1 r1 pl1 _ r2 fc2 dc2 rk2 _ ⟨fr_1140, dr_1143, rc_1146, f_1149, f_1151, gn_1152, f_1153, f_1154, f_1155, f_1156, f_1157, sc_1158, jc_1159, f_1162, f_1164, rfl, by omega, by omega, by omega, by omega, by omega, by omega, hr_1150, by omega, by omega, hr_1163, hr_1165⟩ o2 H.size) (cwV 0 hts gX1_run_X3_worstJoint rfl rfl rfl (by decide +kernel) ⟨(Nat.le_of_ble_eq_true rfl), (Nat.le_of_ble_eq_true rfl)⟩) ⟨fun a U g mk q => by obtain ⟨q0, q1, qP, qK, qD, qE⟩ := q; exact ⟨q0, q1, qP, va_K.moved (u := U) (U := U.calling g mk a) (Vm.Alike.refl U.vm) qK, qD, ey_blind qE⟩, va_recv hK hPc (ci := 2) (q0 := 0) rfl rfl, fun U hU hW => ⟨rfl, by rw [hU], by rw [hU]; exact hPc, va_K.moved hW.alike hK, hDc.weaken (fun _ _ _ _ => trivial), ey_call hE hS hFc hU hW⟩⟩ rfl rfl hl.1 rfl (lv_room (Nat.le_of_ble_eq_true rfl)) dX1_run_24 ⟨(Nat.le_of_ble_eq_true rfl), (Nat.le_of_ble_eq_true rfl)⟩) hS (fun q _ h => hFc q h) hFc (fun r_1166 u t H locs ht hvm hw hB hz1 hk1 hS => ?_)
        obtain ⟨hP1, hD1⟩ := hB
        rw [ht] at hP1
        obtain ⟨hP, hD⟩ := bk_join hpm hP hD hk1 hFc (Cs1 := [[(h1, .inr (2, [.ref pl1, .int fr_1140, .int dr_1143, .int rc_1146, .ref (r1 0), .ref (r1 1), .int gn_1152, .ref (r1 2), .ref (r1 3), .ref (r1 4), .ref (r1 5), .ref (r1 6), .long sc_1158, .int jc_1159, .ref (r1 7), .ref (r1 8)])), (r1 0, .inl (cI, 10, .inl f_1149)), (r1 1, .inl (cI, 10, .inl f_1151)), (r1 2, .inl (cI, 6, .inl f_1153)), (r1 3, .inl (cJ, 6, .inr (.inl f_1154))), (r1 4, .inl (cJ, 6, .inr (.inl f_1155))), (r1 5, .inl (cJ, 6, .inr (.inl f_1156))), (r1 6, .inl (cJ, 10, .inr (.inl f_1157))), (r1 7, .inl (cI, 70, .inl f_1162)), (r1 8, .inl (cI, 70, .inl f_1164))], w2]) hP1 hD1
        have hpm2 : List.Perm (([[(h1, .inr (2, [.ref pl1, .int fr_1140, .int dr_1143, .int rc_1146, .ref (r1 0), .ref (r1 1), .int gn_1152, .ref (r1 2), .ref (r1 3), .ref (r1 4), .ref (r1 5), .ref (r1 6), .long sc_1158, .int jc_1159, .ref (r1 7), .ref (r1 8)])), (r1 0, .inl (cI, 10, .inl f_1149)), (r1 1, .inl (cI, 10, .inl f_1151)), (r1 2, .inl (cI, 6, .inl f_1153)), (r1 3, .inl (cJ, 6, .inr (.inl f_1154))), (r1 4, .inl (cJ, 6, .inr (.inl f_1155))), (r1 5, .inl (cJ, 6, .inr (.inl f_1156))), (r1 6, .inl (cJ, 10, .inr (.inl f_1157))), (r1 7, .inl (cI, 70, .inl f_1162)), (r1 8, .inl (cI, 70, .inl f_1164))], w2] : List va_W) ++ ([gw_78] : List va_W)) ([gw_78, [(h1, .inr (2, [.ref pl1, .int fr_1140, .int dr_1143, .int rc_1146, .ref (r1 0), .ref (r1 1), .int gn_1152, .ref (r1 2), .ref (r1 3), .ref (r1 4), .ref (r1 5), .ref (r1 6), .long sc_1158, .int jc_1159, .ref (r1 7), .ref (r1 8)])), (r1 0, .inl (cI, 10, .inl f_1149)), (r1 1, .inl (cI, 10, .inl f_1151)), (r1 2, .inl (cI, 6, .inl f_1153)), (r1 3, .inl (cJ, 6, .inr (.inl f_1154))), (r1 4, .inl (cJ, 6, .inr (.inl f_1155))), (r1 5, .inl (cJ, 6, .inr (.inl f_1156))), (r1 6, .inl (cJ, 10, .inr (.inl f_1157))), (r1 7, .inl (cI, 70, .inl f_1162)), (r1 8, .inl (cI, 70, .inl f_1164))], w2] : List va_W) := pm_n 3 [2, 0, 1] (by decide) rfl rfl
        have hP := bk_reP hpm2 hP
        have hD := bk_reD hpm2 hD
        have hP : va_P (dC, dI) vwCl (List.flatten [gw_78, [(h1, .inr (2, [.ref pl1, .int fr_1140, .int dr_1143, .int rc_1146, .ref (r1 0), .ref (r1 1), .int gn_1152, .ref (r1 2), .ref (r1 3), .ref (r1 4), .ref (r1 5), .ref (r1 6), .long sc_1158, .int jc_1159, .ref (r1 7), .ref (r1 8)])), (r1 0, .inl (cI, 10, .inl f_1149)), (r1 1, .inl (cI, 10, .inl f_1151)), (r1 2, .inl (cI, 6, .inl f_1153)), (r1 3, .inl (cJ, 6, .inr (.inl f_1154))), (r1 4, .inl (cJ, 6, .inr (.inl f_1155))), (r1 5, .inl (cJ, 6, .inr (.inl f_1156))), (r1 6, .inl (cJ, 10, .inr (.inl f_1157))), (r1 7, .inl (cI, 70, .inl f_1162)), (r1 8, .inl (cI, 70, .inl f_1164))], w2]) H := hP
        have hD : va_D A (List.flatten [gw_78, [(h1, .inr (2, [.ref pl1, .int fr_1140, .int dr_1143, .int rc_1146, .ref (r1 0), .ref (r1 1), .int gn_1152, .ref (r1 2), .ref (r1 3), .ref (r1 4), .ref (r1 5), .ref (r1 6), .long sc_1158, .int jc_1159, .ref (r1 7), .ref (r1 8)])), (r1 0, .inl (cI, 10, .inl f_1149)), (r1 1, .inl (cI, 10, .inl f_1151)), (r1 2, .inl (cI, 6, .inl f_1153)), (r1 3, .inl (cJ, 6, .inr (.inl f_1154))), (r1 4, .inl (cJ, 6, .inr (.inl f_1155))), (r1 5, .inl (cJ, 6, .inr (.inl f_1156))), (r1 6, .inl (cJ, 10, .inr (.inl f_1157))), (r1 7, .inl (cI, 70, .inl f_1162)), (r1 8, .inl (cI, 70, .inl f_1164))], w2]) := hD
        obtain ⟨hlr_1166, hhr_1166⟩ := hw
        refine lv_istore (lv' := [(4, .int r_1166), (3, .int g_32), (2, .int r_27), (0, .ref h0), (1, .ref h1)]) hx hb dX1_run_27 hl (by decide) rfl (fun ls hl => ?_)
        refine lv_iload hx hb dX1_run_29 (lv_at hl 0 rfl) ?_
        refine lv_if_lt (tgt := 43) hx hb dX1_run_31 (by decide) (fun c_1167 => ?_) (fun c_1167 => ?_)
        · have c_1167 : r_1166.toInt < 0 := f_lt rfl tI_0 c_1167
          rw [hQ0]
          exact W.vret hx hb hr (fun t ht hW => ⟨⟨(), rfl, trivial, ⟨g_155, _, _, okgw_78, ⟨fr_1140, dr_1143, rc_1146, f_1149, f_1151, gn_1152, f_1153, f_1154, f_1155, f_1156, f_1157, sc_1158, jc_1159, f_1162, f_1164, rfl, by omega, by omega, by omega, by omega, by omega, by omega, hr_1150, by omega, by omega, hr_1163, hr_1165⟩, by rw [ht]; exact hP, hD⟩⟩, hS.F ht⟩) hS.2.2 dX1_run_43
        · have c_1167 : 0 ≤ r_1166.toInt := f_nlt rfl tI_0 c_1167
          refine lv_aload_n hx hb dX1_run_34 rfl (lv_at hl 4 rfl) ?_
          refine lv_iload hx hb dX1_run_35 (lv_at hl 0 rfl) ?_
          have hpm : List.Perm ([gw_78, [(h1, .inr (2, [.ref pl1, .int fr_1140, .int dr_1143, .int rc_1146, .ref (r1 0), .ref (r1 1), .int gn_1152, .ref (r1 2), .ref (r1 3), .ref (r1 4), .ref (r1 5), .ref (r1 6), .long sc_1158, .int jc_1159, .ref (r1 7), .ref (r1 8)])), (r1 0, .inl (cI, 10, .inl f_1149)), (r1 1, .inl (cI, 10, .inl f_1151)), (r1 2, .inl (cI, 6, .inl f_1153)), (r1 3, .inl (cJ, 6, .inr (.inl f_1154))), (r1 4, .inl (cJ, 6, .inr (.inl f_1155))), (r1 5, .inl (cJ, 6, .inr (.inl f_1156))), (r1 6, .inl (cJ, 10, .inr (.inl f_1157))), (r1 7, .inl (cI, 70, .inl f_1162)), (r1 8, .inl (cI, 70, .inl f_1164))], w2] : List va_W) (([[(h1, .inr (2, [.ref pl1, .int fr_1140, .int dr_1143, .int rc_1146, .ref (r1 0), .ref (r1 1), .int gn_1152, .ref (r1 2), .ref (r1 3), .ref (r1 4), .ref (r1 5), .ref (r1 6), .long sc_1158, .int jc_1159, .ref (r1 7), .ref (r1 8)])), (r1 0, .inl (cI, 10, .inl f_1149)), (r1 1, .inl (cI, 10, .inl f_1151)), (r1 2, .inl (cI, 6, .inl f_1153)), (r1 3, .inl (cJ, 6, .inr (.inl f_1154))), (r1 4, .inl (cJ, 6, .inr (.inl f_1155))), (r1 5, .inl (cJ, 6, .inr (.inl f_1156))), (r1 6, .inl (cJ, 10, .inr (.inl f_1157))), (r1 7, .inl (cI, 70, .inl f_1162)), (r1 8, .inl (cI, 70, .inl f_1164))], w2] : List va_W) ++ ([gw_78] : List va_W)) := pm_n 3 [1, 2, 0] (by decide) rfl rfl
          have hPc := bk_P hpm hP
          have hDc := bk_D hpm hD
          have hFc := bk_F hpm hD hS hA
          refine va_calli (va_runV (As := [.int r_1166]) (rest := []) ⟨hx, hb, hml, hown, hts⟩ (c_X3_isBeyond l dC dI ad tN fN cB cI cJ cZ h1 r_1166 r1 pl1 _ r2 fc2 dc2 rk2 _ ⟨fr_1140, dr_1143, rc_1146, f_1149, f_1151, gn_1152, f_1153, f_1154, f_1155, f_1156, f_1157, sc_1158, jc_1159, f_1162, f_1164, rfl, by omega, by omega, by omega, by omega, by omega, by omega, hr_1150, by omega, by omega, hr_1163, hr_1165⟩ o2 H.size (by omega) (by omega)) (cwV 1 hts gX1_run_X3_isBeyond rfl rfl rfl (by decide +kernel) ⟨(Nat.le_of_ble_eq_true rfl), (Nat.le_of_ble_eq_true rfl)⟩) ⟨fun a U g mk q => by obtain ⟨q0, q1, qP, qK, qD, qE⟩ := q; exact ⟨q0, q1, qP, va_K.moved (u := U) (U := U.calling g mk a) (Vm.Alike.refl U.vm) qK, qD, ey_blind qE⟩, va_recv hK hPc (ci := 2) (q0 := 0) rfl rfl, fun U hU hW => ⟨rfl, by rw [hU], by rw [hU]; exact hPc, va_K.moved hW.alike hK, hDc.weaken (fun _ _ _ _ => trivial), ey_call hE hS hFc hU hW⟩⟩ rfl rfl hl.1 rfl (lv_room (Nat.le_of_ble_eq_true rfl)) dX1_run_37 ⟨(Nat.le_of_ble_eq_true rfl), (Nat.le_of_ble_eq_true rfl)⟩) hS (fun q _ h => hFc q h) hFc (fun r_1168 u t H locs ht hvm hw hB hz1 hk1 hS => ?_)
          obtain ⟨hP1, hD1⟩ := hB
          rw [ht] at hP1
          obtain ⟨hP, hD⟩ := bk_join hpm hP hD hk1 hFc (Cs1 := [[(h1, .inr (2, [.ref pl1, .int fr_1140, .int dr_1143, .int rc_1146, .ref (r1 0), .ref (r1 1), .int gn_1152, .ref (r1 2), .ref (r1 3), .ref (r1 4), .ref (r1 5), .ref (r1 6), .long sc_1158, .int jc_1159, .ref (r1 7), .ref (r1 8)])), (r1 0, .inl (cI, 10, .inl f_1149)), (r1 1, .inl (cI, 10, .inl f_1151)), (r1 2, .inl (cI, 6, .inl f_1153)), (r1 3, .inl (cJ, 6, .inr (.inl f_1154))), (r1 4, .inl (cJ, 6, .inr (.inl f_1155))), (r1 5, .inl (cJ, 6, .inr (.inl f_1156))), (r1 6, .inl (cJ, 10, .inr (.inl f_1157))), (r1 7, .inl (cI, 70, .inl f_1162)), (r1 8, .inl (cI, 70, .inl f_1164))], w2]) hP1 hD1
          have hpm2 : List.Perm (([[(h1, .inr (2, [.ref pl1, .int fr_1140, .int dr_1143, .int rc_1146, .ref (r1 0), .ref (r1 1), .int gn_1152, .ref (r1 2), .ref (r1 3), .ref (r1 4), .ref (r1 5), .ref (r1 6), .long sc_1158, .int jc_1159, .ref (r1 7), .ref (r1 8)])), (r1 0, .inl (cI, 10, .inl f_1149)), (r1 1, .inl (cI, 10, .inl f_1151)), (r1 2, .inl (cI, 6, .inl f_1153)), (r1 3, .inl (cJ, 6, .inr (.inl f_1154))), (r1 4, .inl (cJ, 6, .inr (.inl f_1155))), (r1 5, .inl (cJ, 6, .inr (.inl f_1156))), (r1 6, .inl (cJ, 10, .inr (.inl f_1157))), (r1 7, .inl (cI, 70, .inl f_1162)), (r1 8, .inl (cI, 70, .inl f_1164))], w2] : List va_W) ++ ([gw_78] : List va_W)) ([gw_78, [(h1, .inr (2, [.ref pl1, .int fr_1140, .int dr_1143, .int rc_1146, .ref (r1 0), .ref (r1 1), .int gn_1152, .ref (r1 2), .ref (r1 3), .ref (r1 4), .ref (r1 5), .ref (r1 6), .long sc_1158, .int jc_1159, .ref (r1 7), .ref (r1 8)])), (r1 0, .inl (cI, 10, .inl f_1149)), (r1 1, .inl (cI, 10, .inl f_1151)), (r1 2, .inl (cI, 6, .inl f_1153)), (r1 3, .inl (cJ, 6, .inr (.inl f_1154))), (r1 4, .inl (cJ, 6, .inr (.inl f_1155))), (r1 5, .inl (cJ, 6, .inr (.inl f_1156))), (r1 6, .inl (cJ, 10, .inr (.inl f_1157))), (r1 7, .inl (cI, 70, .inl f_1162)), (r1 8, .inl (cI, 70, .inl f_1164))], w2] : List va_W) := pm_n 3 [2, 0, 1] (by decide) rfl rfl
          have hP := bk_reP hpm2 hP
          have hD := bk_reD hpm2 hD
          have hP : va_P (dC, dI) vwCl (List.flatten [gw_78, [(h1, .inr (2, [.ref pl1, .int fr_1140, .int dr_1143, .int rc_1146, .ref (r1 0), .ref (r1 1), .int gn_1152, .ref (r1 2), .ref (r1 3), .ref (r1 4), .ref (r1 5), .ref (r1 6), .long sc_1158, .int jc_1159, .ref (r1 7), .ref (r1 8)])), (r1 0, .inl (cI, 10, .inl f_1149)), (r1 1, .inl (cI, 10, .inl f_1151)), (r1 2, .inl (cI, 6, .inl f_1153)), (r1 3, .inl (cJ, 6, .inr (.inl f_1154))), (r1 4, .inl (cJ, 6, .inr (.inl f_1155))), (r1 5, .inl (cJ, 6, .inr (.inl f_1156))), (r1 6, .inl (cJ, 10, .inr (.inl f_1157))), (r1 7, .inl (cI, 70, .inl f_1162)), (r1 8, .inl (cI, 70, .inl f_1164))], w2]) H := hP
          have hD : va_D A (List.flatten [gw_78, [(h1, .inr (2, [.ref pl1, .int fr_1140, .int dr_1143, .int rc_1146, .ref (r1 0), .ref (r1 1), .int gn_1152, .ref (r1 2), .ref (r1 3), .ref (r1 4), .ref (r1 5), .ref (r1 6), .long sc_1158, .int jc_1159, .ref (r1 7), .ref (r1 8)])), (r1 0, .inl (cI, 10, .inl f_1149)), (r1 1, .inl (cI, 10, .inl f_1151)), (r1 2, .inl (cI, 6, .inl f_1153)), (r1 3, .inl (cJ, 6, .inr (.inl f_1154))), (r1 4, .inl (cJ, 6, .inr (.inl f_1155))), (r1 5, .inl (cJ, 6, .inr (.inl f_1156))), (r1 6, .inl (cJ, 10, .inr (.inl f_1157))), (r1 7, .inl (cI, 70, .inl f_1162)), (r1 8, .inl (cI, 70, .inl f_1164))], w2]) := hD
          obtain ⟨hlr_1168, hhr_1168⟩ := hw
          refine lv_if_ne (tgt := 44) hx hb dX1_run_40 (by decide) (fun c_1169 => ?_) (fun c_1169 => ?_)
          · have c_1169 : ¬ r_1168.toInt = 0 := f_ne rfl tI_0 c_1169
            refine lv_aload_n hx hb dX1_run_44 rfl (lv_at hl 3 rfl) ?_
            obtain ⟨fn_1170, f_1173, rfl, hl_1171, hh_1172⟩ := okgw_78
            refine va_get (D := (dC, dI)) (ci := 1) (v := .ref (r0 0)) (C := RX1) (T := TX1) (N := 3) hx hb hts iw_X1_run_X1 hown hK hP 0 rfl rfl 2 (by decide) (hts (.fieldLink RX1 18 "HungFloors$Fall" "went" "[I") (by decide +kernel)) (fun _ h9 => h9) rfl dX1_run_45 ?_
            refine lv_aload_n hx hb dX1_run_48 rfl (lv_at hl 3 rfl) ?_
            refine va_get (D := (dC, dI)) (ci := 1) (v := .int g_155) (C := RX1) (T := TX1) (N := 3) hx hb hts iw_X1_run_X1 hown hK hP 0 rfl rfl 1 (by decide) (hts (.fieldLink RX1 15 "HungFloors$Fall" "wentCount" "I") (by decide +kernel)) (fun _ h9 => h9) rfl dX1_run_49 ?_
            refine lv_iload hx hb dX1_run_52 (lv_at hl 0 rfl) ?_
            refine va_iast hx hb hK hP hD hS 1 1 rfl rfl (v_in rfl (by omega) (by omega)) dX1_run_54 (fun H locs hP hD hS => ?_)
            obtain ⟨f_1174, hP, hD⟩ : ∃ f_1174 : Nat → Int32, va_P (dC, dI) vwCl (List.flatten [[(h0, .inr (1, [.int fn_1170, .int g_155, .ref (r0 0)])), (r0 0, .inl (cI, 70, .inl f_1174))], [(h1, .inr (2, [.ref pl1, .int fr_1140, .int dr_1143, .int rc_1146, .ref (r1 0), .ref (r1 1), .int gn_1152, .ref (r1 2), .ref (r1 3), .ref (r1 4), .ref (r1 5), .ref (r1 6), .long sc_1158, .int jc_1159, .ref (r1 7), .ref (r1 8)])), (r1 0, .inl (cI, 10, .inl f_1149)), (r1 1, .inl (cI, 10, .inl f_1151)), (r1 2, .inl (cI, 6, .inl f_1153)), (r1 3, .inl (cJ, 6, .inr (.inl f_1154))), (r1 4, .inl (cJ, 6, .inr (.inl f_1155))), (r1 5, .inl (cJ, 6, .inr (.inl f_1156))), (r1 6, .inl (cJ, 10, .inr (.inl f_1157))), (r1 7, .inl (cI, 70, .inl f_1162)), (r1 8, .inl (cI, 70, .inl f_1164))], w2]) H ∧ va_D A (List.flatten [[(h0, .inr (1, [.int fn_1170, .int g_155, .ref (r0 0)])), (r0 0, .inl (cI, 70, .inl f_1174))], [(h1, .inr (2, [.ref pl1, .int fr_1140, .int dr_1143, .int rc_1146, .ref (r1 0), .ref (r1 1), .int gn_1152, .ref (r1 2), .ref (r1 3), .ref (r1 4), .ref (r1 5), .ref (r1 6), .long sc_1158, .int jc_1159, .ref (r1 7), .ref (r1 8)])), (r1 0, .inl (cI, 10, .inl f_1149)), (r1 1, .inl (cI, 10, .inl f_1151)), (r1 2, .inl (cI, 6, .inl f_1153)), (r1 3, .inl (cJ, 6, .inr (.inl f_1154))), (r1 4, .inl (cJ, 6, .inr (.inl f_1155))), (r1 5, .inl (cJ, 6, .inr (.inl f_1156))), (r1 6, .inl (cJ, 10, .inr (.inl f_1157))), (r1 7, .inl (cI, 70, .inl f_1162)), (r1 8, .inl (cI, 70, .inl f_1164))], w2]) := ⟨_, hP, hD⟩
            refine lv_aload_n hx hb dX1_run_55 rfl (lv_at hl 3 rfl) ?_
            refine lv_dup hx hb dX1_run_56 rfl ?_
            refine va_get (D := (dC, dI)) (ci := 1) (v := .int g_155) (C := RX1) (T := TX1) (N := 3) hx hb hts iw_X1_run_X1 hown hK hP 0 rfl rfl 1 (by decide) (hts (.fieldLink RX1 15 "HungFloors$Fall" "wentCount" "I") (by decide +kernel)) (fun _ h9 => h9) rfl dX1_run_57 ?_
            refine lv_iconst (v := 1) hx hb dX1_run_60 (by decide) ?_
            refine lv_iadd hx hb dX1_run_61 ?_
            refine lv_topi (fun z_1175 ez_1175 => ?_)
            have hz_1175 : z_1175.toInt = g_155.toInt + 1 := by rw [ez_1175]; exact t_add rfl tI_1 (by omega) (by omega)
            refine va_put (D := (dC, dI)) (ci := 1) (v := .int z_1175) (ty := .int) (C := RX1) (T := TX1) (N := 3) hx hb hts iw_X1_run_X1 tyX1 tyX1_ok nmX1 hown hK hP hD hS 0 rfl rfl 1 (by decide) (hts (.fieldLink RX1 15 "HungFloors$Fall" "wentCount" "I") (by decide +kernel)) (fun _ h9 => h9) rfl (by decide +kernel) rfl rfl (Nat.le_of_ble_eq_true rfl) dX1_run_62 (fun H locs hP hD hS => ?_)
            have hP : va_P (dC, dI) vwCl (List.flatten [[(h0, .inr (1, [.int fn_1170, .int z_1175, .ref (r0 0)])), (r0 0, .inl (cI, 70, .inl f_1174))], [(h1, .inr (2, [.ref pl1, .int fr_1140, .int dr_1143, .int rc_1146, .ref (r1 0), .ref (r1 1), .int gn_1152, .ref (r1 2), .ref (r1 3), .ref (r1 4), .ref (r1 5), .ref (r1 6), .long sc_1158, .int jc_1159, .ref (r1 7), .ref (r1 8)])), (r1 0, .inl (cI, 10, .inl f_1149)), (r1 1, .inl (cI, 10, .inl f_1151)), (r1 2, .inl (cI, 6, .inl f_1153)), (r1 3, .inl (cJ, 6, .inr (.inl f_1154))), (r1 4, .inl (cJ, 6, .inr (.inl f_1155))), (r1 5, .inl (cJ, 6, .inr (.inl f_1156))), (r1 6, .inl (cJ, 10, .inr (.inl f_1157))), (r1 7, .inl (cI, 70, .inl f_1162)), (r1 8, .inl (cI, 70, .inl f_1164))], w2]) H := hP
            have hD : va_D A (List.flatten [[(h0, .inr (1, [.int fn_1170, .int z_1175, .ref (r0 0)])), (r0 0, .inl (cI, 70, .inl f_1174))], [(h1, .inr (2, [.ref pl1, .int fr_1140, .int dr_1143, .int rc_1146, .ref (r1 0), .ref (r1 1), .int gn_1152, .ref (r1 2), .ref (r1 3), .ref (r1 4), .ref (r1 5), .ref (r1 6), .long sc_1158, .int jc_1159, .ref (r1 7), .ref (r1 8)])), (r1 0, .inl (cI, 10, .inl f_1149)), (r1 1, .inl (cI, 10, .inl f_1151)), (r1 2, .inl (cI, 6, .inl f_1153)), (r1 3, .inl (cJ, 6, .inr (.inl f_1154))), (r1 4, .inl (cJ, 6, .inr (.inl f_1155))), (r1 5, .inl (cJ, 6, .inr (.inl f_1156))), (r1 6, .inl (cJ, 10, .inr (.inl f_1157))), (r1 7, .inl (cI, 70, .inl f_1162)), (r1 8, .inl (cI, 70, .inl f_1164))], w2]) := hD
            refine lv_aload_n hx hb dX1_run_65 rfl (lv_at hl 4 rfl) ?_
            refine lv_iload hx hb dX1_run_66 (lv_at hl 0 rfl) ?_
            have hpm : List.Perm ([[(h0, .inr (1, [.int fn_1170, .int z_1175, .ref (r0 0)])), (r0 0, .inl (cI, 70, .inl f_1174))], [(h1, .inr (2, [.ref pl1, .int fr_1140, .int dr_1143, .int rc_1146, .ref (r1 0), .ref (r1 1), .int gn_1152, .ref (r1 2), .ref (r1 3), .ref (r1 4), .ref (r1 5), .ref (r1 6), .long sc_1158, .int jc_1159, .ref (r1 7), .ref (r1 8)])), (r1 0, .inl (cI, 10, .inl f_1149)), (r1 1, .inl (cI, 10, .inl f_1151)), (r1 2, .inl (cI, 6, .inl f_1153)), (r1 3, .inl (cJ, 6, .inr (.inl f_1154))), (r1 4, .inl (cJ, 6, .inr (.inl f_1155))), (r1 5, .inl (cJ, 6, .inr (.inl f_1156))), (r1 6, .inl (cJ, 10, .inr (.inl f_1157))), (r1 7, .inl (cI, 70, .inl f_1162)), (r1 8, .inl (cI, 70, .inl f_1164))], w2] : List va_W) (([[(h1, .inr (2, [.ref pl1, .int fr_1140, .int dr_1143, .int rc_1146, .ref (r1 0), .ref (r1 1), .int gn_1152, .ref (r1 2), .ref (r1 3), .ref (r1 4), .ref (r1 5), .ref (r1 6), .long sc_1158, .int jc_1159, .ref (r1 7), .ref (r1 8)])), (r1 0, .inl (cI, 10, .inl f_1149)), (r1 1, .inl (cI, 10, .inl f_1151)), (r1 2, .inl (cI, 6, .inl f_1153)), (r1 3, .inl (cJ, 6, .inr (.inl f_1154))), (r1 4, .inl (cJ, 6, .inr (.inl f_1155))), (r1 5, .inl (cJ, 6, .inr (.inl f_1156))), (r1 6, .inl (cJ, 10, .inr (.inl f_1157))), (r1 7, .inl (cI, 70, .inl f_1162)), (r1 8, .inl (cI, 70, .inl f_1164))]] : List va_W) ++ ([[(h0, .inr (1, [.int fn_1170, .int z_1175, .ref (r0 0)])), (r0 0, .inl (cI, 70, .inl f_1174))], w2] : List va_W)) := pm_n 3 [1, 0, 2] (by decide) rfl rfl
            have hPc := bk_P hpm hP
            have hDc := bk_D hpm hD
            have hFc := bk_F hpm hD hS hA
            refine va_callv (va_runS (As := [.ref h1, .int r_1166]) (rest := []) ⟨hx, hb, hml, hown, hts⟩ (c_X1_letGo l dC dI ad tN fN cB cI cJ cZ h1 r_1166 r1 pl1 _ ⟨fr_1140, dr_1143, rc_1146, f_1149, f_1151, gn_1152, f_1153, f_1154, f_1155, f_1156, f_1157, sc_1158, jc_1159, f_1162, f_1164, rfl, by omega, by omega, by omega, by omega, by omega, by omega, hr_1150, by omega, by omega, hr_1163, hr_1165⟩ H.size (by omega) (by omega)) (va_cwS 2 hts gX1_run_X1_letGo rfl rfl rfl (by decide +kernel) ⟨(Nat.le_of_ble_eq_true rfl), (Nat.le_of_ble_eq_true rfl)⟩) ⟨fun a U g mk q => by obtain ⟨q0, q1, qP, qK, qD, qE⟩ := q; exact ⟨q0, q1, qP, va_K.moved (u := U) (U := U.calling g mk a) (Vm.Alike.refl U.vm) qK, qD, ey_blind qE⟩, fun U hU hW => ⟨rfl, by rw [hU], by rw [hU]; exact hPc, va_K.moved hW.alike hK, hDc.weaken (fun _ _ _ _ => trivial), ey_call hE hS hFc hU hW⟩⟩ rfl rfl hl.1 rfl (lv_room (Nat.le_of_ble_eq_true rfl)) dX1_run_68 ⟨(Nat.le_of_ble_eq_true rfl), (Nat.le_of_ble_eq_true rfl)⟩) hS (fun q _ h => hFc q h) hFc (fun u t H locs ht hvm hw hB hz1 hk1 hS => ?_)
            obtain ⟨w_1177, o_1178, hP1, hD1⟩ := hB
            rw [ht] at hP1
            obtain ⟨hP, hD⟩ := bk_join hpm hP hD hk1 hFc (Cs1 := [w_1177]) hP1 hD1
            have hpm2 : List.Perm (([w_1177] : List va_W) ++ ([[(h0, .inr (1, [.int fn_1170, .int z_1175, .ref (r0 0)])), (r0 0, .inl (cI, 70, .inl f_1174))], w2] : List va_W)) ([[(h0, .inr (1, [.int fn_1170, .int z_1175, .ref (r0 0)])), (r0 0, .inl (cI, 70, .inl f_1174))], w_1177, w2] : List va_W) := pm_n 3 [1, 0, 2] (by decide) rfl rfl
            have hP := bk_reP hpm2 hP
            have hD := bk_reD hpm2 hD
            have hP : va_P (dC, dI) vwCl (List.flatten [[(h0, .inr (1, [.int fn_1170, .int z_1175, .ref (r0 0)])), (r0 0, .inl (cI, 70, .inl f_1174))], w_1177, w2]) H := hP
            have hD : va_D A (List.flatten [[(h0, .inr (1, [.int fn_1170, .int z_1175, .ref (r0 0)])), (r0 0, .inl (cI, 70, .inl f_1174))], w_1177, w2]) := hD
            refine lv_aload_n hx hb dX1_run_71 rfl (lv_at hl 3 rfl) ?_
            refine lv_aload_n hx hb dX1_run_72 rfl (lv_at hl 4 rfl) ?_
            refine lv_iload_n hx hb dX1_run_73 rfl (lv_at hl 2 rfl) ?_
            have hpm : List.Perm ([[(h0, .inr (1, [.int fn_1170, .int z_1175, .ref (r0 0)])), (r0 0, .inl (cI, 70, .inl f_1174))], w_1177, w2] : List va_W) (([[(h0, .inr (1, [.int fn_1170, .int z_1175, .ref (r0 0)])), (r0 0, .inl (cI, 70, .inl f_1174))], w_1177, w2] : List va_W) ++ ([] : List va_W)) := pm_n 3 [0, 1, 2] (by decide) rfl rfl
            have hPc := bk_P hpm hP
            have hDc := bk_D hpm hD
            have hFc := bk_F hpm hD hS hA
            refine va_callv (va_runV (As := [.ref h1, .int r_27]) (rest := []) ⟨hx, hb, hml, hown, hts⟩ (c_X1_dropFloors l dC dI ad tN fN cB cI cJ cZ h0 h1 r_27 r0 z_1175 _ r1 pl1 _ r2 fc2 dc2 rk2 _ ⟨fn_1170, f_1174, rfl, by omega, by omega⟩ o_1178 o2 H.size) (cwV 2 hts gX1_run_X1_dropFloors rfl rfl rfl (by decide +kernel) ⟨(Nat.le_of_ble_eq_true rfl), (Nat.le_of_ble_eq_true rfl)⟩) ⟨fun a U g mk q => by obtain ⟨q0, q1, qP, qK, qD, qE⟩ := q; exact ⟨q0, q1, qP, va_K.moved (u := U) (U := U.calling g mk a) (Vm.Alike.refl U.vm) qK, qD, ey_blind qE⟩, va_recv hK hPc (ci := 1) (q0 := 0) rfl rfl, fun U hU hW => ⟨rfl, by rw [hU], by rw [hU]; exact hPc, va_K.moved hW.alike hK, hDc.weaken (fun _ _ _ _ => trivial), ey_call hE hS hFc hU hW⟩⟩ rfl rfl hl.1 rfl (lv_room (Nat.le_of_ble_eq_true rfl)) dX1_run_74 ⟨(Nat.le_of_ble_eq_true rfl), (Nat.le_of_ble_eq_true rfl)⟩) hS (fun q _ h => hFc q h) hFc (fun u t H locs ht hvm hw hB hz1 hk1 hS => ?_)
            obtain ⟨w_1180, w_1182, o_1181, o_1183, hP1, hD1⟩ := hB
            rw [ht] at hP1
            obtain ⟨hP, hD⟩ := bk_join hpm hP hD hk1 hFc (Cs1 := [w_1180, w_1182, w2]) hP1 hD1
            have hpm2 : List.Perm (([w_1180, w_1182, w2] : List va_W) ++ ([] : List va_W)) ([w_1180, w_1182, w2] : List va_W) := pm_n 3 [0, 1, 2] (by decide) rfl rfl
            have hP := bk_reP hpm2 hP
            have hD := bk_reD hpm2 hD
            have hP : va_P (dC, dI) vwCl (List.flatten [w_1180, w_1182, w2]) H := hP
            have hD : va_D A (List.flatten [w_1180, w_1182, w2]) := hD
            refine lv_aload_n hx hb dX1_run_77 rfl (lv_at hl 4 rfl) ?_
            obtain ⟨fr_1184, dr_1187, rc_1190, f_1193, f_1195, gn_1196, f_1197, f_1198, f_1199, f_1200, f_1201, sc_1202, jc_1203, f_1206, f_1208, rfl, hl_1185, hh_1186, hl_1188, hh_1189, hl_1191, hh_1192, hr_1194, hl_1204, hh_1205, hr_1207, hr_1209⟩ := o_1183
            have hpm : List.Perm ([w_1180, [(h1, .inr (2, [.ref pl1, .int fr_1184, .int dr_1187, .int rc_1190, .ref (r1 0), .ref (r1 1), .int gn_1196, .ref (r1 2), .ref (r1 3), .ref (r1 4), .ref (r1 5), .ref (r1 6), .long sc_1202, .int jc_1203, .ref (r1 7), .ref (r1 8)])), (r1 0, .inl (cI, 10, .inl f_1193)), (r1 1, .inl (cI, 10, .inl f_1195)), (r1 2, .inl (cI, 6, .inl f_1197)), (r1 3, .inl (cJ, 6, .inr (.inl f_1198))), (r1 4, .inl (cJ, 6, .inr (.inl f_1199))), (r1 5, .inl (cJ, 6, .inr (.inl f_1200))), (r1 6, .inl (cJ, 10, .inr (.inl f_1201))), (r1 7, .inl (cI, 70, .inl f_1206)), (r1 8, .inl (cI, 70, .inl f_1208))], w2] : List va_W) (([[(h1, .inr (2, [.ref pl1, .int fr_1184, .int dr_1187, .int rc_1190, .ref (r1 0), .ref (r1 1), .int gn_1196, .ref (r1 2), .ref (r1 3), .ref (r1 4), .ref (r1 5), .ref (r1 6), .long sc_1202, .int jc_1203, .ref (r1 7), .ref (r1 8)])), (r1 0, .inl (cI, 10, .inl f_1193)), (r1 1, .inl (cI, 10, .inl f_1195)), (r1 2, .inl (cI, 6, .inl f_1197)), (r1 3, .inl (cJ, 6, .inr (.inl f_1198))), (r1 4, .inl (cJ, 6, .inr (.inl f_1199))), (r1 5, .inl (cJ, 6, .inr (.inl f_1200))), (r1 6, .inl (cJ, 10, .inr (.inl f_1201))), (r1 7, .inl (cI, 70, .inl f_1206)), (r1 8, .inl (cI, 70, .inl f_1208))], w2] : List va_W) ++ ([w_1180] : List va_W)) := pm_n 3 [1, 2, 0] (by decide) rfl rfl
            have hPc := bk_P hpm hP
            have hDc := bk_D hpm hD
            have hFc := bk_F hpm hD hS hA
            refine va_callv (va_runV (As := []) (rest := []) ⟨hx, hb, hml, hown, hts⟩ (c_X3_reckon l dC dI ad tN fN cB cI cJ cZ h1 r1 pl1 _ r2 fc2 dc2 rk2 _ ⟨fr_1184, dr_1187, rc_1190, f_1193, f_1195, gn_1196, f_1197, f_1198, f_1199, f_1200, f_1201, sc_1202, jc_1203, f_1206, f_1208, rfl, by omega, by omega, by omega, by omega, by omega, by omega, hr_1194, by omega, by omega, hr_1207, hr_1209⟩ o2 H.size) (cwV 0 hts gX1_run_X3_reckon rfl rfl rfl (by decide +kernel) ⟨(Nat.le_of_ble_eq_true rfl), (Nat.le_of_ble_eq_true rfl)⟩) ⟨fun a U g mk q => by obtain ⟨q0, q1, qP, qK, qD, qE⟩ := q; exact ⟨q0, q1, qP, va_K.moved (u := U) (U := U.calling g mk a) (Vm.Alike.refl U.vm) qK, qD, ey_blind qE⟩, va_recv hK hPc (ci := 2) (q0 := 0) rfl rfl, fun U hU hW => ⟨rfl, by rw [hU], by rw [hU]; exact hPc, va_K.moved hW.alike hK, hDc.weaken (fun _ _ _ _ => trivial), ey_call hE hS hFc hU hW⟩⟩ rfl rfl hl.1 rfl (lv_room (Nat.le_of_ble_eq_true rfl)) dX1_run_78 ⟨(Nat.le_of_ble_eq_true rfl), (Nat.le_of_ble_eq_true rfl)⟩) hS (fun q _ h => hFc q h) hFc (fun u t H locs ht hvm hw hB hz1 hk1 hS => ?_)
            obtain ⟨w_1211, o_1212, hP1, hD1⟩ := hB
            rw [ht] at hP1
            obtain ⟨hP, hD⟩ := bk_join hpm hP hD hk1 hFc (Cs1 := [w_1211, w2]) hP1 hD1
            have hpm2 : List.Perm (([w_1211, w2] : List va_W) ++ ([w_1180] : List va_W)) ([w_1180, w_1211, w2] : List va_W) := pm_n 3 [2, 0, 1] (by decide) rfl rfl
            have hP := bk_reP hpm2 hP
            have hD := bk_reD hpm2 hD
            have hP : va_P (dC, dI) vwCl (List.flatten [w_1180, w_1211, w2]) H := hP
            have hD : va_D A (List.flatten [w_1180, w_1211, w2]) := hD
            obtain ⟨z_1213, ez_1213⟩ : ∃ y : Int32, y = g_32 + 1 := ⟨_, rfl⟩
            have hz_1213 : z_1213.toInt = g_32.toInt + 1 := by rw [ez_1213]; exact t_add rfl tI_1 (by omega) (by omega)
            refine lv_iinc (v := z_1213) (lv' := [(3, .int z_1213), (4, .int r_1166), (2, .int r_27), (0, .ref h0), (1, .ref h1)]) hx hb dX1_run_81 hl (k := 1) rfl (by rw [ez_1213]; rfl) (by decide) rfl (fun ls hl => ?_)
            refine lv_goto (tgt := 17) hx hb dX1_run_84 (by decide) ?_
            exact ih_1138 z_1213 z_1175 _ _ o_1181 o_1212 (by omega) (by omega) (by omega) (by omega) (by omega) (by omega) (by omega) _ _ hP hD hS ls (lv_sub hl [0, 2, 3, 4] rfl)
          · have c_1169 : r_1168.toInt = 0 := f_eq rfl tI_0 c_1169
            rw [hQ0]
            exact W.vret hx hb hr (fun t ht hW => ⟨⟨(), rfl, trivial, ⟨g_155, _, _, okgw_78, ⟨fr_1140, dr_1143, rc_1146, f_1149, f_1151, gn_1152, f_1153, f_1154, f_1155, f_1156, f_1157, sc_1158, jc_1159, f_1162, f_1164, rfl, by omega, by omega, by omega, by omega, by omega, by omega, hr_1150, by omega, by omega, hr_1163, hr_1165⟩, by rw [ht]; exact hP, hD⟩⟩, hS.F ht⟩) hS.2.2 dX1_run_43
  exact lp_1137 _ 0 0 _ _ ⟨0, f_31, rfl, by decide, by decide⟩ ⟨fr_1, dr_4, rc_7, f_10, f_12, gn_13, f_14, f_15, f_16, f_17, f_18, sc_19, jc_20, f_23, f_25, rfl, by omega, by omega, by omega, by omega, by omega, by omega, hr_11, by omega, by omega, hr_24, hr_26⟩ (by have := tI_0; omega) (by have := tI_0; omega) (by have := tI_0; omega) (by have := tI_0; omega) (by have := tI_0; omega) (by have := tI_0; omega) (Nat.lt_succ_self _) _ _ hP hD hS ls (lv_sub hl [0, 1, 2, 3] rfl)
theorem iw_X8_start_X8 : ∀ w ∈ wsX80, w ∈ wsX8_start := fun _ h => List.mem_cons_of_mem _ (List.mem_append_right _ h)
set_option maxHeartbeats 4000000 in
set_option maxRecDepth 100000 in
theorem c_X8_start (l : Launch) (dC : Nat → ClassId) (dI : Nat → Nat → Nat) (ad : Nat → Nat) (tN : Nat) (fN : Nat → Int64) (cB cI cJ cZ : ClassId) (h0 : Nat) (r0 : Nat → Nat) (w0 : va_W) (o0 : ok_rank ad cB cI cJ cZ h0 r0 w0) (sz : Nat) : Met l yX8_start wsX8_start ({ frames := 0, cells := 0, slots := 0, locals := 0 } : Room) (va_Pc [.ref h0] (fun U => U.heap.size = sz ∧ va_P (dC, dI) vwCl (List.flatten [w0]) U.heap ∧ va_K (dC, dI) vwCl [(cB, .byte), (cI, .int), (cJ, .long), (cZ, .boolean)] U ∧ va_D (fun _ => True) (List.flatten [w0]) ∧ ex_Y ad tN fN (va_A (List.flatten [w0]) sz) U)) (va_Qv (fun _ : Unit => True) (fun (_ : Unit) (t : State) => ∃ (w09 : va_W), ok_rank ad cB cI cJ cZ h0 r0 w09 ∧ va_P (dC, dI) vwCl (List.flatten [w09]) t.heap ∧ va_D (va_A (List.flatten [w0]) sz) (List.flatten [w09])) (va_A (List.flatten [w0]) sz)) 0 0 (va_A (List.flatten [w0]) sz) := by
  refine Met.ofW (cc := cX8_start) (maxL := 1) (ret := none) (by decide) rfl ?_
  intro p e s m args below meth c s₁ B hml hv
  obtain ⟨rfl, hsz, hP, hK, hD0, hE⟩ := hv
  have hx := B.exec
  have hb := B.bytes
  have hr := B.returns
  have hts := atoms_spec (ws := wsX8_start) B.pre
  have hown : s.vm.findClass RX8 = some m.cls := findClass_of_methodNamed B.named
  have hlocks := B.notSynchronized
  subst hsz
  have hD := hD0.self (sz := s.heap.size)
  generalize hAe : va_A (List.flatten [w0]) s.heap.size = A at hD hE ⊢
  have hA : ∀ q : Nat, s.heap.size ≤ q → A q := fun q h => by rw [← hAe]; exact Or.inr h
  have hS : va_S A s.heap s.heap [] := va_S.rf
  have hl := lv_entry ([.ref h0]) (n := 1) (Nat.le_of_ble_eq_true rfl)
  rw [lg_entry_eq]
  generalize (lg_sl ([.ref h0]) ++ List.replicate (1 - (lg_sl ([.ref h0])).length) Slot.unset).toArray = ls at hl ⊢
  have hl : lv_has ls 1 [(0, .ref h0)] := hl
  clear hAe
  refine W_name (fun Q0 hQ0 => ?_)
  refine lv_aload_n hx hb dX8_start_0 rfl (lv_at hl 0 rfl) ?_
  refine lv_iconst (v := 0) hx hb dX8_start_1 (by decide) ?_
  obtain ⟨ct_1, f_4, f_5, f_6, rfl, hl_2, hh_3⟩ := o0
  refine va_put (D := (dC, dI)) (ci := 6) (v := .int 0) (ty := .int) (C := RX8) (T := TX8) (N := 4) hx hb hts iw_X8_start_X8 tyX8 tyX8_ok nmX8 hown hK hP hD hS 0 rfl rfl 0 (by decide) (hts (.fieldLink RX8 9 "HungFloors$Ranking" "count" "I") (by decide +kernel)) (fun _ h9 => h9) rfl (by decide +kernel) rfl rfl (Nat.le_of_ble_eq_true rfl) dX8_start_2 (fun H locs hP hD hS => ?_)
  have hP : va_P (dC, dI) vwCl (List.flatten [[(h0, .inr (6, [.int 0, .ref (r0 0), .ref (r0 1), .ref (r0 2)])), (r0 0, .inl (cI, 180, .inl f_4)), (r0 1, .inl (cJ, 180, .inr (.inl f_5))), (r0 2, .inl (cJ, 180, .inr (.inl f_6)))]]) H := hP
  have hD : va_D A (List.flatten [[(h0, .inr (6, [.int 0, .ref (r0 0), .ref (r0 1), .ref (r0 2)])), (r0 0, .inl (cI, 180, .inl f_4)), (r0 1, .inl (cJ, 180, .inr (.inl f_5))), (r0 2, .inl (cJ, 180, .inr (.inl f_6)))]]) := hD
  rw [hQ0]
  exact W.vret hx hb hr (fun t ht hW => ⟨⟨(), rfl, trivial, ⟨_, ⟨0, f_4, f_5, f_6, rfl, by decide, by decide⟩, by rw [ht]; exact hP, hD⟩⟩, hS.F ht⟩) hS.2.2 dX8_start_5
theorem iw_X8_insert_X8 : ∀ w ∈ wsX80, w ∈ wsX8_insert := fun _ h => List.mem_cons_of_mem _ (List.mem_append_right _ h)
set_option maxHeartbeats 4000000 in
set_option maxRecDepth 100000 in
theorem c_X8_insert (l : Launch) (dC : Nat → ClassId) (dI : Nat → Nat → Nat) (ad : Nat → Nat) (tN : Nat) (fN : Nat → Int64) (cB cI cJ cZ : ClassId) (h0 : Nat) (p1 : Int32) (q2 : Int64) (q3 : Int64) (r0 : Nat → Nat) (w0 : va_W) (o0 : ok_rank ad cB cI cJ cZ h0 r0 w0) (sz : Nat) : Met l yX8_insert wsX8_insert ({ frames := 2, cells := 0, slots := 0, locals := 68 } : Room) (va_Pc [.ref h0, .int p1, .long q2, .long q3] (fun U => U.heap.size = sz ∧ va_P (dC, dI) vwCl (List.flatten [w0]) U.heap ∧ va_K (dC, dI) vwCl [(cB, .byte), (cI, .int), (cJ, .long), (cZ, .boolean)] U ∧ va_D (fun _ => True) (List.flatten [w0]) ∧ ex_Y ad tN fN (va_A (List.flatten [w0]) sz) U)) (va_Qv (fun _ : Unit => True) (fun (_ : Unit) (t : State) => ∃ (w09 : va_W), ok_rank ad cB cI cJ cZ h0 r0 w09 ∧ va_P (dC, dI) vwCl (List.flatten [w09]) t.heap ∧ va_D (va_A (List.flatten [w0]) sz) (List.flatten [w09])) (va_A (List.flatten [w0]) sz)) 0 0 (va_A (List.flatten [w0]) sz) := by
  refine Met.ofW (cc := cX8_insert) (maxL := 7) (ret := none) (by decide) rfl ?_
  intro p e s m args below meth c s₁ B hml hv
  obtain ⟨rfl, hsz, hP, hK, hD0, hE⟩ := hv
  have hx := B.exec
  have hb := B.bytes
  have hr := B.returns
  have hts := atoms_spec (ws := wsX8_insert) B.pre
  have hown : s.vm.findClass RX8 = some m.cls := findClass_of_methodNamed B.named
  have hlocks := B.notSynchronized
  subst hsz
  have hD := hD0.self (sz := s.heap.size)
  generalize hAe : va_A (List.flatten [w0]) s.heap.size = A at hD hE ⊢
  have hA : ∀ q : Nat, s.heap.size ≤ q → A q := fun q h => by rw [← hAe]; exact Or.inr h
  have hS : va_S A s.heap s.heap [] := va_S.rf
  have hl := lv_entry ([.ref h0, .int p1, .long q2, .long q3]) (n := 7) (Nat.le_of_ble_eq_true rfl)
  rw [lg_entry_eq]
  generalize (lg_sl ([.ref h0, .int p1, .long q2, .long q3]) ++ List.replicate (7 - (lg_sl ([.ref h0, .int p1, .long q2, .long q3])).length) Slot.unset).toArray = ls at hl ⊢
  have hl : lv_has ls 7 [(0, .ref h0), (1, .int p1), (2, .long q2), (4, .long q3)] := hl
  clear hAe
  refine W_name (fun Q0 hQ0 => ?_)
  refine lv_aload_n hx hb dX8_insert_0 rfl (lv_at hl 0 rfl) ?_
  obtain ⟨ct_1, f_4, f_5, f_6, rfl, hl_2, hh_3⟩ := o0
  refine va_get (D := (dC, dI)) (ci := 6) (v := .int ct_1) (C := RX8) (T := TX8) (N := 4) hx hb hts iw_X8_insert_X8 hown hK hP 0 rfl rfl 0 (by decide) (hts (.fieldLink RX8 9 "HungFloors$Ranking" "count" "I") (by decide +kernel)) (fun _ h9 => h9) rfl dX8_insert_1 ?_
  refine lv_sipush (v := 180) hx hb dX8_insert_4 (by decide) ?_
  refine lv_icmp_lt (tgt := 11) hx hb dX8_insert_7 (by decide) (fun c_7 => ?_) (fun c_7 => ?_)
  · have c_7 : ct_1.toInt < 180 := f_lt rfl tI_180 c_7
    refine lv_aload_n hx hb dX8_insert_11 rfl (lv_at hl 0 rfl) ?_
    refine va_get (D := (dC, dI)) (ci := 6) (v := .int ct_1) (C := RX8) (T := TX8) (N := 4) hx hb hts iw_X8_insert_X8 hown hK hP 0 rfl rfl 0 (by decide) (hts (.fieldLink RX8 9 "HungFloors$Ranking" "count" "I") (by decide +kernel)) (fun _ h9 => h9) rfl dX8_insert_12 ?_
    refine lv_istore (lv' := [(6, .int ct_1), (0, .ref h0), (1, .int p1), (2, .long q2), (4, .long q3)]) hx hb dX8_insert_15 hl (by decide) rfl (fun ls hl => ?_)
    have lp_165 : ∀ (n : Nat) (g_8 : Int32) (gf_34 : Nat → Int32) (gf_35 : Nat → Int64) (gf_36 : Nat → Int64), 0 ≤ g_8.toInt → g_8.toInt ≤ 179 → g_8.toInt - ct_1.toInt ≤ 0 → (g_8.toInt - (0)).toNat < n → ∀ (H : Heap) (locs : List Loc), va_P (dC, dI) vwCl (List.flatten [[(h0, .inr (6, [.int ct_1, .ref (r0 0), .ref (r0 1), .ref (r0 2)])), (r0 0, .inl (cI, 180, .inl gf_34)), (r0 1, .inl (cJ, 180, .inr (.inl gf_35))), (r0 2, .inl (cJ, 180, .inr (.inl gf_36)))]]) H → va_D A (List.flatten [[(h0, .inr (6, [.int ct_1, .ref (r0 0), .ref (r0 1), .ref (r0 2)])), (r0 0, .inl (cI, 180, .inl gf_34)), (r0 1, .inl (cJ, 180, .inr (.inl gf_35))), (r0 2, .inl (cJ, 180, .inr (.inl gf_36)))]]) → va_S A s.heap H locs → ∀ (ls : Array Slot), lv_has ls 7 [(6, .int g_8), (0, .ref h0), (1, .int p1), (2, .long q2), (4, .long q3)] → W p l e (headSpec wsX8_insert ({ frames := 2, cells := 0, slots := 0, locals := 68 } : Room)).room s m ([.ref h0, .int p1, .long q2, .long q3] : List Value).toArray below meth c H locs 0 0 Q0 (F0 m 17 ls []) := by
      intro n
      induction n with
      | zero => intro g_8 gf_34 gf_35 gf_36 iv_162 iv_163 iv_164 hm; exact absurd hm (Nat.not_lt_zero _)
      | succ n ih_166 =>
        intro g_8 gf_34 gf_35 gf_36 iv_162 iv_163 iv_164 hm H locs hP hD hS ls hl
        refine lv_iload hx hb dX8_insert_17 (lv_at hl 0 rfl) ?_
        refine lv_if_le (tgt := 103) hx hb dX8_insert_19 (by decide) (fun c_167 => ?_) (fun c_167 => ?_)
        · have c_167 : g_8.toInt ≤ 0 := f_le rfl tI_0 c_167
          refine lv_aload_n hx hb dX8_insert_103 rfl (lv_at hl 1 rfl) ?_
          refine va_get (D := (dC, dI)) (ci := 6) (v := .ref (r0 0)) (C := RX8) (T := TX8) (N := 4) hx hb hts iw_X8_insert_X8 hown hK hP 0 rfl rfl 1 (by decide) (hts (.fieldLink RX8 15 "HungFloors$Ranking" "code" "[I") (by decide +kernel)) (fun _ h9 => h9) rfl dX8_insert_104 ?_
          refine lv_iload hx hb dX8_insert_107 (lv_at hl 0 rfl) ?_
          refine lv_iload_n hx hb dX8_insert_109 rfl (lv_at hl 2 rfl) ?_
          refine va_iast hx hb hK hP hD hS 1 1 rfl rfl (v_in rfl (by omega) (by omega)) dX8_insert_110 (fun H locs hP hD hS => ?_)
          obtain ⟨f_168, hP, hD⟩ : ∃ f_168 : Nat → Int32, va_P (dC, dI) vwCl (List.flatten [[(h0, .inr (6, [.int ct_1, .ref (r0 0), .ref (r0 1), .ref (r0 2)])), (r0 0, .inl (cI, 180, .inl f_168)), (r0 1, .inl (cJ, 180, .inr (.inl gf_35))), (r0 2, .inl (cJ, 180, .inr (.inl gf_36)))]]) H ∧ va_D A (List.flatten [[(h0, .inr (6, [.int ct_1, .ref (r0 0), .ref (r0 1), .ref (r0 2)])), (r0 0, .inl (cI, 180, .inl f_168)), (r0 1, .inl (cJ, 180, .inr (.inl gf_35))), (r0 2, .inl (cJ, 180, .inr (.inl gf_36)))]]) := ⟨_, hP, hD⟩
          refine lv_aload_n hx hb dX8_insert_111 rfl (lv_at hl 1 rfl) ?_
          refine va_get (D := (dC, dI)) (ci := 6) (v := .ref (r0 1)) (C := RX8) (T := TX8) (N := 4) hx hb hts iw_X8_insert_X8 hown hK hP 0 rfl rfl 2 (by decide) (hts (.fieldLink RX8 19 "HungFloors$Ranking" "upper" "[J") (by decide +kernel)) (fun _ h9 => h9) rfl dX8_insert_112 ?_
          refine lv_iload hx hb dX8_insert_115 (lv_at hl 0 rfl) ?_
          refine lv_lload_n hx hb dX8_insert_117 rfl (lv_at hl 3 rfl) ?_
          refine va_last hx hb hK hP hD hS 2 2 rfl rfl (v_in rfl (by omega) (by omega)) dX8_insert_118 (fun H locs hP hD hS => ?_)
          obtain ⟨f_169, hP, hD⟩ : ∃ f_169 : Nat → Int64, va_P (dC, dI) vwCl (List.flatten [[(h0, .inr (6, [.int ct_1, .ref (r0 0), .ref (r0 1), .ref (r0 2)])), (r0 0, .inl (cI, 180, .inl f_168)), (r0 1, .inl (cJ, 180, .inr (.inl f_169))), (r0 2, .inl (cJ, 180, .inr (.inl gf_36)))]]) H ∧ va_D A (List.flatten [[(h0, .inr (6, [.int ct_1, .ref (r0 0), .ref (r0 1), .ref (r0 2)])), (r0 0, .inl (cI, 180, .inl f_168)), (r0 1, .inl (cJ, 180, .inr (.inl f_169))), (r0 2, .inl (cJ, 180, .inr (.inl gf_36)))]]) := ⟨_, hP, hD⟩
          refine lv_aload_n hx hb dX8_insert_119 rfl (lv_at hl 1 rfl) ?_
          refine va_get (D := (dC, dI)) (ci := 6) (v := .ref (r0 2)) (C := RX8) (T := TX8) (N := 4) hx hb hts iw_X8_insert_X8 hown hK hP 0 rfl rfl 3 (by decide) (hts (.fieldLink RX8 23 "HungFloors$Ranking" "lower" "[J") (by decide +kernel)) (fun _ h9 => h9) rfl dX8_insert_120 ?_
          refine lv_iload hx hb dX8_insert_123 (lv_at hl 0 rfl) ?_
          refine lv_lload hx hb dX8_insert_125 (lv_at hl 4 rfl) ?_
          refine va_last hx hb hK hP hD hS 3 2 rfl rfl (v_in rfl (by omega) (by omega)) dX8_insert_127 (fun H locs hP hD hS => ?_)
          obtain ⟨f_170, hP, hD⟩ : ∃ f_170 : Nat → Int64, va_P (dC, dI) vwCl (List.flatten [[(h0, .inr (6, [.int ct_1, .ref (r0 0), .ref (r0 1), .ref (r0 2)])), (r0 0, .inl (cI, 180, .inl f_168)), (r0 1, .inl (cJ, 180, .inr (.inl f_169))), (r0 2, .inl (cJ, 180, .inr (.inl f_170)))]]) H ∧ va_D A (List.flatten [[(h0, .inr (6, [.int ct_1, .ref (r0 0), .ref (r0 1), .ref (r0 2)])), (r0 0, .inl (cI, 180, .inl f_168)), (r0 1, .inl (cJ, 180, .inr (.inl f_169))), (r0 2, .inl (cJ, 180, .inr (.inl f_170)))]]) := ⟨_, hP, hD⟩
          refine lv_aload_n hx hb dX8_insert_128 rfl (lv_at hl 1 rfl) ?_
          refine lv_dup hx hb dX8_insert_129 rfl ?_
          refine va_get (D := (dC, dI)) (ci := 6) (v := .int ct_1) (C := RX8) (T := TX8) (N := 4) hx hb hts iw_X8_insert_X8 hown hK hP 0 rfl rfl 0 (by decide) (hts (.fieldLink RX8 9 "HungFloors$Ranking" "count" "I") (by decide +kernel)) (fun _ h9 => h9) rfl dX8_insert_130 ?_
          refine lv_iconst (v := 1) hx hb dX8_insert_133 (by decide) ?_
          refine lv_iadd hx hb dX8_insert_134 ?_
          refine lv_topi (fun z_171 ez_171 => ?_)
          have hz_171 : z_171.toInt = ct_1.toInt + 1 := by rw [ez_171]; exact t_add rfl tI_1 (by omega) (by omega)
          refine va_put (D := (dC, dI)) (ci := 6) (v := .int z_171) (ty := .int) (C := RX8) (T := TX8) (N := 4) hx hb hts iw_X8_insert_X8 tyX8 tyX8_ok nmX8 hown hK hP hD hS 0 rfl rfl 0 (by decide) (hts (.fieldLink RX8 9 "HungFloors$Ranking" "count" "I") (by decide +kernel)) (fun _ h9 => h9) rfl (by decide +kernel) rfl rfl (Nat.le_of_ble_eq_true rfl) dX8_insert_135 (fun H locs hP hD hS => ?_)
          have hP : va_P (dC, dI) vwCl (List.flatten [[(h0, .inr (6, [.int z_171, .ref (r0 0), .ref (r0 1), .ref (r0 2)])), (r0 0, .inl (cI, 180, .inl f_168)), (r0 1, .inl (cJ, 180, .inr (.inl f_169))), (r0 2, .inl (cJ, 180, .inr (.inl f_170)))]]) H := hP
          have hD : va_D A (List.flatten [[(h0, .inr (6, [.int z_171, .ref (r0 0), .ref (r0 1), .ref (r0 2)])), (r0 0, .inl (cI, 180, .inl f_168)), (r0 1, .inl (cJ, 180, .inr (.inl f_169))), (r0 2, .inl (cJ, 180, .inr (.inl f_170)))]]) := hD
          rw [hQ0]
          exact W.vret hx hb hr (fun t ht hW => ⟨⟨(), rfl, trivial, ⟨_, ⟨z_171, f_168, f_169, f_170, rfl, by omega, by omega⟩, by rw [ht]; exact hP, hD⟩⟩, hS.F ht⟩) hS.2.2 dX8_insert_138
        · have c_167 : 0 < g_8.toInt := f_nle rfl tI_0 c_167
          refine lv_lload_n hx hb dX8_insert_22 rfl (lv_at hl 3 rfl) ?_
          refine lv_lload hx hb dX8_insert_23 (lv_at hl 4 rfl) ?_
          refine lv_aload_n hx hb dX8_insert_25 rfl (lv_at hl 1 rfl) ?_
          refine va_get (D := (dC, dI)) (ci := 6) (v := .ref (r0 1)) (C := RX8) (T := TX8) (N := 4) hx hb hts iw_X8_insert_X8 hown hK hP 0 rfl rfl 2 (by decide) (hts (.fieldLink RX8 19 "HungFloors$Ranking" "upper" "[J") (by decide +kernel)) (fun _ h9 => h9) rfl dX8_insert_26 ?_
          refine lv_iload hx hb dX8_insert_29 (lv_at hl 0 rfl) ?_
          refine lv_iconst (v := 1) hx hb dX8_insert_31 (by decide) ?_
          refine lv_isub hx hb dX8_insert_32 ?_
          refine lv_topi (fun z_172 ez_172 => ?_)
          have hz_172 : z_172.toInt = g_8.toInt - 1 := by rw [ez_172]; exact t_sub rfl tI_1 (by omega) (by omega)
          refine va_lald hx hb hK hP 2 2 rfl rfl (v_in rfl (by omega) (by omega)) dX8_insert_33 ?_
          refine lv_topl (fun z_173 ez_173 => ?_)
          refine lv_aload_n hx hb dX8_insert_34 rfl (lv_at hl 1 rfl) ?_
          refine va_get (D := (dC, dI)) (ci := 6) (v := .ref (r0 2)) (C := RX8) (T := TX8) (N := 4) hx hb hts iw_X8_insert_X8 hown hK hP 0 rfl rfl 3 (by decide) (hts (.fieldLink RX8 23 "HungFloors$Ranking" "lower" "[J") (by decide +kernel)) (fun _ h9 => h9) rfl dX8_insert_35 ?_
          refine lv_iload hx hb dX8_insert_38 (lv_at hl 0 rfl) ?_
          refine lv_iconst (v := 1) hx hb dX8_insert_40 (by decide) ?_
          refine lv_isub hx hb dX8_insert_41 ?_
          refine lv_topi (fun z_174 ez_174 => ?_)
          have hz_174 : z_174.toInt = g_8.toInt - 1 := by rw [ez_174]; exact t_sub rfl tI_1 (by omega) (by omega)
          refine va_lald hx hb hK hP 3 2 rfl rfl (v_in rfl (by omega) (by omega)) dX8_insert_42 ?_
          refine lv_topl (fun z_175 ez_175 => ?_)
          have hpm : List.Perm ([[(h0, .inr (6, [.int ct_1, .ref (r0 0), .ref (r0 1), .ref (r0 2)])), (r0 0, .inl (cI, 180, .inl gf_34)), (r0 1, .inl (cJ, 180, .inr (.inl gf_35))), (r0 2, .inl (cJ, 180, .inr (.inl gf_36)))]] : List va_W) (([] : List va_W) ++ ([[(h0, .inr (6, [.int ct_1, .ref (r0 0), .ref (r0 1), .ref (r0 2)])), (r0 0, .inl (cI, 180, .inl gf_34)), (r0 1, .inl (cJ, 180, .inr (.inl gf_35))), (r0 2, .inl (cJ, 180, .inr (.inl gf_36)))]] : List va_W)) := pm_n 1 [0] (by decide) rfl rfl
          have hPc := bk_P hpm hP
          have hDc := bk_D hpm hD
          have hFc := bk_F hpm hD hS hA
          refine va_calli (va_runS (As := [.long q2, .long q3, .long z_173, .long z_175]) (rest := []) ⟨hx, hb, hml, hown, hts⟩ (c_X2_order l dC dI ad tN fN cB cI cJ cZ q2 q3 z_173 z_175 H.size) (va_cwS 4 hts gX8_insert_X2_order rfl rfl rfl (by decide +kernel) ⟨(Nat.le_of_ble_eq_true rfl), (Nat.le_of_ble_eq_true rfl)⟩) ⟨fun a U g mk q => by obtain ⟨q0, q1, qP, qK, qD, qE⟩ := q; exact ⟨q0, q1, qP, va_K.moved (u := U) (U := U.calling g mk a) (Vm.Alike.refl U.vm) qK, qD, ey_blind qE⟩, fun U hU hW => ⟨rfl, by rw [hU], by rw [hU]; exact hPc, va_K.moved hW.alike hK, hDc.weaken (fun _ _ _ _ => trivial), ey_call hE hS hFc hU hW⟩⟩ rfl rfl hl.1 rfl (lv_room (Nat.le_of_ble_eq_true rfl)) dX8_insert_43 ⟨(Nat.le_of_ble_eq_true rfl), (Nat.le_of_ble_eq_true rfl)⟩) hS (fun q _ h => hFc q h) hFc (fun r_176 u t H locs ht hvm hw hB hz1 hk1 hS => ?_)
          obtain ⟨hP1, hD1⟩ := hB
          rw [ht] at hP1
          obtain ⟨hP, hD⟩ := bk_join hpm hP hD hk1 hFc (Cs1 := []) hP1 hD1
          have hpm2 : List.Perm (([] : List va_W) ++ ([[(h0, .inr (6, [.int ct_1, .ref (r0 0), .ref (r0 1), .ref (r0 2)])), (r0 0, .inl (cI, 180, .inl gf_34)), (r0 1, .inl (cJ, 180, .inr (.inl gf_35))), (r0 2, .inl (cJ, 180, .inr (.inl gf_36)))]] : List va_W)) ([[(h0, .inr (6, [.int ct_1, .ref (r0 0), .ref (r0 1), .ref (r0 2)])), (r0 0, .inl (cI, 180, .inl gf_34)), (r0 1, .inl (cJ, 180, .inr (.inl gf_35))), (r0 2, .inl (cJ, 180, .inr (.inl gf_36)))]] : List va_W) := pm_n 1 [0] (by decide) rfl rfl
          have hP := bk_reP hpm2 hP
          have hD := bk_reD hpm2 hD
          have hP : va_P (dC, dI) vwCl (List.flatten [[(h0, .inr (6, [.int ct_1, .ref (r0 0), .ref (r0 1), .ref (r0 2)])), (r0 0, .inl (cI, 180, .inl gf_34)), (r0 1, .inl (cJ, 180, .inr (.inl gf_35))), (r0 2, .inl (cJ, 180, .inr (.inl gf_36)))]]) H := hP
          have hD : va_D A (List.flatten [[(h0, .inr (6, [.int ct_1, .ref (r0 0), .ref (r0 1), .ref (r0 2)])), (r0 0, .inl (cI, 180, .inl gf_34)), (r0 1, .inl (cJ, 180, .inr (.inl gf_35))), (r0 2, .inl (cJ, 180, .inr (.inl gf_36)))]]) := hD
          refine lv_if_le (tgt := 103) hx hb dX8_insert_46 (by decide) (fun c_177 => ?_) (fun c_177 => ?_)
          · have c_177 : r_176.toInt ≤ 0 := f_le rfl tI_0 c_177
            refine lv_aload_n hx hb dX8_insert_103 rfl (lv_at hl 1 rfl) ?_
            refine va_get (D := (dC, dI)) (ci := 6) (v := .ref (r0 0)) (C := RX8) (T := TX8) (N := 4) hx hb hts iw_X8_insert_X8 hown hK hP 0 rfl rfl 1 (by decide) (hts (.fieldLink RX8 15 "HungFloors$Ranking" "code" "[I") (by decide +kernel)) (fun _ h9 => h9) rfl dX8_insert_104 ?_
            refine lv_iload hx hb dX8_insert_107 (lv_at hl 0 rfl) ?_
            refine lv_iload_n hx hb dX8_insert_109 rfl (lv_at hl 2 rfl) ?_
            refine va_iast hx hb hK hP hD hS 1 1 rfl rfl (v_in rfl (by omega) (by omega)) dX8_insert_110 (fun H locs hP hD hS => ?_)
            obtain ⟨f_178, hP, hD⟩ : ∃ f_178 : Nat → Int32, va_P (dC, dI) vwCl (List.flatten [[(h0, .inr (6, [.int ct_1, .ref (r0 0), .ref (r0 1), .ref (r0 2)])), (r0 0, .inl (cI, 180, .inl f_178)), (r0 1, .inl (cJ, 180, .inr (.inl gf_35))), (r0 2, .inl (cJ, 180, .inr (.inl gf_36)))]]) H ∧ va_D A (List.flatten [[(h0, .inr (6, [.int ct_1, .ref (r0 0), .ref (r0 1), .ref (r0 2)])), (r0 0, .inl (cI, 180, .inl f_178)), (r0 1, .inl (cJ, 180, .inr (.inl gf_35))), (r0 2, .inl (cJ, 180, .inr (.inl gf_36)))]]) := ⟨_, hP, hD⟩
            refine lv_aload_n hx hb dX8_insert_111 rfl (lv_at hl 1 rfl) ?_
            refine va_get (D := (dC, dI)) (ci := 6) (v := .ref (r0 1)) (C := RX8) (T := TX8) (N := 4) hx hb hts iw_X8_insert_X8 hown hK hP 0 rfl rfl 2 (by decide) (hts (.fieldLink RX8 19 "HungFloors$Ranking" "upper" "[J") (by decide +kernel)) (fun _ h9 => h9) rfl dX8_insert_112 ?_
            refine lv_iload hx hb dX8_insert_115 (lv_at hl 0 rfl) ?_
            refine lv_lload_n hx hb dX8_insert_117 rfl (lv_at hl 3 rfl) ?_
            refine va_last hx hb hK hP hD hS 2 2 rfl rfl (v_in rfl (by omega) (by omega)) dX8_insert_118 (fun H locs hP hD hS => ?_)
            obtain ⟨f_179, hP, hD⟩ : ∃ f_179 : Nat → Int64, va_P (dC, dI) vwCl (List.flatten [[(h0, .inr (6, [.int ct_1, .ref (r0 0), .ref (r0 1), .ref (r0 2)])), (r0 0, .inl (cI, 180, .inl f_178)), (r0 1, .inl (cJ, 180, .inr (.inl f_179))), (r0 2, .inl (cJ, 180, .inr (.inl gf_36)))]]) H ∧ va_D A (List.flatten [[(h0, .inr (6, [.int ct_1, .ref (r0 0), .ref (r0 1), .ref (r0 2)])), (r0 0, .inl (cI, 180, .inl f_178)), (r0 1, .inl (cJ, 180, .inr (.inl f_179))), (r0 2, .inl (cJ, 180, .inr (.inl gf_36)))]]) := ⟨_, hP, hD⟩
            refine lv_aload_n hx hb dX8_insert_119 rfl (lv_at hl 1 rfl) ?_
            refine va_get (D := (dC, dI)) (ci := 6) (v := .ref (r0 2)) (C := RX8) (T := TX8) (N := 4) hx hb hts iw_X8_insert_X8 hown hK hP 0 rfl rfl 3 (by decide) (hts (.fieldLink RX8 23 "HungFloors$Ranking" "lower" "[J") (by decide +kernel)) (fun _ h9 => h9) rfl dX8_insert_120 ?_
            refine lv_iload hx hb dX8_insert_123 (lv_at hl 0 rfl) ?_
            refine lv_lload hx hb dX8_insert_125 (lv_at hl 4 rfl) ?_
            refine va_last hx hb hK hP hD hS 3 2 rfl rfl (v_in rfl (by omega) (by omega)) dX8_insert_127 (fun H locs hP hD hS => ?_)
            obtain ⟨f_180, hP, hD⟩ : ∃ f_180 : Nat → Int64, va_P (dC, dI) vwCl (List.flatten [[(h0, .inr (6, [.int ct_1, .ref (r0 0), .ref (r0 1), .ref (r0 2)])), (r0 0, .inl (cI, 180, .inl f_178)), (r0 1, .inl (cJ, 180, .inr (.inl f_179))), (r0 2, .inl (cJ, 180, .inr (.inl f_180)))]]) H ∧ va_D A (List.flatten [[(h0, .inr (6, [.int ct_1, .ref (r0 0), .ref (r0 1), .ref (r0 2)])), (r0 0, .inl (cI, 180, .inl f_178)), (r0 1, .inl (cJ, 180, .inr (.inl f_179))), (r0 2, .inl (cJ, 180, .inr (.inl f_180)))]]) := ⟨_, hP, hD⟩
            refine lv_aload_n hx hb dX8_insert_128 rfl (lv_at hl 1 rfl) ?_
            refine lv_dup hx hb dX8_insert_129 rfl ?_
            refine va_get (D := (dC, dI)) (ci := 6) (v := .int ct_1) (C := RX8) (T := TX8) (N := 4) hx hb hts iw_X8_insert_X8 hown hK hP 0 rfl rfl 0 (by decide) (hts (.fieldLink RX8 9 "HungFloors$Ranking" "count" "I") (by decide +kernel)) (fun _ h9 => h9) rfl dX8_insert_130 ?_
            refine lv_iconst (v := 1) hx hb dX8_insert_133 (by decide) ?_
            refine lv_iadd hx hb dX8_insert_134 ?_
            refine lv_topi (fun z_181 ez_181 => ?_)
            have hz_181 : z_181.toInt = ct_1.toInt + 1 := by rw [ez_181]; exact t_add rfl tI_1 (by omega) (by omega)
            refine va_put (D := (dC, dI)) (ci := 6) (v := .int z_181) (ty := .int) (C := RX8) (T := TX8) (N := 4) hx hb hts iw_X8_insert_X8 tyX8 tyX8_ok nmX8 hown hK hP hD hS 0 rfl rfl 0 (by decide) (hts (.fieldLink RX8 9 "HungFloors$Ranking" "count" "I") (by decide +kernel)) (fun _ h9 => h9) rfl (by decide +kernel) rfl rfl (Nat.le_of_ble_eq_true rfl) dX8_insert_135 (fun H locs hP hD hS => ?_)
            have hP : va_P (dC, dI) vwCl (List.flatten [[(h0, .inr (6, [.int z_181, .ref (r0 0), .ref (r0 1), .ref (r0 2)])), (r0 0, .inl (cI, 180, .inl f_178)), (r0 1, .inl (cJ, 180, .inr (.inl f_179))), (r0 2, .inl (cJ, 180, .inr (.inl f_180)))]]) H := hP
            have hD : va_D A (List.flatten [[(h0, .inr (6, [.int z_181, .ref (r0 0), .ref (r0 1), .ref (r0 2)])), (r0 0, .inl (cI, 180, .inl f_178)), (r0 1, .inl (cJ, 180, .inr (.inl f_179))), (r0 2, .inl (cJ, 180, .inr (.inl f_180)))]]) := hD
            rw [hQ0]
            exact W.vret hx hb hr (fun t ht hW => ⟨⟨(), rfl, trivial, ⟨_, ⟨z_181, f_178, f_179, f_180, rfl, by omega, by omega⟩, by rw [ht]; exact hP, hD⟩⟩, hS.F ht⟩) hS.2.2 dX8_insert_138
          · have c_177 : 0 < r_176.toInt := f_nle rfl tI_0 c_177
            refine lv_aload_n hx hb dX8_insert_49 rfl (lv_at hl 1 rfl) ?_
            refine va_get (D := (dC, dI)) (ci := 6) (v := .ref (r0 0)) (C := RX8) (T := TX8) (N := 4) hx hb hts iw_X8_insert_X8 hown hK hP 0 rfl rfl 1 (by decide) (hts (.fieldLink RX8 15 "HungFloors$Ranking" "code" "[I") (by decide +kernel)) (fun _ h9 => h9) rfl dX8_insert_50 ?_
            refine lv_iload hx hb dX8_insert_53 (lv_at hl 0 rfl) ?_
            refine lv_aload_n hx hb dX8_insert_55 rfl (lv_at hl 1 rfl) ?_
            refine va_get (D := (dC, dI)) (ci := 6) (v := .ref (r0 0)) (C := RX8) (T := TX8) (N := 4) hx hb hts iw_X8_insert_X8 hown hK hP 0 rfl rfl 1 (by decide) (hts (.fieldLink RX8 15 "HungFloors$Ranking" "code" "[I") (by decide +kernel)) (fun _ h9 => h9) rfl dX8_insert_56 ?_
            refine lv_iload hx hb dX8_insert_59 (lv_at hl 0 rfl) ?_
            refine lv_iconst (v := 1) hx hb dX8_insert_61 (by decide) ?_
            refine lv_isub hx hb dX8_insert_62 ?_
            refine lv_topi (fun z_182 ez_182 => ?_)
            have hz_182 : z_182.toInt = g_8.toInt - 1 := by rw [ez_182]; exact t_sub rfl tI_1 (by omega) (by omega)
            refine va_iald hx hb hK hP 1 1 rfl rfl (v_in rfl (by omega) (by omega)) dX8_insert_63 ?_
            refine lv_topi (fun z_183 ez_183 => ?_)
            refine va_iast hx hb hK hP hD hS 1 1 rfl rfl (v_in rfl (by omega) (by omega)) dX8_insert_64 (fun H locs hP hD hS => ?_)
            obtain ⟨f_184, hP, hD⟩ : ∃ f_184 : Nat → Int32, va_P (dC, dI) vwCl (List.flatten [[(h0, .inr (6, [.int ct_1, .ref (r0 0), .ref (r0 1), .ref (r0 2)])), (r0 0, .inl (cI, 180, .inl f_184)), (r0 1, .inl (cJ, 180, .inr (.inl gf_35))), (r0 2, .inl (cJ, 180, .inr (.inl gf_36)))]]) H ∧ va_D A (List.flatten [[(h0, .inr (6, [.int ct_1, .ref (r0 0), .ref (r0 1), .ref (r0 2)])), (r0 0, .inl (cI, 180, .inl f_184)), (r0 1, .inl (cJ, 180, .inr (.inl gf_35))), (r0 2, .inl (cJ, 180, .inr (.inl gf_36)))]]) := ⟨_, hP, hD⟩
            refine lv_aload_n hx hb dX8_insert_65 rfl (lv_at hl 1 rfl) ?_
            refine va_get (D := (dC, dI)) (ci := 6) (v := .ref (r0 1)) (C := RX8) (T := TX8) (N := 4) hx hb hts iw_X8_insert_X8 hown hK hP 0 rfl rfl 2 (by decide) (hts (.fieldLink RX8 19 "HungFloors$Ranking" "upper" "[J") (by decide +kernel)) (fun _ h9 => h9) rfl dX8_insert_66 ?_
            refine lv_iload hx hb dX8_insert_69 (lv_at hl 0 rfl) ?_
            refine lv_aload_n hx hb dX8_insert_71 rfl (lv_at hl 1 rfl) ?_
            refine va_get (D := (dC, dI)) (ci := 6) (v := .ref (r0 1)) (C := RX8) (T := TX8) (N := 4) hx hb hts iw_X8_insert_X8 hown hK hP 0 rfl rfl 2 (by decide) (hts (.fieldLink RX8 19 "HungFloors$Ranking" "upper" "[J") (by decide +kernel)) (fun _ h9 => h9) rfl dX8_insert_72 ?_
            refine lv_iload hx hb dX8_insert_75 (lv_at hl 0 rfl) ?_
            refine lv_iconst (v := 1) hx hb dX8_insert_77 (by decide) ?_
            refine lv_isub hx hb dX8_insert_78 ?_
            refine lv_topi (fun z_185 ez_185 => ?_)
            have hz_185 : z_185.toInt = g_8.toInt - 1 := by rw [ez_185]; exact t_sub rfl tI_1 (by omega) (by omega)
            refine va_lald hx hb hK hP 2 2 rfl rfl (v_in rfl (by omega) (by omega)) dX8_insert_79 ?_
            refine lv_topl (fun z_186 ez_186 => ?_)
            refine va_last hx hb hK hP hD hS 2 2 rfl rfl (v_in rfl (by omega) (by omega)) dX8_insert_80 (fun H locs hP hD hS => ?_)
            obtain ⟨f_187, hP, hD⟩ : ∃ f_187 : Nat → Int64, va_P (dC, dI) vwCl (List.flatten [[(h0, .inr (6, [.int ct_1, .ref (r0 0), .ref (r0 1), .ref (r0 2)])), (r0 0, .inl (cI, 180, .inl f_184)), (r0 1, .inl (cJ, 180, .inr (.inl f_187))), (r0 2, .inl (cJ, 180, .inr (.inl gf_36)))]]) H ∧ va_D A (List.flatten [[(h0, .inr (6, [.int ct_1, .ref (r0 0), .ref (r0 1), .ref (r0 2)])), (r0 0, .inl (cI, 180, .inl f_184)), (r0 1, .inl (cJ, 180, .inr (.inl f_187))), (r0 2, .inl (cJ, 180, .inr (.inl gf_36)))]]) := ⟨_, hP, hD⟩
            refine lv_aload_n hx hb dX8_insert_81 rfl (lv_at hl 1 rfl) ?_
            refine va_get (D := (dC, dI)) (ci := 6) (v := .ref (r0 2)) (C := RX8) (T := TX8) (N := 4) hx hb hts iw_X8_insert_X8 hown hK hP 0 rfl rfl 3 (by decide) (hts (.fieldLink RX8 23 "HungFloors$Ranking" "lower" "[J") (by decide +kernel)) (fun _ h9 => h9) rfl dX8_insert_82 ?_
            refine lv_iload hx hb dX8_insert_85 (lv_at hl 0 rfl) ?_
            refine lv_aload_n hx hb dX8_insert_87 rfl (lv_at hl 1 rfl) ?_
            refine va_get (D := (dC, dI)) (ci := 6) (v := .ref (r0 2)) (C := RX8) (T := TX8) (N := 4) hx hb hts iw_X8_insert_X8 hown hK hP 0 rfl rfl 3 (by decide) (hts (.fieldLink RX8 23 "HungFloors$Ranking" "lower" "[J") (by decide +kernel)) (fun _ h9 => h9) rfl dX8_insert_88 ?_
            refine lv_iload hx hb dX8_insert_91 (lv_at hl 0 rfl) ?_
            refine lv_iconst (v := 1) hx hb dX8_insert_93 (by decide) ?_
            refine lv_isub hx hb dX8_insert_94 ?_
            refine lv_topi (fun z_188 ez_188 => ?_)
            have hz_188 : z_188.toInt = g_8.toInt - 1 := by rw [ez_188]; exact t_sub rfl tI_1 (by omega) (by omega)
            refine va_lald hx hb hK hP 3 2 rfl rfl (v_in rfl (by omega) (by omega)) dX8_insert_95 ?_
            refine lv_topl (fun z_189 ez_189 => ?_)
            refine va_last hx hb hK hP hD hS 3 2 rfl rfl (v_in rfl (by omega) (by omega)) dX8_insert_96 (fun H locs hP hD hS => ?_)
            obtain ⟨f_190, hP, hD⟩ : ∃ f_190 : Nat → Int64, va_P (dC, dI) vwCl (List.flatten [[(h0, .inr (6, [.int ct_1, .ref (r0 0), .ref (r0 1), .ref (r0 2)])), (r0 0, .inl (cI, 180, .inl f_184)), (r0 1, .inl (cJ, 180, .inr (.inl f_187))), (r0 2, .inl (cJ, 180, .inr (.inl f_190)))]]) H ∧ va_D A (List.flatten [[(h0, .inr (6, [.int ct_1, .ref (r0 0), .ref (r0 1), .ref (r0 2)])), (r0 0, .inl (cI, 180, .inl f_184)), (r0 1, .inl (cJ, 180, .inr (.inl f_187))), (r0 2, .inl (cJ, 180, .inr (.inl f_190)))]]) := ⟨_, hP, hD⟩
            obtain ⟨z_191, ez_191⟩ : ∃ y : Int32, y = g_8 + (-1) := ⟨_, rfl⟩
            have hz_191 : z_191.toInt = g_8.toInt + (-1) := by rw [ez_191]; exact t_add rfl tI_m1 (by omega) (by omega)
            refine lv_iinc (v := z_191) (lv' := [(6, .int z_191), (0, .ref h0), (1, .int p1), (2, .long q2), (4, .long q3)]) hx hb dX8_insert_97 hl (k := 0) rfl (by rw [ez_191]; rfl) (by decide) rfl (fun ls hl => ?_)
            refine lv_goto (tgt := 17) hx hb dX8_insert_100 (by decide) ?_
            exact ih_166 z_191 f_184 f_187 f_190 (by omega) (by omega) (by omega) (by omega) _ _ hP hD hS ls (lv_sub hl [0, 1, 2, 3, 4] rfl)
    exact lp_165 _ ct_1 f_4 f_5 f_6 (by omega) (by omega) (by omega) (Nat.lt_succ_self _) _ _ hP hD hS ls (lv_sub hl [0, 1, 2, 3, 4] rfl)
  · have c_7 : 180 ≤ ct_1.toInt := f_nlt rfl tI_180 c_7
    rw [hQ0]
    exact W.vret hx hb hr (fun t ht hW => ⟨⟨(), rfl, trivial, ⟨_, ⟨ct_1, f_4, f_5, f_6, rfl, by omega, by omega⟩, by rw [ht]; exact hP, hD⟩⟩, hS.F ht⟩) hS.2.2 dX8_insert_10
theorem iw_X8_codeAt_X8 : ∀ w ∈ wsX80, w ∈ wsX8_codeAt := fun _ h => List.mem_cons_of_mem _ (List.mem_append_right _ h)
set_option maxHeartbeats 4000000 in
set_option maxRecDepth 100000 in
theorem c_X8_codeAt (l : Launch) (dC : Nat → ClassId) (dI : Nat → Nat → Nat) (ad : Nat → Nat) (tN : Nat) (fN : Nat → Int64) (cB cI cJ cZ : ClassId) (h0 : Nat) (p1 : Int32) (r0 : Nat → Nat) (w0 : va_W) (o0 : ok_rank ad cB cI cJ cZ h0 r0 w0) (sz : Nat) : Met l yX8_codeAt wsX8_codeAt ({ frames := 0, cells := 0, slots := 0, locals := 0 } : Room) (va_Pc [.ref h0, .int p1] (fun U => U.heap.size = sz ∧ va_P (dC, dI) vwCl (List.flatten [w0]) U.heap ∧ va_K (dC, dI) vwCl [(cB, .byte), (cI, .int), (cJ, .long), (cZ, .boolean)] U ∧ va_D (fun _ => True) (List.flatten [w0]) ∧ ex_Y ad tN fN (va_A (List.flatten [w0]) sz) U)) (va_Qi (fun (r : Int32) (_ : Unit) => True) (fun (_ : Unit) (t : State) => va_P (dC, dI) vwCl (List.flatten [w0]) t.heap ∧ va_D (va_A (List.flatten [w0]) sz) (List.flatten [w0])) (va_A (List.flatten [w0]) sz)) 0 0 (va_A (List.flatten [w0]) sz) := by
  refine Met.ofW (cc := cX8_codeAt) (maxL := 2) (ret := (some .int)) (by decide) rfl ?_
  intro p e s m args below meth c s₁ B hml hv
  obtain ⟨rfl, hsz, hP, hK, hD0, hE⟩ := hv
  have hx := B.exec
  have hb := B.bytes
  have hr := B.returns
  have hts := atoms_spec (ws := wsX8_codeAt) B.pre
  have hown : s.vm.findClass RX8 = some m.cls := findClass_of_methodNamed B.named
  have hlocks := B.notSynchronized
  subst hsz
  have hD := hD0.self (sz := s.heap.size)
  generalize hAe : va_A (List.flatten [w0]) s.heap.size = A at hD hE ⊢
  have hA : ∀ q : Nat, s.heap.size ≤ q → A q := fun q h => by rw [← hAe]; exact Or.inr h
  have hS : va_S A s.heap s.heap [] := va_S.rf
  have hl := lv_entry ([.ref h0, .int p1]) (n := 2) (Nat.le_of_ble_eq_true rfl)
  rw [lg_entry_eq]
  generalize (lg_sl ([.ref h0, .int p1]) ++ List.replicate (2 - (lg_sl ([.ref h0, .int p1])).length) Slot.unset).toArray = ls at hl ⊢
  have hl : lv_has ls 2 [(0, .ref h0), (1, .int p1)] := hl
  clear hAe
  refine W_name (fun Q0 hQ0 => ?_)
  refine lv_iload_n hx hb dX8_codeAt_0 rfl (lv_at hl 1 rfl) ?_
  refine lv_if_lt (tgt := 21) hx hb dX8_codeAt_1 (by decide) (fun c_1 => ?_) (fun c_1 => ?_)
  · have c_1 : p1.toInt < 0 := f_lt rfl tI_0 c_1
    refine lv_iconst (v := (-1)) hx hb dX8_codeAt_21 (by decide) ?_
    rw [hQ0]
    exact W.iret (v := (-1)) hx hb hr (fun t ht hW => ⟨⟨(-1), (), rfl, trivial, ⟨by rw [ht]; exact hP, hD⟩⟩, hS.F ht⟩) hS.2.2 dX8_codeAt_22
  · have c_1 : 0 ≤ p1.toInt := f_nlt rfl tI_0 c_1
    refine lv_iload_n hx hb dX8_codeAt_4 rfl (lv_at hl 1 rfl) ?_
    refine lv_aload_n hx hb dX8_codeAt_5 rfl (lv_at hl 0 rfl) ?_
    obtain ⟨ct_2, f_5, f_6, f_7, rfl, hl_3, hh_4⟩ := o0
    refine va_get (D := (dC, dI)) (ci := 6) (v := .int ct_2) (C := RX8) (T := TX8) (N := 4) hx hb hts iw_X8_codeAt_X8 hown hK hP 0 rfl rfl 0 (by decide) (hts (.fieldLink RX8 9 "HungFloors$Ranking" "count" "I") (by decide +kernel)) (fun _ h9 => h9) rfl dX8_codeAt_6 ?_
    refine lv_icmp_ge (tgt := 21) hx hb dX8_codeAt_9 (by decide) (fun c_8 => ?_) (fun c_8 => ?_)
    · have c_8 : ct_2.toInt ≤ p1.toInt := f_le rfl rfl c_8
      refine lv_iconst (v := (-1)) hx hb dX8_codeAt_21 (by decide) ?_
      rw [hQ0]
      exact W.iret (v := (-1)) hx hb hr (fun t ht hW => ⟨⟨(-1), (), rfl, trivial, ⟨by rw [ht]; exact hP, hD⟩⟩, hS.F ht⟩) hS.2.2 dX8_codeAt_22
    · have c_8 : p1.toInt < ct_2.toInt := f_nle rfl rfl c_8
      refine lv_aload_n hx hb dX8_codeAt_12 rfl (lv_at hl 0 rfl) ?_
      refine va_get (D := (dC, dI)) (ci := 6) (v := .ref (r0 0)) (C := RX8) (T := TX8) (N := 4) hx hb hts iw_X8_codeAt_X8 hown hK hP 0 rfl rfl 1 (by decide) (hts (.fieldLink RX8 15 "HungFloors$Ranking" "code" "[I") (by decide +kernel)) (fun _ h9 => h9) rfl dX8_codeAt_13 ?_
      refine lv_iload_n hx hb dX8_codeAt_16 rfl (lv_at hl 1 rfl) ?_
      refine va_iald hx hb hK hP 1 1 rfl rfl (v_in rfl (by omega) (by omega)) dX8_codeAt_17 ?_
      refine lv_topi (fun z_9 ez_9 => ?_)
      refine lv_goto (tgt := 22) hx hb dX8_codeAt_18 (by decide) ?_
      rw [hQ0]
      exact W.iret (v := z_9) hx hb hr (fun t ht hW => ⟨⟨z_9, (), rfl, trivial, ⟨by rw [ht]; exact hP, hD⟩⟩, hS.F ht⟩) hS.2.2 dX8_codeAt_22
