theorem iw_X3_countTwice_X3 : ∀ w ∈ wsX30, w ∈ wsX3_countTwice := fun _ h => List.mem_cons_of_mem _ (List.mem_append_left _ (List.mem_append_right _ h))
set_option maxHeartbeats 4000000 in
set_option maxRecDepth 100000 in
theorem c_X3_countTwice (l : Launch) (dC : Nat → ClassId) (dI : Nat → Nat → Nat) (ad : Nat → Nat) (tN : Nat) (fN : Nat → Int64) (cB cI cJ cZ : ClassId) (h0 : Nat) (h1 : Nat) (r0 : Nat → Nat) (pl0 : Nat) (w0 : va_W) (r1 : Nat → Nat) (fc1 : Int32) (dc1 : Int32) (rk1 : Nat → Int32) (w1 : va_W) (r2 : Nat → Nat) (w2 : va_W) (o0 : ok_frame ad cB cI cJ cZ h0 r0 pl0 w0) (o1 : ok_plan ad cB cI cJ cZ pl0 r1 fc1 dc1 rk1 w1) (o2 : ok_frame ad cB cI cJ cZ h1 r2 pl0 w2) (sz : Nat) : Met l yX3_countTwice wsX3_countTwice ({ frames := 3, cells := 0, slots := 0, locals := 73 } : Room) (va_Pc [.ref h0, .ref h1] (fun U => U.heap.size = sz ∧ va_P (dC, dI) vwCl (List.flatten [w0, w1, w2]) U.heap ∧ va_K (dC, dI) vwCl [(cB, .byte), (cI, .int), (cJ, .long), (cZ, .boolean)] U ∧ va_D (fun _ => True) (List.flatten [w0, w1, w2]) ∧ ex_Y ad tN fN (va_A (List.flatten [w0, w1, w2]) sz) U)) (va_Qi (fun (r : Int32) (_ : Unit) => 0 ≤ r.toInt ∧ r.toInt ≤ 70) (fun (_ : Unit) (t : State) => va_P (dC, dI) vwCl (List.flatten [w0, w1, w2]) t.heap ∧ va_D (va_A (List.flatten [w0, w1, w2]) sz) (List.flatten [w0, w1, w2])) (va_A (List.flatten [w0, w1, w2]) sz)) 0 0 (va_A (List.flatten [w0, w1, w2]) sz) := by
  refine Met.ofW (cc := cX3_countTwice) (maxL := 5) (ret := (some .int)) (by decide) rfl ?_
  intro p e s m args below meth c s₁ B hml hv
  obtain ⟨rfl, hsz, hP, hK, hD0, hE⟩ := hv
  have hx := B.exec
  have hb := B.bytes
  have hr := B.returns
  have hts := atoms_spec (ws := wsX3_countTwice) B.pre
  have hown : s.vm.findClass RX3 = some m.cls := findClass_of_methodNamed B.named
  have hlocks := B.notSynchronized
  subst hsz
  have hD := hD0.self (sz := s.heap.size)
  generalize hAe : va_A (List.flatten [w0, w1, w2]) s.heap.size = A at hD hE ⊢
  have hA : ∀ q : Nat, s.heap.size ≤ q → A q := fun q h => by rw [← hAe]; exact Or.inr h
  have hS : va_S A s.heap s.heap [] := va_S.rf
  have hl := lv_entry ([.ref h0, .ref h1]) (n := 5) (Nat.le_of_ble_eq_true rfl)
  rw [lg_entry_eq]
  generalize (lg_sl ([.ref h0, .ref h1]) ++ List.replicate (5 - (lg_sl ([.ref h0, .ref h1])).length) Slot.unset).toArray = ls at hl ⊢
  have hl : lv_has ls 5 [(0, .ref h0), (1, .ref h1)] := hl
  clear hAe
  refine W_name (fun Q0 hQ0 => ?_)
  refine lv_iconst (v := 0) hx hb dX3_countTwice_0 (by decide) ?_
  refine lv_istore_n (lv' := [(2, .int 0), (0, .ref h0), (1, .ref h1)]) hx hb dX3_countTwice_1 rfl hl (by decide) rfl (fun ls hl => ?_)
  refine lv_iconst (v := 0) hx hb dX3_countTwice_2 (by decide) ?_
  refine lv_istore_n (lv' := [(3, .int 0), (2, .int 0), (0, .ref h0), (1, .ref h1)]) hx hb dX3_countTwice_3 rfl hl (by decide) rfl (fun ls hl => ?_)
  obtain ⟨fr_90, dr_93, rc_96, f_99, f_101, gn_102, f_103, f_104, f_105, f_106, f_107, sc_108, jc_109, f_112, f_114, rfl, hl_91, hh_92, hl_94, hh_95, hl_97, hh_98, hr_100, hl_110, hh_111, hr_113, hr_115⟩ := o0
  obtain ⟨f_118, f_119, f_120, f_121, f_124, f_126, f_127, f_129, f_131, rfl, hl_116, hh_117, hl_122, hh_123, hr_125, hr_128, hr_130⟩ := o1
  obtain ⟨fr_132, dr_135, rc_138, f_141, f_143, gn_144, f_145, f_146, f_147, f_148, f_149, sc_150, jc_151, f_154, f_156, rfl, hl_133, hh_134, hl_136, hh_137, hl_139, hh_140, hr_142, hl_152, hh_153, hr_155, hr_157⟩ := o2
  have lp_431 : ∀ (n : Nat) (g_1 : Int32) (g_2 : Int32), 0 ≤ g_1.toInt → g_1.toInt ≤ 70 → 0 ≤ g_2.toInt → g_2.toInt ≤ 70 → g_1.toInt - jc_109.toInt ≤ 0 → g_2.toInt - g_1.toInt ≤ 0 → g_2.toInt - jc_109.toInt ≤ 0 → (70 - g_1.toInt).toNat < n → ∀ (H : Heap) (locs : List Loc), va_P (dC, dI) vwCl (List.flatten [[(h0, .inr (2, [.ref pl0, .int fr_90, .int dr_93, .int rc_96, .ref (r0 0), .ref (r0 1), .int gn_102, .ref (r0 2), .ref (r0 3), .ref (r0 4), .ref (r0 5), .ref (r0 6), .long sc_108, .int jc_109, .ref (r0 7), .ref (r0 8)])), (r0 0, .inl (cI, 10, .inl f_99)), (r0 1, .inl (cI, 10, .inl f_101)), (r0 2, .inl (cI, 6, .inl f_103)), (r0 3, .inl (cJ, 6, .inr (.inl f_104))), (r0 4, .inl (cJ, 6, .inr (.inl f_105))), (r0 5, .inl (cJ, 6, .inr (.inl f_106))), (r0 6, .inl (cJ, 10, .inr (.inl f_107))), (r0 7, .inl (cI, 70, .inl f_112)), (r0 8, .inl (cI, 70, .inl f_114))], [(pl0, .inr (5, [.int fc1, .ref (r1 0), .ref (r1 1), .ref (r1 2), .ref (r1 3), .int dc1, .ref (r1 4), .ref (r1 5), .ref (r1 6), .ref (r1 7), .ref (r1 8), .ref (r1 9)])), (r1 0, .inl (cJ, 6, .inr (.inl f_118))), (r1 1, .inl (cI, 6, .inl f_119)), (r1 2, .inl (cI, 6, .inl f_120)), (r1 3, .inl (cI, 6, .inl f_121)), (r1 4, .inl (cJ, 4, .inr (.inl f_124))), (r1 5, .inl (cI, 4, .inl rk1)), (r1 6, .inl (cJ, 40, .inr (.inl f_126))), (r1 7, .inl (cI, 40, .inl f_127)), (r1 8, .inl (cI, 40, .inl f_129)), (r1 9, .inl (cI, 40, .inl f_131))], [(h1, .inr (2, [.ref pl0, .int fr_132, .int dr_135, .int rc_138, .ref (r2 0), .ref (r2 1), .int gn_144, .ref (r2 2), .ref (r2 3), .ref (r2 4), .ref (r2 5), .ref (r2 6), .long sc_150, .int jc_151, .ref (r2 7), .ref (r2 8)])), (r2 0, .inl (cI, 10, .inl f_141)), (r2 1, .inl (cI, 10, .inl f_143)), (r2 2, .inl (cI, 6, .inl f_145)), (r2 3, .inl (cJ, 6, .inr (.inl f_146))), (r2 4, .inl (cJ, 6, .inr (.inl f_147))), (r2 5, .inl (cJ, 6, .inr (.inl f_148))), (r2 6, .inl (cJ, 10, .inr (.inl f_149))), (r2 7, .inl (cI, 70, .inl f_154)), (r2 8, .inl (cI, 70, .inl f_156))]]) H → va_D A (List.flatten [[(h0, .inr (2, [.ref pl0, .int fr_90, .int dr_93, .int rc_96, .ref (r0 0), .ref (r0 1), .int gn_102, .ref (r0 2), .ref (r0 3), .ref (r0 4), .ref (r0 5), .ref (r0 6), .long sc_108, .int jc_109, .ref (r0 7), .ref (r0 8)])), (r0 0, .inl (cI, 10, .inl f_99)), (r0 1, .inl (cI, 10, .inl f_101)), (r0 2, .inl (cI, 6, .inl f_103)), (r0 3, .inl (cJ, 6, .inr (.inl f_104))), (r0 4, .inl (cJ, 6, .inr (.inl f_105))), (r0 5, .inl (cJ, 6, .inr (.inl f_106))), (r0 6, .inl (cJ, 10, .inr (.inl f_107))), (r0 7, .inl (cI, 70, .inl f_112)), (r0 8, .inl (cI, 70, .inl f_114))], [(pl0, .inr (5, [.int fc1, .ref (r1 0), .ref (r1 1), .ref (r1 2), .ref (r1 3), .int dc1, .ref (r1 4), .ref (r1 5), .ref (r1 6), .ref (r1 7), .ref (r1 8), .ref (r1 9)])), (r1 0, .inl (cJ, 6, .inr (.inl f_118))), (r1 1, .inl (cI, 6, .inl f_119)), (r1 2, .inl (cI, 6, .inl f_120)), (r1 3, .inl (cI, 6, .inl f_121)), (r1 4, .inl (cJ, 4, .inr (.inl f_124))), (r1 5, .inl (cI, 4, .inl rk1)), (r1 6, .inl (cJ, 40, .inr (.inl f_126))), (r1 7, .inl (cI, 40, .inl f_127)), (r1 8, .inl (cI, 40, .inl f_129)), (r1 9, .inl (cI, 40, .inl f_131))], [(h1, .inr (2, [.ref pl0, .int fr_132, .int dr_135, .int rc_138, .ref (r2 0), .ref (r2 1), .int gn_144, .ref (r2 2), .ref (r2 3), .ref (r2 4), .ref (r2 5), .ref (r2 6), .long sc_150, .int jc_151, .ref (r2 7), .ref (r2 8)])), (r2 0, .inl (cI, 10, .inl f_141)), (r2 1, .inl (cI, 10, .inl f_143)), (r2 2, .inl (cI, 6, .inl f_145)), (r2 3, .inl (cJ, 6, .inr (.inl f_146))), (r2 4, .inl (cJ, 6, .inr (.inl f_147))), (r2 5, .inl (cJ, 6, .inr (.inl f_148))), (r2 6, .inl (cJ, 10, .inr (.inl f_149))), (r2 7, .inl (cI, 70, .inl f_154)), (r2 8, .inl (cI, 70, .inl f_156))]]) → va_S A s.heap H locs → ∀ (ls : Array Slot), lv_has ls 5 [(3, .int g_1), (2, .int g_2), (0, .ref h0), (1, .ref h1)] → W p l e (headSpec wsX3_countTwice ({ frames := 3, cells := 0, slots := 0, locals := 73 } : Room)).room s m ([.ref h0, .ref h1] : List Value).toArray below meth c H locs 0 0 Q0 (F0 m 4 ls []) := by
    intro n
    induction n with
    | zero => intro g_1 g_2 iv_424 iv_425 iv_426 iv_427 iv_428 iv_429 iv_430 hm; exact absurd hm (Nat.not_lt_zero _)
    | succ n ih_432 =>
      intro g_1 g_2 iv_424 iv_425 iv_426 iv_427 iv_428 iv_429 iv_430 hm H locs hP hD hS ls hl
      refine lv_iload_n hx hb dX3_countTwice_4 rfl (lv_at hl 0 rfl) ?_
      refine lv_aload_n hx hb dX3_countTwice_5 rfl (lv_at hl 2 rfl) ?_
      refine va_get (D := (dC, dI)) (ci := 2) (v := .int jc_109) (C := RX3) (T := TX3) (N := 16) hx hb hts iw_X3_countTwice_X3 hown hK hP 0 rfl rfl 13 (by decide) (hts (.fieldLink RX3 58 "HungFloors$Frame" "jointCount" "I") (by decide +kernel)) (fun _ h9 => h9) rfl dX3_countTwice_6 ?_
      refine lv_icmp_ge (tgt := 74) hx hb dX3_countTwice_9 (by decide) (fun c_433 => ?_) (fun c_433 => ?_)
      · have c_433 : jc_109.toInt ≤ g_1.toInt := f_le rfl rfl c_433
        refine lv_iload_n hx hb dX3_countTwice_74 rfl (lv_at hl 1 rfl) ?_
        rw [hQ0]
        exact W.iret (v := g_2) hx hb hr (fun t ht hW => ⟨⟨g_2, (), rfl, ⟨by omega, by omega⟩, ⟨by rw [ht]; exact hP, hD⟩⟩, hS.F ht⟩) hS.2.2 dX3_countTwice_75
      · have c_433 : g_1.toInt < jc_109.toInt := f_nle rfl rfl c_433
        refine lv_aload_n hx hb dX3_countTwice_12 rfl (lv_at hl 2 rfl) ?_
        refine lv_aload_n hx hb dX3_countTwice_13 rfl (lv_at hl 3 rfl) ?_
        refine lv_iload_n hx hb dX3_countTwice_14 rfl (lv_at hl 0 rfl) ?_
        have hpm : List.Perm ([[(h0, .inr (2, [.ref pl0, .int fr_90, .int dr_93, .int rc_96, .ref (r0 0), .ref (r0 1), .int gn_102, .ref (r0 2), .ref (r0 3), .ref (r0 4), .ref (r0 5), .ref (r0 6), .long sc_108, .int jc_109, .ref (r0 7), .ref (r0 8)])), (r0 0, .inl (cI, 10, .inl f_99)), (r0 1, .inl (cI, 10, .inl f_101)), (r0 2, .inl (cI, 6, .inl f_103)), (r0 3, .inl (cJ, 6, .inr (.inl f_104))), (r0 4, .inl (cJ, 6, .inr (.inl f_105))), (r0 5, .inl (cJ, 6, .inr (.inl f_106))), (r0 6, .inl (cJ, 10, .inr (.inl f_107))), (r0 7, .inl (cI, 70, .inl f_112)), (r0 8, .inl (cI, 70, .inl f_114))], [(pl0, .inr (5, [.int fc1, .ref (r1 0), .ref (r1 1), .ref (r1 2), .ref (r1 3), .int dc1, .ref (r1 4), .ref (r1 5), .ref (r1 6), .ref (r1 7), .ref (r1 8), .ref (r1 9)])), (r1 0, .inl (cJ, 6, .inr (.inl f_118))), (r1 1, .inl (cI, 6, .inl f_119)), (r1 2, .inl (cI, 6, .inl f_120)), (r1 3, .inl (cI, 6, .inl f_121)), (r1 4, .inl (cJ, 4, .inr (.inl f_124))), (r1 5, .inl (cI, 4, .inl rk1)), (r1 6, .inl (cJ, 40, .inr (.inl f_126))), (r1 7, .inl (cI, 40, .inl f_127)), (r1 8, .inl (cI, 40, .inl f_129)), (r1 9, .inl (cI, 40, .inl f_131))], [(h1, .inr (2, [.ref pl0, .int fr_132, .int dr_135, .int rc_138, .ref (r2 0), .ref (r2 1), .int gn_144, .ref (r2 2), .ref (r2 3), .ref (r2 4), .ref (r2 5), .ref (r2 6), .long sc_150, .int jc_151, .ref (r2 7), .ref (r2 8)])), (r2 0, .inl (cI, 10, .inl f_141)), (r2 1, .inl (cI, 10, .inl f_143)), (r2 2, .inl (cI, 6, .inl f_145)), (r2 3, .inl (cJ, 6, .inr (.inl f_146))), (r2 4, .inl (cJ, 6, .inr (.inl f_147))), (r2 5, .inl (cJ, 6, .inr (.inl f_148))), (r2 6, .inl (cJ, 10, .inr (.inl f_149))), (r2 7, .inl (cI, 70, .inl f_154)), (r2 8, .inl (cI, 70, .inl f_156))]] : List va_W) (([[(h0, .inr (2, [.ref pl0, .int fr_90, .int dr_93, .int rc_96, .ref (r0 0), .ref (r0 1), .int gn_102, .ref (r0 2), .ref (r0 3), .ref (r0 4), .ref (r0 5), .ref (r0 6), .long sc_108, .int jc_109, .ref (r0 7), .ref (r0 8)])), (r0 0, .inl (cI, 10, .inl f_99)), (r0 1, .inl (cI, 10, .inl f_101)), (r0 2, .inl (cI, 6, .inl f_103)), (r0 3, .inl (cJ, 6, .inr (.inl f_104))), (r0 4, .inl (cJ, 6, .inr (.inl f_105))), (r0 5, .inl (cJ, 6, .inr (.inl f_106))), (r0 6, .inl (cJ, 10, .inr (.inl f_107))), (r0 7, .inl (cI, 70, .inl f_112)), (r0 8, .inl (cI, 70, .inl f_114))], [(pl0, .inr (5, [.int fc1, .ref (r1 0), .ref (r1 1), .ref (r1 2), .ref (r1 3), .int dc1, .ref (r1 4), .ref (r1 5), .ref (r1 6), .ref (r1 7), .ref (r1 8), .ref (r1 9)])), (r1 0, .inl (cJ, 6, .inr (.inl f_118))), (r1 1, .inl (cI, 6, .inl f_119)), (r1 2, .inl (cI, 6, .inl f_120)), (r1 3, .inl (cI, 6, .inl f_121)), (r1 4, .inl (cJ, 4, .inr (.inl f_124))), (r1 5, .inl (cI, 4, .inl rk1)), (r1 6, .inl (cJ, 40, .inr (.inl f_126))), (r1 7, .inl (cI, 40, .inl f_127)), (r1 8, .inl (cI, 40, .inl f_129)), (r1 9, .inl (cI, 40, .inl f_131))], [(h1, .inr (2, [.ref pl0, .int fr_132, .int dr_135, .int rc_138, .ref (r2 0), .ref (r2 1), .int gn_144, .ref (r2 2), .ref (r2 3), .ref (r2 4), .ref (r2 5), .ref (r2 6), .long sc_150, .int jc_151, .ref (r2 7), .ref (r2 8)])), (r2 0, .inl (cI, 10, .inl f_141)), (r2 1, .inl (cI, 10, .inl f_143)), (r2 2, .inl (cI, 6, .inl f_145)), (r2 3, .inl (cJ, 6, .inr (.inl f_146))), (r2 4, .inl (cJ, 6, .inr (.inl f_147))), (r2 5, .inl (cJ, 6, .inr (.inl f_148))), (r2 6, .inl (cJ, 10, .inr (.inl f_149))), (r2 7, .inl (cI, 70, .inl f_154)), (r2 8, .inl (cI, 70, .inl f_156))]] : List va_W) ++ ([] : List va_W)) := pm_n 3 [0, 1, 2] (by decide) rfl rfl
        have hPc := bk_P hpm hP
        have hDc := bk_D hpm hD
        have hFc := bk_F hpm hD hS hA
        refine va_calli (va_runV (As := [.ref h1, .int g_1]) (rest := []) ⟨hx, hb, hml, hown, hts⟩ (c_X3_sameIn l dC dI ad tN fN cB cI cJ cZ h0 h1 g_1 r0 pl0 _ r1 fc1 dc1 rk1 _ r2 _ ⟨fr_90, dr_93, rc_96, f_99, f_101, gn_102, f_103, f_104, f_105, f_106, f_107, sc_108, jc_109, f_112, f_114, rfl, by omega, by omega, by omega, by omega, by omega, by omega, hr_100, by omega, by omega, hr_113, hr_115⟩ ⟨f_118, f_119, f_120, f_121, f_124, f_126, f_127, f_129, f_131, rfl, by omega, by omega, by omega, by omega, hr_125, hr_128, hr_130⟩ ⟨fr_132, dr_135, rc_138, f_141, f_143, gn_144, f_145, f_146, f_147, f_148, f_149, sc_150, jc_151, f_154, f_156, rfl, by omega, by omega, by omega, by omega, by omega, by omega, hr_142, by omega, by omega, hr_155, hr_157⟩ H.size (by omega) (by omega)) (cwV 2 hts gX3_countTwice_X3_sameIn rfl rfl rfl (by decide +kernel) ⟨(Nat.le_of_ble_eq_true rfl), (Nat.le_of_ble_eq_true rfl)⟩) ⟨fun a U g mk q => by obtain ⟨q0, q1, qP, qK, qD, qE⟩ := q; exact ⟨q0, q1, qP, va_K.moved (u := U) (U := U.calling g mk a) (Vm.Alike.refl U.vm) qK, qD, ey_blind qE⟩, va_recv hK hPc (ci := 2) (q0 := 0) rfl rfl, fun U hU hW => ⟨rfl, by rw [hU], by rw [hU]; exact hPc, va_K.moved hW.alike hK, hDc.weaken (fun _ _ _ _ => trivial), ey_call hE hS hFc hU hW⟩⟩ rfl rfl hl.1 rfl (lv_room (Nat.le_of_ble_eq_true rfl)) dX3_countTwice_15 ⟨(Nat.le_of_ble_eq_true rfl), (Nat.le_of_ble_eq_true rfl)⟩) hS (fun q _ h => hFc q h) hFc (fun r_434 u t H locs ht hvm hw hB hz1 hk1 hS => ?_)
        obtain ⟨hP1, hD1⟩ := hB
        rw [ht] at hP1
        obtain ⟨hP, hD⟩ := bk_join hpm hP hD hk1 hFc (Cs1 := [[(h0, .inr (2, [.ref pl0, .int fr_90, .int dr_93, .int rc_96, .ref (r0 0), .ref (r0 1), .int gn_102, .ref (r0 2), .ref (r0 3), .ref (r0 4), .ref (r0 5), .ref (r0 6), .long sc_108, .int jc_109, .ref (r0 7), .ref (r0 8)])), (r0 0, .inl (cI, 10, .inl f_99)), (r0 1, .inl (cI, 10, .inl f_101)), (r0 2, .inl (cI, 6, .inl f_103)), (r0 3, .inl (cJ, 6, .inr (.inl f_104))), (r0 4, .inl (cJ, 6, .inr (.inl f_105))), (r0 5, .inl (cJ, 6, .inr (.inl f_106))), (r0 6, .inl (cJ, 10, .inr (.inl f_107))), (r0 7, .inl (cI, 70, .inl f_112)), (r0 8, .inl (cI, 70, .inl f_114))], [(pl0, .inr (5, [.int fc1, .ref (r1 0), .ref (r1 1), .ref (r1 2), .ref (r1 3), .int dc1, .ref (r1 4), .ref (r1 5), .ref (r1 6), .ref (r1 7), .ref (r1 8), .ref (r1 9)])), (r1 0, .inl (cJ, 6, .inr (.inl f_118))), (r1 1, .inl (cI, 6, .inl f_119)), (r1 2, .inl (cI, 6, .inl f_120)), (r1 3, .inl (cI, 6, .inl f_121)), (r1 4, .inl (cJ, 4, .inr (.inl f_124))), (r1 5, .inl (cI, 4, .inl rk1)), (r1 6, .inl (cJ, 40, .inr (.inl f_126))), (r1 7, .inl (cI, 40, .inl f_127)), (r1 8, .inl (cI, 40, .inl f_129)), (r1 9, .inl (cI, 40, .inl f_131))], [(h1, .inr (2, [.ref pl0, .int fr_132, .int dr_135, .int rc_138, .ref (r2 0), .ref (r2 1), .int gn_144, .ref (r2 2), .ref (r2 3), .ref (r2 4), .ref (r2 5), .ref (r2 6), .long sc_150, .int jc_151, .ref (r2 7), .ref (r2 8)])), (r2 0, .inl (cI, 10, .inl f_141)), (r2 1, .inl (cI, 10, .inl f_143)), (r2 2, .inl (cI, 6, .inl f_145)), (r2 3, .inl (cJ, 6, .inr (.inl f_146))), (r2 4, .inl (cJ, 6, .inr (.inl f_147))), (r2 5, .inl (cJ, 6, .inr (.inl f_148))), (r2 6, .inl (cJ, 10, .inr (.inl f_149))), (r2 7, .inl (cI, 70, .inl f_154)), (r2 8, .inl (cI, 70, .inl f_156))]]) hP1 hD1
        have hpm2 : List.Perm (([[(h0, .inr (2, [.ref pl0, .int fr_90, .int dr_93, .int rc_96, .ref (r0 0), .ref (r0 1), .int gn_102, .ref (r0 2), .ref (r0 3), .ref (r0 4), .ref (r0 5), .ref (r0 6), .long sc_108, .int jc_109, .ref (r0 7), .ref (r0 8)])), (r0 0, .inl (cI, 10, .inl f_99)), (r0 1, .inl (cI, 10, .inl f_101)), (r0 2, .inl (cI, 6, .inl f_103)), (r0 3, .inl (cJ, 6, .inr (.inl f_104))), (r0 4, .inl (cJ, 6, .inr (.inl f_105))), (r0 5, .inl (cJ, 6, .inr (.inl f_106))), (r0 6, .inl (cJ, 10, .inr (.inl f_107))), (r0 7, .inl (cI, 70, .inl f_112)), (r0 8, .inl (cI, 70, .inl f_114))], [(pl0, .inr (5, [.int fc1, .ref (r1 0), .ref (r1 1), .ref (r1 2), .ref (r1 3), .int dc1, .ref (r1 4), .ref (r1 5), .ref (r1 6), .ref (r1 7), .ref (r1 8), .ref (r1 9)])), (r1 0, .inl (cJ, 6, .inr (.inl f_118))), (r1 1, .inl (cI, 6, .inl f_119)), (r1 2, .inl (cI, 6, .inl f_120)), (r1 3, .inl (cI, 6, .inl f_121)), (r1 4, .inl (cJ, 4, .inr (.inl f_124))), (r1 5, .inl (cI, 4, .inl rk1)), (r1 6, .inl (cJ, 40, .inr (.inl f_126))), (r1 7, .inl (cI, 40, .inl f_127)), (r1 8, .inl (cI, 40, .inl f_129)), (r1 9, .inl (cI, 40, .inl f_131))], [(h1, .inr (2, [.ref pl0, .int fr_132, .int dr_135, .int rc_138, .ref (r2 0), .ref (r2 1), .int gn_144, .ref (r2 2), .ref (r2 3), .ref (r2 4), .ref (r2 5), .ref (r2 6), .long sc_150, .int jc_151, .ref (r2 7), .ref (r2 8)])), (r2 0, .inl (cI, 10, .inl f_141)), (r2 1, .inl (cI, 10, .inl f_143)), (r2 2, .inl (cI, 6, .inl f_145)), (r2 3, .inl (cJ, 6, .inr (.inl f_146))), (r2 4, .inl (cJ, 6, .inr (.inl f_147))), (r2 5, .inl (cJ, 6, .inr (.inl f_148))), (r2 6, .inl (cJ, 10, .inr (.inl f_149))), (r2 7, .inl (cI, 70, .inl f_154)), (r2 8, .inl (cI, 70, .inl f_156))]] : List va_W) ++ ([] : List va_W)) ([[(h0, .inr (2, [.ref pl0, .int fr_90, .int dr_93, .int rc_96, .ref (r0 0), .ref (r0 1), .int gn_102, .ref (r0 2), .ref (r0 3), .ref (r0 4), .ref (r0 5), .ref (r0 6), .long sc_108, .int jc_109, .ref (r0 7), .ref (r0 8)])), (r0 0, .inl (cI, 10, .inl f_99)), (r0 1, .inl (cI, 10, .inl f_101)), (r0 2, .inl (cI, 6, .inl f_103)), (r0 3, .inl (cJ, 6, .inr (.inl f_104))), (r0 4, .inl (cJ, 6, .inr (.inl f_105))), (r0 5, .inl (cJ, 6, .inr (.inl f_106))), (r0 6, .inl (cJ, 10, .inr (.inl f_107))), (r0 7, .inl (cI, 70, .inl f_112)), (r0 8, .inl (cI, 70, .inl f_114))], [(pl0, .inr (5, [.int fc1, .ref (r1 0), .ref (r1 1), .ref (r1 2), .ref (r1 3), .int dc1, .ref (r1 4), .ref (r1 5), .ref (r1 6), .ref (r1 7), .ref (r1 8), .ref (r1 9)])), (r1 0, .inl (cJ, 6, .inr (.inl f_118))), (r1 1, .inl (cI, 6, .inl f_119)), (r1 2, .inl (cI, 6, .inl f_120)), (r1 3, .inl (cI, 6, .inl f_121)), (r1 4, .inl (cJ, 4, .inr (.inl f_124))), (r1 5, .inl (cI, 4, .inl rk1)), (r1 6, .inl (cJ, 40, .inr (.inl f_126))), (r1 7, .inl (cI, 40, .inl f_127)), (r1 8, .inl (cI, 40, .inl f_129)), (r1 9, .inl (cI, 40, .inl f_131))], [(h1, .inr (2, [.ref pl0, .int fr_132, .int dr_135, .int rc_138, .ref (r2 0), .ref (r2 1), .int gn_144, .ref (r2 2), .ref (r2 3), .ref (r2 4), .ref (r2 5), .ref (r2 6), .long sc_150, .int jc_151, .ref (r2 7), .ref (r2 8)])), (r2 0, .inl (cI, 10, .inl f_141)), (r2 1, .inl (cI, 10, .inl f_143)), (r2 2, .inl (cI, 6, .inl f_145)), (r2 3, .inl (cJ, 6, .inr (.inl f_146))), (r2 4, .inl (cJ, 6, .inr (.inl f_147))), (r2 5, .inl (cJ, 6, .inr (.inl f_148))), (r2 6, .inl (cJ, 10, .inr (.inl f_149))), (r2 7, .inl (cI, 70, .inl f_154)), (r2 8, .inl (cI, 70, .inl f_156))]] : List va_W) := pm_n 3 [0, 1, 2] (by decide) rfl rfl
        have hP := bk_reP hpm2 hP
        have hD := bk_reD hpm2 hD
        have hP : va_P (dC, dI) vwCl (List.flatten [[(h0, .inr (2, [.ref pl0, .int fr_90, .int dr_93, .int rc_96, .ref (r0 0), .ref (r0 1), .int gn_102, .ref (r0 2), .ref (r0 3), .ref (r0 4), .ref (r0 5), .ref (r0 6), .long sc_108, .int jc_109, .ref (r0 7), .ref (r0 8)])), (r0 0, .inl (cI, 10, .inl f_99)), (r0 1, .inl (cI, 10, .inl f_101)), (r0 2, .inl (cI, 6, .inl f_103)), (r0 3, .inl (cJ, 6, .inr (.inl f_104))), (r0 4, .inl (cJ, 6, .inr (.inl f_105))), (r0 5, .inl (cJ, 6, .inr (.inl f_106))), (r0 6, .inl (cJ, 10, .inr (.inl f_107))), (r0 7, .inl (cI, 70, .inl f_112)), (r0 8, .inl (cI, 70, .inl f_114))], [(pl0, .inr (5, [.int fc1, .ref (r1 0), .ref (r1 1), .ref (r1 2), .ref (r1 3), .int dc1, .ref (r1 4), .ref (r1 5), .ref (r1 6), .ref (r1 7), .ref (r1 8), .ref (r1 9)])), (r1 0, .inl (cJ, 6, .inr (.inl f_118))), (r1 1, .inl (cI, 6, .inl f_119)), (r1 2, .inl (cI, 6, .inl f_120)), (r1 3, .inl (cI, 6, .inl f_121)), (r1 4, .inl (cJ, 4, .inr (.inl f_124))), (r1 5, .inl (cI, 4, .inl rk1)), (r1 6, .inl (cJ, 40, .inr (.inl f_126))), (r1 7, .inl (cI, 40, .inl f_127)), (r1 8, .inl (cI, 40, .inl f_129)), (r1 9, .inl (cI, 40, .inl f_131))], [(h1, .inr (2, [.ref pl0, .int fr_132, .int dr_135, .int rc_138, .ref (r2 0), .ref (r2 1), .int gn_144, .ref (r2 2), .ref (r2 3), .ref (r2 4), .ref (r2 5), .ref (r2 6), .long sc_150, .int jc_151, .ref (r2 7), .ref (r2 8)])), (r2 0, .inl (cI, 10, .inl f_141)), (r2 1, .inl (cI, 10, .inl f_143)), (r2 2, .inl (cI, 6, .inl f_145)), (r2 3, .inl (cJ, 6, .inr (.inl f_146))), (r2 4, .inl (cJ, 6, .inr (.inl f_147))), (r2 5, .inl (cJ, 6, .inr (.inl f_148))), (r2 6, .inl (cJ, 10, .inr (.inl f_149))), (r2 7, .inl (cI, 70, .inl f_154)), (r2 8, .inl (cI, 70, .inl f_156))]]) H := hP
        have hD : va_D A (List.flatten [[(h0, .inr (2, [.ref pl0, .int fr_90, .int dr_93, .int rc_96, .ref (r0 0), .ref (r0 1), .int gn_102, .ref (r0 2), .ref (r0 3), .ref (r0 4), .ref (r0 5), .ref (r0 6), .long sc_108, .int jc_109, .ref (r0 7), .ref (r0 8)])), (r0 0, .inl (cI, 10, .inl f_99)), (r0 1, .inl (cI, 10, .inl f_101)), (r0 2, .inl (cI, 6, .inl f_103)), (r0 3, .inl (cJ, 6, .inr (.inl f_104))), (r0 4, .inl (cJ, 6, .inr (.inl f_105))), (r0 5, .inl (cJ, 6, .inr (.inl f_106))), (r0 6, .inl (cJ, 10, .inr (.inl f_107))), (r0 7, .inl (cI, 70, .inl f_112)), (r0 8, .inl (cI, 70, .inl f_114))], [(pl0, .inr (5, [.int fc1, .ref (r1 0), .ref (r1 1), .ref (r1 2), .ref (r1 3), .int dc1, .ref (r1 4), .ref (r1 5), .ref (r1 6), .ref (r1 7), .ref (r1 8), .ref (r1 9)])), (r1 0, .inl (cJ, 6, .inr (.inl f_118))), (r1 1, .inl (cI, 6, .inl f_119)), (r1 2, .inl (cI, 6, .inl f_120)), (r1 3, .inl (cI, 6, .inl f_121)), (r1 4, .inl (cJ, 4, .inr (.inl f_124))), (r1 5, .inl (cI, 4, .inl rk1)), (r1 6, .inl (cJ, 40, .inr (.inl f_126))), (r1 7, .inl (cI, 40, .inl f_127)), (r1 8, .inl (cI, 40, .inl f_129)), (r1 9, .inl (cI, 40, .inl f_131))], [(h1, .inr (2, [.ref pl0, .int fr_132, .int dr_135, .int rc_138, .ref (r2 0), .ref (r2 1), .int gn_144, .ref (r2 2), .ref (r2 3), .ref (r2 4), .ref (r2 5), .ref (r2 6), .long sc_150, .int jc_151, .ref (r2 7), .ref (r2 8)])), (r2 0, .inl (cI, 10, .inl f_141)), (r2 1, .inl (cI, 10, .inl f_143)), (r2 2, .inl (cI, 6, .inl f_145)), (r2 3, .inl (cJ, 6, .inr (.inl f_146))), (r2 4, .inl (cJ, 6, .inr (.inl f_147))), (r2 5, .inl (cJ, 6, .inr (.inl f_148))), (r2 6, .inl (cJ, 10, .inr (.inl f_149))), (r2 7, .inl (cI, 70, .inl f_154)), (r2 8, .inl (cI, 70, .inl f_156))]]) := hD
        obtain ⟨hlr_434, hhr_434⟩ := hw
        refine lv_istore (lv' := [(4, .int r_434), (3, .int g_1), (2, .int g_2), (0, .ref h0), (1, .ref h1)]) hx hb dX3_countTwice_18 hl (by decide) rfl (fun ls hl => ?_)
        refine lv_iload hx hb dX3_countTwice_20 (lv_at hl 0 rfl) ?_
        refine lv_if_lt (tgt := 68) hx hb dX3_countTwice_22 (by decide) (fun c_435 => ?_) (fun c_435 => ?_)
        · have c_435 : r_434.toInt < 0 := f_lt rfl tI_0 c_435
          obtain ⟨z_436, ez_436⟩ : ∃ y : Int32, y = g_1 + 1 := ⟨_, rfl⟩
          have hz_436 : z_436.toInt = g_1.toInt + 1 := by rw [ez_436]; exact t_add rfl tI_1 (by omega) (by omega)
          refine lv_iinc (v := z_436) (lv' := [(3, .int z_436), (4, .int r_434), (2, .int g_2), (0, .ref h0), (1, .ref h1)]) hx hb dX3_countTwice_68 hl (k := 1) rfl (by rw [ez_436]; rfl) (by decide) rfl (fun ls hl => ?_)
          refine lv_goto (tgt := 4) hx hb dX3_countTwice_71 (by decide) ?_
          exact ih_432 z_436 g_2 (by omega) (by omega) (by omega) (by omega) (by omega) (by omega) (by omega) (by omega) _ _ hP hD hS ls (lv_sub hl [0, 2, 3, 4] rfl)
        · have c_435 : 0 ≤ r_434.toInt := f_nlt rfl tI_0 c_435
          refine lv_aload_n hx hb dX3_countTwice_25 rfl (lv_at hl 4 rfl) ?_
          refine lv_iload hx hb dX3_countTwice_26 (lv_at hl 0 rfl) ?_
          have hpm : List.Perm ([[(h0, .inr (2, [.ref pl0, .int fr_90, .int dr_93, .int rc_96, .ref (r0 0), .ref (r0 1), .int gn_102, .ref (r0 2), .ref (r0 3), .ref (r0 4), .ref (r0 5), .ref (r0 6), .long sc_108, .int jc_109, .ref (r0 7), .ref (r0 8)])), (r0 0, .inl (cI, 10, .inl f_99)), (r0 1, .inl (cI, 10, .inl f_101)), (r0 2, .inl (cI, 6, .inl f_103)), (r0 3, .inl (cJ, 6, .inr (.inl f_104))), (r0 4, .inl (cJ, 6, .inr (.inl f_105))), (r0 5, .inl (cJ, 6, .inr (.inl f_106))), (r0 6, .inl (cJ, 10, .inr (.inl f_107))), (r0 7, .inl (cI, 70, .inl f_112)), (r0 8, .inl (cI, 70, .inl f_114))], [(pl0, .inr (5, [.int fc1, .ref (r1 0), .ref (r1 1), .ref (r1 2), .ref (r1 3), .int dc1, .ref (r1 4), .ref (r1 5), .ref (r1 6), .ref (r1 7), .ref (r1 8), .ref (r1 9)])), (r1 0, .inl (cJ, 6, .inr (.inl f_118))), (r1 1, .inl (cI, 6, .inl f_119)), (r1 2, .inl (cI, 6, .inl f_120)), (r1 3, .inl (cI, 6, .inl f_121)), (r1 4, .inl (cJ, 4, .inr (.inl f_124))), (r1 5, .inl (cI, 4, .inl rk1)), (r1 6, .inl (cJ, 40, .inr (.inl f_126))), (r1 7, .inl (cI, 40, .inl f_127)), (r1 8, .inl (cI, 40, .inl f_129)), (r1 9, .inl (cI, 40, .inl f_131))], [(h1, .inr (2, [.ref pl0, .int fr_132, .int dr_135, .int rc_138, .ref (r2 0), .ref (r2 1), .int gn_144, .ref (r2 2), .ref (r2 3), .ref (r2 4), .ref (r2 5), .ref (r2 6), .long sc_150, .int jc_151, .ref (r2 7), .ref (r2 8)])), (r2 0, .inl (cI, 10, .inl f_141)), (r2 1, .inl (cI, 10, .inl f_143)), (r2 2, .inl (cI, 6, .inl f_145)), (r2 3, .inl (cJ, 6, .inr (.inl f_146))), (r2 4, .inl (cJ, 6, .inr (.inl f_147))), (r2 5, .inl (cJ, 6, .inr (.inl f_148))), (r2 6, .inl (cJ, 10, .inr (.inl f_149))), (r2 7, .inl (cI, 70, .inl f_154)), (r2 8, .inl (cI, 70, .inl f_156))]] : List va_W) (([[(h1, .inr (2, [.ref pl0, .int fr_132, .int dr_135, .int rc_138, .ref (r2 0), .ref (r2 1), .int gn_144, .ref (r2 2), .ref (r2 3), .ref (r2 4), .ref (r2 5), .ref (r2 6), .long sc_150, .int jc_151, .ref (r2 7), .ref (r2 8)])), (r2 0, .inl (cI, 10, .inl f_141)), (r2 1, .inl (cI, 10, .inl f_143)), (r2 2, .inl (cI, 6, .inl f_145)), (r2 3, .inl (cJ, 6, .inr (.inl f_146))), (r2 4, .inl (cJ, 6, .inr (.inl f_147))), (r2 5, .inl (cJ, 6, .inr (.inl f_148))), (r2 6, .inl (cJ, 10, .inr (.inl f_149))), (r2 7, .inl (cI, 70, .inl f_154)), (r2 8, .inl (cI, 70, .inl f_156))]] : List va_W) ++ ([[(h0, .inr (2, [.ref pl0, .int fr_90, .int dr_93, .int rc_96, .ref (r0 0), .ref (r0 1), .int gn_102, .ref (r0 2), .ref (r0 3), .ref (r0 4), .ref (r0 5), .ref (r0 6), .long sc_108, .int jc_109, .ref (r0 7), .ref (r0 8)])), (r0 0, .inl (cI, 10, .inl f_99)), (r0 1, .inl (cI, 10, .inl f_101)), (r0 2, .inl (cI, 6, .inl f_103)), (r0 3, .inl (cJ, 6, .inr (.inl f_104))), (r0 4, .inl (cJ, 6, .inr (.inl f_105))), (r0 5, .inl (cJ, 6, .inr (.inl f_106))), (r0 6, .inl (cJ, 10, .inr (.inl f_107))), (r0 7, .inl (cI, 70, .inl f_112)), (r0 8, .inl (cI, 70, .inl f_114))], [(pl0, .inr (5, [.int fc1, .ref (r1 0), .ref (r1 1), .ref (r1 2), .ref (r1 3), .int dc1, .ref (r1 4), .ref (r1 5), .ref (r1 6), .ref (r1 7), .ref (r1 8), .ref (r1 9)])), (r1 0, .inl (cJ, 6, .inr (.inl f_118))), (r1 1, .inl (cI, 6, .inl f_119)), (r1 2, .inl (cI, 6, .inl f_120)), (r1 3, .inl (cI, 6, .inl f_121)), (r1 4, .inl (cJ, 4, .inr (.inl f_124))), (r1 5, .inl (cI, 4, .inl rk1)), (r1 6, .inl (cJ, 40, .inr (.inl f_126))), (r1 7, .inl (cI, 40, .inl f_127)), (r1 8, .inl (cI, 40, .inl f_129)), (r1 9, .inl (cI, 40, .inl f_131))]] : List va_W)) := pm_n 3 [2, 0, 1] (by decide) rfl rfl
          have hPc := bk_P hpm hP
          have hDc := bk_D hpm hD
          have hFc := bk_F hpm hD hS hA
          refine va_calll (va_runV (As := [.int r_434]) (rest := []) ⟨hx, hb, hml, hown, hts⟩ (c_X3_bornBy l dC dI ad tN fN cB cI cJ cZ h1 r_434 r2 pl0 _ ⟨fr_132, dr_135, rc_138, f_141, f_143, gn_144, f_145, f_146, f_147, f_148, f_149, sc_150, jc_151, f_154, f_156, rfl, by omega, by omega, by omega, by omega, by omega, by omega, hr_142, by omega, by omega, hr_155, hr_157⟩ H.size (by omega) (by omega)) (cwV 1 hts gX3_countTwice_X3_bornBy rfl rfl rfl (by decide +kernel) ⟨(Nat.le_of_ble_eq_true rfl), (Nat.le_of_ble_eq_true rfl)⟩) ⟨fun a U g mk q => by obtain ⟨q0, q1, qP, qK, qD, qE⟩ := q; exact ⟨q0, q1, qP, va_K.moved (u := U) (U := U.calling g mk a) (Vm.Alike.refl U.vm) qK, qD, ey_blind qE⟩, va_recv hK hPc (ci := 2) (q0 := 0) rfl rfl, fun U hU hW => ⟨rfl, by rw [hU], by rw [hU]; exact hPc, va_K.moved hW.alike hK, hDc.weaken (fun _ _ _ _ => trivial), ey_call hE hS hFc hU hW⟩⟩ rfl rfl hl.1 rfl (lv_room (Nat.le_of_ble_eq_true rfl)) dX3_countTwice_28 ⟨(Nat.le_of_ble_eq_true rfl), (Nat.le_of_ble_eq_true rfl)⟩) hS (fun q _ h => hFc q h) hFc (fun r_437 u t H locs ht hvm hw hB hz1 hk1 hS => ?_)
          obtain ⟨hP1, hD1⟩ := hB
          rw [ht] at hP1
          obtain ⟨hP, hD⟩ := bk_join hpm hP hD hk1 hFc (Cs1 := [[(h1, .inr (2, [.ref pl0, .int fr_132, .int dr_135, .int rc_138, .ref (r2 0), .ref (r2 1), .int gn_144, .ref (r2 2), .ref (r2 3), .ref (r2 4), .ref (r2 5), .ref (r2 6), .long sc_150, .int jc_151, .ref (r2 7), .ref (r2 8)])), (r2 0, .inl (cI, 10, .inl f_141)), (r2 1, .inl (cI, 10, .inl f_143)), (r2 2, .inl (cI, 6, .inl f_145)), (r2 3, .inl (cJ, 6, .inr (.inl f_146))), (r2 4, .inl (cJ, 6, .inr (.inl f_147))), (r2 5, .inl (cJ, 6, .inr (.inl f_148))), (r2 6, .inl (cJ, 10, .inr (.inl f_149))), (r2 7, .inl (cI, 70, .inl f_154)), (r2 8, .inl (cI, 70, .inl f_156))]]) hP1 hD1
          have hpm2 : List.Perm (([[(h1, .inr (2, [.ref pl0, .int fr_132, .int dr_135, .int rc_138, .ref (r2 0), .ref (r2 1), .int gn_144, .ref (r2 2), .ref (r2 3), .ref (r2 4), .ref (r2 5), .ref (r2 6), .long sc_150, .int jc_151, .ref (r2 7), .ref (r2 8)])), (r2 0, .inl (cI, 10, .inl f_141)), (r2 1, .inl (cI, 10, .inl f_143)), (r2 2, .inl (cI, 6, .inl f_145)), (r2 3, .inl (cJ, 6, .inr (.inl f_146))), (r2 4, .inl (cJ, 6, .inr (.inl f_147))), (r2 5, .inl (cJ, 6, .inr (.inl f_148))), (r2 6, .inl (cJ, 10, .inr (.inl f_149))), (r2 7, .inl (cI, 70, .inl f_154)), (r2 8, .inl (cI, 70, .inl f_156))]] : List va_W) ++ ([[(h0, .inr (2, [.ref pl0, .int fr_90, .int dr_93, .int rc_96, .ref (r0 0), .ref (r0 1), .int gn_102, .ref (r0 2), .ref (r0 3), .ref (r0 4), .ref (r0 5), .ref (r0 6), .long sc_108, .int jc_109, .ref (r0 7), .ref (r0 8)])), (r0 0, .inl (cI, 10, .inl f_99)), (r0 1, .inl (cI, 10, .inl f_101)), (r0 2, .inl (cI, 6, .inl f_103)), (r0 3, .inl (cJ, 6, .inr (.inl f_104))), (r0 4, .inl (cJ, 6, .inr (.inl f_105))), (r0 5, .inl (cJ, 6, .inr (.inl f_106))), (r0 6, .inl (cJ, 10, .inr (.inl f_107))), (r0 7, .inl (cI, 70, .inl f_112)), (r0 8, .inl (cI, 70, .inl f_114))], [(pl0, .inr (5, [.int fc1, .ref (r1 0), .ref (r1 1), .ref (r1 2), .ref (r1 3), .int dc1, .ref (r1 4), .ref (r1 5), .ref (r1 6), .ref (r1 7), .ref (r1 8), .ref (r1 9)])), (r1 0, .inl (cJ, 6, .inr (.inl f_118))), (r1 1, .inl (cI, 6, .inl f_119)), (r1 2, .inl (cI, 6, .inl f_120)), (r1 3, .inl (cI, 6, .inl f_121)), (r1 4, .inl (cJ, 4, .inr (.inl f_124))), (r1 5, .inl (cI, 4, .inl rk1)), (r1 6, .inl (cJ, 40, .inr (.inl f_126))), (r1 7, .inl (cI, 40, .inl f_127)), (r1 8, .inl (cI, 40, .inl f_129)), (r1 9, .inl (cI, 40, .inl f_131))]] : List va_W)) ([[(h0, .inr (2, [.ref pl0, .int fr_90, .int dr_93, .int rc_96, .ref (r0 0), .ref (r0 1), .int gn_102, .ref (r0 2), .ref (r0 3), .ref (r0 4), .ref (r0 5), .ref (r0 6), .long sc_108, .int jc_109, .ref (r0 7), .ref (r0 8)])), (r0 0, .inl (cI, 10, .inl f_99)), (r0 1, .inl (cI, 10, .inl f_101)), (r0 2, .inl (cI, 6, .inl f_103)), (r0 3, .inl (cJ, 6, .inr (.inl f_104))), (r0 4, .inl (cJ, 6, .inr (.inl f_105))), (r0 5, .inl (cJ, 6, .inr (.inl f_106))), (r0 6, .inl (cJ, 10, .inr (.inl f_107))), (r0 7, .inl (cI, 70, .inl f_112)), (r0 8, .inl (cI, 70, .inl f_114))], [(pl0, .inr (5, [.int fc1, .ref (r1 0), .ref (r1 1), .ref (r1 2), .ref (r1 3), .int dc1, .ref (r1 4), .ref (r1 5), .ref (r1 6), .ref (r1 7), .ref (r1 8), .ref (r1 9)])), (r1 0, .inl (cJ, 6, .inr (.inl f_118))), (r1 1, .inl (cI, 6, .inl f_119)), (r1 2, .inl (cI, 6, .inl f_120)), (r1 3, .inl (cI, 6, .inl f_121)), (r1 4, .inl (cJ, 4, .inr (.inl f_124))), (r1 5, .inl (cI, 4, .inl rk1)), (r1 6, .inl (cJ, 40, .inr (.inl f_126))), (r1 7, .inl (cI, 40, .inl f_127)), (r1 8, .inl (cI, 40, .inl f_129)), (r1 9, .inl (cI, 40, .inl f_131))], [(h1, .inr (2, [.ref pl0, .int fr_132, .int dr_135, .int rc_138, .ref (r2 0), .ref (r2 1), .int gn_144, .ref (r2 2), .ref (r2 3), .ref (r2 4), .ref (r2 5), .ref (r2 6), .long sc_150, .int jc_151, .ref (r2 7), .ref (r2 8)])), (r2 0, .inl (cI, 10, .inl f_141)), (r2 1, .inl (cI, 10, .inl f_143)), (r2 2, .inl (cI, 6, .inl f_145)), (r2 3, .inl (cJ, 6, .inr (.inl f_146))), (r2 4, .inl (cJ, 6, .inr (.inl f_147))), (r2 5, .inl (cJ, 6, .inr (.inl f_148))), (r2 6, .inl (cJ, 10, .inr (.inl f_149))), (r2 7, .inl (cI, 70, .inl f_154)), (r2 8, .inl (cI, 70, .inl f_156))]] : List va_W) := pm_n 3 [1, 2, 0] (by decide) rfl rfl
          have hP := bk_reP hpm2 hP
          have hD := bk_reD hpm2 hD
          have hP : va_P (dC, dI) vwCl (List.flatten [[(h0, .inr (2, [.ref pl0, .int fr_90, .int dr_93, .int rc_96, .ref (r0 0), .ref (r0 1), .int gn_102, .ref (r0 2), .ref (r0 3), .ref (r0 4), .ref (r0 5), .ref (r0 6), .long sc_108, .int jc_109, .ref (r0 7), .ref (r0 8)])), (r0 0, .inl (cI, 10, .inl f_99)), (r0 1, .inl (cI, 10, .inl f_101)), (r0 2, .inl (cI, 6, .inl f_103)), (r0 3, .inl (cJ, 6, .inr (.inl f_104))), (r0 4, .inl (cJ, 6, .inr (.inl f_105))), (r0 5, .inl (cJ, 6, .inr (.inl f_106))), (r0 6, .inl (cJ, 10, .inr (.inl f_107))), (r0 7, .inl (cI, 70, .inl f_112)), (r0 8, .inl (cI, 70, .inl f_114))], [(pl0, .inr (5, [.int fc1, .ref (r1 0), .ref (r1 1), .ref (r1 2), .ref (r1 3), .int dc1, .ref (r1 4), .ref (r1 5), .ref (r1 6), .ref (r1 7), .ref (r1 8), .ref (r1 9)])), (r1 0, .inl (cJ, 6, .inr (.inl f_118))), (r1 1, .inl (cI, 6, .inl f_119)), (r1 2, .inl (cI, 6, .inl f_120)), (r1 3, .inl (cI, 6, .inl f_121)), (r1 4, .inl (cJ, 4, .inr (.inl f_124))), (r1 5, .inl (cI, 4, .inl rk1)), (r1 6, .inl (cJ, 40, .inr (.inl f_126))), (r1 7, .inl (cI, 40, .inl f_127)), (r1 8, .inl (cI, 40, .inl f_129)), (r1 9, .inl (cI, 40, .inl f_131))], [(h1, .inr (2, [.ref pl0, .int fr_132, .int dr_135, .int rc_138, .ref (r2 0), .ref (r2 1), .int gn_144, .ref (r2 2), .ref (r2 3), .ref (r2 4), .ref (r2 5), .ref (r2 6), .long sc_150, .int jc_151, .ref (r2 7), .ref (r2 8)])), (r2 0, .inl (cI, 10, .inl f_141)), (r2 1, .inl (cI, 10, .inl f_143)), (r2 2, .inl (cI, 6, .inl f_145)), (r2 3, .inl (cJ, 6, .inr (.inl f_146))), (r2 4, .inl (cJ, 6, .inr (.inl f_147))), (r2 5, .inl (cJ, 6, .inr (.inl f_148))), (r2 6, .inl (cJ, 10, .inr (.inl f_149))), (r2 7, .inl (cI, 70, .inl f_154)), (r2 8, .inl (cI, 70, .inl f_156))]]) H := hP
          have hD : va_D A (List.flatten [[(h0, .inr (2, [.ref pl0, .int fr_90, .int dr_93, .int rc_96, .ref (r0 0), .ref (r0 1), .int gn_102, .ref (r0 2), .ref (r0 3), .ref (r0 4), .ref (r0 5), .ref (r0 6), .long sc_108, .int jc_109, .ref (r0 7), .ref (r0 8)])), (r0 0, .inl (cI, 10, .inl f_99)), (r0 1, .inl (cI, 10, .inl f_101)), (r0 2, .inl (cI, 6, .inl f_103)), (r0 3, .inl (cJ, 6, .inr (.inl f_104))), (r0 4, .inl (cJ, 6, .inr (.inl f_105))), (r0 5, .inl (cJ, 6, .inr (.inl f_106))), (r0 6, .inl (cJ, 10, .inr (.inl f_107))), (r0 7, .inl (cI, 70, .inl f_112)), (r0 8, .inl (cI, 70, .inl f_114))], [(pl0, .inr (5, [.int fc1, .ref (r1 0), .ref (r1 1), .ref (r1 2), .ref (r1 3), .int dc1, .ref (r1 4), .ref (r1 5), .ref (r1 6), .ref (r1 7), .ref (r1 8), .ref (r1 9)])), (r1 0, .inl (cJ, 6, .inr (.inl f_118))), (r1 1, .inl (cI, 6, .inl f_119)), (r1 2, .inl (cI, 6, .inl f_120)), (r1 3, .inl (cI, 6, .inl f_121)), (r1 4, .inl (cJ, 4, .inr (.inl f_124))), (r1 5, .inl (cI, 4, .inl rk1)), (r1 6, .inl (cJ, 40, .inr (.inl f_126))), (r1 7, .inl (cI, 40, .inl f_127)), (r1 8, .inl (cI, 40, .inl f_129)), (r1 9, .inl (cI, 40, .inl f_131))], [(h1, .inr (2, [.ref pl0, .int fr_132, .int dr_135, .int rc_138, .ref (r2 0), .ref (r2 1), .int gn_144, .ref (r2 2), .ref (r2 3), .ref (r2 4), .ref (r2 5), .ref (r2 6), .long sc_150, .int jc_151, .ref (r2 7), .ref (r2 8)])), (r2 0, .inl (cI, 10, .inl f_141)), (r2 1, .inl (cI, 10, .inl f_143)), (r2 2, .inl (cI, 6, .inl f_145)), (r2 3, .inl (cJ, 6, .inr (.inl f_146))), (r2 4, .inl (cJ, 6, .inr (.inl f_147))), (r2 5, .inl (cJ, 6, .inr (.inl f_148))), (r2 6, .inl (cJ, 10, .inr (.inl f_149))), (r2 7, .inl (cI, 70, .inl f_154)), (r2 8, .inl (cI, 70, .inl f_156))]]) := hD
          refine lv_lconst (v := 0) hx hb dX3_countTwice_31 (by decide) ?_
          refine W.lcmp hx hb dX3_countTwice_32 ?_
          refine lv_topi (fun z_438 ez_438 => ?_)
          refine lv_if_le (tgt := 68) hx hb dX3_countTwice_33 (by decide) (fun c_439 => ?_) (fun c_439 => ?_)
          · have c_439 : z_438.toInt ≤ 0 := f_le rfl tI_0 c_439
            obtain ⟨z_440, ez_440⟩ : ∃ y : Int32, y = g_1 + 1 := ⟨_, rfl⟩
            have hz_440 : z_440.toInt = g_1.toInt + 1 := by rw [ez_440]; exact t_add rfl tI_1 (by omega) (by omega)
            refine lv_iinc (v := z_440) (lv' := [(3, .int z_440), (4, .int r_434), (2, .int g_2), (0, .ref h0), (1, .ref h1)]) hx hb dX3_countTwice_68 hl (k := 1) rfl (by rw [ez_440]; rfl) (by decide) rfl (fun ls hl => ?_)
            refine lv_goto (tgt := 4) hx hb dX3_countTwice_71 (by decide) ?_
            exact ih_432 z_440 g_2 (by omega) (by omega) (by omega) (by omega) (by omega) (by omega) (by omega) (by omega) _ _ hP hD hS ls (lv_sub hl [0, 2, 3, 4] rfl)
          · have n_441 : ¬ r_437 = 0 := lc_nle ez_438 c_439
            have c_439 : 0 < z_438.toInt := f_nle rfl tI_0 c_439
            refine lv_aload_n hx hb dX3_countTwice_36 rfl (lv_at hl 4 rfl) ?_
            refine lv_iload hx hb dX3_countTwice_37 (lv_at hl 0 rfl) ?_
            have hpm : List.Perm ([[(h0, .inr (2, [.ref pl0, .int fr_90, .int dr_93, .int rc_96, .ref (r0 0), .ref (r0 1), .int gn_102, .ref (r0 2), .ref (r0 3), .ref (r0 4), .ref (r0 5), .ref (r0 6), .long sc_108, .int jc_109, .ref (r0 7), .ref (r0 8)])), (r0 0, .inl (cI, 10, .inl f_99)), (r0 1, .inl (cI, 10, .inl f_101)), (r0 2, .inl (cI, 6, .inl f_103)), (r0 3, .inl (cJ, 6, .inr (.inl f_104))), (r0 4, .inl (cJ, 6, .inr (.inl f_105))), (r0 5, .inl (cJ, 6, .inr (.inl f_106))), (r0 6, .inl (cJ, 10, .inr (.inl f_107))), (r0 7, .inl (cI, 70, .inl f_112)), (r0 8, .inl (cI, 70, .inl f_114))], [(pl0, .inr (5, [.int fc1, .ref (r1 0), .ref (r1 1), .ref (r1 2), .ref (r1 3), .int dc1, .ref (r1 4), .ref (r1 5), .ref (r1 6), .ref (r1 7), .ref (r1 8), .ref (r1 9)])), (r1 0, .inl (cJ, 6, .inr (.inl f_118))), (r1 1, .inl (cI, 6, .inl f_119)), (r1 2, .inl (cI, 6, .inl f_120)), (r1 3, .inl (cI, 6, .inl f_121)), (r1 4, .inl (cJ, 4, .inr (.inl f_124))), (r1 5, .inl (cI, 4, .inl rk1)), (r1 6, .inl (cJ, 40, .inr (.inl f_126))), (r1 7, .inl (cI, 40, .inl f_127)), (r1 8, .inl (cI, 40, .inl f_129)), (r1 9, .inl (cI, 40, .inl f_131))], [(h1, .inr (2, [.ref pl0, .int fr_132, .int dr_135, .int rc_138, .ref (r2 0), .ref (r2 1), .int gn_144, .ref (r2 2), .ref (r2 3), .ref (r2 4), .ref (r2 5), .ref (r2 6), .long sc_150, .int jc_151, .ref (r2 7), .ref (r2 8)])), (r2 0, .inl (cI, 10, .inl f_141)), (r2 1, .inl (cI, 10, .inl f_143)), (r2 2, .inl (cI, 6, .inl f_145)), (r2 3, .inl (cJ, 6, .inr (.inl f_146))), (r2 4, .inl (cJ, 6, .inr (.inl f_147))), (r2 5, .inl (cJ, 6, .inr (.inl f_148))), (r2 6, .inl (cJ, 10, .inr (.inl f_149))), (r2 7, .inl (cI, 70, .inl f_154)), (r2 8, .inl (cI, 70, .inl f_156))]] : List va_W) (([[(h1, .inr (2, [.ref pl0, .int fr_132, .int dr_135, .int rc_138, .ref (r2 0), .ref (r2 1), .int gn_144, .ref (r2 2), .ref (r2 3), .ref (r2 4), .ref (r2 5), .ref (r2 6), .long sc_150, .int jc_151, .ref (r2 7), .ref (r2 8)])), (r2 0, .inl (cI, 10, .inl f_141)), (r2 1, .inl (cI, 10, .inl f_143)), (r2 2, .inl (cI, 6, .inl f_145)), (r2 3, .inl (cJ, 6, .inr (.inl f_146))), (r2 4, .inl (cJ, 6, .inr (.inl f_147))), (r2 5, .inl (cJ, 6, .inr (.inl f_148))), (r2 6, .inl (cJ, 10, .inr (.inl f_149))), (r2 7, .inl (cI, 70, .inl f_154)), (r2 8, .inl (cI, 70, .inl f_156))]] : List va_W) ++ ([[(h0, .inr (2, [.ref pl0, .int fr_90, .int dr_93, .int rc_96, .ref (r0 0), .ref (r0 1), .int gn_102, .ref (r0 2), .ref (r0 3), .ref (r0 4), .ref (r0 5), .ref (r0 6), .long sc_108, .int jc_109, .ref (r0 7), .ref (r0 8)])), (r0 0, .inl (cI, 10, .inl f_99)), (r0 1, .inl (cI, 10, .inl f_101)), (r0 2, .inl (cI, 6, .inl f_103)), (r0 3, .inl (cJ, 6, .inr (.inl f_104))), (r0 4, .inl (cJ, 6, .inr (.inl f_105))), (r0 5, .inl (cJ, 6, .inr (.inl f_106))), (r0 6, .inl (cJ, 10, .inr (.inl f_107))), (r0 7, .inl (cI, 70, .inl f_112)), (r0 8, .inl (cI, 70, .inl f_114))], [(pl0, .inr (5, [.int fc1, .ref (r1 0), .ref (r1 1), .ref (r1 2), .ref (r1 3), .int dc1, .ref (r1 4), .ref (r1 5), .ref (r1 6), .ref (r1 7), .ref (r1 8), .ref (r1 9)])), (r1 0, .inl (cJ, 6, .inr (.inl f_118))), (r1 1, .inl (cI, 6, .inl f_119)), (r1 2, .inl (cI, 6, .inl f_120)), (r1 3, .inl (cI, 6, .inl f_121)), (r1 4, .inl (cJ, 4, .inr (.inl f_124))), (r1 5, .inl (cI, 4, .inl rk1)), (r1 6, .inl (cJ, 40, .inr (.inl f_126))), (r1 7, .inl (cI, 40, .inl f_127)), (r1 8, .inl (cI, 40, .inl f_129)), (r1 9, .inl (cI, 40, .inl f_131))]] : List va_W)) := pm_n 3 [2, 0, 1] (by decide) rfl rfl
            have hPc := bk_P hpm hP
            have hDc := bk_D hpm hD
            have hFc := bk_F hpm hD hS hA
            refine va_calll (va_runV (As := [.int r_434]) (rest := []) ⟨hx, hb, hml, hown, hts⟩ (c_X3_bornBy l dC dI ad tN fN cB cI cJ cZ h1 r_434 r2 pl0 _ ⟨fr_132, dr_135, rc_138, f_141, f_143, gn_144, f_145, f_146, f_147, f_148, f_149, sc_150, jc_151, f_154, f_156, rfl, by omega, by omega, by omega, by omega, by omega, by omega, hr_142, by omega, by omega, hr_155, hr_157⟩ H.size (by omega) (by omega)) (cwV 1 hts gX3_countTwice_X3_bornBy rfl rfl rfl (by decide +kernel) ⟨(Nat.le_of_ble_eq_true rfl), (Nat.le_of_ble_eq_true rfl)⟩) ⟨fun a U g mk q => by obtain ⟨q0, q1, qP, qK, qD, qE⟩ := q; exact ⟨q0, q1, qP, va_K.moved (u := U) (U := U.calling g mk a) (Vm.Alike.refl U.vm) qK, qD, ey_blind qE⟩, va_recv hK hPc (ci := 2) (q0 := 0) rfl rfl, fun U hU hW => ⟨rfl, by rw [hU], by rw [hU]; exact hPc, va_K.moved hW.alike hK, hDc.weaken (fun _ _ _ _ => trivial), ey_call hE hS hFc hU hW⟩⟩ rfl rfl hl.1 rfl (lv_room (Nat.le_of_ble_eq_true rfl)) dX3_countTwice_39 ⟨(Nat.le_of_ble_eq_true rfl), (Nat.le_of_ble_eq_true rfl)⟩) hS (fun q _ h => hFc q h) hFc (fun r_442 u t H locs ht hvm hw hB hz1 hk1 hS => ?_)
            obtain ⟨hP1, hD1⟩ := hB
            rw [ht] at hP1
            obtain ⟨hP, hD⟩ := bk_join hpm hP hD hk1 hFc (Cs1 := [[(h1, .inr (2, [.ref pl0, .int fr_132, .int dr_135, .int rc_138, .ref (r2 0), .ref (r2 1), .int gn_144, .ref (r2 2), .ref (r2 3), .ref (r2 4), .ref (r2 5), .ref (r2 6), .long sc_150, .int jc_151, .ref (r2 7), .ref (r2 8)])), (r2 0, .inl (cI, 10, .inl f_141)), (r2 1, .inl (cI, 10, .inl f_143)), (r2 2, .inl (cI, 6, .inl f_145)), (r2 3, .inl (cJ, 6, .inr (.inl f_146))), (r2 4, .inl (cJ, 6, .inr (.inl f_147))), (r2 5, .inl (cJ, 6, .inr (.inl f_148))), (r2 6, .inl (cJ, 10, .inr (.inl f_149))), (r2 7, .inl (cI, 70, .inl f_154)), (r2 8, .inl (cI, 70, .inl f_156))]]) hP1 hD1
            have hpm2 : List.Perm (([[(h1, .inr (2, [.ref pl0, .int fr_132, .int dr_135, .int rc_138, .ref (r2 0), .ref (r2 1), .int gn_144, .ref (r2 2), .ref (r2 3), .ref (r2 4), .ref (r2 5), .ref (r2 6), .long sc_150, .int jc_151, .ref (r2 7), .ref (r2 8)])), (r2 0, .inl (cI, 10, .inl f_141)), (r2 1, .inl (cI, 10, .inl f_143)), (r2 2, .inl (cI, 6, .inl f_145)), (r2 3, .inl (cJ, 6, .inr (.inl f_146))), (r2 4, .inl (cJ, 6, .inr (.inl f_147))), (r2 5, .inl (cJ, 6, .inr (.inl f_148))), (r2 6, .inl (cJ, 10, .inr (.inl f_149))), (r2 7, .inl (cI, 70, .inl f_154)), (r2 8, .inl (cI, 70, .inl f_156))]] : List va_W) ++ ([[(h0, .inr (2, [.ref pl0, .int fr_90, .int dr_93, .int rc_96, .ref (r0 0), .ref (r0 1), .int gn_102, .ref (r0 2), .ref (r0 3), .ref (r0 4), .ref (r0 5), .ref (r0 6), .long sc_108, .int jc_109, .ref (r0 7), .ref (r0 8)])), (r0 0, .inl (cI, 10, .inl f_99)), (r0 1, .inl (cI, 10, .inl f_101)), (r0 2, .inl (cI, 6, .inl f_103)), (r0 3, .inl (cJ, 6, .inr (.inl f_104))), (r0 4, .inl (cJ, 6, .inr (.inl f_105))), (r0 5, .inl (cJ, 6, .inr (.inl f_106))), (r0 6, .inl (cJ, 10, .inr (.inl f_107))), (r0 7, .inl (cI, 70, .inl f_112)), (r0 8, .inl (cI, 70, .inl f_114))], [(pl0, .inr (5, [.int fc1, .ref (r1 0), .ref (r1 1), .ref (r1 2), .ref (r1 3), .int dc1, .ref (r1 4), .ref (r1 5), .ref (r1 6), .ref (r1 7), .ref (r1 8), .ref (r1 9)])), (r1 0, .inl (cJ, 6, .inr (.inl f_118))), (r1 1, .inl (cI, 6, .inl f_119)), (r1 2, .inl (cI, 6, .inl f_120)), (r1 3, .inl (cI, 6, .inl f_121)), (r1 4, .inl (cJ, 4, .inr (.inl f_124))), (r1 5, .inl (cI, 4, .inl rk1)), (r1 6, .inl (cJ, 40, .inr (.inl f_126))), (r1 7, .inl (cI, 40, .inl f_127)), (r1 8, .inl (cI, 40, .inl f_129)), (r1 9, .inl (cI, 40, .inl f_131))]] : List va_W)) ([[(h0, .inr (2, [.ref pl0, .int fr_90, .int dr_93, .int rc_96, .ref (r0 0), .ref (r0 1), .int gn_102, .ref (r0 2), .ref (r0 3), .ref (r0 4), .ref (r0 5), .ref (r0 6), .long sc_108, .int jc_109, .ref (r0 7), .ref (r0 8)])), (r0 0, .inl (cI, 10, .inl f_99)), (r0 1, .inl (cI, 10, .inl f_101)), (r0 2, .inl (cI, 6, .inl f_103)), (r0 3, .inl (cJ, 6, .inr (.inl f_104))), (r0 4, .inl (cJ, 6, .inr (.inl f_105))), (r0 5, .inl (cJ, 6, .inr (.inl f_106))), (r0 6, .inl (cJ, 10, .inr (.inl f_107))), (r0 7, .inl (cI, 70, .inl f_112)), (r0 8, .inl (cI, 70, .inl f_114))], [(pl0, .inr (5, [.int fc1, .ref (r1 0), .ref (r1 1), .ref (r1 2), .ref (r1 3), .int dc1, .ref (r1 4), .ref (r1 5), .ref (r1 6), .ref (r1 7), .ref (r1 8), .ref (r1 9)])), (r1 0, .inl (cJ, 6, .inr (.inl f_118))), (r1 1, .inl (cI, 6, .inl f_119)), (r1 2, .inl (cI, 6, .inl f_120)), (r1 3, .inl (cI, 6, .inl f_121)), (r1 4, .inl (cJ, 4, .inr (.inl f_124))), (r1 5, .inl (cI, 4, .inl rk1)), (r1 6, .inl (cJ, 40, .inr (.inl f_126))), (r1 7, .inl (cI, 40, .inl f_127)), (r1 8, .inl (cI, 40, .inl f_129)), (r1 9, .inl (cI, 40, .inl f_131))], [(h1, .inr (2, [.ref pl0, .int fr_132, .int dr_135, .int rc_138, .ref (r2 0), .ref (r2 1), .int gn_144, .ref (r2 2), .ref (r2 3), .ref (r2 4), .ref (r2 5), .ref (r2 6), .long sc_150, .int jc_151, .ref (r2 7), .ref (r2 8)])), (r2 0, .inl (cI, 10, .inl f_141)), (r2 1, .inl (cI, 10, .inl f_143)), (r2 2, .inl (cI, 6, .inl f_145)), (r2 3, .inl (cJ, 6, .inr (.inl f_146))), (r2 4, .inl (cJ, 6, .inr (.inl f_147))), (r2 5, .inl (cJ, 6, .inr (.inl f_148))), (r2 6, .inl (cJ, 10, .inr (.inl f_149))), (r2 7, .inl (cI, 70, .inl f_154)), (r2 8, .inl (cI, 70, .inl f_156))]] : List va_W) := pm_n 3 [1, 2, 0] (by decide) rfl rfl
            have hP := bk_reP hpm2 hP
            have hD := bk_reD hpm2 hD
            have hP : va_P (dC, dI) vwCl (List.flatten [[(h0, .inr (2, [.ref pl0, .int fr_90, .int dr_93, .int rc_96, .ref (r0 0), .ref (r0 1), .int gn_102, .ref (r0 2), .ref (r0 3), .ref (r0 4), .ref (r0 5), .ref (r0 6), .long sc_108, .int jc_109, .ref (r0 7), .ref (r0 8)])), (r0 0, .inl (cI, 10, .inl f_99)), (r0 1, .inl (cI, 10, .inl f_101)), (r0 2, .inl (cI, 6, .inl f_103)), (r0 3, .inl (cJ, 6, .inr (.inl f_104))), (r0 4, .inl (cJ, 6, .inr (.inl f_105))), (r0 5, .inl (cJ, 6, .inr (.inl f_106))), (r0 6, .inl (cJ, 10, .inr (.inl f_107))), (r0 7, .inl (cI, 70, .inl f_112)), (r0 8, .inl (cI, 70, .inl f_114))], [(pl0, .inr (5, [.int fc1, .ref (r1 0), .ref (r1 1), .ref (r1 2), .ref (r1 3), .int dc1, .ref (r1 4), .ref (r1 5), .ref (r1 6), .ref (r1 7), .ref (r1 8), .ref (r1 9)])), (r1 0, .inl (cJ, 6, .inr (.inl f_118))), (r1 1, .inl (cI, 6, .inl f_119)), (r1 2, .inl (cI, 6, .inl f_120)), (r1 3, .inl (cI, 6, .inl f_121)), (r1 4, .inl (cJ, 4, .inr (.inl f_124))), (r1 5, .inl (cI, 4, .inl rk1)), (r1 6, .inl (cJ, 40, .inr (.inl f_126))), (r1 7, .inl (cI, 40, .inl f_127)), (r1 8, .inl (cI, 40, .inl f_129)), (r1 9, .inl (cI, 40, .inl f_131))], [(h1, .inr (2, [.ref pl0, .int fr_132, .int dr_135, .int rc_138, .ref (r2 0), .ref (r2 1), .int gn_144, .ref (r2 2), .ref (r2 3), .ref (r2 4), .ref (r2 5), .ref (r2 6), .long sc_150, .int jc_151, .ref (r2 7), .ref (r2 8)])), (r2 0, .inl (cI, 10, .inl f_141)), (r2 1, .inl (cI, 10, .inl f_143)), (r2 2, .inl (cI, 6, .inl f_145)), (r2 3, .inl (cJ, 6, .inr (.inl f_146))), (r2 4, .inl (cJ, 6, .inr (.inl f_147))), (r2 5, .inl (cJ, 6, .inr (.inl f_148))), (r2 6, .inl (cJ, 10, .inr (.inl f_149))), (r2 7, .inl (cI, 70, .inl f_154)), (r2 8, .inl (cI, 70, .inl f_156))]]) H := hP
            have hD : va_D A (List.flatten [[(h0, .inr (2, [.ref pl0, .int fr_90, .int dr_93, .int rc_96, .ref (r0 0), .ref (r0 1), .int gn_102, .ref (r0 2), .ref (r0 3), .ref (r0 4), .ref (r0 5), .ref (r0 6), .long sc_108, .int jc_109, .ref (r0 7), .ref (r0 8)])), (r0 0, .inl (cI, 10, .inl f_99)), (r0 1, .inl (cI, 10, .inl f_101)), (r0 2, .inl (cI, 6, .inl f_103)), (r0 3, .inl (cJ, 6, .inr (.inl f_104))), (r0 4, .inl (cJ, 6, .inr (.inl f_105))), (r0 5, .inl (cJ, 6, .inr (.inl f_106))), (r0 6, .inl (cJ, 10, .inr (.inl f_107))), (r0 7, .inl (cI, 70, .inl f_112)), (r0 8, .inl (cI, 70, .inl f_114))], [(pl0, .inr (5, [.int fc1, .ref (r1 0), .ref (r1 1), .ref (r1 2), .ref (r1 3), .int dc1, .ref (r1 4), .ref (r1 5), .ref (r1 6), .ref (r1 7), .ref (r1 8), .ref (r1 9)])), (r1 0, .inl (cJ, 6, .inr (.inl f_118))), (r1 1, .inl (cI, 6, .inl f_119)), (r1 2, .inl (cI, 6, .inl f_120)), (r1 3, .inl (cI, 6, .inl f_121)), (r1 4, .inl (cJ, 4, .inr (.inl f_124))), (r1 5, .inl (cI, 4, .inl rk1)), (r1 6, .inl (cJ, 40, .inr (.inl f_126))), (r1 7, .inl (cI, 40, .inl f_127)), (r1 8, .inl (cI, 40, .inl f_129)), (r1 9, .inl (cI, 40, .inl f_131))], [(h1, .inr (2, [.ref pl0, .int fr_132, .int dr_135, .int rc_138, .ref (r2 0), .ref (r2 1), .int gn_144, .ref (r2 2), .ref (r2 3), .ref (r2 4), .ref (r2 5), .ref (r2 6), .long sc_150, .int jc_151, .ref (r2 7), .ref (r2 8)])), (r2 0, .inl (cI, 10, .inl f_141)), (r2 1, .inl (cI, 10, .inl f_143)), (r2 2, .inl (cI, 6, .inl f_145)), (r2 3, .inl (cJ, 6, .inr (.inl f_146))), (r2 4, .inl (cJ, 6, .inr (.inl f_147))), (r2 5, .inl (cJ, 6, .inr (.inl f_148))), (r2 6, .inl (cJ, 10, .inr (.inl f_149))), (r2 7, .inl (cI, 70, .inl f_154)), (r2 8, .inl (cI, 70, .inl f_156))]]) := hD
            refine lv_aload_n hx hb dX3_countTwice_42 rfl (lv_at hl 3 rfl) ?_
            refine va_get (D := (dC, dI)) (ci := 2) (v := .long sc_108) (C := RX3) (T := TX3) (N := 16) hx hb hts iw_X3_countTwice_X3 hown hK hP 0 rfl rfl 12 (by decide) (hts (.fieldLink RX3 54 "HungFloors$Frame" "scale" "J") (by decide +kernel)) (fun _ h9 => h9) rfl dX3_countTwice_43 ?_
            refine lv_lmul hx hb dX3_countTwice_46 ?_
            refine lv_topl (fun z_443 ez_443 => ?_)
            refine lv_ldc2 hx hb hown (hts (.constantLong RX3 168 (2)) (by decide +kernel)) dX3_countTwice_47 ?_
            refine lv_aload_n hx hb dX3_countTwice_50 rfl (lv_at hl 3 rfl) ?_
            refine lv_iload_n hx hb dX3_countTwice_51 rfl (lv_at hl 1 rfl) ?_
            have hpm : List.Perm ([[(h0, .inr (2, [.ref pl0, .int fr_90, .int dr_93, .int rc_96, .ref (r0 0), .ref (r0 1), .int gn_102, .ref (r0 2), .ref (r0 3), .ref (r0 4), .ref (r0 5), .ref (r0 6), .long sc_108, .int jc_109, .ref (r0 7), .ref (r0 8)])), (r0 0, .inl (cI, 10, .inl f_99)), (r0 1, .inl (cI, 10, .inl f_101)), (r0 2, .inl (cI, 6, .inl f_103)), (r0 3, .inl (cJ, 6, .inr (.inl f_104))), (r0 4, .inl (cJ, 6, .inr (.inl f_105))), (r0 5, .inl (cJ, 6, .inr (.inl f_106))), (r0 6, .inl (cJ, 10, .inr (.inl f_107))), (r0 7, .inl (cI, 70, .inl f_112)), (r0 8, .inl (cI, 70, .inl f_114))], [(pl0, .inr (5, [.int fc1, .ref (r1 0), .ref (r1 1), .ref (r1 2), .ref (r1 3), .int dc1, .ref (r1 4), .ref (r1 5), .ref (r1 6), .ref (r1 7), .ref (r1 8), .ref (r1 9)])), (r1 0, .inl (cJ, 6, .inr (.inl f_118))), (r1 1, .inl (cI, 6, .inl f_119)), (r1 2, .inl (cI, 6, .inl f_120)), (r1 3, .inl (cI, 6, .inl f_121)), (r1 4, .inl (cJ, 4, .inr (.inl f_124))), (r1 5, .inl (cI, 4, .inl rk1)), (r1 6, .inl (cJ, 40, .inr (.inl f_126))), (r1 7, .inl (cI, 40, .inl f_127)), (r1 8, .inl (cI, 40, .inl f_129)), (r1 9, .inl (cI, 40, .inl f_131))], [(h1, .inr (2, [.ref pl0, .int fr_132, .int dr_135, .int rc_138, .ref (r2 0), .ref (r2 1), .int gn_144, .ref (r2 2), .ref (r2 3), .ref (r2 4), .ref (r2 5), .ref (r2 6), .long sc_150, .int jc_151, .ref (r2 7), .ref (r2 8)])), (r2 0, .inl (cI, 10, .inl f_141)), (r2 1, .inl (cI, 10, .inl f_143)), (r2 2, .inl (cI, 6, .inl f_145)), (r2 3, .inl (cJ, 6, .inr (.inl f_146))), (r2 4, .inl (cJ, 6, .inr (.inl f_147))), (r2 5, .inl (cJ, 6, .inr (.inl f_148))), (r2 6, .inl (cJ, 10, .inr (.inl f_149))), (r2 7, .inl (cI, 70, .inl f_154)), (r2 8, .inl (cI, 70, .inl f_156))]] : List va_W) (([[(h0, .inr (2, [.ref pl0, .int fr_90, .int dr_93, .int rc_96, .ref (r0 0), .ref (r0 1), .int gn_102, .ref (r0 2), .ref (r0 3), .ref (r0 4), .ref (r0 5), .ref (r0 6), .long sc_108, .int jc_109, .ref (r0 7), .ref (r0 8)])), (r0 0, .inl (cI, 10, .inl f_99)), (r0 1, .inl (cI, 10, .inl f_101)), (r0 2, .inl (cI, 6, .inl f_103)), (r0 3, .inl (cJ, 6, .inr (.inl f_104))), (r0 4, .inl (cJ, 6, .inr (.inl f_105))), (r0 5, .inl (cJ, 6, .inr (.inl f_106))), (r0 6, .inl (cJ, 10, .inr (.inl f_107))), (r0 7, .inl (cI, 70, .inl f_112)), (r0 8, .inl (cI, 70, .inl f_114))]] : List va_W) ++ ([[(pl0, .inr (5, [.int fc1, .ref (r1 0), .ref (r1 1), .ref (r1 2), .ref (r1 3), .int dc1, .ref (r1 4), .ref (r1 5), .ref (r1 6), .ref (r1 7), .ref (r1 8), .ref (r1 9)])), (r1 0, .inl (cJ, 6, .inr (.inl f_118))), (r1 1, .inl (cI, 6, .inl f_119)), (r1 2, .inl (cI, 6, .inl f_120)), (r1 3, .inl (cI, 6, .inl f_121)), (r1 4, .inl (cJ, 4, .inr (.inl f_124))), (r1 5, .inl (cI, 4, .inl rk1)), (r1 6, .inl (cJ, 40, .inr (.inl f_126))), (r1 7, .inl (cI, 40, .inl f_127)), (r1 8, .inl (cI, 40, .inl f_129)), (r1 9, .inl (cI, 40, .inl f_131))], [(h1, .inr (2, [.ref pl0, .int fr_132, .int dr_135, .int rc_138, .ref (r2 0), .ref (r2 1), .int gn_144, .ref (r2 2), .ref (r2 3), .ref (r2 4), .ref (r2 5), .ref (r2 6), .long sc_150, .int jc_151, .ref (r2 7), .ref (r2 8)])), (r2 0, .inl (cI, 10, .inl f_141)), (r2 1, .inl (cI, 10, .inl f_143)), (r2 2, .inl (cI, 6, .inl f_145)), (r2 3, .inl (cJ, 6, .inr (.inl f_146))), (r2 4, .inl (cJ, 6, .inr (.inl f_147))), (r2 5, .inl (cJ, 6, .inr (.inl f_148))), (r2 6, .inl (cJ, 10, .inr (.inl f_149))), (r2 7, .inl (cI, 70, .inl f_154)), (r2 8, .inl (cI, 70, .inl f_156))]] : List va_W)) := pm_n 3 [0, 1, 2] (by decide) rfl rfl
            have hPc := bk_P hpm hP
            have hDc := bk_D hpm hD
            have hFc := bk_F hpm hD hS hA
            refine va_calll (va_runV (As := [.int g_1]) (rest := [.long 2, .long z_443]) ⟨hx, hb, hml, hown, hts⟩ (c_X3_bornBy l dC dI ad tN fN cB cI cJ cZ h0 g_1 r0 pl0 _ ⟨fr_90, dr_93, rc_96, f_99, f_101, gn_102, f_103, f_104, f_105, f_106, f_107, sc_108, jc_109, f_112, f_114, rfl, by omega, by omega, by omega, by omega, by omega, by omega, hr_100, by omega, by omega, hr_113, hr_115⟩ H.size (by omega) (by omega)) (cwV 1 hts gX3_countTwice_X3_bornBy rfl rfl rfl (by decide +kernel) ⟨(Nat.le_of_ble_eq_true rfl), (Nat.le_of_ble_eq_true rfl)⟩) ⟨fun a U g mk q => by obtain ⟨q0, q1, qP, qK, qD, qE⟩ := q; exact ⟨q0, q1, qP, va_K.moved (u := U) (U := U.calling g mk a) (Vm.Alike.refl U.vm) qK, qD, ey_blind qE⟩, va_recv hK hPc (ci := 2) (q0 := 0) rfl rfl, fun U hU hW => ⟨rfl, by rw [hU], by rw [hU]; exact hPc, va_K.moved hW.alike hK, hDc.weaken (fun _ _ _ _ => trivial), ey_call hE hS hFc hU hW⟩⟩ rfl rfl hl.1 rfl (lv_room (Nat.le_of_ble_eq_true rfl)) dX3_countTwice_52 ⟨(Nat.le_of_ble_eq_true rfl), (Nat.le_of_ble_eq_true rfl)⟩) hS (fun q _ h => hFc q h) hFc (fun r_444 u t H locs ht hvm hw hB hz1 hk1 hS => ?_)
            obtain ⟨hP1, hD1⟩ := hB
            rw [ht] at hP1
            obtain ⟨hP, hD⟩ := bk_join hpm hP hD hk1 hFc (Cs1 := [[(h0, .inr (2, [.ref pl0, .int fr_90, .int dr_93, .int rc_96, .ref (r0 0), .ref (r0 1), .int gn_102, .ref (r0 2), .ref (r0 3), .ref (r0 4), .ref (r0 5), .ref (r0 6), .long sc_108, .int jc_109, .ref (r0 7), .ref (r0 8)])), (r0 0, .inl (cI, 10, .inl f_99)), (r0 1, .inl (cI, 10, .inl f_101)), (r0 2, .inl (cI, 6, .inl f_103)), (r0 3, .inl (cJ, 6, .inr (.inl f_104))), (r0 4, .inl (cJ, 6, .inr (.inl f_105))), (r0 5, .inl (cJ, 6, .inr (.inl f_106))), (r0 6, .inl (cJ, 10, .inr (.inl f_107))), (r0 7, .inl (cI, 70, .inl f_112)), (r0 8, .inl (cI, 70, .inl f_114))]]) hP1 hD1
            have hpm2 : List.Perm (([[(h0, .inr (2, [.ref pl0, .int fr_90, .int dr_93, .int rc_96, .ref (r0 0), .ref (r0 1), .int gn_102, .ref (r0 2), .ref (r0 3), .ref (r0 4), .ref (r0 5), .ref (r0 6), .long sc_108, .int jc_109, .ref (r0 7), .ref (r0 8)])), (r0 0, .inl (cI, 10, .inl f_99)), (r0 1, .inl (cI, 10, .inl f_101)), (r0 2, .inl (cI, 6, .inl f_103)), (r0 3, .inl (cJ, 6, .inr (.inl f_104))), (r0 4, .inl (cJ, 6, .inr (.inl f_105))), (r0 5, .inl (cJ, 6, .inr (.inl f_106))), (r0 6, .inl (cJ, 10, .inr (.inl f_107))), (r0 7, .inl (cI, 70, .inl f_112)), (r0 8, .inl (cI, 70, .inl f_114))]] : List va_W) ++ ([[(pl0, .inr (5, [.int fc1, .ref (r1 0), .ref (r1 1), .ref (r1 2), .ref (r1 3), .int dc1, .ref (r1 4), .ref (r1 5), .ref (r1 6), .ref (r1 7), .ref (r1 8), .ref (r1 9)])), (r1 0, .inl (cJ, 6, .inr (.inl f_118))), (r1 1, .inl (cI, 6, .inl f_119)), (r1 2, .inl (cI, 6, .inl f_120)), (r1 3, .inl (cI, 6, .inl f_121)), (r1 4, .inl (cJ, 4, .inr (.inl f_124))), (r1 5, .inl (cI, 4, .inl rk1)), (r1 6, .inl (cJ, 40, .inr (.inl f_126))), (r1 7, .inl (cI, 40, .inl f_127)), (r1 8, .inl (cI, 40, .inl f_129)), (r1 9, .inl (cI, 40, .inl f_131))], [(h1, .inr (2, [.ref pl0, .int fr_132, .int dr_135, .int rc_138, .ref (r2 0), .ref (r2 1), .int gn_144, .ref (r2 2), .ref (r2 3), .ref (r2 4), .ref (r2 5), .ref (r2 6), .long sc_150, .int jc_151, .ref (r2 7), .ref (r2 8)])), (r2 0, .inl (cI, 10, .inl f_141)), (r2 1, .inl (cI, 10, .inl f_143)), (r2 2, .inl (cI, 6, .inl f_145)), (r2 3, .inl (cJ, 6, .inr (.inl f_146))), (r2 4, .inl (cJ, 6, .inr (.inl f_147))), (r2 5, .inl (cJ, 6, .inr (.inl f_148))), (r2 6, .inl (cJ, 10, .inr (.inl f_149))), (r2 7, .inl (cI, 70, .inl f_154)), (r2 8, .inl (cI, 70, .inl f_156))]] : List va_W)) ([[(h0, .inr (2, [.ref pl0, .int fr_90, .int dr_93, .int rc_96, .ref (r0 0), .ref (r0 1), .int gn_102, .ref (r0 2), .ref (r0 3), .ref (r0 4), .ref (r0 5), .ref (r0 6), .long sc_108, .int jc_109, .ref (r0 7), .ref (r0 8)])), (r0 0, .inl (cI, 10, .inl f_99)), (r0 1, .inl (cI, 10, .inl f_101)), (r0 2, .inl (cI, 6, .inl f_103)), (r0 3, .inl (cJ, 6, .inr (.inl f_104))), (r0 4, .inl (cJ, 6, .inr (.inl f_105))), (r0 5, .inl (cJ, 6, .inr (.inl f_106))), (r0 6, .inl (cJ, 10, .inr (.inl f_107))), (r0 7, .inl (cI, 70, .inl f_112)), (r0 8, .inl (cI, 70, .inl f_114))], [(pl0, .inr (5, [.int fc1, .ref (r1 0), .ref (r1 1), .ref (r1 2), .ref (r1 3), .int dc1, .ref (r1 4), .ref (r1 5), .ref (r1 6), .ref (r1 7), .ref (r1 8), .ref (r1 9)])), (r1 0, .inl (cJ, 6, .inr (.inl f_118))), (r1 1, .inl (cI, 6, .inl f_119)), (r1 2, .inl (cI, 6, .inl f_120)), (r1 3, .inl (cI, 6, .inl f_121)), (r1 4, .inl (cJ, 4, .inr (.inl f_124))), (r1 5, .inl (cI, 4, .inl rk1)), (r1 6, .inl (cJ, 40, .inr (.inl f_126))), (r1 7, .inl (cI, 40, .inl f_127)), (r1 8, .inl (cI, 40, .inl f_129)), (r1 9, .inl (cI, 40, .inl f_131))], [(h1, .inr (2, [.ref pl0, .int fr_132, .int dr_135, .int rc_138, .ref (r2 0), .ref (r2 1), .int gn_144, .ref (r2 2), .ref (r2 3), .ref (r2 4), .ref (r2 5), .ref (r2 6), .long sc_150, .int jc_151, .ref (r2 7), .ref (r2 8)])), (r2 0, .inl (cI, 10, .inl f_141)), (r2 1, .inl (cI, 10, .inl f_143)), (r2 2, .inl (cI, 6, .inl f_145)), (r2 3, .inl (cJ, 6, .inr (.inl f_146))), (r2 4, .inl (cJ, 6, .inr (.inl f_147))), (r2 5, .inl (cJ, 6, .inr (.inl f_148))), (r2 6, .inl (cJ, 10, .inr (.inl f_149))), (r2 7, .inl (cI, 70, .inl f_154)), (r2 8, .inl (cI, 70, .inl f_156))]] : List va_W) := pm_n 3 [0, 1, 2] (by decide) rfl rfl
            have hP := bk_reP hpm2 hP
            have hD := bk_reD hpm2 hD
            have hP : va_P (dC, dI) vwCl (List.flatten [[(h0, .inr (2, [.ref pl0, .int fr_90, .int dr_93, .int rc_96, .ref (r0 0), .ref (r0 1), .int gn_102, .ref (r0 2), .ref (r0 3), .ref (r0 4), .ref (r0 5), .ref (r0 6), .long sc_108, .int jc_109, .ref (r0 7), .ref (r0 8)])), (r0 0, .inl (cI, 10, .inl f_99)), (r0 1, .inl (cI, 10, .inl f_101)), (r0 2, .inl (cI, 6, .inl f_103)), (r0 3, .inl (cJ, 6, .inr (.inl f_104))), (r0 4, .inl (cJ, 6, .inr (.inl f_105))), (r0 5, .inl (cJ, 6, .inr (.inl f_106))), (r0 6, .inl (cJ, 10, .inr (.inl f_107))), (r0 7, .inl (cI, 70, .inl f_112)), (r0 8, .inl (cI, 70, .inl f_114))], [(pl0, .inr (5, [.int fc1, .ref (r1 0), .ref (r1 1), .ref (r1 2), .ref (r1 3), .int dc1, .ref (r1 4), .ref (r1 5), .ref (r1 6), .ref (r1 7), .ref (r1 8), .ref (r1 9)])), (r1 0, .inl (cJ, 6, .inr (.inl f_118))), (r1 1, .inl (cI, 6, .inl f_119)), (r1 2, .inl (cI, 6, .inl f_120)), (r1 3, .inl (cI, 6, .inl f_121)), (r1 4, .inl (cJ, 4, .inr (.inl f_124))), (r1 5, .inl (cI, 4, .inl rk1)), (r1 6, .inl (cJ, 40, .inr (.inl f_126))), (r1 7, .inl (cI, 40, .inl f_127)), (r1 8, .inl (cI, 40, .inl f_129)), (r1 9, .inl (cI, 40, .inl f_131))], [(h1, .inr (2, [.ref pl0, .int fr_132, .int dr_135, .int rc_138, .ref (r2 0), .ref (r2 1), .int gn_144, .ref (r2 2), .ref (r2 3), .ref (r2 4), .ref (r2 5), .ref (r2 6), .long sc_150, .int jc_151, .ref (r2 7), .ref (r2 8)])), (r2 0, .inl (cI, 10, .inl f_141)), (r2 1, .inl (cI, 10, .inl f_143)), (r2 2, .inl (cI, 6, .inl f_145)), (r2 3, .inl (cJ, 6, .inr (.inl f_146))), (r2 4, .inl (cJ, 6, .inr (.inl f_147))), (r2 5, .inl (cJ, 6, .inr (.inl f_148))), (r2 6, .inl (cJ, 10, .inr (.inl f_149))), (r2 7, .inl (cI, 70, .inl f_154)), (r2 8, .inl (cI, 70, .inl f_156))]]) H := hP
            have hD : va_D A (List.flatten [[(h0, .inr (2, [.ref pl0, .int fr_90, .int dr_93, .int rc_96, .ref (r0 0), .ref (r0 1), .int gn_102, .ref (r0 2), .ref (r0 3), .ref (r0 4), .ref (r0 5), .ref (r0 6), .long sc_108, .int jc_109, .ref (r0 7), .ref (r0 8)])), (r0 0, .inl (cI, 10, .inl f_99)), (r0 1, .inl (cI, 10, .inl f_101)), (r0 2, .inl (cI, 6, .inl f_103)), (r0 3, .inl (cJ, 6, .inr (.inl f_104))), (r0 4, .inl (cJ, 6, .inr (.inl f_105))), (r0 5, .inl (cJ, 6, .inr (.inl f_106))), (r0 6, .inl (cJ, 10, .inr (.inl f_107))), (r0 7, .inl (cI, 70, .inl f_112)), (r0 8, .inl (cI, 70, .inl f_114))], [(pl0, .inr (5, [.int fc1, .ref (r1 0), .ref (r1 1), .ref (r1 2), .ref (r1 3), .int dc1, .ref (r1 4), .ref (r1 5), .ref (r1 6), .ref (r1 7), .ref (r1 8), .ref (r1 9)])), (r1 0, .inl (cJ, 6, .inr (.inl f_118))), (r1 1, .inl (cI, 6, .inl f_119)), (r1 2, .inl (cI, 6, .inl f_120)), (r1 3, .inl (cI, 6, .inl f_121)), (r1 4, .inl (cJ, 4, .inr (.inl f_124))), (r1 5, .inl (cI, 4, .inl rk1)), (r1 6, .inl (cJ, 40, .inr (.inl f_126))), (r1 7, .inl (cI, 40, .inl f_127)), (r1 8, .inl (cI, 40, .inl f_129)), (r1 9, .inl (cI, 40, .inl f_131))], [(h1, .inr (2, [.ref pl0, .int fr_132, .int dr_135, .int rc_138, .ref (r2 0), .ref (r2 1), .int gn_144, .ref (r2 2), .ref (r2 3), .ref (r2 4), .ref (r2 5), .ref (r2 6), .long sc_150, .int jc_151, .ref (r2 7), .ref (r2 8)])), (r2 0, .inl (cI, 10, .inl f_141)), (r2 1, .inl (cI, 10, .inl f_143)), (r2 2, .inl (cI, 6, .inl f_145)), (r2 3, .inl (cJ, 6, .inr (.inl f_146))), (r2 4, .inl (cJ, 6, .inr (.inl f_147))), (r2 5, .inl (cJ, 6, .inr (.inl f_148))), (r2 6, .inl (cJ, 10, .inr (.inl f_149))), (r2 7, .inl (cI, 70, .inl f_154)), (r2 8, .inl (cI, 70, .inl f_156))]]) := hD
            refine lv_lmul hx hb dX3_countTwice_55 ?_
            refine lv_topl (fun z_445 ez_445 => ?_)
            refine lv_aload_n hx hb dX3_countTwice_56 rfl (lv_at hl 4 rfl) ?_
            refine va_get (D := (dC, dI)) (ci := 2) (v := .long sc_150) (C := RX3) (T := TX3) (N := 16) hx hb hts iw_X3_countTwice_X3 hown hK hP 21 rfl rfl 12 (by decide) (hts (.fieldLink RX3 54 "HungFloors$Frame" "scale" "J") (by decide +kernel)) (fun _ h9 => h9) rfl dX3_countTwice_57 ?_
            refine lv_lmul hx hb dX3_countTwice_60 ?_
            refine lv_topl (fun z_446 ez_446 => ?_)
            refine W.lcmp hx hb dX3_countTwice_61 ?_
            refine lv_topi (fun z_447 ez_447 => ?_)
            refine lv_if_lt (tgt := 68) hx hb dX3_countTwice_62 (by decide) (fun c_448 => ?_) (fun c_448 => ?_)
            · have c_448 : z_447.toInt < 0 := f_lt rfl tI_0 c_448
              obtain ⟨z_449, ez_449⟩ : ∃ y : Int32, y = g_1 + 1 := ⟨_, rfl⟩
              have hz_449 : z_449.toInt = g_1.toInt + 1 := by rw [ez_449]; exact t_add rfl tI_1 (by omega) (by omega)
              refine lv_iinc (v := z_449) (lv' := [(3, .int z_449), (4, .int r_434), (2, .int g_2), (0, .ref h0), (1, .ref h1)]) hx hb dX3_countTwice_68 hl (k := 1) rfl (by rw [ez_449]; rfl) (by decide) rfl (fun ls hl => ?_)
              refine lv_goto (tgt := 4) hx hb dX3_countTwice_71 (by decide) ?_
              exact ih_432 z_449 g_2 (by omega) (by omega) (by omega) (by omega) (by omega) (by omega) (by omega) (by omega) _ _ hP hD hS ls (lv_sub hl [0, 2, 3, 4] rfl)
            · have c_448 : 0 ≤ z_447.toInt := f_nlt rfl tI_0 c_448
              obtain ⟨z_450, ez_450⟩ : ∃ y : Int32, y = g_2 + 1 := ⟨_, rfl⟩
              have hz_450 : z_450.toInt = g_2.toInt + 1 := by rw [ez_450]; exact t_add rfl tI_1 (by omega) (by omega)
              refine lv_iinc (v := z_450) (lv' := [(2, .int z_450), (4, .int r_434), (3, .int g_1), (0, .ref h0), (1, .ref h1)]) hx hb dX3_countTwice_65 hl (k := 2) rfl (by rw [ez_450]; rfl) (by decide) rfl (fun ls hl => ?_)
              obtain ⟨z_451, ez_451⟩ : ∃ y : Int32, y = g_1 + 1 := ⟨_, rfl⟩
              have hz_451 : z_451.toInt = g_1.toInt + 1 := by rw [ez_451]; exact t_add rfl tI_1 (by omega) (by omega)
              refine lv_iinc (v := z_451) (lv' := [(3, .int z_451), (2, .int z_450), (4, .int r_434), (0, .ref h0), (1, .ref h1)]) hx hb dX3_countTwice_68 hl (k := 2) rfl (by rw [ez_451]; rfl) (by decide) rfl (fun ls hl => ?_)
              refine lv_goto (tgt := 4) hx hb dX3_countTwice_71 (by decide) ?_
              exact ih_432 z_451 z_450 (by omega) (by omega) (by omega) (by omega) (by omega) (by omega) (by omega) (by omega) _ _ hP hD hS ls (lv_sub hl [0, 1, 3, 4] rfl)
  exact lp_431 _ 0 0 (by have := tI_0; omega) (by have := tI_0; omega) (by have := tI_0; omega) (by have := tI_0; omega) (by have := tI_0; omega) (by have := tI_0; omega) (by have := tI_0; omega) (Nat.lt_succ_self _) _ _ hP hD hS ls (lv_sub hl [0, 1, 2, 3] rfl)
set_option maxHeartbeats 4000000 in
set_option maxRecDepth 100000 in
theorem c_X10_isMove (l : Launch) (dC : Nat → ClassId) (dI : Nat → Nat → Nat) (ad : Nat → Nat) (tN : Nat) (fN : Nat → Int64) (cB cI cJ cZ : ClassId) (p1 : Int32) (sz : Nat) : Met l yX10_isMove wsX10_isMove ({ frames := 0, cells := 0, slots := 0, locals := 0 } : Room) (va_Pc [.int p1] (fun U => U.heap.size = sz ∧ va_P (dC, dI) vwCl (List.flatten []) U.heap ∧ va_K (dC, dI) vwCl [(cB, .byte), (cI, .int), (cJ, .long), (cZ, .boolean)] U ∧ va_D (fun _ => True) (List.flatten []) ∧ ex_Y ad tN fN (va_A (List.flatten []) sz) U)) (va_Qi (fun (r : Int32) (_ : Unit) => (r = 0 ∧ p1.toInt < 0) ∨ (r = 0 ∧ 0 ≤ p1.toInt ∧ 20 < p1.toInt) ∨ (r = 1 ∧ 0 ≤ p1.toInt ∧ p1.toInt ≤ 20)) (fun (_ : Unit) (t : State) => va_P (dC, dI) vwCl (List.flatten []) t.heap ∧ va_D (va_A (List.flatten []) sz) (List.flatten [])) (va_A (List.flatten []) sz)) 0 0 (va_A (List.flatten []) sz) := by
  refine Met.ofW (cc := cX10_isMove) (maxL := 1) (ret := (some .boolean)) (by decide) rfl ?_
  intro p e s m args below meth c s₁ B hml hv
  obtain ⟨rfl, hsz, hP, hK, hD0, hE⟩ := hv
  have hx := B.exec
  have hb := B.bytes
  have hr := B.returns
  have hts := atoms_spec (ws := wsX10_isMove) B.pre
  have hown : s.vm.findClass RX10 = some m.cls := findClass_of_methodNamed B.named
  have hlocks := B.notSynchronized
  subst hsz
  have hD := hD0.self (sz := s.heap.size)
  generalize hAe : va_A (List.flatten []) s.heap.size = A at hD hE ⊢
  have hA : ∀ q : Nat, s.heap.size ≤ q → A q := fun q h => by rw [← hAe]; exact Or.inr h
  have hS : va_S A s.heap s.heap [] := va_S.rf
  have hl := lv_entry ([.int p1]) (n := 1) (Nat.le_of_ble_eq_true rfl)
  rw [lg_entry_eq]
  generalize (lg_sl ([.int p1]) ++ List.replicate (1 - (lg_sl ([.int p1])).length) Slot.unset).toArray = ls at hl ⊢
  have hl : lv_has ls 1 [(0, .int p1)] := hl
  clear hAe
  refine W_name (fun Q0 hQ0 => ?_)
  refine lv_iload_n hx hb dX10_isMove_0 rfl (lv_at hl 0 rfl) ?_
  refine lv_if_lt (tgt := 14) hx hb dX10_isMove_1 (by decide) (fun c_1 => ?_) (fun c_1 => ?_)
  · have c_1 : p1.toInt < 0 := f_lt rfl tI_0 c_1
    refine lv_iconst (v := 0) hx hb dX10_isMove_14 (by decide) ?_
    rw [hQ0]
    exact W.zret (v := 0) hx hb hr (by decide) (fun t ht hW => ⟨⟨0, (), rfl, Or.inl ⟨rfl, c_1⟩, ⟨by rw [ht]; exact hP, hD⟩⟩, hS.F ht⟩) hS.2.2 dX10_isMove_15
  · have c_1 : 0 ≤ p1.toInt := f_nlt rfl tI_0 c_1
    refine lv_iload_n hx hb dX10_isMove_4 rfl (lv_at hl 0 rfl) ?_
    refine lv_bipush (v := 20) hx hb dX10_isMove_5 (by decide) ?_
    refine lv_icmp_gt (tgt := 14) hx hb dX10_isMove_7 (by decide) (fun c_2 => ?_) (fun c_2 => ?_)
    · have c_2 : 20 < p1.toInt := f_lt tI_20 rfl c_2
      refine lv_iconst (v := 0) hx hb dX10_isMove_14 (by decide) ?_
      rw [hQ0]
      exact W.zret (v := 0) hx hb hr (by decide) (fun t ht hW => ⟨⟨0, (), rfl, Or.inr (Or.inl ⟨rfl, c_1, c_2⟩), ⟨by rw [ht]; exact hP, hD⟩⟩, hS.F ht⟩) hS.2.2 dX10_isMove_15
    · have c_2 : p1.toInt ≤ 20 := f_nlt tI_20 rfl c_2
      refine lv_iconst (v := 1) hx hb dX10_isMove_10 (by decide) ?_
      refine lv_goto (tgt := 15) hx hb dX10_isMove_11 (by decide) ?_
      rw [hQ0]
      exact W.zret (v := 1) hx hb hr (by decide) (fun t ht hW => ⟨⟨1, (), rfl, Or.inr (Or.inr (⟨rfl, c_1, c_2⟩)), ⟨by rw [ht]; exact hP, hD⟩⟩, hS.F ht⟩) hS.2.2 dX10_isMove_15
set_option maxHeartbeats 4000000 in
set_option maxRecDepth 100000 in
theorem c_X10_isOffice (l : Launch) (dC : Nat → ClassId) (dI : Nat → Nat → Nat) (ad : Nat → Nat) (tN : Nat) (fN : Nat → Int64) (cB cI cJ cZ : ClassId) (p1 : Int32) (sz : Nat) : Met l yX10_isOffice wsX10_isOffice ({ frames := 0, cells := 0, slots := 0, locals := 0 } : Room) (va_Pc [.int p1] (fun U => U.heap.size = sz ∧ va_P (dC, dI) vwCl (List.flatten []) U.heap ∧ va_K (dC, dI) vwCl [(cB, .byte), (cI, .int), (cJ, .long), (cZ, .boolean)] U ∧ va_D (fun _ => True) (List.flatten []) ∧ ex_Y ad tN fN (va_A (List.flatten []) sz) U)) (va_Qi (fun (r : Int32) (_ : Unit) => (r = 0 ∧ p1.toInt < 0) ∨ (r = 0 ∧ 0 ≤ p1.toInt ∧ 6 ≤ p1.toInt) ∨ (r = 1 ∧ 0 ≤ p1.toInt ∧ p1.toInt < 6)) (fun (_ : Unit) (t : State) => va_P (dC, dI) vwCl (List.flatten []) t.heap ∧ va_D (va_A (List.flatten []) sz) (List.flatten [])) (va_A (List.flatten []) sz)) 0 0 (va_A (List.flatten []) sz) := by
  refine Met.ofW (cc := cX10_isOffice) (maxL := 1) (ret := (some .boolean)) (by decide) rfl ?_
  intro p e s m args below meth c s₁ B hml hv
  obtain ⟨rfl, hsz, hP, hK, hD0, hE⟩ := hv
  have hx := B.exec
  have hb := B.bytes
  have hr := B.returns
  have hts := atoms_spec (ws := wsX10_isOffice) B.pre
  have hown : s.vm.findClass RX10 = some m.cls := findClass_of_methodNamed B.named
  have hlocks := B.notSynchronized
  subst hsz
  have hD := hD0.self (sz := s.heap.size)
  generalize hAe : va_A (List.flatten []) s.heap.size = A at hD hE ⊢
  have hA : ∀ q : Nat, s.heap.size ≤ q → A q := fun q h => by rw [← hAe]; exact Or.inr h
  have hS : va_S A s.heap s.heap [] := va_S.rf
  have hl := lv_entry ([.int p1]) (n := 1) (Nat.le_of_ble_eq_true rfl)
  rw [lg_entry_eq]
  generalize (lg_sl ([.int p1]) ++ List.replicate (1 - (lg_sl ([.int p1])).length) Slot.unset).toArray = ls at hl ⊢
  have hl : lv_has ls 1 [(0, .int p1)] := hl
  clear hAe
  refine W_name (fun Q0 hQ0 => ?_)
  refine lv_iload_n hx hb dX10_isOffice_0 rfl (lv_at hl 0 rfl) ?_
  refine lv_if_lt (tgt := 14) hx hb dX10_isOffice_1 (by decide) (fun c_1 => ?_) (fun c_1 => ?_)
  · have c_1 : p1.toInt < 0 := f_lt rfl tI_0 c_1
    refine lv_iconst (v := 0) hx hb dX10_isOffice_14 (by decide) ?_
    rw [hQ0]
    exact W.zret (v := 0) hx hb hr (by decide) (fun t ht hW => ⟨⟨0, (), rfl, Or.inl ⟨rfl, c_1⟩, ⟨by rw [ht]; exact hP, hD⟩⟩, hS.F ht⟩) hS.2.2 dX10_isOffice_15
  · have c_1 : 0 ≤ p1.toInt := f_nlt rfl tI_0 c_1
    refine lv_iload_n hx hb dX10_isOffice_4 rfl (lv_at hl 0 rfl) ?_
    refine lv_bipush (v := 6) hx hb dX10_isOffice_5 (by decide) ?_
    refine lv_icmp_ge (tgt := 14) hx hb dX10_isOffice_7 (by decide) (fun c_2 => ?_) (fun c_2 => ?_)
    · have c_2 : 6 ≤ p1.toInt := f_le tI_6 rfl c_2
      refine lv_iconst (v := 0) hx hb dX10_isOffice_14 (by decide) ?_
      rw [hQ0]
      exact W.zret (v := 0) hx hb hr (by decide) (fun t ht hW => ⟨⟨0, (), rfl, Or.inr (Or.inl ⟨rfl, c_1, c_2⟩), ⟨by rw [ht]; exact hP, hD⟩⟩, hS.F ht⟩) hS.2.2 dX10_isOffice_15
    · have c_2 : p1.toInt < 6 := f_nle tI_6 rfl c_2
      refine lv_iconst (v := 1) hx hb dX10_isOffice_10 (by decide) ?_
      refine lv_goto (tgt := 15) hx hb dX10_isOffice_11 (by decide) ?_
      rw [hQ0]
      exact W.zret (v := 1) hx hb hr (by decide) (fun t ht hW => ⟨⟨1, (), rfl, Or.inr (Or.inr (⟨rfl, c_1, c_2⟩)), ⟨by rw [ht]; exact hP, hD⟩⟩, hS.F ht⟩) hS.2.2 dX10_isOffice_15
set_option maxHeartbeats 4000000 in
set_option maxRecDepth 100000 in
theorem c_X10_isDay (l : Launch) (dC : Nat → ClassId) (dI : Nat → Nat → Nat) (ad : Nat → Nat) (tN : Nat) (fN : Nat → Int64) (cB cI cJ cZ : ClassId) (p1 : Int32) (sz : Nat) : Met l yX10_isDay wsX10_isDay ({ frames := 0, cells := 0, slots := 0, locals := 0 } : Room) (va_Pc [.int p1] (fun U => U.heap.size = sz ∧ va_P (dC, dI) vwCl (List.flatten []) U.heap ∧ va_K (dC, dI) vwCl [(cB, .byte), (cI, .int), (cJ, .long), (cZ, .boolean)] U ∧ va_D (fun _ => True) (List.flatten []) ∧ ex_Y ad tN fN (va_A (List.flatten []) sz) U)) (va_Qi (fun (r : Int32) (_ : Unit) => (r = 0 ∧ p1.toInt < 0) ∨ (r = 0 ∧ 0 ≤ p1.toInt ∧ 99 < p1.toInt) ∨ (r = 1 ∧ 0 ≤ p1.toInt ∧ p1.toInt ≤ 99)) (fun (_ : Unit) (t : State) => va_P (dC, dI) vwCl (List.flatten []) t.heap ∧ va_D (va_A (List.flatten []) sz) (List.flatten [])) (va_A (List.flatten []) sz)) 0 0 (va_A (List.flatten []) sz) := by
  refine Met.ofW (cc := cX10_isDay) (maxL := 1) (ret := (some .boolean)) (by decide) rfl ?_
  intro p e s m args below meth c s₁ B hml hv
  obtain ⟨rfl, hsz, hP, hK, hD0, hE⟩ := hv
  have hx := B.exec
  have hb := B.bytes
  have hr := B.returns
  have hts := atoms_spec (ws := wsX10_isDay) B.pre
  have hown : s.vm.findClass RX10 = some m.cls := findClass_of_methodNamed B.named
  have hlocks := B.notSynchronized
  subst hsz
  have hD := hD0.self (sz := s.heap.size)
  generalize hAe : va_A (List.flatten []) s.heap.size = A at hD hE ⊢
  have hA : ∀ q : Nat, s.heap.size ≤ q → A q := fun q h => by rw [← hAe]; exact Or.inr h
  have hS : va_S A s.heap s.heap [] := va_S.rf
  have hl := lv_entry ([.int p1]) (n := 1) (Nat.le_of_ble_eq_true rfl)
  rw [lg_entry_eq]
  generalize (lg_sl ([.int p1]) ++ List.replicate (1 - (lg_sl ([.int p1])).length) Slot.unset).toArray = ls at hl ⊢
  have hl : lv_has ls 1 [(0, .int p1)] := hl
  clear hAe
  refine W_name (fun Q0 hQ0 => ?_)
  refine lv_iload_n hx hb dX10_isDay_0 rfl (lv_at hl 0 rfl) ?_
  refine lv_if_lt (tgt := 14) hx hb dX10_isDay_1 (by decide) (fun c_1 => ?_) (fun c_1 => ?_)
  · have c_1 : p1.toInt < 0 := f_lt rfl tI_0 c_1
    refine lv_iconst (v := 0) hx hb dX10_isDay_14 (by decide) ?_
    rw [hQ0]
    exact W.zret (v := 0) hx hb hr (by decide) (fun t ht hW => ⟨⟨0, (), rfl, Or.inl ⟨rfl, c_1⟩, ⟨by rw [ht]; exact hP, hD⟩⟩, hS.F ht⟩) hS.2.2 dX10_isDay_15
  · have c_1 : 0 ≤ p1.toInt := f_nlt rfl tI_0 c_1
    refine lv_iload_n hx hb dX10_isDay_4 rfl (lv_at hl 0 rfl) ?_
    refine lv_bipush (v := 99) hx hb dX10_isDay_5 (by decide) ?_
    refine lv_icmp_gt (tgt := 14) hx hb dX10_isDay_7 (by decide) (fun c_2 => ?_) (fun c_2 => ?_)
    · have c_2 : 99 < p1.toInt := f_lt tI_99 rfl c_2
      refine lv_iconst (v := 0) hx hb dX10_isDay_14 (by decide) ?_
      rw [hQ0]
      exact W.zret (v := 0) hx hb hr (by decide) (fun t ht hW => ⟨⟨0, (), rfl, Or.inr (Or.inl ⟨rfl, c_1, c_2⟩), ⟨by rw [ht]; exact hP, hD⟩⟩, hS.F ht⟩) hS.2.2 dX10_isDay_15
    · have c_2 : p1.toInt ≤ 99 := f_nlt tI_99 rfl c_2
      refine lv_iconst (v := 1) hx hb dX10_isDay_10 (by decide) ?_
      refine lv_goto (tgt := 15) hx hb dX10_isDay_11 (by decide) ?_
      rw [hQ0]
      exact W.zret (v := 1) hx hb hr (by decide) (fun t ht hW => ⟨⟨1, (), rfl, Or.inr (Or.inr (⟨rfl, c_1, c_2⟩)), ⟨by rw [ht]; exact hP, hD⟩⟩, hS.F ht⟩) hS.2.2 dX10_isDay_15
set_option maxHeartbeats 4000000 in
set_option maxRecDepth 100000 in
theorem c_X7_placeOf_n6 (l : Launch) (dC : Nat → ClassId) (dI : Nat → Nat → Nat) (ad : Nat → Nat) (tN : Nat) (fN : Nat → Int64) (cB cI cJ cZ : ClassId) (q1 : Int64) (h2 : Nat) (p3 : Int32) (p4 : Int32) (f0 : Nat → Int64) (sz : Nat) (up31 : 0 ≤ p3.toInt) (up32 : p3.toInt ≤ 30) : Met l yX7_placeOf wsX7_placeOf ({ frames := 0, cells := 0, slots := 0, locals := 0 } : Room) (va_Pc [.long q1, .ref h2, .int p3, .int p4] (fun U => U.heap.size = sz ∧ va_P (dC, dI) vwCl (List.flatten [[(h2, .inl (cJ, 6, .inr (.inl f0)))]]) U.heap ∧ va_K (dC, dI) vwCl [(cB, .byte), (cI, .int), (cJ, .long), (cZ, .boolean)] U ∧ va_D (fun _ => True) (List.flatten [[(h2, .inl (cJ, 6, .inr (.inl f0)))]]) ∧ ex_Y ad tN fN (va_A (List.flatten [[(h2, .inl (cJ, 6, .inr (.inl f0)))]]) sz) U)) (va_Qi (fun (r : Int32) (_ : Unit) => -1 ≤ r.toInt ∧ r.toInt ≤ 5) (fun (_ : Unit) (t : State) => va_P (dC, dI) vwCl (List.flatten [[(h2, .inl (cJ, 6, .inr (.inl f0)))]]) t.heap ∧ va_D (va_A (List.flatten [[(h2, .inl (cJ, 6, .inr (.inl f0)))]]) sz) (List.flatten [[(h2, .inl (cJ, 6, .inr (.inl f0)))]])) (va_A (List.flatten [[(h2, .inl (cJ, 6, .inr (.inl f0)))]]) sz)) 0 0 (va_A (List.flatten [[(h2, .inl (cJ, 6, .inr (.inl f0)))]]) sz) := by
  refine Met.ofW (cc := cX7_placeOf) (maxL := 6) (ret := (some .int)) (by decide) rfl ?_
  intro p e s m args below meth c s₁ B hml hv
  obtain ⟨rfl, hsz, hP, hK, hD0, hE⟩ := hv
  have hx := B.exec
  have hb := B.bytes
  have hr := B.returns
  have hts := atoms_spec (ws := wsX7_placeOf) B.pre
  have hown : s.vm.findClass RX7 = some m.cls := findClass_of_methodNamed B.named
  have hlocks := B.notSynchronized
  subst hsz
  have hD := hD0.self (sz := s.heap.size)
  generalize hAe : va_A (List.flatten [[(h2, .inl (cJ, 6, .inr (.inl f0)))]]) s.heap.size = A at hD hE ⊢
  have hA : ∀ q : Nat, s.heap.size ≤ q → A q := fun q h => by rw [← hAe]; exact Or.inr h
  have hS : va_S A s.heap s.heap [] := va_S.rf
  have hl := lv_entry ([.long q1, .ref h2, .int p3, .int p4]) (n := 6) (Nat.le_of_ble_eq_true rfl)
  rw [lg_entry_eq]
  generalize (lg_sl ([.long q1, .ref h2, .int p3, .int p4]) ++ List.replicate (6 - (lg_sl ([.long q1, .ref h2, .int p3, .int p4])).length) Slot.unset).toArray = ls at hl ⊢
  have hl : lv_has ls 6 [(0, .long q1), (2, .ref h2), (3, .int p3), (4, .int p4)] := hl
  clear hAe
  refine W_name (fun Q0 hQ0 => ?_)
  refine lv_iload_n hx hb dX7_placeOf_0 rfl (lv_at hl 2 rfl) ?_
  refine lv_istore (lv' := [(5, .int p3), (0, .long q1), (2, .ref h2), (3, .int p3), (4, .int p4)]) hx hb dX7_placeOf_1 hl (by decide) rfl (fun ls hl => ?_)
  have lp_35 : ∀ (n : Nat) (g_1 : Int32), 0 ≤ g_1.toInt → g_1.toInt ≤ 30 → p3.toInt - g_1.toInt ≤ 0 → (30 - g_1.toInt).toNat < n → ∀ (H : Heap) (locs : List Loc), va_P (dC, dI) vwCl (List.flatten [[(h2, .inl (cJ, 6, .inr (.inl f0)))]]) H → va_D A (List.flatten [[(h2, .inl (cJ, 6, .inr (.inl f0)))]]) → va_S A s.heap H locs → ∀ (ls : Array Slot), lv_has ls 6 [(5, .int g_1), (0, .long q1), (2, .ref h2), (3, .int p3), (4, .int p4)] → W p l e (headSpec wsX7_placeOf ({ frames := 0, cells := 0, slots := 0, locals := 0 } : Room)).room s m ([.long q1, .ref h2, .int p3, .int p4] : List Value).toArray below meth c H locs 0 0 Q0 (F0 m 3 ls []) := by
    intro n
    induction n with
    | zero => intro g_1 iv_32 iv_33 iv_34 hm; exact absurd hm (Nat.not_lt_zero _)
    | succ n ih_36 =>
      intro g_1 iv_32 iv_33 iv_34 hm H locs hP hD hS ls hl
      refine lv_iload hx hb dX7_placeOf_3 (lv_at hl 0 rfl) ?_
      refine lv_iload hx hb dX7_placeOf_5 (lv_at hl 4 rfl) ?_
      refine lv_icmp_ge (tgt := 35) hx hb dX7_placeOf_7 (by decide) (fun c_37 => ?_) (fun c_37 => ?_)
      · have c_37 : p4.toInt ≤ g_1.toInt := f_le rfl rfl c_37
        refine lv_iconst (v := (-1)) hx hb dX7_placeOf_35 (by decide) ?_
        rw [hQ0]
        exact W.iret (v := (-1)) hx hb hr (fun t ht hW => ⟨⟨(-1), (), rfl, ⟨by decide, by decide⟩, ⟨by rw [ht]; exact hP, hD⟩⟩, hS.F ht⟩) hS.2.2 dX7_placeOf_36
      · have c_37 : g_1.toInt < p4.toInt := f_nle rfl rfl c_37
        refine lv_iload hx hb dX7_placeOf_10 (lv_at hl 0 rfl) ?_
        refine lv_aload_n hx hb dX7_placeOf_12 rfl (lv_at hl 2 rfl) ?_
        refine va_alen hx hb hK hP 0 2 rfl rfl (v := 6) (show Int32.ofNat 6 = 6 by decide) dX7_placeOf_13 ?_
        refine lv_icmp_ge (tgt := 35) hx hb dX7_placeOf_14 (by decide) (fun c_38 => ?_) (fun c_38 => ?_)
        · have c_38 : 6 ≤ g_1.toInt := f_le tI_6 rfl c_38
          refine lv_iconst (v := (-1)) hx hb dX7_placeOf_35 (by decide) ?_
          rw [hQ0]
          exact W.iret (v := (-1)) hx hb hr (fun t ht hW => ⟨⟨(-1), (), rfl, ⟨by decide, by decide⟩, ⟨by rw [ht]; exact hP, hD⟩⟩, hS.F ht⟩) hS.2.2 dX7_placeOf_36
        · have c_38 : g_1.toInt < 6 := f_nle tI_6 rfl c_38
          refine lv_aload_n hx hb dX7_placeOf_17 rfl (lv_at hl 2 rfl) ?_
          refine lv_iload hx hb dX7_placeOf_18 (lv_at hl 0 rfl) ?_
          refine va_lald hx hb hK hP 0 2 rfl rfl (v_in rfl (by omega) (by omega)) dX7_placeOf_20 ?_
          refine lv_topl (fun z_39 ez_39 => ?_)
          refine lv_lload_n hx hb dX7_placeOf_21 rfl (lv_at hl 1 rfl) ?_
          refine W.lcmp hx hb dX7_placeOf_22 ?_
          refine lv_topi (fun z_40 ez_40 => ?_)
          refine lv_if_ne (tgt := 29) hx hb dX7_placeOf_23 (by decide) (fun c_41 => ?_) (fun c_41 => ?_)
          · have c_41 : ¬ z_40.toInt = 0 := f_ne rfl tI_0 c_41
            obtain ⟨z_42, ez_42⟩ : ∃ y : Int32, y = g_1 + 1 := ⟨_, rfl⟩
            have hz_42 : z_42.toInt = g_1.toInt + 1 := by rw [ez_42]; exact t_add rfl tI_1 (by omega) (by omega)
            refine lv_iinc (v := z_42) (lv' := [(5, .int z_42), (0, .long q1), (2, .ref h2), (3, .int p3), (4, .int p4)]) hx hb dX7_placeOf_29 hl (k := 0) rfl (by rw [ez_42]; rfl) (by decide) rfl (fun ls hl => ?_)
            refine lv_goto (tgt := 3) hx hb dX7_placeOf_32 (by decide) ?_
            exact ih_36 z_42 (by omega) (by omega) (by omega) (by omega) _ _ hP hD hS ls (lv_sub hl [0, 1, 2, 3, 4] rfl)
          · have c_41 : z_40.toInt = 0 := f_eq rfl tI_0 c_41
            refine lv_iload hx hb dX7_placeOf_26 (lv_at hl 0 rfl) ?_
            rw [hQ0]
            exact W.iret (v := g_1) hx hb hr (fun t ht hW => ⟨⟨g_1, (), rfl, ⟨by omega, by omega⟩, ⟨by rw [ht]; exact hP, hD⟩⟩, hS.F ht⟩) hS.2.2 dX7_placeOf_28
  exact lp_35 _ p3 (by omega) (by omega) (by omega) (Nat.lt_succ_self _) _ _ hP hD hS ls (lv_sub hl [0, 1, 2, 3, 4] rfl)
theorem iw_X7_floorCalled_X7 : ∀ w ∈ wsX70, w ∈ wsX7_floorCalled := fun _ h => List.mem_cons_of_mem _ (List.mem_append_right _ h)
set_option maxHeartbeats 4000000 in
set_option maxRecDepth 100000 in
theorem c_X7_floorCalled (l : Launch) (dC : Nat → ClassId) (dI : Nat → Nat → Nat) (ad : Nat → Nat) (tN : Nat) (fN : Nat → Int64) (cB cI cJ cZ : ClassId) (h0 : Nat) (q1 : Int64) (r0 : Nat → Nat) (fc0 : Int32) (dc0 : Int32) (rk0 : Nat → Int32) (w0 : va_W) (o0 : ok_plan ad cB cI cJ cZ h0 r0 fc0 dc0 rk0 w0) (sz : Nat) : Met l yX7_floorCalled wsX7_floorCalled ({ frames := 1, cells := 0, slots := 0, locals := 25 } : Room) (va_Pc [.ref h0, .long q1] (fun U => U.heap.size = sz ∧ va_P (dC, dI) vwCl (List.flatten [w0]) U.heap ∧ va_K (dC, dI) vwCl [(cB, .byte), (cI, .int), (cJ, .long), (cZ, .boolean)] U ∧ va_D (fun _ => True) (List.flatten [w0]) ∧ ex_Y ad tN fN (va_A (List.flatten [w0]) sz) U)) (va_Qi (fun (r : Int32) (_ : Unit) => -1 ≤ r.toInt ∧ r.toInt ≤ 5) (fun (_ : Unit) (t : State) => va_P (dC, dI) vwCl (List.flatten [w0]) t.heap ∧ va_D (va_A (List.flatten [w0]) sz) (List.flatten [w0])) (va_A (List.flatten [w0]) sz)) 0 0 (va_A (List.flatten [w0]) sz) := by
  refine Met.ofW (cc := cX7_floorCalled) (maxL := 3) (ret := (some .int)) (by decide) rfl ?_
  intro p e s m args below meth c s₁ B hml hv
  obtain ⟨rfl, hsz, hP, hK, hD0, hE⟩ := hv
  have hx := B.exec
  have hb := B.bytes
  have hr := B.returns
  have hts := atoms_spec (ws := wsX7_floorCalled) B.pre
  have hown : s.vm.findClass RX7 = some m.cls := findClass_of_methodNamed B.named
  have hlocks := B.notSynchronized
  subst hsz
  have hD := hD0.self (sz := s.heap.size)
  generalize hAe : va_A (List.flatten [w0]) s.heap.size = A at hD hE ⊢
  have hA : ∀ q : Nat, s.heap.size ≤ q → A q := fun q h => by rw [← hAe]; exact Or.inr h
  have hS : va_S A s.heap s.heap [] := va_S.rf
  have hl := lv_entry ([.ref h0, .long q1]) (n := 3) (Nat.le_of_ble_eq_true rfl)
  rw [lg_entry_eq]
  generalize (lg_sl ([.ref h0, .long q1]) ++ List.replicate (3 - (lg_sl ([.ref h0, .long q1])).length) Slot.unset).toArray = ls at hl ⊢
  have hl : lv_has ls 3 [(0, .ref h0), (1, .long q1)] := hl
  clear hAe
  refine W_name (fun Q0 hQ0 => ?_)
  refine lv_lload_n hx hb dX7_floorCalled_0 rfl (lv_at hl 1 rfl) ?_
  refine lv_aload_n hx hb dX7_floorCalled_1 rfl (lv_at hl 0 rfl) ?_
  obtain ⟨f_3, f_4, f_5, f_6, f_9, f_11, f_12, f_14, f_16, rfl, hl_1, hh_2, hl_7, hh_8, hr_10, hr_13, hr_15⟩ := o0
  refine va_get (D := (dC, dI)) (ci := 5) (v := .ref (r0 0)) (C := RX7) (T := TX7) (N := 12) hx hb hts iw_X7_floorCalled_X7 hown hK hP 0 rfl rfl 1 (by decide) (hts (.fieldLink RX7 15 "HungFloors$Plan" "floorName" "[J") (by decide +kernel)) (fun _ h9 => h9) rfl dX7_floorCalled_2 ?_
  refine lv_iconst (v := 0) hx hb dX7_floorCalled_5 (by decide) ?_
  refine lv_aload_n hx hb dX7_floorCalled_6 rfl (lv_at hl 0 rfl) ?_
  refine va_get (D := (dC, dI)) (ci := 5) (v := .int fc0) (C := RX7) (T := TX7) (N := 12) hx hb hts iw_X7_floorCalled_X7 hown hK hP 0 rfl rfl 0 (by decide) (hts (.fieldLink RX7 9 "HungFloors$Plan" "floorCount" "I") (by decide +kernel)) (fun _ h9 => h9) rfl dX7_floorCalled_7 ?_
  have hpm : List.Perm ([[(h0, .inr (5, [.int fc0, .ref (r0 0), .ref (r0 1), .ref (r0 2), .ref (r0 3), .int dc0, .ref (r0 4), .ref (r0 5), .ref (r0 6), .ref (r0 7), .ref (r0 8), .ref (r0 9)]))], [(r0 0, .inl (cJ, 6, .inr (.inl f_3)))], [(r0 1, .inl (cI, 6, .inl f_4))], [(r0 2, .inl (cI, 6, .inl f_5))], [(r0 3, .inl (cI, 6, .inl f_6))], [(r0 4, .inl (cJ, 4, .inr (.inl f_9)))], [(r0 5, .inl (cI, 4, .inl rk0))], [(r0 6, .inl (cJ, 40, .inr (.inl f_11)))], [(r0 7, .inl (cI, 40, .inl f_12))], [(r0 8, .inl (cI, 40, .inl f_14))], [(r0 9, .inl (cI, 40, .inl f_16))]] : List va_W) (([[(r0 0, .inl (cJ, 6, .inr (.inl f_3)))]] : List va_W) ++ ([[(h0, .inr (5, [.int fc0, .ref (r0 0), .ref (r0 1), .ref (r0 2), .ref (r0 3), .int dc0, .ref (r0 4), .ref (r0 5), .ref (r0 6), .ref (r0 7), .ref (r0 8), .ref (r0 9)]))], [(r0 1, .inl (cI, 6, .inl f_4))], [(r0 2, .inl (cI, 6, .inl f_5))], [(r0 3, .inl (cI, 6, .inl f_6))], [(r0 4, .inl (cJ, 4, .inr (.inl f_9)))], [(r0 5, .inl (cI, 4, .inl rk0))], [(r0 6, .inl (cJ, 40, .inr (.inl f_11)))], [(r0 7, .inl (cI, 40, .inl f_12))], [(r0 8, .inl (cI, 40, .inl f_14))], [(r0 9, .inl (cI, 40, .inl f_16))]] : List va_W)) := pm_n 11 [1, 0, 2, 3, 4, 5, 6, 7, 8, 9, 10] (by decide) rfl rfl
  have hPc := bk_P hpm hP
  have hDc := bk_D hpm hD
  have hFc := bk_F hpm hD hS hA
  refine va_calli (va_runS (As := [.long q1, .ref (r0 0), .int 0, .int fc0]) (rest := []) ⟨hx, hb, hml, hown, hts⟩ (c_X7_placeOf_n6 l dC dI ad tN fN cB cI cJ cZ q1 (r0 0) 0 fc0 _ s.heap.size (by decide) (by decide)) (va_cwS 4 hts gX7_floorCalled_X7_placeOf rfl rfl rfl (by decide +kernel) ⟨(Nat.le_of_ble_eq_true rfl), (Nat.le_of_ble_eq_true rfl)⟩) ⟨fun a U g mk q => by obtain ⟨q0, q1, qP, qK, qD, qE⟩ := q; exact ⟨q0, q1, qP, va_K.moved (u := U) (U := U.calling g mk a) (Vm.Alike.refl U.vm) qK, qD, ey_blind qE⟩, fun U hU hW => ⟨rfl, by rw [hU], by rw [hU]; exact hPc, va_K.moved hW.alike hK, hDc.weaken (fun _ _ _ _ => trivial), ey_call hE hS hFc hU hW⟩⟩ rfl rfl hl.1 rfl (lv_room (Nat.le_of_ble_eq_true rfl)) dX7_floorCalled_10 ⟨(Nat.le_of_ble_eq_true rfl), (Nat.le_of_ble_eq_true rfl)⟩) hS (fun q _ h => hFc q h) hFc (fun r_17 u t H locs ht hvm hw hB hz1 hk1 hS => ?_)
  obtain ⟨hP1, hD1⟩ := hB
  rw [ht] at hP1
  obtain ⟨hP, hD⟩ := bk_join hpm hP hD hk1 hFc (Cs1 := [[(r0 0, .inl (cJ, 6, .inr (.inl f_3)))]]) hP1 hD1
  have hpm2 : List.Perm (([[(r0 0, .inl (cJ, 6, .inr (.inl f_3)))]] : List va_W) ++ ([[(h0, .inr (5, [.int fc0, .ref (r0 0), .ref (r0 1), .ref (r0 2), .ref (r0 3), .int dc0, .ref (r0 4), .ref (r0 5), .ref (r0 6), .ref (r0 7), .ref (r0 8), .ref (r0 9)]))], [(r0 1, .inl (cI, 6, .inl f_4))], [(r0 2, .inl (cI, 6, .inl f_5))], [(r0 3, .inl (cI, 6, .inl f_6))], [(r0 4, .inl (cJ, 4, .inr (.inl f_9)))], [(r0 5, .inl (cI, 4, .inl rk0))], [(r0 6, .inl (cJ, 40, .inr (.inl f_11)))], [(r0 7, .inl (cI, 40, .inl f_12))], [(r0 8, .inl (cI, 40, .inl f_14))], [(r0 9, .inl (cI, 40, .inl f_16))]] : List va_W)) ([[(h0, .inr (5, [.int fc0, .ref (r0 0), .ref (r0 1), .ref (r0 2), .ref (r0 3), .int dc0, .ref (r0 4), .ref (r0 5), .ref (r0 6), .ref (r0 7), .ref (r0 8), .ref (r0 9)]))], [(r0 0, .inl (cJ, 6, .inr (.inl f_3)))], [(r0 1, .inl (cI, 6, .inl f_4))], [(r0 2, .inl (cI, 6, .inl f_5))], [(r0 3, .inl (cI, 6, .inl f_6))], [(r0 4, .inl (cJ, 4, .inr (.inl f_9)))], [(r0 5, .inl (cI, 4, .inl rk0))], [(r0 6, .inl (cJ, 40, .inr (.inl f_11)))], [(r0 7, .inl (cI, 40, .inl f_12))], [(r0 8, .inl (cI, 40, .inl f_14))], [(r0 9, .inl (cI, 40, .inl f_16))]] : List va_W) := pm_n 11 [1, 0, 2, 3, 4, 5, 6, 7, 8, 9, 10] (by decide) rfl rfl
  have hP := bk_reP hpm2 hP
  have hD := bk_reD hpm2 hD
  have hP : va_P (dC, dI) vwCl (List.flatten [[(h0, .inr (5, [.int fc0, .ref (r0 0), .ref (r0 1), .ref (r0 2), .ref (r0 3), .int dc0, .ref (r0 4), .ref (r0 5), .ref (r0 6), .ref (r0 7), .ref (r0 8), .ref (r0 9)])), (r0 0, .inl (cJ, 6, .inr (.inl f_3))), (r0 1, .inl (cI, 6, .inl f_4)), (r0 2, .inl (cI, 6, .inl f_5)), (r0 3, .inl (cI, 6, .inl f_6)), (r0 4, .inl (cJ, 4, .inr (.inl f_9))), (r0 5, .inl (cI, 4, .inl rk0)), (r0 6, .inl (cJ, 40, .inr (.inl f_11))), (r0 7, .inl (cI, 40, .inl f_12)), (r0 8, .inl (cI, 40, .inl f_14)), (r0 9, .inl (cI, 40, .inl f_16))]]) H := hP
  have hD : va_D A (List.flatten [[(h0, .inr (5, [.int fc0, .ref (r0 0), .ref (r0 1), .ref (r0 2), .ref (r0 3), .int dc0, .ref (r0 4), .ref (r0 5), .ref (r0 6), .ref (r0 7), .ref (r0 8), .ref (r0 9)])), (r0 0, .inl (cJ, 6, .inr (.inl f_3))), (r0 1, .inl (cI, 6, .inl f_4)), (r0 2, .inl (cI, 6, .inl f_5)), (r0 3, .inl (cI, 6, .inl f_6)), (r0 4, .inl (cJ, 4, .inr (.inl f_9))), (r0 5, .inl (cI, 4, .inl rk0)), (r0 6, .inl (cJ, 40, .inr (.inl f_11))), (r0 7, .inl (cI, 40, .inl f_12)), (r0 8, .inl (cI, 40, .inl f_14)), (r0 9, .inl (cI, 40, .inl f_16))]]) := hD
  obtain ⟨hlr_17, hhr_17⟩ := hw
  rw [hQ0]
  exact W.iret (v := r_17) hx hb hr (fun t ht hW => ⟨⟨r_17, (), rfl, ⟨by omega, by omega⟩, ⟨by rw [ht]; exact hP, hD⟩⟩, hS.F ht⟩) hS.2.2 dX7_floorCalled_13
set_option maxHeartbeats 4000000 in
set_option maxRecDepth 100000 in
theorem c_X7_placeOf_n4 (l : Launch) (dC : Nat → ClassId) (dI : Nat → Nat → Nat) (ad : Nat → Nat) (tN : Nat) (fN : Nat → Int64) (cB cI cJ cZ : ClassId) (q1 : Int64) (h2 : Nat) (p3 : Int32) (p4 : Int32) (f0 : Nat → Int64) (sz : Nat) (up31 : 0 ≤ p3.toInt) (up32 : p3.toInt ≤ 30) : Met l yX7_placeOf wsX7_placeOf ({ frames := 0, cells := 0, slots := 0, locals := 0 } : Room) (va_Pc [.long q1, .ref h2, .int p3, .int p4] (fun U => U.heap.size = sz ∧ va_P (dC, dI) vwCl (List.flatten [[(h2, .inl (cJ, 4, .inr (.inl f0)))]]) U.heap ∧ va_K (dC, dI) vwCl [(cB, .byte), (cI, .int), (cJ, .long), (cZ, .boolean)] U ∧ va_D (fun _ => True) (List.flatten [[(h2, .inl (cJ, 4, .inr (.inl f0)))]]) ∧ ex_Y ad tN fN (va_A (List.flatten [[(h2, .inl (cJ, 4, .inr (.inl f0)))]]) sz) U)) (va_Qi (fun (r : Int32) (_ : Unit) => -1 ≤ r.toInt ∧ r.toInt ≤ 3) (fun (_ : Unit) (t : State) => va_P (dC, dI) vwCl (List.flatten [[(h2, .inl (cJ, 4, .inr (.inl f0)))]]) t.heap ∧ va_D (va_A (List.flatten [[(h2, .inl (cJ, 4, .inr (.inl f0)))]]) sz) (List.flatten [[(h2, .inl (cJ, 4, .inr (.inl f0)))]])) (va_A (List.flatten [[(h2, .inl (cJ, 4, .inr (.inl f0)))]]) sz)) 0 0 (va_A (List.flatten [[(h2, .inl (cJ, 4, .inr (.inl f0)))]]) sz) := by
  refine Met.ofW (cc := cX7_placeOf) (maxL := 6) (ret := (some .int)) (by decide) rfl ?_
  intro p e s m args below meth c s₁ B hml hv
  obtain ⟨rfl, hsz, hP, hK, hD0, hE⟩ := hv
  have hx := B.exec
  have hb := B.bytes
  have hr := B.returns
  have hts := atoms_spec (ws := wsX7_placeOf) B.pre
  have hown : s.vm.findClass RX7 = some m.cls := findClass_of_methodNamed B.named
  have hlocks := B.notSynchronized
  subst hsz
  have hD := hD0.self (sz := s.heap.size)
  generalize hAe : va_A (List.flatten [[(h2, .inl (cJ, 4, .inr (.inl f0)))]]) s.heap.size = A at hD hE ⊢
  have hA : ∀ q : Nat, s.heap.size ≤ q → A q := fun q h => by rw [← hAe]; exact Or.inr h
  have hS : va_S A s.heap s.heap [] := va_S.rf
  have hl := lv_entry ([.long q1, .ref h2, .int p3, .int p4]) (n := 6) (Nat.le_of_ble_eq_true rfl)
  rw [lg_entry_eq]
  generalize (lg_sl ([.long q1, .ref h2, .int p3, .int p4]) ++ List.replicate (6 - (lg_sl ([.long q1, .ref h2, .int p3, .int p4])).length) Slot.unset).toArray = ls at hl ⊢
  have hl : lv_has ls 6 [(0, .long q1), (2, .ref h2), (3, .int p3), (4, .int p4)] := hl
  clear hAe
  refine W_name (fun Q0 hQ0 => ?_)
  refine lv_iload_n hx hb dX7_placeOf_0 rfl (lv_at hl 2 rfl) ?_
  refine lv_istore (lv' := [(5, .int p3), (0, .long q1), (2, .ref h2), (3, .int p3), (4, .int p4)]) hx hb dX7_placeOf_1 hl (by decide) rfl (fun ls hl => ?_)
  have lp_35 : ∀ (n : Nat) (g_1 : Int32), 0 ≤ g_1.toInt → g_1.toInt ≤ 30 → p3.toInt - g_1.toInt ≤ 0 → (30 - g_1.toInt).toNat < n → ∀ (H : Heap) (locs : List Loc), va_P (dC, dI) vwCl (List.flatten [[(h2, .inl (cJ, 4, .inr (.inl f0)))]]) H → va_D A (List.flatten [[(h2, .inl (cJ, 4, .inr (.inl f0)))]]) → va_S A s.heap H locs → ∀ (ls : Array Slot), lv_has ls 6 [(5, .int g_1), (0, .long q1), (2, .ref h2), (3, .int p3), (4, .int p4)] → W p l e (headSpec wsX7_placeOf ({ frames := 0, cells := 0, slots := 0, locals := 0 } : Room)).room s m ([.long q1, .ref h2, .int p3, .int p4] : List Value).toArray below meth c H locs 0 0 Q0 (F0 m 3 ls []) := by
    intro n
    induction n with
    | zero => intro g_1 iv_32 iv_33 iv_34 hm; exact absurd hm (Nat.not_lt_zero _)
    | succ n ih_36 =>
      intro g_1 iv_32 iv_33 iv_34 hm H locs hP hD hS ls hl
      refine lv_iload hx hb dX7_placeOf_3 (lv_at hl 0 rfl) ?_
      refine lv_iload hx hb dX7_placeOf_5 (lv_at hl 4 rfl) ?_
      refine lv_icmp_ge (tgt := 35) hx hb dX7_placeOf_7 (by decide) (fun c_37 => ?_) (fun c_37 => ?_)
      · have c_37 : p4.toInt ≤ g_1.toInt := f_le rfl rfl c_37
        refine lv_iconst (v := (-1)) hx hb dX7_placeOf_35 (by decide) ?_
        rw [hQ0]
        exact W.iret (v := (-1)) hx hb hr (fun t ht hW => ⟨⟨(-1), (), rfl, ⟨by decide, by decide⟩, ⟨by rw [ht]; exact hP, hD⟩⟩, hS.F ht⟩) hS.2.2 dX7_placeOf_36
      · have c_37 : g_1.toInt < p4.toInt := f_nle rfl rfl c_37
        refine lv_iload hx hb dX7_placeOf_10 (lv_at hl 0 rfl) ?_
        refine lv_aload_n hx hb dX7_placeOf_12 rfl (lv_at hl 2 rfl) ?_
        refine va_alen hx hb hK hP 0 2 rfl rfl (v := 4) (show Int32.ofNat 4 = 4 by decide) dX7_placeOf_13 ?_
        refine lv_icmp_ge (tgt := 35) hx hb dX7_placeOf_14 (by decide) (fun c_38 => ?_) (fun c_38 => ?_)
        · have c_38 : 4 ≤ g_1.toInt := f_le tI_4 rfl c_38
          refine lv_iconst (v := (-1)) hx hb dX7_placeOf_35 (by decide) ?_
          rw [hQ0]
          exact W.iret (v := (-1)) hx hb hr (fun t ht hW => ⟨⟨(-1), (), rfl, ⟨by decide, by decide⟩, ⟨by rw [ht]; exact hP, hD⟩⟩, hS.F ht⟩) hS.2.2 dX7_placeOf_36
        · have c_38 : g_1.toInt < 4 := f_nle tI_4 rfl c_38
          refine lv_aload_n hx hb dX7_placeOf_17 rfl (lv_at hl 2 rfl) ?_
          refine lv_iload hx hb dX7_placeOf_18 (lv_at hl 0 rfl) ?_
          refine va_lald hx hb hK hP 0 2 rfl rfl (v_in rfl (by omega) (by omega)) dX7_placeOf_20 ?_
          refine lv_topl (fun z_39 ez_39 => ?_)
          refine lv_lload_n hx hb dX7_placeOf_21 rfl (lv_at hl 1 rfl) ?_
          refine W.lcmp hx hb dX7_placeOf_22 ?_
          refine lv_topi (fun z_40 ez_40 => ?_)
          refine lv_if_ne (tgt := 29) hx hb dX7_placeOf_23 (by decide) (fun c_41 => ?_) (fun c_41 => ?_)
          · have c_41 : ¬ z_40.toInt = 0 := f_ne rfl tI_0 c_41
            obtain ⟨z_42, ez_42⟩ : ∃ y : Int32, y = g_1 + 1 := ⟨_, rfl⟩
            have hz_42 : z_42.toInt = g_1.toInt + 1 := by rw [ez_42]; exact t_add rfl tI_1 (by omega) (by omega)
            refine lv_iinc (v := z_42) (lv' := [(5, .int z_42), (0, .long q1), (2, .ref h2), (3, .int p3), (4, .int p4)]) hx hb dX7_placeOf_29 hl (k := 0) rfl (by rw [ez_42]; rfl) (by decide) rfl (fun ls hl => ?_)
            refine lv_goto (tgt := 3) hx hb dX7_placeOf_32 (by decide) ?_
            exact ih_36 z_42 (by omega) (by omega) (by omega) (by omega) _ _ hP hD hS ls (lv_sub hl [0, 1, 2, 3, 4] rfl)
          · have c_41 : z_40.toInt = 0 := f_eq rfl tI_0 c_41
            refine lv_iload hx hb dX7_placeOf_26 (lv_at hl 0 rfl) ?_
            rw [hQ0]
            exact W.iret (v := g_1) hx hb hr (fun t ht hW => ⟨⟨g_1, (), rfl, ⟨by omega, by omega⟩, ⟨by rw [ht]; exact hP, hD⟩⟩, hS.F ht⟩) hS.2.2 dX7_placeOf_28
  exact lp_35 _ p3 (by omega) (by omega) (by omega) (Nat.lt_succ_self _) _ _ hP hD hS ls (lv_sub hl [0, 1, 2, 3, 4] rfl)
theorem iw_X7_drawingCalled_X7 : ∀ w ∈ wsX70, w ∈ wsX7_drawingCalled := fun _ h => List.mem_cons_of_mem _ (List.mem_append_right _ h)
set_option maxHeartbeats 4000000 in
set_option maxRecDepth 100000 in
theorem c_X7_drawingCalled (l : Launch) (dC : Nat → ClassId) (dI : Nat → Nat → Nat) (ad : Nat → Nat) (tN : Nat) (fN : Nat → Int64) (cB cI cJ cZ : ClassId) (h0 : Nat) (q1 : Int64) (r0 : Nat → Nat) (fc0 : Int32) (dc0 : Int32) (rk0 : Nat → Int32) (w0 : va_W) (o0 : ok_plan ad cB cI cJ cZ h0 r0 fc0 dc0 rk0 w0) (sz : Nat) : Met l yX7_drawingCalled wsX7_drawingCalled ({ frames := 1, cells := 0, slots := 0, locals := 25 } : Room) (va_Pc [.ref h0, .long q1] (fun U => U.heap.size = sz ∧ va_P (dC, dI) vwCl (List.flatten [w0]) U.heap ∧ va_K (dC, dI) vwCl [(cB, .byte), (cI, .int), (cJ, .long), (cZ, .boolean)] U ∧ va_D (fun _ => True) (List.flatten [w0]) ∧ ex_Y ad tN fN (va_A (List.flatten [w0]) sz) U)) (va_Qi (fun (r : Int32) (_ : Unit) => -1 ≤ r.toInt ∧ r.toInt ≤ 3) (fun (_ : Unit) (t : State) => va_P (dC, dI) vwCl (List.flatten [w0]) t.heap ∧ va_D (va_A (List.flatten [w0]) sz) (List.flatten [w0])) (va_A (List.flatten [w0]) sz)) 0 0 (va_A (List.flatten [w0]) sz) := by
  refine Met.ofW (cc := cX7_drawingCalled) (maxL := 3) (ret := (some .int)) (by decide) rfl ?_
  intro p e s m args below meth c s₁ B hml hv
  obtain ⟨rfl, hsz, hP, hK, hD0, hE⟩ := hv
  have hx := B.exec
  have hb := B.bytes
  have hr := B.returns
  have hts := atoms_spec (ws := wsX7_drawingCalled) B.pre
  have hown : s.vm.findClass RX7 = some m.cls := findClass_of_methodNamed B.named
  have hlocks := B.notSynchronized
  subst hsz
  have hD := hD0.self (sz := s.heap.size)
  generalize hAe : va_A (List.flatten [w0]) s.heap.size = A at hD hE ⊢
  have hA : ∀ q : Nat, s.heap.size ≤ q → A q := fun q h => by rw [← hAe]; exact Or.inr h
  have hS : va_S A s.heap s.heap [] := va_S.rf
  have hl := lv_entry ([.ref h0, .long q1]) (n := 3) (Nat.le_of_ble_eq_true rfl)
  rw [lg_entry_eq]
  generalize (lg_sl ([.ref h0, .long q1]) ++ List.replicate (3 - (lg_sl ([.ref h0, .long q1])).length) Slot.unset).toArray = ls at hl ⊢
  have hl : lv_has ls 3 [(0, .ref h0), (1, .long q1)] := hl
  clear hAe
  refine W_name (fun Q0 hQ0 => ?_)
  refine lv_lload_n hx hb dX7_drawingCalled_0 rfl (lv_at hl 1 rfl) ?_
  refine lv_aload_n hx hb dX7_drawingCalled_1 rfl (lv_at hl 0 rfl) ?_
  obtain ⟨f_3, f_4, f_5, f_6, f_9, f_11, f_12, f_14, f_16, rfl, hl_1, hh_2, hl_7, hh_8, hr_10, hr_13, hr_15⟩ := o0
  refine va_get (D := (dC, dI)) (ci := 5) (v := .ref (r0 4)) (C := RX7) (T := TX7) (N := 12) hx hb hts iw_X7_drawingCalled_X7 hown hK hP 0 rfl rfl 6 (by decide) (hts (.fieldLink RX7 32 "HungFloors$Plan" "drawingName" "[J") (by decide +kernel)) (fun _ h9 => h9) rfl dX7_drawingCalled_2 ?_
  refine lv_iconst (v := 0) hx hb dX7_drawingCalled_5 (by decide) ?_
  refine lv_aload_n hx hb dX7_drawingCalled_6 rfl (lv_at hl 0 rfl) ?_
  refine va_get (D := (dC, dI)) (ci := 5) (v := .int dc0) (C := RX7) (T := TX7) (N := 12) hx hb hts iw_X7_drawingCalled_X7 hown hK hP 0 rfl rfl 5 (by decide) (hts (.fieldLink RX7 29 "HungFloors$Plan" "drawingCount" "I") (by decide +kernel)) (fun _ h9 => h9) rfl dX7_drawingCalled_7 ?_
  have hpm : List.Perm ([[(h0, .inr (5, [.int fc0, .ref (r0 0), .ref (r0 1), .ref (r0 2), .ref (r0 3), .int dc0, .ref (r0 4), .ref (r0 5), .ref (r0 6), .ref (r0 7), .ref (r0 8), .ref (r0 9)]))], [(r0 0, .inl (cJ, 6, .inr (.inl f_3)))], [(r0 1, .inl (cI, 6, .inl f_4))], [(r0 2, .inl (cI, 6, .inl f_5))], [(r0 3, .inl (cI, 6, .inl f_6))], [(r0 4, .inl (cJ, 4, .inr (.inl f_9)))], [(r0 5, .inl (cI, 4, .inl rk0))], [(r0 6, .inl (cJ, 40, .inr (.inl f_11)))], [(r0 7, .inl (cI, 40, .inl f_12))], [(r0 8, .inl (cI, 40, .inl f_14))], [(r0 9, .inl (cI, 40, .inl f_16))]] : List va_W) (([[(r0 4, .inl (cJ, 4, .inr (.inl f_9)))]] : List va_W) ++ ([[(h0, .inr (5, [.int fc0, .ref (r0 0), .ref (r0 1), .ref (r0 2), .ref (r0 3), .int dc0, .ref (r0 4), .ref (r0 5), .ref (r0 6), .ref (r0 7), .ref (r0 8), .ref (r0 9)]))], [(r0 0, .inl (cJ, 6, .inr (.inl f_3)))], [(r0 1, .inl (cI, 6, .inl f_4))], [(r0 2, .inl (cI, 6, .inl f_5))], [(r0 3, .inl (cI, 6, .inl f_6))], [(r0 5, .inl (cI, 4, .inl rk0))], [(r0 6, .inl (cJ, 40, .inr (.inl f_11)))], [(r0 7, .inl (cI, 40, .inl f_12))], [(r0 8, .inl (cI, 40, .inl f_14))], [(r0 9, .inl (cI, 40, .inl f_16))]] : List va_W)) := pm_n 11 [5, 0, 1, 2, 3, 4, 6, 7, 8, 9, 10] (by decide) rfl rfl
  have hPc := bk_P hpm hP
  have hDc := bk_D hpm hD
  have hFc := bk_F hpm hD hS hA
  refine va_calli (va_runS (As := [.long q1, .ref (r0 4), .int 0, .int dc0]) (rest := []) ⟨hx, hb, hml, hown, hts⟩ (c_X7_placeOf_n4 l dC dI ad tN fN cB cI cJ cZ q1 (r0 4) 0 dc0 _ s.heap.size (by decide) (by decide)) (va_cwS 4 hts gX7_drawingCalled_X7_placeOf rfl rfl rfl (by decide +kernel) ⟨(Nat.le_of_ble_eq_true rfl), (Nat.le_of_ble_eq_true rfl)⟩) ⟨fun a U g mk q => by obtain ⟨q0, q1, qP, qK, qD, qE⟩ := q; exact ⟨q0, q1, qP, va_K.moved (u := U) (U := U.calling g mk a) (Vm.Alike.refl U.vm) qK, qD, ey_blind qE⟩, fun U hU hW => ⟨rfl, by rw [hU], by rw [hU]; exact hPc, va_K.moved hW.alike hK, hDc.weaken (fun _ _ _ _ => trivial), ey_call hE hS hFc hU hW⟩⟩ rfl rfl hl.1 rfl (lv_room (Nat.le_of_ble_eq_true rfl)) dX7_drawingCalled_10 ⟨(Nat.le_of_ble_eq_true rfl), (Nat.le_of_ble_eq_true rfl)⟩) hS (fun q _ h => hFc q h) hFc (fun r_17 u t H locs ht hvm hw hB hz1 hk1 hS => ?_)
  obtain ⟨hP1, hD1⟩ := hB
  rw [ht] at hP1
  obtain ⟨hP, hD⟩ := bk_join hpm hP hD hk1 hFc (Cs1 := [[(r0 4, .inl (cJ, 4, .inr (.inl f_9)))]]) hP1 hD1
  have hpm2 : List.Perm (([[(r0 4, .inl (cJ, 4, .inr (.inl f_9)))]] : List va_W) ++ ([[(h0, .inr (5, [.int fc0, .ref (r0 0), .ref (r0 1), .ref (r0 2), .ref (r0 3), .int dc0, .ref (r0 4), .ref (r0 5), .ref (r0 6), .ref (r0 7), .ref (r0 8), .ref (r0 9)]))], [(r0 0, .inl (cJ, 6, .inr (.inl f_3)))], [(r0 1, .inl (cI, 6, .inl f_4))], [(r0 2, .inl (cI, 6, .inl f_5))], [(r0 3, .inl (cI, 6, .inl f_6))], [(r0 5, .inl (cI, 4, .inl rk0))], [(r0 6, .inl (cJ, 40, .inr (.inl f_11)))], [(r0 7, .inl (cI, 40, .inl f_12))], [(r0 8, .inl (cI, 40, .inl f_14))], [(r0 9, .inl (cI, 40, .inl f_16))]] : List va_W)) ([[(h0, .inr (5, [.int fc0, .ref (r0 0), .ref (r0 1), .ref (r0 2), .ref (r0 3), .int dc0, .ref (r0 4), .ref (r0 5), .ref (r0 6), .ref (r0 7), .ref (r0 8), .ref (r0 9)]))], [(r0 0, .inl (cJ, 6, .inr (.inl f_3)))], [(r0 1, .inl (cI, 6, .inl f_4))], [(r0 2, .inl (cI, 6, .inl f_5))], [(r0 3, .inl (cI, 6, .inl f_6))], [(r0 4, .inl (cJ, 4, .inr (.inl f_9)))], [(r0 5, .inl (cI, 4, .inl rk0))], [(r0 6, .inl (cJ, 40, .inr (.inl f_11)))], [(r0 7, .inl (cI, 40, .inl f_12))], [(r0 8, .inl (cI, 40, .inl f_14))], [(r0 9, .inl (cI, 40, .inl f_16))]] : List va_W) := pm_n 11 [1, 2, 3, 4, 5, 0, 6, 7, 8, 9, 10] (by decide) rfl rfl
  have hP := bk_reP hpm2 hP
  have hD := bk_reD hpm2 hD
  have hP : va_P (dC, dI) vwCl (List.flatten [[(h0, .inr (5, [.int fc0, .ref (r0 0), .ref (r0 1), .ref (r0 2), .ref (r0 3), .int dc0, .ref (r0 4), .ref (r0 5), .ref (r0 6), .ref (r0 7), .ref (r0 8), .ref (r0 9)])), (r0 0, .inl (cJ, 6, .inr (.inl f_3))), (r0 1, .inl (cI, 6, .inl f_4)), (r0 2, .inl (cI, 6, .inl f_5)), (r0 3, .inl (cI, 6, .inl f_6)), (r0 4, .inl (cJ, 4, .inr (.inl f_9))), (r0 5, .inl (cI, 4, .inl rk0)), (r0 6, .inl (cJ, 40, .inr (.inl f_11))), (r0 7, .inl (cI, 40, .inl f_12)), (r0 8, .inl (cI, 40, .inl f_14)), (r0 9, .inl (cI, 40, .inl f_16))]]) H := hP
  have hD : va_D A (List.flatten [[(h0, .inr (5, [.int fc0, .ref (r0 0), .ref (r0 1), .ref (r0 2), .ref (r0 3), .int dc0, .ref (r0 4), .ref (r0 5), .ref (r0 6), .ref (r0 7), .ref (r0 8), .ref (r0 9)])), (r0 0, .inl (cJ, 6, .inr (.inl f_3))), (r0 1, .inl (cI, 6, .inl f_4)), (r0 2, .inl (cI, 6, .inl f_5)), (r0 3, .inl (cI, 6, .inl f_6)), (r0 4, .inl (cJ, 4, .inr (.inl f_9))), (r0 5, .inl (cI, 4, .inl rk0)), (r0 6, .inl (cJ, 40, .inr (.inl f_11))), (r0 7, .inl (cI, 40, .inl f_12)), (r0 8, .inl (cI, 40, .inl f_14)), (r0 9, .inl (cI, 40, .inl f_16))]]) := hD
  obtain ⟨hlr_17, hhr_17⟩ := hw
  rw [hQ0]
  exact W.iret (v := r_17) hx hb hr (fun t ht hW => ⟨⟨r_17, (), rfl, ⟨by omega, by omega⟩, ⟨by rw [ht]; exact hP, hD⟩⟩, hS.F ht⟩) hS.2.2 dX7_drawingCalled_13
theorem iw_X7_addFloor_X7 : ∀ w ∈ wsX70, w ∈ wsX7_addFloor := fun _ h => List.mem_cons_of_mem _ (List.mem_append_right _ h)
set_option maxHeartbeats 4000000 in
set_option maxRecDepth 100000 in
theorem c_X7_addFloor (l : Launch) (dC : Nat → ClassId) (dI : Nat → Nat → Nat) (ad : Nat → Nat) (tN : Nat) (fN : Nat → Int64) (cB cI cJ cZ : ClassId) (h0 : Nat) (q1 : Int64) (p2 : Int32) (p3 : Int32) (p4 : Int32) (r0 : Nat → Nat) (fc0 : Int32) (dc0 : Int32) (rk0 : Nat → Int32) (w0 : va_W) (o0 : ok_plan ad cB cI cJ cZ h0 r0 fc0 dc0 rk0 w0) (sz : Nat) : Met l yX7_addFloor wsX7_addFloor ({ frames := 1, cells := 0, slots := 0, locals := 20 } : Room) (va_Pc [.ref h0, .long q1, .int p2, .int p3, .int p4] (fun U => U.heap.size = sz ∧ va_P (dC, dI) vwCl (List.flatten [w0]) U.heap ∧ va_K (dC, dI) vwCl [(cB, .byte), (cI, .int), (cJ, .long), (cZ, .boolean)] U ∧ va_D (fun _ => True) (List.flatten [w0]) ∧ ex_Y ad tN fN (va_A (List.flatten [w0]) sz) U)) (va_Qv (fun _ : Unit => True) (fun (_ : Unit) (t : State) => ∃ (fc09 : Int32) (w09 : va_W), ok_plan ad cB cI cJ cZ h0 r0 fc09 dc0 rk0 w09 ∧ va_P (dC, dI) vwCl (List.flatten [w09]) t.heap ∧ va_D (va_A (List.flatten [w0]) sz) (List.flatten [w09])) (va_A (List.flatten [w0]) sz)) 0 0 (va_A (List.flatten [w0]) sz) := by
  refine Met.ofW (cc := cX7_addFloor) (maxL := 6) (ret := none) (by decide) rfl ?_
  intro p e s m args below meth c s₁ B hml hv
  obtain ⟨rfl, hsz, hP, hK, hD0, hE⟩ := hv
  have hx := B.exec
  have hb := B.bytes
  have hr := B.returns
  have hts := atoms_spec (ws := wsX7_addFloor) B.pre
  have hown : s.vm.findClass RX7 = some m.cls := findClass_of_methodNamed B.named
  have hlocks := B.notSynchronized
  subst hsz
  have hD := hD0.self (sz := s.heap.size)
  generalize hAe : va_A (List.flatten [w0]) s.heap.size = A at hD hE ⊢
  have hA : ∀ q : Nat, s.heap.size ≤ q → A q := fun q h => by rw [← hAe]; exact Or.inr h
  have hS : va_S A s.heap s.heap [] := va_S.rf
  have hl := lv_entry ([.ref h0, .long q1, .int p2, .int p3, .int p4]) (n := 6) (Nat.le_of_ble_eq_true rfl)
  rw [lg_entry_eq]
  generalize (lg_sl ([.ref h0, .long q1, .int p2, .int p3, .int p4]) ++ List.replicate (6 - (lg_sl ([.ref h0, .long q1, .int p2, .int p3, .int p4])).length) Slot.unset).toArray = ls at hl ⊢
  have hl : lv_has ls 6 [(0, .ref h0), (1, .long q1), (3, .int p2), (4, .int p3), (5, .int p4)] := hl
  clear hAe
  refine W_name (fun Q0 hQ0 => ?_)
  refine lv_aload_n hx hb dX7_addFloor_0 rfl (lv_at hl 0 rfl) ?_
  obtain ⟨f_3, f_4, f_5, f_6, f_9, f_11, f_12, f_14, f_16, rfl, hl_1, hh_2, hl_7, hh_8, hr_10, hr_13, hr_15⟩ := o0
  have hpm : List.Perm ([[(h0, .inr (5, [.int fc0, .ref (r0 0), .ref (r0 1), .ref (r0 2), .ref (r0 3), .int dc0, .ref (r0 4), .ref (r0 5), .ref (r0 6), .ref (r0 7), .ref (r0 8), .ref (r0 9)])), (r0 0, .inl (cJ, 6, .inr (.inl f_3))), (r0 1, .inl (cI, 6, .inl f_4)), (r0 2, .inl (cI, 6, .inl f_5)), (r0 3, .inl (cI, 6, .inl f_6)), (r0 4, .inl (cJ, 4, .inr (.inl f_9))), (r0 5, .inl (cI, 4, .inl rk0)), (r0 6, .inl (cJ, 40, .inr (.inl f_11))), (r0 7, .inl (cI, 40, .inl f_12)), (r0 8, .inl (cI, 40, .inl f_14)), (r0 9, .inl (cI, 40, .inl f_16))]] : List va_W) (([[(h0, .inr (5, [.int fc0, .ref (r0 0), .ref (r0 1), .ref (r0 2), .ref (r0 3), .int dc0, .ref (r0 4), .ref (r0 5), .ref (r0 6), .ref (r0 7), .ref (r0 8), .ref (r0 9)])), (r0 0, .inl (cJ, 6, .inr (.inl f_3))), (r0 1, .inl (cI, 6, .inl f_4)), (r0 2, .inl (cI, 6, .inl f_5)), (r0 3, .inl (cI, 6, .inl f_6)), (r0 4, .inl (cJ, 4, .inr (.inl f_9))), (r0 5, .inl (cI, 4, .inl rk0)), (r0 6, .inl (cJ, 40, .inr (.inl f_11))), (r0 7, .inl (cI, 40, .inl f_12)), (r0 8, .inl (cI, 40, .inl f_14)), (r0 9, .inl (cI, 40, .inl f_16))]] : List va_W) ++ ([] : List va_W)) := pm_n 1 [0] (by decide) rfl rfl
  have hPc := bk_P hpm hP
  have hDc := bk_D hpm hD
  have hFc := bk_F hpm hD hS hA
  refine va_calli (va_runV (As := []) (rest := []) ⟨hx, hb, hml, hown, hts⟩ (c_X7_takesFloor l dC dI ad tN fN cB cI cJ cZ h0 r0 fc0 dc0 rk0 _ ⟨f_3, f_4, f_5, f_6, f_9, f_11, f_12, f_14, f_16, rfl, by omega, by omega, by omega, by omega, hr_10, hr_13, hr_15⟩ s.heap.size) (cwV 0 hts gX7_addFloor_X7_takesFloor rfl rfl rfl (by decide +kernel) ⟨(Nat.le_of_ble_eq_true rfl), (Nat.le_of_ble_eq_true rfl)⟩) ⟨fun a U g mk q => by obtain ⟨q0, q1, qP, qK, qD, qE⟩ := q; exact ⟨q0, q1, qP, va_K.moved (u := U) (U := U.calling g mk a) (Vm.Alike.refl U.vm) qK, qD, ey_blind qE⟩, va_recv hK hPc (ci := 5) (q0 := 0) rfl rfl, fun U hU hW => ⟨rfl, by rw [hU], by rw [hU]; exact hPc, va_K.moved hW.alike hK, hDc.weaken (fun _ _ _ _ => trivial), ey_call hE hS hFc hU hW⟩⟩ rfl rfl hl.1 rfl (lv_room (Nat.le_of_ble_eq_true rfl)) dX7_addFloor_1 ⟨(Nat.le_of_ble_eq_true rfl), (Nat.le_of_ble_eq_true rfl)⟩) hS (fun q _ h => hFc q h) hFc (fun r_17 u t H locs ht hvm hw hB hz1 hk1 hS => ?_)
  obtain ⟨hP1, hD1⟩ := hB
  rw [ht] at hP1
  obtain ⟨hP, hD⟩ := bk_join hpm hP hD hk1 hFc (Cs1 := [[(h0, .inr (5, [.int fc0, .ref (r0 0), .ref (r0 1), .ref (r0 2), .ref (r0 3), .int dc0, .ref (r0 4), .ref (r0 5), .ref (r0 6), .ref (r0 7), .ref (r0 8), .ref (r0 9)])), (r0 0, .inl (cJ, 6, .inr (.inl f_3))), (r0 1, .inl (cI, 6, .inl f_4)), (r0 2, .inl (cI, 6, .inl f_5)), (r0 3, .inl (cI, 6, .inl f_6)), (r0 4, .inl (cJ, 4, .inr (.inl f_9))), (r0 5, .inl (cI, 4, .inl rk0)), (r0 6, .inl (cJ, 40, .inr (.inl f_11))), (r0 7, .inl (cI, 40, .inl f_12)), (r0 8, .inl (cI, 40, .inl f_14)), (r0 9, .inl (cI, 40, .inl f_16))]]) hP1 hD1
  have hpm2 : List.Perm (([[(h0, .inr (5, [.int fc0, .ref (r0 0), .ref (r0 1), .ref (r0 2), .ref (r0 3), .int dc0, .ref (r0 4), .ref (r0 5), .ref (r0 6), .ref (r0 7), .ref (r0 8), .ref (r0 9)])), (r0 0, .inl (cJ, 6, .inr (.inl f_3))), (r0 1, .inl (cI, 6, .inl f_4)), (r0 2, .inl (cI, 6, .inl f_5)), (r0 3, .inl (cI, 6, .inl f_6)), (r0 4, .inl (cJ, 4, .inr (.inl f_9))), (r0 5, .inl (cI, 4, .inl rk0)), (r0 6, .inl (cJ, 40, .inr (.inl f_11))), (r0 7, .inl (cI, 40, .inl f_12)), (r0 8, .inl (cI, 40, .inl f_14)), (r0 9, .inl (cI, 40, .inl f_16))]] : List va_W) ++ ([] : List va_W)) ([[(h0, .inr (5, [.int fc0, .ref (r0 0), .ref (r0 1), .ref (r0 2), .ref (r0 3), .int dc0, .ref (r0 4), .ref (r0 5), .ref (r0 6), .ref (r0 7), .ref (r0 8), .ref (r0 9)])), (r0 0, .inl (cJ, 6, .inr (.inl f_3))), (r0 1, .inl (cI, 6, .inl f_4)), (r0 2, .inl (cI, 6, .inl f_5)), (r0 3, .inl (cI, 6, .inl f_6)), (r0 4, .inl (cJ, 4, .inr (.inl f_9))), (r0 5, .inl (cI, 4, .inl rk0)), (r0 6, .inl (cJ, 40, .inr (.inl f_11))), (r0 7, .inl (cI, 40, .inl f_12)), (r0 8, .inl (cI, 40, .inl f_14)), (r0 9, .inl (cI, 40, .inl f_16))]] : List va_W) := pm_n 1 [0] (by decide) rfl rfl
  have hP := bk_reP hpm2 hP
  have hD := bk_reD hpm2 hD
  have hP : va_P (dC, dI) vwCl (List.flatten [[(h0, .inr (5, [.int fc0, .ref (r0 0), .ref (r0 1), .ref (r0 2), .ref (r0 3), .int dc0, .ref (r0 4), .ref (r0 5), .ref (r0 6), .ref (r0 7), .ref (r0 8), .ref (r0 9)])), (r0 0, .inl (cJ, 6, .inr (.inl f_3))), (r0 1, .inl (cI, 6, .inl f_4)), (r0 2, .inl (cI, 6, .inl f_5)), (r0 3, .inl (cI, 6, .inl f_6)), (r0 4, .inl (cJ, 4, .inr (.inl f_9))), (r0 5, .inl (cI, 4, .inl rk0)), (r0 6, .inl (cJ, 40, .inr (.inl f_11))), (r0 7, .inl (cI, 40, .inl f_12)), (r0 8, .inl (cI, 40, .inl f_14)), (r0 9, .inl (cI, 40, .inl f_16))]]) H := hP
  have hD : va_D A (List.flatten [[(h0, .inr (5, [.int fc0, .ref (r0 0), .ref (r0 1), .ref (r0 2), .ref (r0 3), .int dc0, .ref (r0 4), .ref (r0 5), .ref (r0 6), .ref (r0 7), .ref (r0 8), .ref (r0 9)])), (r0 0, .inl (cJ, 6, .inr (.inl f_3))), (r0 1, .inl (cI, 6, .inl f_4)), (r0 2, .inl (cI, 6, .inl f_5)), (r0 3, .inl (cI, 6, .inl f_6)), (r0 4, .inl (cJ, 4, .inr (.inl f_9))), (r0 5, .inl (cI, 4, .inl rk0)), (r0 6, .inl (cJ, 40, .inr (.inl f_11))), (r0 7, .inl (cI, 40, .inl f_12)), (r0 8, .inl (cI, 40, .inl f_14)), (r0 9, .inl (cI, 40, .inl f_16))]]) := hD
  rcases hw with ⟨rfl, c_18⟩ | ⟨rfl, c_19, c_20⟩ | ⟨rfl, c_21, c_22⟩
  · refine lv_if_eq (tgt := 59) hx hb dX7_addFloor_4 (by decide) (fun c_23 => ?_) (fun c_23 => absurd c_23 (by decide))
    rw [hQ0]
    exact W.vret hx hb hr (fun t ht hW => ⟨⟨(), rfl, trivial, ⟨fc0, _, ⟨f_3, f_4, f_5, f_6, f_9, f_11, f_12, f_14, f_16, rfl, by omega, by omega, by omega, by omega, hr_10, hr_13, hr_15⟩, by rw [ht]; exact hP, hD⟩⟩, hS.F ht⟩) hS.2.2 dX7_addFloor_59
  · refine lv_if_eq (tgt := 59) hx hb dX7_addFloor_4 (by decide) (fun c_24 => ?_) (fun c_24 => absurd c_24 (by decide))
    rw [hQ0]
    exact W.vret hx hb hr (fun t ht hW => ⟨⟨(), rfl, trivial, ⟨fc0, _, ⟨f_3, f_4, f_5, f_6, f_9, f_11, f_12, f_14, f_16, rfl, by omega, by omega, by omega, by omega, hr_10, hr_13, hr_15⟩, by rw [ht]; exact hP, hD⟩⟩, hS.F ht⟩) hS.2.2 dX7_addFloor_59
  · refine lv_if_eq (tgt := 59) hx hb dX7_addFloor_4 (by decide) (fun c_25 => absurd c_25 (by decide)) (fun c_25 => ?_)
    refine lv_aload_n hx hb dX7_addFloor_7 rfl (lv_at hl 0 rfl) ?_
    refine va_get (D := (dC, dI)) (ci := 5) (v := .ref (r0 0)) (C := RX7) (T := TX7) (N := 12) hx hb hts iw_X7_addFloor_X7 hown hK hP 0 rfl rfl 1 (by decide) (hts (.fieldLink RX7 15 "HungFloors$Plan" "floorName" "[J") (by decide +kernel)) (fun _ h9 => h9) rfl dX7_addFloor_8 ?_
    refine lv_aload_n hx hb dX7_addFloor_11 rfl (lv_at hl 0 rfl) ?_
    refine va_get (D := (dC, dI)) (ci := 5) (v := .int fc0) (C := RX7) (T := TX7) (N := 12) hx hb hts iw_X7_addFloor_X7 hown hK hP 0 rfl rfl 0 (by decide) (hts (.fieldLink RX7 9 "HungFloors$Plan" "floorCount" "I") (by decide +kernel)) (fun _ h9 => h9) rfl dX7_addFloor_12 ?_
    refine lv_lload_n hx hb dX7_addFloor_15 rfl (lv_at hl 1 rfl) ?_
    refine va_last hx hb hK hP hD hS 1 2 rfl rfl (v_in rfl (by omega) (by omega)) dX7_addFloor_16 (fun H locs hP hD hS => ?_)
    obtain ⟨f_26, hP, hD⟩ : ∃ f_26 : Nat → Int64, va_P (dC, dI) vwCl (List.flatten [[(h0, .inr (5, [.int fc0, .ref (r0 0), .ref (r0 1), .ref (r0 2), .ref (r0 3), .int dc0, .ref (r0 4), .ref (r0 5), .ref (r0 6), .ref (r0 7), .ref (r0 8), .ref (r0 9)])), (r0 0, .inl (cJ, 6, .inr (.inl f_26))), (r0 1, .inl (cI, 6, .inl f_4)), (r0 2, .inl (cI, 6, .inl f_5)), (r0 3, .inl (cI, 6, .inl f_6)), (r0 4, .inl (cJ, 4, .inr (.inl f_9))), (r0 5, .inl (cI, 4, .inl rk0)), (r0 6, .inl (cJ, 40, .inr (.inl f_11))), (r0 7, .inl (cI, 40, .inl f_12)), (r0 8, .inl (cI, 40, .inl f_14)), (r0 9, .inl (cI, 40, .inl f_16))]]) H ∧ va_D A (List.flatten [[(h0, .inr (5, [.int fc0, .ref (r0 0), .ref (r0 1), .ref (r0 2), .ref (r0 3), .int dc0, .ref (r0 4), .ref (r0 5), .ref (r0 6), .ref (r0 7), .ref (r0 8), .ref (r0 9)])), (r0 0, .inl (cJ, 6, .inr (.inl f_26))), (r0 1, .inl (cI, 6, .inl f_4)), (r0 2, .inl (cI, 6, .inl f_5)), (r0 3, .inl (cI, 6, .inl f_6)), (r0 4, .inl (cJ, 4, .inr (.inl f_9))), (r0 5, .inl (cI, 4, .inl rk0)), (r0 6, .inl (cJ, 40, .inr (.inl f_11))), (r0 7, .inl (cI, 40, .inl f_12)), (r0 8, .inl (cI, 40, .inl f_14)), (r0 9, .inl (cI, 40, .inl f_16))]]) := ⟨_, hP, hD⟩
    refine lv_aload_n hx hb dX7_addFloor_17 rfl (lv_at hl 0 rfl) ?_
    refine va_get (D := (dC, dI)) (ci := 5) (v := .ref (r0 1)) (C := RX7) (T := TX7) (N := 12) hx hb hts iw_X7_addFloor_X7 hown hK hP 0 rfl rfl 2 (by decide) (hts (.fieldLink RX7 19 "HungFloors$Plan" "weighs" "[I") (by decide +kernel)) (fun _ h9 => h9) rfl dX7_addFloor_18 ?_
    refine lv_aload_n hx hb dX7_addFloor_21 rfl (lv_at hl 0 rfl) ?_
    refine va_get (D := (dC, dI)) (ci := 5) (v := .int fc0) (C := RX7) (T := TX7) (N := 12) hx hb hts iw_X7_addFloor_X7 hown hK hP 0 rfl rfl 0 (by decide) (hts (.fieldLink RX7 9 "HungFloors$Plan" "floorCount" "I") (by decide +kernel)) (fun _ h9 => h9) rfl dX7_addFloor_22 ?_
    refine lv_iload_n hx hb dX7_addFloor_25 rfl (lv_at hl 2 rfl) ?_
    refine va_iast hx hb hK hP hD hS 2 1 rfl rfl (v_in rfl (by omega) (by omega)) dX7_addFloor_26 (fun H locs hP hD hS => ?_)
    obtain ⟨f_27, hP, hD⟩ : ∃ f_27 : Nat → Int32, va_P (dC, dI) vwCl (List.flatten [[(h0, .inr (5, [.int fc0, .ref (r0 0), .ref (r0 1), .ref (r0 2), .ref (r0 3), .int dc0, .ref (r0 4), .ref (r0 5), .ref (r0 6), .ref (r0 7), .ref (r0 8), .ref (r0 9)])), (r0 0, .inl (cJ, 6, .inr (.inl f_26))), (r0 1, .inl (cI, 6, .inl f_27)), (r0 2, .inl (cI, 6, .inl f_5)), (r0 3, .inl (cI, 6, .inl f_6)), (r0 4, .inl (cJ, 4, .inr (.inl f_9))), (r0 5, .inl (cI, 4, .inl rk0)), (r0 6, .inl (cJ, 40, .inr (.inl f_11))), (r0 7, .inl (cI, 40, .inl f_12)), (r0 8, .inl (cI, 40, .inl f_14)), (r0 9, .inl (cI, 40, .inl f_16))]]) H ∧ va_D A (List.flatten [[(h0, .inr (5, [.int fc0, .ref (r0 0), .ref (r0 1), .ref (r0 2), .ref (r0 3), .int dc0, .ref (r0 4), .ref (r0 5), .ref (r0 6), .ref (r0 7), .ref (r0 8), .ref (r0 9)])), (r0 0, .inl (cJ, 6, .inr (.inl f_26))), (r0 1, .inl (cI, 6, .inl f_27)), (r0 2, .inl (cI, 6, .inl f_5)), (r0 3, .inl (cI, 6, .inl f_6)), (r0 4, .inl (cJ, 4, .inr (.inl f_9))), (r0 5, .inl (cI, 4, .inl rk0)), (r0 6, .inl (cJ, 40, .inr (.inl f_11))), (r0 7, .inl (cI, 40, .inl f_12)), (r0 8, .inl (cI, 40, .inl f_14)), (r0 9, .inl (cI, 40, .inl f_16))]]) := ⟨_, hP, hD⟩
    refine lv_aload_n hx hb dX7_addFloor_27 rfl (lv_at hl 0 rfl) ?_
    refine va_get (D := (dC, dI)) (ci := 5) (v := .ref (r0 2)) (C := RX7) (T := TX7) (N := 12) hx hb hts iw_X7_addFloor_X7 hown hK hP 0 rfl rfl 3 (by decide) (hts (.fieldLink RX7 23 "HungFloors$Plan" "can" "[I") (by decide +kernel)) (fun _ h9 => h9) rfl dX7_addFloor_28 ?_
    refine lv_aload_n hx hb dX7_addFloor_31 rfl (lv_at hl 0 rfl) ?_
    refine va_get (D := (dC, dI)) (ci := 5) (v := .int fc0) (C := RX7) (T := TX7) (N := 12) hx hb hts iw_X7_addFloor_X7 hown hK hP 0 rfl rfl 0 (by decide) (hts (.fieldLink RX7 9 "HungFloors$Plan" "floorCount" "I") (by decide +kernel)) (fun _ h9 => h9) rfl dX7_addFloor_32 ?_
    refine lv_iload hx hb dX7_addFloor_35 (lv_at hl 3 rfl) ?_
    refine va_iast hx hb hK hP hD hS 3 1 rfl rfl (v_in rfl (by omega) (by omega)) dX7_addFloor_37 (fun H locs hP hD hS => ?_)
    obtain ⟨f_28, hP, hD⟩ : ∃ f_28 : Nat → Int32, va_P (dC, dI) vwCl (List.flatten [[(h0, .inr (5, [.int fc0, .ref (r0 0), .ref (r0 1), .ref (r0 2), .ref (r0 3), .int dc0, .ref (r0 4), .ref (r0 5), .ref (r0 6), .ref (r0 7), .ref (r0 8), .ref (r0 9)])), (r0 0, .inl (cJ, 6, .inr (.inl f_26))), (r0 1, .inl (cI, 6, .inl f_27)), (r0 2, .inl (cI, 6, .inl f_28)), (r0 3, .inl (cI, 6, .inl f_6)), (r0 4, .inl (cJ, 4, .inr (.inl f_9))), (r0 5, .inl (cI, 4, .inl rk0)), (r0 6, .inl (cJ, 40, .inr (.inl f_11))), (r0 7, .inl (cI, 40, .inl f_12)), (r0 8, .inl (cI, 40, .inl f_14)), (r0 9, .inl (cI, 40, .inl f_16))]]) H ∧ va_D A (List.flatten [[(h0, .inr (5, [.int fc0, .ref (r0 0), .ref (r0 1), .ref (r0 2), .ref (r0 3), .int dc0, .ref (r0 4), .ref (r0 5), .ref (r0 6), .ref (r0 7), .ref (r0 8), .ref (r0 9)])), (r0 0, .inl (cJ, 6, .inr (.inl f_26))), (r0 1, .inl (cI, 6, .inl f_27)), (r0 2, .inl (cI, 6, .inl f_28)), (r0 3, .inl (cI, 6, .inl f_6)), (r0 4, .inl (cJ, 4, .inr (.inl f_9))), (r0 5, .inl (cI, 4, .inl rk0)), (r0 6, .inl (cJ, 40, .inr (.inl f_11))), (r0 7, .inl (cI, 40, .inl f_12)), (r0 8, .inl (cI, 40, .inl f_14)), (r0 9, .inl (cI, 40, .inl f_16))]]) := ⟨_, hP, hD⟩
    refine lv_aload_n hx hb dX7_addFloor_38 rfl (lv_at hl 0 rfl) ?_
    refine va_get (D := (dC, dI)) (ci := 5) (v := .ref (r0 3)) (C := RX7) (T := TX7) (N := 12) hx hb hts iw_X7_addFloor_X7 hown hK hP 0 rfl rfl 4 (by decide) (hts (.fieldLink RX7 26 "HungFloors$Plan" "stands" "[I") (by decide +kernel)) (fun _ h9 => h9) rfl dX7_addFloor_39 ?_
    refine lv_aload_n hx hb dX7_addFloor_42 rfl (lv_at hl 0 rfl) ?_
    refine va_get (D := (dC, dI)) (ci := 5) (v := .int fc0) (C := RX7) (T := TX7) (N := 12) hx hb hts iw_X7_addFloor_X7 hown hK hP 0 rfl rfl 0 (by decide) (hts (.fieldLink RX7 9 "HungFloors$Plan" "floorCount" "I") (by decide +kernel)) (fun _ h9 => h9) rfl dX7_addFloor_43 ?_
    refine lv_iload hx hb dX7_addFloor_46 (lv_at hl 4 rfl) ?_
    refine va_iast hx hb hK hP hD hS 4 1 rfl rfl (v_in rfl (by omega) (by omega)) dX7_addFloor_48 (fun H locs hP hD hS => ?_)
    obtain ⟨f_29, hP, hD⟩ : ∃ f_29 : Nat → Int32, va_P (dC, dI) vwCl (List.flatten [[(h0, .inr (5, [.int fc0, .ref (r0 0), .ref (r0 1), .ref (r0 2), .ref (r0 3), .int dc0, .ref (r0 4), .ref (r0 5), .ref (r0 6), .ref (r0 7), .ref (r0 8), .ref (r0 9)])), (r0 0, .inl (cJ, 6, .inr (.inl f_26))), (r0 1, .inl (cI, 6, .inl f_27)), (r0 2, .inl (cI, 6, .inl f_28)), (r0 3, .inl (cI, 6, .inl f_29)), (r0 4, .inl (cJ, 4, .inr (.inl f_9))), (r0 5, .inl (cI, 4, .inl rk0)), (r0 6, .inl (cJ, 40, .inr (.inl f_11))), (r0 7, .inl (cI, 40, .inl f_12)), (r0 8, .inl (cI, 40, .inl f_14)), (r0 9, .inl (cI, 40, .inl f_16))]]) H ∧ va_D A (List.flatten [[(h0, .inr (5, [.int fc0, .ref (r0 0), .ref (r0 1), .ref (r0 2), .ref (r0 3), .int dc0, .ref (r0 4), .ref (r0 5), .ref (r0 6), .ref (r0 7), .ref (r0 8), .ref (r0 9)])), (r0 0, .inl (cJ, 6, .inr (.inl f_26))), (r0 1, .inl (cI, 6, .inl f_27)), (r0 2, .inl (cI, 6, .inl f_28)), (r0 3, .inl (cI, 6, .inl f_29)), (r0 4, .inl (cJ, 4, .inr (.inl f_9))), (r0 5, .inl (cI, 4, .inl rk0)), (r0 6, .inl (cJ, 40, .inr (.inl f_11))), (r0 7, .inl (cI, 40, .inl f_12)), (r0 8, .inl (cI, 40, .inl f_14)), (r0 9, .inl (cI, 40, .inl f_16))]]) := ⟨_, hP, hD⟩
    refine lv_aload_n hx hb dX7_addFloor_49 rfl (lv_at hl 0 rfl) ?_
    refine lv_dup hx hb dX7_addFloor_50 rfl ?_
    refine va_get (D := (dC, dI)) (ci := 5) (v := .int fc0) (C := RX7) (T := TX7) (N := 12) hx hb hts iw_X7_addFloor_X7 hown hK hP 0 rfl rfl 0 (by decide) (hts (.fieldLink RX7 9 "HungFloors$Plan" "floorCount" "I") (by decide +kernel)) (fun _ h9 => h9) rfl dX7_addFloor_51 ?_
    refine lv_iconst (v := 1) hx hb dX7_addFloor_54 (by decide) ?_
    refine lv_iadd hx hb dX7_addFloor_55 ?_
    refine lv_topi (fun z_30 ez_30 => ?_)
    have hz_30 : z_30.toInt = fc0.toInt + 1 := by rw [ez_30]; exact t_add rfl tI_1 (by omega) (by omega)
    have fz_30 : z_30 = (fc0 + 1) := by rw [ez_30]
    refine va_put (D := (dC, dI)) (ci := 5) (v := .int z_30) (ty := .int) (C := RX7) (T := TX7) (N := 12) hx hb hts iw_X7_addFloor_X7 tyX7 tyX7_ok nmX7 hown hK hP hD hS 0 rfl rfl 0 (by decide) (hts (.fieldLink RX7 9 "HungFloors$Plan" "floorCount" "I") (by decide +kernel)) (fun _ h9 => h9) rfl (by decide +kernel) rfl rfl (Nat.le_of_ble_eq_true rfl) dX7_addFloor_56 (fun H locs hP hD hS => ?_)
    have hP : va_P (dC, dI) vwCl (List.flatten [[(h0, .inr (5, [.int z_30, .ref (r0 0), .ref (r0 1), .ref (r0 2), .ref (r0 3), .int dc0, .ref (r0 4), .ref (r0 5), .ref (r0 6), .ref (r0 7), .ref (r0 8), .ref (r0 9)])), (r0 0, .inl (cJ, 6, .inr (.inl f_26))), (r0 1, .inl (cI, 6, .inl f_27)), (r0 2, .inl (cI, 6, .inl f_28)), (r0 3, .inl (cI, 6, .inl f_29)), (r0 4, .inl (cJ, 4, .inr (.inl f_9))), (r0 5, .inl (cI, 4, .inl rk0)), (r0 6, .inl (cJ, 40, .inr (.inl f_11))), (r0 7, .inl (cI, 40, .inl f_12)), (r0 8, .inl (cI, 40, .inl f_14)), (r0 9, .inl (cI, 40, .inl f_16))]]) H := hP
    have hD : va_D A (List.flatten [[(h0, .inr (5, [.int z_30, .ref (r0 0), .ref (r0 1), .ref (r0 2), .ref (r0 3), .int dc0, .ref (r0 4), .ref (r0 5), .ref (r0 6), .ref (r0 7), .ref (r0 8), .ref (r0 9)])), (r0 0, .inl (cJ, 6, .inr (.inl f_26))), (r0 1, .inl (cI, 6, .inl f_27)), (r0 2, .inl (cI, 6, .inl f_28)), (r0 3, .inl (cI, 6, .inl f_29)), (r0 4, .inl (cJ, 4, .inr (.inl f_9))), (r0 5, .inl (cI, 4, .inl rk0)), (r0 6, .inl (cJ, 40, .inr (.inl f_11))), (r0 7, .inl (cI, 40, .inl f_12)), (r0 8, .inl (cI, 40, .inl f_14)), (r0 9, .inl (cI, 40, .inl f_16))]]) := hD
    rw [hQ0]
    exact W.vret hx hb hr (fun t ht hW => ⟨⟨(), rfl, trivial, ⟨z_30, _, ⟨f_26, f_27, f_28, f_29, f_9, f_11, f_12, f_14, f_16, rfl, by omega, by omega, by omega, by omega, hr_10, hr_13, hr_15⟩, by rw [ht]; exact hP, hD⟩⟩, hS.F ht⟩) hS.2.2 dX7_addFloor_59
theorem iw_X7_addDrawing_X7 : ∀ w ∈ wsX70, w ∈ wsX7_addDrawing := fun _ h => List.mem_cons_of_mem _ (List.mem_append_right _ h)
set_option maxHeartbeats 4000000 in
set_option maxRecDepth 100000 in
theorem c_X7_addDrawing (l : Launch) (dC : Nat → ClassId) (dI : Nat → Nat → Nat) (ad : Nat → Nat) (tN : Nat) (fN : Nat → Int64) (cB cI cJ cZ : ClassId) (h0 : Nat) (q1 : Int64) (r0 : Nat → Nat) (fc0 : Int32) (dc0 : Int32) (rk0 : Nat → Int32) (w0 : va_W) (o0 : ok_plan ad cB cI cJ cZ h0 r0 fc0 dc0 rk0 w0) (sz : Nat) : Met l yX7_addDrawing wsX7_addDrawing ({ frames := 1, cells := 0, slots := 0, locals := 20 } : Room) (va_Pc [.ref h0, .long q1] (fun U => U.heap.size = sz ∧ va_P (dC, dI) vwCl (List.flatten [w0]) U.heap ∧ va_K (dC, dI) vwCl [(cB, .byte), (cI, .int), (cJ, .long), (cZ, .boolean)] U ∧ va_D (fun _ => True) (List.flatten [w0]) ∧ ex_Y ad tN fN (va_A (List.flatten [w0]) sz) U)) (va_Qv (fun _ : Unit => True) (fun (_ : Unit) (t : State) => ∃ (dc09 : Int32) (rk09 : Nat → Int32) (w09 : va_W), ok_plan ad cB cI cJ cZ h0 r0 fc0 dc09 rk09 w09 ∧ va_P (dC, dI) vwCl (List.flatten [w09]) t.heap ∧ va_D (va_A (List.flatten [w0]) sz) (List.flatten [w09])) (va_A (List.flatten [w0]) sz)) 0 0 (va_A (List.flatten [w0]) sz) := by
  refine Met.ofW (cc := cX7_addDrawing) (maxL := 3) (ret := none) (by decide) rfl ?_
  intro p e s m args below meth c s₁ B hml hv
  obtain ⟨rfl, hsz, hP, hK, hD0, hE⟩ := hv
  have hx := B.exec
  have hb := B.bytes
  have hr := B.returns
  have hts := atoms_spec (ws := wsX7_addDrawing) B.pre
  have hown : s.vm.findClass RX7 = some m.cls := findClass_of_methodNamed B.named
  have hlocks := B.notSynchronized
  subst hsz
  have hD := hD0.self (sz := s.heap.size)
  generalize hAe : va_A (List.flatten [w0]) s.heap.size = A at hD hE ⊢
  have hA : ∀ q : Nat, s.heap.size ≤ q → A q := fun q h => by rw [← hAe]; exact Or.inr h
  have hS : va_S A s.heap s.heap [] := va_S.rf
  have hl := lv_entry ([.ref h0, .long q1]) (n := 3) (Nat.le_of_ble_eq_true rfl)
  rw [lg_entry_eq]
  generalize (lg_sl ([.ref h0, .long q1]) ++ List.replicate (3 - (lg_sl ([.ref h0, .long q1])).length) Slot.unset).toArray = ls at hl ⊢
  have hl : lv_has ls 3 [(0, .ref h0), (1, .long q1)] := hl
  clear hAe
  refine W_name (fun Q0 hQ0 => ?_)
  refine lv_aload_n hx hb dX7_addDrawing_0 rfl (lv_at hl 0 rfl) ?_
  obtain ⟨f_3, f_4, f_5, f_6, f_9, f_11, f_12, f_14, f_16, rfl, hl_1, hh_2, hl_7, hh_8, hr_10, hr_13, hr_15⟩ := o0
  have hpm : List.Perm ([[(h0, .inr (5, [.int fc0, .ref (r0 0), .ref (r0 1), .ref (r0 2), .ref (r0 3), .int dc0, .ref (r0 4), .ref (r0 5), .ref (r0 6), .ref (r0 7), .ref (r0 8), .ref (r0 9)])), (r0 0, .inl (cJ, 6, .inr (.inl f_3))), (r0 1, .inl (cI, 6, .inl f_4)), (r0 2, .inl (cI, 6, .inl f_5)), (r0 3, .inl (cI, 6, .inl f_6)), (r0 4, .inl (cJ, 4, .inr (.inl f_9))), (r0 5, .inl (cI, 4, .inl rk0)), (r0 6, .inl (cJ, 40, .inr (.inl f_11))), (r0 7, .inl (cI, 40, .inl f_12)), (r0 8, .inl (cI, 40, .inl f_14)), (r0 9, .inl (cI, 40, .inl f_16))]] : List va_W) (([[(h0, .inr (5, [.int fc0, .ref (r0 0), .ref (r0 1), .ref (r0 2), .ref (r0 3), .int dc0, .ref (r0 4), .ref (r0 5), .ref (r0 6), .ref (r0 7), .ref (r0 8), .ref (r0 9)])), (r0 0, .inl (cJ, 6, .inr (.inl f_3))), (r0 1, .inl (cI, 6, .inl f_4)), (r0 2, .inl (cI, 6, .inl f_5)), (r0 3, .inl (cI, 6, .inl f_6)), (r0 4, .inl (cJ, 4, .inr (.inl f_9))), (r0 5, .inl (cI, 4, .inl rk0)), (r0 6, .inl (cJ, 40, .inr (.inl f_11))), (r0 7, .inl (cI, 40, .inl f_12)), (r0 8, .inl (cI, 40, .inl f_14)), (r0 9, .inl (cI, 40, .inl f_16))]] : List va_W) ++ ([] : List va_W)) := pm_n 1 [0] (by decide) rfl rfl
  have hPc := bk_P hpm hP
  have hDc := bk_D hpm hD
  have hFc := bk_F hpm hD hS hA
  refine va_calli (va_runV (As := []) (rest := []) ⟨hx, hb, hml, hown, hts⟩ (c_X7_takesDrawing l dC dI ad tN fN cB cI cJ cZ h0 r0 fc0 dc0 rk0 _ ⟨f_3, f_4, f_5, f_6, f_9, f_11, f_12, f_14, f_16, rfl, by omega, by omega, by omega, by omega, hr_10, hr_13, hr_15⟩ s.heap.size) (cwV 0 hts gX7_addDrawing_X7_takesDrawing rfl rfl rfl (by decide +kernel) ⟨(Nat.le_of_ble_eq_true rfl), (Nat.le_of_ble_eq_true rfl)⟩) ⟨fun a U g mk q => by obtain ⟨q0, q1, qP, qK, qD, qE⟩ := q; exact ⟨q0, q1, qP, va_K.moved (u := U) (U := U.calling g mk a) (Vm.Alike.refl U.vm) qK, qD, ey_blind qE⟩, va_recv hK hPc (ci := 5) (q0 := 0) rfl rfl, fun U hU hW => ⟨rfl, by rw [hU], by rw [hU]; exact hPc, va_K.moved hW.alike hK, hDc.weaken (fun _ _ _ _ => trivial), ey_call hE hS hFc hU hW⟩⟩ rfl rfl hl.1 rfl (lv_room (Nat.le_of_ble_eq_true rfl)) dX7_addDrawing_1 ⟨(Nat.le_of_ble_eq_true rfl), (Nat.le_of_ble_eq_true rfl)⟩) hS (fun q _ h => hFc q h) hFc (fun r_17 u t H locs ht hvm hw hB hz1 hk1 hS => ?_)
  obtain ⟨hP1, hD1⟩ := hB
  rw [ht] at hP1
  obtain ⟨hP, hD⟩ := bk_join hpm hP hD hk1 hFc (Cs1 := [[(h0, .inr (5, [.int fc0, .ref (r0 0), .ref (r0 1), .ref (r0 2), .ref (r0 3), .int dc0, .ref (r0 4), .ref (r0 5), .ref (r0 6), .ref (r0 7), .ref (r0 8), .ref (r0 9)])), (r0 0, .inl (cJ, 6, .inr (.inl f_3))), (r0 1, .inl (cI, 6, .inl f_4)), (r0 2, .inl (cI, 6, .inl f_5)), (r0 3, .inl (cI, 6, .inl f_6)), (r0 4, .inl (cJ, 4, .inr (.inl f_9))), (r0 5, .inl (cI, 4, .inl rk0)), (r0 6, .inl (cJ, 40, .inr (.inl f_11))), (r0 7, .inl (cI, 40, .inl f_12)), (r0 8, .inl (cI, 40, .inl f_14)), (r0 9, .inl (cI, 40, .inl f_16))]]) hP1 hD1
  have hpm2 : List.Perm (([[(h0, .inr (5, [.int fc0, .ref (r0 0), .ref (r0 1), .ref (r0 2), .ref (r0 3), .int dc0, .ref (r0 4), .ref (r0 5), .ref (r0 6), .ref (r0 7), .ref (r0 8), .ref (r0 9)])), (r0 0, .inl (cJ, 6, .inr (.inl f_3))), (r0 1, .inl (cI, 6, .inl f_4)), (r0 2, .inl (cI, 6, .inl f_5)), (r0 3, .inl (cI, 6, .inl f_6)), (r0 4, .inl (cJ, 4, .inr (.inl f_9))), (r0 5, .inl (cI, 4, .inl rk0)), (r0 6, .inl (cJ, 40, .inr (.inl f_11))), (r0 7, .inl (cI, 40, .inl f_12)), (r0 8, .inl (cI, 40, .inl f_14)), (r0 9, .inl (cI, 40, .inl f_16))]] : List va_W) ++ ([] : List va_W)) ([[(h0, .inr (5, [.int fc0, .ref (r0 0), .ref (r0 1), .ref (r0 2), .ref (r0 3), .int dc0, .ref (r0 4), .ref (r0 5), .ref (r0 6), .ref (r0 7), .ref (r0 8), .ref (r0 9)])), (r0 0, .inl (cJ, 6, .inr (.inl f_3))), (r0 1, .inl (cI, 6, .inl f_4)), (r0 2, .inl (cI, 6, .inl f_5)), (r0 3, .inl (cI, 6, .inl f_6)), (r0 4, .inl (cJ, 4, .inr (.inl f_9))), (r0 5, .inl (cI, 4, .inl rk0)), (r0 6, .inl (cJ, 40, .inr (.inl f_11))), (r0 7, .inl (cI, 40, .inl f_12)), (r0 8, .inl (cI, 40, .inl f_14)), (r0 9, .inl (cI, 40, .inl f_16))]] : List va_W) := pm_n 1 [0] (by decide) rfl rfl
  have hP := bk_reP hpm2 hP
  have hD := bk_reD hpm2 hD
  have hP : va_P (dC, dI) vwCl (List.flatten [[(h0, .inr (5, [.int fc0, .ref (r0 0), .ref (r0 1), .ref (r0 2), .ref (r0 3), .int dc0, .ref (r0 4), .ref (r0 5), .ref (r0 6), .ref (r0 7), .ref (r0 8), .ref (r0 9)])), (r0 0, .inl (cJ, 6, .inr (.inl f_3))), (r0 1, .inl (cI, 6, .inl f_4)), (r0 2, .inl (cI, 6, .inl f_5)), (r0 3, .inl (cI, 6, .inl f_6)), (r0 4, .inl (cJ, 4, .inr (.inl f_9))), (r0 5, .inl (cI, 4, .inl rk0)), (r0 6, .inl (cJ, 40, .inr (.inl f_11))), (r0 7, .inl (cI, 40, .inl f_12)), (r0 8, .inl (cI, 40, .inl f_14)), (r0 9, .inl (cI, 40, .inl f_16))]]) H := hP
  have hD : va_D A (List.flatten [[(h0, .inr (5, [.int fc0, .ref (r0 0), .ref (r0 1), .ref (r0 2), .ref (r0 3), .int dc0, .ref (r0 4), .ref (r0 5), .ref (r0 6), .ref (r0 7), .ref (r0 8), .ref (r0 9)])), (r0 0, .inl (cJ, 6, .inr (.inl f_3))), (r0 1, .inl (cI, 6, .inl f_4)), (r0 2, .inl (cI, 6, .inl f_5)), (r0 3, .inl (cI, 6, .inl f_6)), (r0 4, .inl (cJ, 4, .inr (.inl f_9))), (r0 5, .inl (cI, 4, .inl rk0)), (r0 6, .inl (cJ, 40, .inr (.inl f_11))), (r0 7, .inl (cI, 40, .inl f_12)), (r0 8, .inl (cI, 40, .inl f_14)), (r0 9, .inl (cI, 40, .inl f_16))]]) := hD
  rcases hw with ⟨rfl, c_18⟩ | ⟨rfl, c_19⟩
  · refine lv_if_eq (tgt := 37) hx hb dX7_addDrawing_4 (by decide) (fun c_20 => ?_) (fun c_20 => absurd c_20 (by decide))
    rw [hQ0]
    exact W.vret hx hb hr (fun t ht hW => ⟨⟨(), rfl, trivial, ⟨dc0, rk0, _, ⟨f_3, f_4, f_5, f_6, f_9, f_11, f_12, f_14, f_16, rfl, by omega, by omega, by omega, by omega, hr_10, hr_13, hr_15⟩, by rw [ht]; exact hP, hD⟩⟩, hS.F ht⟩) hS.2.2 dX7_addDrawing_37
  · refine lv_if_eq (tgt := 37) hx hb dX7_addDrawing_4 (by decide) (fun c_21 => absurd c_21 (by decide)) (fun c_21 => ?_)
    refine lv_aload_n hx hb dX7_addDrawing_7 rfl (lv_at hl 0 rfl) ?_
    refine va_get (D := (dC, dI)) (ci := 5) (v := .ref (r0 4)) (C := RX7) (T := TX7) (N := 12) hx hb hts iw_X7_addDrawing_X7 hown hK hP 0 rfl rfl 6 (by decide) (hts (.fieldLink RX7 32 "HungFloors$Plan" "drawingName" "[J") (by decide +kernel)) (fun _ h9 => h9) rfl dX7_addDrawing_8 ?_
    refine lv_aload_n hx hb dX7_addDrawing_11 rfl (lv_at hl 0 rfl) ?_
    refine va_get (D := (dC, dI)) (ci := 5) (v := .int dc0) (C := RX7) (T := TX7) (N := 12) hx hb hts iw_X7_addDrawing_X7 hown hK hP 0 rfl rfl 5 (by decide) (hts (.fieldLink RX7 29 "HungFloors$Plan" "drawingCount" "I") (by decide +kernel)) (fun _ h9 => h9) rfl dX7_addDrawing_12 ?_
    refine lv_lload_n hx hb dX7_addDrawing_15 rfl (lv_at hl 1 rfl) ?_
    refine va_last hx hb hK hP hD hS 5 2 rfl rfl (v_in rfl (by omega) (by omega)) dX7_addDrawing_16 (fun H locs hP hD hS => ?_)
    obtain ⟨f_22, hP, hD⟩ : ∃ f_22 : Nat → Int64, va_P (dC, dI) vwCl (List.flatten [[(h0, .inr (5, [.int fc0, .ref (r0 0), .ref (r0 1), .ref (r0 2), .ref (r0 3), .int dc0, .ref (r0 4), .ref (r0 5), .ref (r0 6), .ref (r0 7), .ref (r0 8), .ref (r0 9)])), (r0 0, .inl (cJ, 6, .inr (.inl f_3))), (r0 1, .inl (cI, 6, .inl f_4)), (r0 2, .inl (cI, 6, .inl f_5)), (r0 3, .inl (cI, 6, .inl f_6)), (r0 4, .inl (cJ, 4, .inr (.inl f_22))), (r0 5, .inl (cI, 4, .inl rk0)), (r0 6, .inl (cJ, 40, .inr (.inl f_11))), (r0 7, .inl (cI, 40, .inl f_12)), (r0 8, .inl (cI, 40, .inl f_14)), (r0 9, .inl (cI, 40, .inl f_16))]]) H ∧ va_D A (List.flatten [[(h0, .inr (5, [.int fc0, .ref (r0 0), .ref (r0 1), .ref (r0 2), .ref (r0 3), .int dc0, .ref (r0 4), .ref (r0 5), .ref (r0 6), .ref (r0 7), .ref (r0 8), .ref (r0 9)])), (r0 0, .inl (cJ, 6, .inr (.inl f_3))), (r0 1, .inl (cI, 6, .inl f_4)), (r0 2, .inl (cI, 6, .inl f_5)), (r0 3, .inl (cI, 6, .inl f_6)), (r0 4, .inl (cJ, 4, .inr (.inl f_22))), (r0 5, .inl (cI, 4, .inl rk0)), (r0 6, .inl (cJ, 40, .inr (.inl f_11))), (r0 7, .inl (cI, 40, .inl f_12)), (r0 8, .inl (cI, 40, .inl f_14)), (r0 9, .inl (cI, 40, .inl f_16))]]) := ⟨_, hP, hD⟩
    refine lv_aload_n hx hb dX7_addDrawing_17 rfl (lv_at hl 0 rfl) ?_
    refine va_get (D := (dC, dI)) (ci := 5) (v := .ref (r0 5)) (C := RX7) (T := TX7) (N := 12) hx hb hts iw_X7_addDrawing_X7 hown hK hP 0 rfl rfl 7 (by decide) (hts (.fieldLink RX7 35 "HungFloors$Plan" "rodCount" "[I") (by decide +kernel)) (fun _ h9 => h9) rfl dX7_addDrawing_18 ?_
    refine lv_aload_n hx hb dX7_addDrawing_21 rfl (lv_at hl 0 rfl) ?_
    refine va_get (D := (dC, dI)) (ci := 5) (v := .int dc0) (C := RX7) (T := TX7) (N := 12) hx hb hts iw_X7_addDrawing_X7 hown hK hP 0 rfl rfl 5 (by decide) (hts (.fieldLink RX7 29 "HungFloors$Plan" "drawingCount" "I") (by decide +kernel)) (fun _ h9 => h9) rfl dX7_addDrawing_22 ?_
    refine lv_iconst (v := 0) hx hb dX7_addDrawing_25 (by decide) ?_
    refine va_iast hx hb hK hP hD hS 6 1 rfl rfl (v_in rfl (by omega) (by omega)) dX7_addDrawing_26 (fun H locs hP hD hS => ?_)
    obtain ⟨f_23, hr_24, hP, hD⟩ : ∃ f_23 : Nat → Int32, rg (0) 10 f_23 ∧ va_P (dC, dI) vwCl (List.flatten [[(h0, .inr (5, [.int fc0, .ref (r0 0), .ref (r0 1), .ref (r0 2), .ref (r0 3), .int dc0, .ref (r0 4), .ref (r0 5), .ref (r0 6), .ref (r0 7), .ref (r0 8), .ref (r0 9)])), (r0 0, .inl (cJ, 6, .inr (.inl f_3))), (r0 1, .inl (cI, 6, .inl f_4)), (r0 2, .inl (cI, 6, .inl f_5)), (r0 3, .inl (cI, 6, .inl f_6)), (r0 4, .inl (cJ, 4, .inr (.inl f_22))), (r0 5, .inl (cI, 4, .inl f_23)), (r0 6, .inl (cJ, 40, .inr (.inl f_11))), (r0 7, .inl (cI, 40, .inl f_12)), (r0 8, .inl (cI, 40, .inl f_14)), (r0 9, .inl (cI, 40, .inl f_16))]]) H ∧ va_D A (List.flatten [[(h0, .inr (5, [.int fc0, .ref (r0 0), .ref (r0 1), .ref (r0 2), .ref (r0 3), .int dc0, .ref (r0 4), .ref (r0 5), .ref (r0 6), .ref (r0 7), .ref (r0 8), .ref (r0 9)])), (r0 0, .inl (cJ, 6, .inr (.inl f_3))), (r0 1, .inl (cI, 6, .inl f_4)), (r0 2, .inl (cI, 6, .inl f_5)), (r0 3, .inl (cI, 6, .inl f_6)), (r0 4, .inl (cJ, 4, .inr (.inl f_22))), (r0 5, .inl (cI, 4, .inl f_23)), (r0 6, .inl (cJ, 40, .inr (.inl f_11))), (r0 7, .inl (cI, 40, .inl f_12)), (r0 8, .inl (cI, 40, .inl f_14)), (r0 9, .inl (cI, 40, .inl f_16))]]) := ⟨_, rg_upd hr_10 (by decide) (by decide), hP, hD⟩
    refine lv_aload_n hx hb dX7_addDrawing_27 rfl (lv_at hl 0 rfl) ?_
    refine lv_dup hx hb dX7_addDrawing_28 rfl ?_
    refine va_get (D := (dC, dI)) (ci := 5) (v := .int dc0) (C := RX7) (T := TX7) (N := 12) hx hb hts iw_X7_addDrawing_X7 hown hK hP 0 rfl rfl 5 (by decide) (hts (.fieldLink RX7 29 "HungFloors$Plan" "drawingCount" "I") (by decide +kernel)) (fun _ h9 => h9) rfl dX7_addDrawing_29 ?_
    refine lv_iconst (v := 1) hx hb dX7_addDrawing_32 (by decide) ?_
    refine lv_iadd hx hb dX7_addDrawing_33 ?_
    refine lv_topi (fun z_25 ez_25 => ?_)
    have hz_25 : z_25.toInt = dc0.toInt + 1 := by rw [ez_25]; exact t_add rfl tI_1 (by omega) (by omega)
    have fz_25 : z_25 = (dc0 + 1) := by rw [ez_25]
    refine va_put (D := (dC, dI)) (ci := 5) (v := .int z_25) (ty := .int) (C := RX7) (T := TX7) (N := 12) hx hb hts iw_X7_addDrawing_X7 tyX7 tyX7_ok nmX7 hown hK hP hD hS 0 rfl rfl 5 (by decide) (hts (.fieldLink RX7 29 "HungFloors$Plan" "drawingCount" "I") (by decide +kernel)) (fun _ h9 => h9) rfl (by decide +kernel) rfl rfl (Nat.le_of_ble_eq_true rfl) dX7_addDrawing_34 (fun H locs hP hD hS => ?_)
    have hP : va_P (dC, dI) vwCl (List.flatten [[(h0, .inr (5, [.int fc0, .ref (r0 0), .ref (r0 1), .ref (r0 2), .ref (r0 3), .int z_25, .ref (r0 4), .ref (r0 5), .ref (r0 6), .ref (r0 7), .ref (r0 8), .ref (r0 9)])), (r0 0, .inl (cJ, 6, .inr (.inl f_3))), (r0 1, .inl (cI, 6, .inl f_4)), (r0 2, .inl (cI, 6, .inl f_5)), (r0 3, .inl (cI, 6, .inl f_6)), (r0 4, .inl (cJ, 4, .inr (.inl f_22))), (r0 5, .inl (cI, 4, .inl f_23)), (r0 6, .inl (cJ, 40, .inr (.inl f_11))), (r0 7, .inl (cI, 40, .inl f_12)), (r0 8, .inl (cI, 40, .inl f_14)), (r0 9, .inl (cI, 40, .inl f_16))]]) H := hP
    have hD : va_D A (List.flatten [[(h0, .inr (5, [.int fc0, .ref (r0 0), .ref (r0 1), .ref (r0 2), .ref (r0 3), .int z_25, .ref (r0 4), .ref (r0 5), .ref (r0 6), .ref (r0 7), .ref (r0 8), .ref (r0 9)])), (r0 0, .inl (cJ, 6, .inr (.inl f_3))), (r0 1, .inl (cI, 6, .inl f_4)), (r0 2, .inl (cI, 6, .inl f_5)), (r0 3, .inl (cI, 6, .inl f_6)), (r0 4, .inl (cJ, 4, .inr (.inl f_22))), (r0 5, .inl (cI, 4, .inl f_23)), (r0 6, .inl (cJ, 40, .inr (.inl f_11))), (r0 7, .inl (cI, 40, .inl f_12)), (r0 8, .inl (cI, 40, .inl f_14)), (r0 9, .inl (cI, 40, .inl f_16))]]) := hD
    rw [hQ0]
    exact W.vret hx hb hr (fun t ht hW => ⟨⟨(), rfl, trivial, ⟨z_25, f_23, _, ⟨f_3, f_4, f_5, f_6, f_22, f_11, f_12, f_14, f_16, rfl, by omega, by omega, by omega, by omega, hr_24, hr_13, hr_15⟩, by rw [ht]; exact hP, hD⟩⟩, hS.F ht⟩) hS.2.2 dX7_addDrawing_37
theorem iw_X7_takesRod_X7 : ∀ w ∈ wsX70, w ∈ wsX7_takesRod := fun _ h => List.mem_cons_of_mem _ (List.mem_append_right _ h)
set_option maxHeartbeats 4000000 in
set_option maxRecDepth 100000 in
theorem c_X7_takesRod (l : Launch) (dC : Nat → ClassId) (dI : Nat → Nat → Nat) (ad : Nat → Nat) (tN : Nat) (fN : Nat → Int64) (cB cI cJ cZ : ClassId) (h0 : Nat) (r0 : Nat → Nat) (fc0 : Int32) (dc0 : Int32) (rk0 : Nat → Int32) (w0 : va_W) (o0 : ok_plan ad cB cI cJ cZ h0 r0 fc0 dc0 rk0 w0) (sz : Nat) : Met l yX7_takesRod wsX7_takesRod ({ frames := 0, cells := 0, slots := 0, locals := 0 } : Room) (va_Pc [.ref h0] (fun U => U.heap.size = sz ∧ va_P (dC, dI) vwCl (List.flatten [w0]) U.heap ∧ va_K (dC, dI) vwCl [(cB, .byte), (cI, .int), (cJ, .long), (cZ, .boolean)] U ∧ va_D (fun _ => True) (List.flatten [w0]) ∧ ex_Y ad tN fN (va_A (List.flatten [w0]) sz) U)) (va_Qi (fun (r : Int32) (_ : Unit) => (r = 0 ∧ dc0.toInt ≤ 0) ∨ (r = 0 ∧ 0 < dc0.toInt ∧ 10 ≤ (rk0 ((dc0 - 1) : Int32).toNatClampNeg).toInt) ∨ (r = 1 ∧ 0 < dc0.toInt ∧ (rk0 ((dc0 - 1) : Int32).toNatClampNeg).toInt < 10)) (fun (_ : Unit) (t : State) => va_P (dC, dI) vwCl (List.flatten [w0]) t.heap ∧ va_D (va_A (List.flatten [w0]) sz) (List.flatten [w0])) (va_A (List.flatten [w0]) sz)) 0 0 (va_A (List.flatten [w0]) sz) := by
  refine Met.ofW (cc := cX7_takesRod) (maxL := 1) (ret := (some .boolean)) (by decide) rfl ?_
  intro p e s m args below meth c s₁ B hml hv
  obtain ⟨rfl, hsz, hP, hK, hD0, hE⟩ := hv
  have hx := B.exec
  have hb := B.bytes
  have hr := B.returns
  have hts := atoms_spec (ws := wsX7_takesRod) B.pre
  have hown : s.vm.findClass RX7 = some m.cls := findClass_of_methodNamed B.named
  have hlocks := B.notSynchronized
  subst hsz
  have hD := hD0.self (sz := s.heap.size)
  generalize hAe : va_A (List.flatten [w0]) s.heap.size = A at hD hE ⊢
  have hA : ∀ q : Nat, s.heap.size ≤ q → A q := fun q h => by rw [← hAe]; exact Or.inr h
  have hS : va_S A s.heap s.heap [] := va_S.rf
  have hl := lv_entry ([.ref h0]) (n := 1) (Nat.le_of_ble_eq_true rfl)
  rw [lg_entry_eq]
  generalize (lg_sl ([.ref h0]) ++ List.replicate (1 - (lg_sl ([.ref h0])).length) Slot.unset).toArray = ls at hl ⊢
  have hl : lv_has ls 1 [(0, .ref h0)] := hl
  clear hAe
  refine W_name (fun Q0 hQ0 => ?_)
  refine lv_aload_n hx hb dX7_takesRod_0 rfl (lv_at hl 0 rfl) ?_
  obtain ⟨f_3, f_4, f_5, f_6, f_9, f_11, f_12, f_14, f_16, rfl, hl_1, hh_2, hl_7, hh_8, hr_10, hr_13, hr_15⟩ := o0
  refine va_get (D := (dC, dI)) (ci := 5) (v := .int dc0) (C := RX7) (T := TX7) (N := 12) hx hb hts iw_X7_takesRod_X7 hown hK hP 0 rfl rfl 5 (by decide) (hts (.fieldLink RX7 29 "HungFloors$Plan" "drawingCount" "I") (by decide +kernel)) (fun _ h9 => h9) rfl dX7_takesRod_1 ?_
  refine lv_if_le (tgt := 27) hx hb dX7_takesRod_4 (by decide) (fun c_17 => ?_) (fun c_17 => ?_)
  · have c_17 : dc0.toInt ≤ 0 := f_le rfl tI_0 c_17
    refine lv_iconst (v := 0) hx hb dX7_takesRod_27 (by decide) ?_
    rw [hQ0]
    exact W.zret (v := 0) hx hb hr (by decide) (fun t ht hW => ⟨⟨0, (), rfl, Or.inl ⟨rfl, c_17⟩, ⟨by rw [ht]; exact hP, hD⟩⟩, hS.F ht⟩) hS.2.2 dX7_takesRod_28
  · have c_17 : 0 < dc0.toInt := f_nle rfl tI_0 c_17
    refine lv_aload_n hx hb dX7_takesRod_7 rfl (lv_at hl 0 rfl) ?_
    refine va_get (D := (dC, dI)) (ci := 5) (v := .ref (r0 5)) (C := RX7) (T := TX7) (N := 12) hx hb hts iw_X7_takesRod_X7 hown hK hP 0 rfl rfl 7 (by decide) (hts (.fieldLink RX7 35 "HungFloors$Plan" "rodCount" "[I") (by decide +kernel)) (fun _ h9 => h9) rfl dX7_takesRod_8 ?_
    refine lv_aload_n hx hb dX7_takesRod_11 rfl (lv_at hl 0 rfl) ?_
    refine va_get (D := (dC, dI)) (ci := 5) (v := .int dc0) (C := RX7) (T := TX7) (N := 12) hx hb hts iw_X7_takesRod_X7 hown hK hP 0 rfl rfl 5 (by decide) (hts (.fieldLink RX7 29 "HungFloors$Plan" "drawingCount" "I") (by decide +kernel)) (fun _ h9 => h9) rfl dX7_takesRod_12 ?_
    refine lv_iconst (v := 1) hx hb dX7_takesRod_15 (by decide) ?_
    refine lv_isub hx hb dX7_takesRod_16 ?_
    refine lv_topi (fun z_18 ez_18 => ?_)
    have hz_18 : z_18.toInt = dc0.toInt - 1 := by rw [ez_18]; exact t_sub rfl tI_1 (by omega) (by omega)
    have fz_18 : z_18 = (dc0 - 1) := by rw [ez_18]
    refine va_iald hx hb hK hP 6 1 rfl rfl (v_in rfl (by omega) (by omega)) dX7_takesRod_17 ?_
    refine lv_topi (fun z_19 ez_19 => ?_)
    have gz_19 := rg_at hr_10 ez_19
    have g1z_19 := gz_19.1
    have g2z_19 := gz_19.2
    have fz_19 : z_19 = (rk0 ((dc0 - 1) : Int32).toNatClampNeg) := by rw [ez_19, fz_18]
    refine lv_bipush (v := 10) hx hb dX7_takesRod_18 (by decide) ?_
    refine lv_icmp_ge (tgt := 27) hx hb dX7_takesRod_20 (by decide) (fun c_20 => ?_) (fun c_20 => ?_)
    · have c_20 : 10 ≤ z_19.toInt := f_le tI_10 rfl c_20
      refine lv_iconst (v := 0) hx hb dX7_takesRod_27 (by decide) ?_
      rw [hQ0]
      exact W.zret (v := 0) hx hb hr (by decide) (fun t ht hW => ⟨⟨0, (), rfl, Or.inr (Or.inl ⟨rfl, c_17, (by rw [← fz_19]; exact c_20)⟩), ⟨by rw [ht]; exact hP, hD⟩⟩, hS.F ht⟩) hS.2.2 dX7_takesRod_28
    · have c_20 : z_19.toInt < 10 := f_nle tI_10 rfl c_20
      refine lv_iconst (v := 1) hx hb dX7_takesRod_23 (by decide) ?_
      refine lv_goto (tgt := 28) hx hb dX7_takesRod_24 (by decide) ?_
      rw [hQ0]
      exact W.zret (v := 1) hx hb hr (by decide) (fun t ht hW => ⟨⟨1, (), rfl, Or.inr (Or.inr (⟨rfl, c_17, (by rw [← fz_19]; exact c_20)⟩)), ⟨by rw [ht]; exact hP, hD⟩⟩, hS.F ht⟩) hS.2.2 dX7_takesRod_28
