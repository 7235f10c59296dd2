theorem iw_X11_isWord_X11 : ∀ w ∈ wsX110, w ∈ wsX11_isWord := fun _ h => List.mem_cons_of_mem _ (List.mem_append_right _ h)
set_option maxHeartbeats 4000000 in
set_option maxRecDepth 100000 in
theorem c_X11_isWord (l : Launch) (dC : Nat → ClassId) (dI : Nat → Nat → Nat) (ad : Nat → Nat) (tN : Nat) (fN : Nat → Int64) (cB cI cJ cZ : ClassId) (h0 : Nat) (q1 : Int64) (r0 : Nat → Nat) (sz0 : Int32) (fk0 : Int32) (en0 : Int32) (tk0 : Int32) (nm0 : Int64) (bk0 : Int32) (rb0 : Int32) (dw0 : Int32) (rl0 : Int32) (sd0 : Int64) (jm0 : Int32) (bd0 : Int64) (gm0 : Int32) (ti0 : Int32) (w0 : va_W) (o0 : ok_mo ad cB cI cJ cZ h0 r0 sz0 fk0 en0 tk0 nm0 bk0 rb0 dw0 rl0 sd0 jm0 bd0 gm0 ti0 w0) (sz : Nat) : Met l yX11_isWord wsX11_isWord ({ frames := 0, cells := 0, slots := 0, locals := 0 } : Room) (va_Pc [.ref h0, .long q1] (fun U => U.heap.size = sz ∧ va_P (dC, dI) vwCl (List.flatten [w0]) U.heap ∧ va_K (dC, dI) vwCl [(cB, .byte), (cI, .int), (cJ, .long), (cZ, .boolean)] U ∧ va_D (fun _ => True) (List.flatten [w0]) ∧ ex_Y ad tN fN (va_A (List.flatten [w0]) sz) U)) (va_Qi (fun (r : Int32) (_ : Unit) => 0 ≤ r.toInt ∧ r.toInt ≤ 1) (fun (_ : Unit) (t : State) => va_P (dC, dI) vwCl (List.flatten [w0]) t.heap ∧ va_D (va_A (List.flatten [w0]) sz) (List.flatten [w0])) (va_A (List.flatten [w0]) sz)) 0 0 (va_A (List.flatten [w0]) sz) := by
  refine Met.ofW (cc := cX11_isWord) (maxL := 3) (ret := (some .boolean)) (by decide) rfl ?_
  intro p e s m args below meth c s₁ B hml hv
  obtain ⟨rfl, hsz, hP, hK, hD0, hE⟩ := hv
  have hx := B.exec
  have hb := B.bytes
  have hr := B.returns
  have hts := atoms_spec (ws := wsX11_isWord) B.pre
  have hown : s.vm.findClass RX11 = some m.cls := findClass_of_methodNamed B.named
  have hlocks := B.notSynchronized
  subst hsz
  have hD := hD0.self (sz := s.heap.size)
  generalize hAe : va_A (List.flatten [w0]) s.heap.size = A at hD hE ⊢
  have hA : ∀ q : Nat, s.heap.size ≤ q → A q := fun q h => by rw [← hAe]; exact Or.inr h
  have hS : va_S A s.heap s.heap [] := va_S.rf
  have hl := lv_entry ([.ref h0, .long q1]) (n := 3) (Nat.le_of_ble_eq_true rfl)
  rw [lg_entry_eq]
  generalize (lg_sl ([.ref h0, .long q1]) ++ List.replicate (3 - (lg_sl ([.ref h0, .long q1])).length) Slot.unset).toArray = ls at hl ⊢
  have hl : lv_has ls 3 [(0, .ref h0), (1, .long q1)] := hl
  clear hAe
  refine W_name (fun Q0 hQ0 => ?_)
  obtain ⟨hx_1, hx_2, hx_3, hx_4, hx_5, hx_6, hx_7, hx_8, hx_9, hx_10, hx_11, hx_12, hx_13, hx_14, hx_15, hx_16, hx_17, hx_18, hx_19, hx_20, hx_21, hx_22⟩ := okx_mo o0
  refine lv_aload_n hx hb dX11_isWord_0 rfl (lv_at hl 0 rfl) ?_
  obtain ⟨tp_23, fp_30, aq_31, nu_38, mv_43, mg_48, su_49, bu_52, fa_55, pp_56, so_61, rfl, hl_24, hh_25, hl_26, hh_27, hl_28, hh_29, hl_32, hh_33, hl_34, hh_35, hl_36, hh_37, hl_39, hh_40, hl_41, hh_42, hl_44, hh_45, hl_46, hh_47, hl_50, hh_51, hl_53, hh_54, hl_57, hh_58, hl_59, hh_60, hl_62, hh_63⟩ := o0
  refine va_get (D := (dC, dI)) (ci := 9) (v := .int tk0) (C := RX11) (T := TX11) (N := 69) hx hb hts iw_X11_isWord_X11 hown hK hP 0 rfl rfl 8 (by decide) (hts (.fieldLink RX11 183 "HungFloorsModel" "token" "I") (by decide +kernel)) (fun _ h9 => h9) rfl dX11_isWord_1 ?_
  refine lv_iconst (v := 3) hx hb dX11_isWord_4 (by decide) ?_
  refine lv_icmp_ne (tgt := 21) hx hb dX11_isWord_5 (by decide) (fun c_64 => ?_) (fun c_64 => ?_)
  · have c_64 : ¬ tk0.toInt = 3 := f_ne rfl tI_3 c_64
    refine lv_iconst (v := 0) hx hb dX11_isWord_21 (by decide) ?_
    rw [hQ0]
    exact W.zret (v := 0) hx hb hr (by decide) (fun t ht hW => ⟨⟨0, (), rfl, ⟨by decide, by decide⟩, ⟨by rw [ht]; exact hP, hD⟩⟩, hS.F ht⟩) hS.2.2 dX11_isWord_22
  · have c_64 : tk0.toInt = 3 := f_eq rfl tI_3 c_64
    refine lv_aload_n hx hb dX11_isWord_8 rfl (lv_at hl 0 rfl) ?_
    refine va_get (D := (dC, dI)) (ci := 9) (v := .long nm0) (C := RX11) (T := TX11) (N := 69) hx hb hts iw_X11_isWord_X11 hown hK hP 0 rfl rfl 10 (by decide) (hts (.fieldLink RX11 190 "HungFloorsModel" "name" "J") (by decide +kernel)) (fun _ h9 => h9) rfl dX11_isWord_9 ?_
    refine lv_lload_n hx hb dX11_isWord_12 rfl (lv_at hl 1 rfl) ?_
    refine W.lcmp hx hb dX11_isWord_13 ?_
    refine lv_topi (fun z_65 ez_65 => ?_)
    refine lv_if_ne (tgt := 21) hx hb dX11_isWord_14 (by decide) (fun c_66 => ?_) (fun c_66 => ?_)
    · have c_66 : ¬ z_65.toInt = 0 := f_ne rfl tI_0 c_66
      refine lv_iconst (v := 0) hx hb dX11_isWord_21 (by decide) ?_
      rw [hQ0]
      exact W.zret (v := 0) hx hb hr (by decide) (fun t ht hW => ⟨⟨0, (), rfl, ⟨by decide, by decide⟩, ⟨by rw [ht]; exact hP, hD⟩⟩, hS.F ht⟩) hS.2.2 dX11_isWord_22
    · have c_66 : z_65.toInt = 0 := f_eq rfl tI_0 c_66
      refine lv_iconst (v := 1) hx hb dX11_isWord_17 (by decide) ?_
      refine lv_goto (tgt := 22) hx hb dX11_isWord_18 (by decide) ?_
      rw [hQ0]
      exact W.zret (v := 1) hx hb hr (by decide) (fun t ht hW => ⟨⟨1, (), rfl, ⟨by decide, by decide⟩, ⟨by rw [ht]; exact hP, hD⟩⟩, hS.F ht⟩) hS.2.2 dX11_isWord_22
set_option maxHeartbeats 4000000 in
set_option maxRecDepth 100000 in
theorem c_X11_isWord_nvp (l : Launch) (dC : Nat → ClassId) (dI : Nat → Nat → Nat) (ad : Nat → Nat) (tN : Nat) (fN : Nat → Int64) (cB cI cJ cZ : ClassId) (h0 : Nat) (q1 : Int64) (r0 : Nat → Nat) (sz0 : Int32) (fk0 : Int32) (en0 : Int32) (tk0 : Int32) (nm0 : Int64) (bk0 : Int32) (rb0 : Int32) (dw0 : Int32) (rl0 : Int32) (sd0 : Int64) (jm0 : Int32) (bd0 : Int64) (gm0 : Int32) (ti0 : Int32) (w0 : va_W) (o0 : ok_mo ad cB cI cJ cZ h0 r0 sz0 fk0 en0 tk0 nm0 bk0 rb0 dw0 rl0 sd0 jm0 bd0 gm0 ti0 w0) (sz : Nat) : Met l yX11_isWord wsX11_isWord ({ frames := 0, cells := 0, slots := 0, locals := 0 } : Room) (va_Pc [.ref h0, .long q1] (fun U => U.heap.size = sz ∧ va_P (dC, dI) vwCl (List.flatten [w0]) U.heap ∧ va_K (dC, dI) vwCl [(cB, .byte), (cI, .int), (cJ, .long), (cZ, .boolean)] U ∧ va_D (fun _ => True) (List.flatten [w0]) ∧ ex_Y ad tN fN (va_A (List.flatten [w0]) sz) U)) (va_Qi (fun (r : Int32) (_ : Unit) => (r = 0 ∧ ¬ tk0.toInt = 3) ∨ (r = 0 ∧ tk0.toInt = 3) ∨ (r = 1 ∧ nm0 = q1 ∧ tk0.toInt = 3)) (fun (_ : Unit) (t : State) => va_P (dC, dI) vwCl (List.flatten [w0]) t.heap ∧ va_D (va_A (List.flatten [w0]) sz) (List.flatten [w0])) (va_A (List.flatten [w0]) sz)) 0 0 (va_A (List.flatten [w0]) sz) := by
  refine Met.ofW (cc := cX11_isWord) (maxL := 3) (ret := (some .boolean)) (by decide) rfl ?_
  intro p e s m args below meth c s₁ B hml hv
  obtain ⟨rfl, hsz, hP, hK, hD0, hE⟩ := hv
  have hx := B.exec
  have hb := B.bytes
  have hr := B.returns
  have hts := atoms_spec (ws := wsX11_isWord) B.pre
  have hown : s.vm.findClass RX11 = some m.cls := findClass_of_methodNamed B.named
  have hlocks := B.notSynchronized
  subst hsz
  have hD := hD0.self (sz := s.heap.size)
  generalize hAe : va_A (List.flatten [w0]) s.heap.size = A at hD hE ⊢
  have hA : ∀ q : Nat, s.heap.size ≤ q → A q := fun q h => by rw [← hAe]; exact Or.inr h
  have hS : va_S A s.heap s.heap [] := va_S.rf
  have hl := lv_entry ([.ref h0, .long q1]) (n := 3) (Nat.le_of_ble_eq_true rfl)
  rw [lg_entry_eq]
  generalize (lg_sl ([.ref h0, .long q1]) ++ List.replicate (3 - (lg_sl ([.ref h0, .long q1])).length) Slot.unset).toArray = ls at hl ⊢
  have hl : lv_has ls 3 [(0, .ref h0), (1, .long q1)] := hl
  clear hAe
  refine W_name (fun Q0 hQ0 => ?_)
  obtain ⟨hx_1, hx_2, hx_3, hx_4, hx_5, hx_6, hx_7, hx_8, hx_9, hx_10, hx_11, hx_12, hx_13, hx_14, hx_15, hx_16, hx_17, hx_18, hx_19, hx_20, hx_21, hx_22⟩ := okx_mo o0
  refine lv_aload_n hx hb dX11_isWord_0 rfl (lv_at hl 0 rfl) ?_
  obtain ⟨tp_23, fp_30, aq_31, nu_38, mv_43, mg_48, su_49, bu_52, fa_55, pp_56, so_61, rfl, hl_24, hh_25, hl_26, hh_27, hl_28, hh_29, hl_32, hh_33, hl_34, hh_35, hl_36, hh_37, hl_39, hh_40, hl_41, hh_42, hl_44, hh_45, hl_46, hh_47, hl_50, hh_51, hl_53, hh_54, hl_57, hh_58, hl_59, hh_60, hl_62, hh_63⟩ := o0
  refine va_get (D := (dC, dI)) (ci := 9) (v := .int tk0) (C := RX11) (T := TX11) (N := 69) hx hb hts iw_X11_isWord_X11 hown hK hP 0 rfl rfl 8 (by decide) (hts (.fieldLink RX11 183 "HungFloorsModel" "token" "I") (by decide +kernel)) (fun _ h9 => h9) rfl dX11_isWord_1 ?_
  refine lv_iconst (v := 3) hx hb dX11_isWord_4 (by decide) ?_
  refine lv_icmp_ne (tgt := 21) hx hb dX11_isWord_5 (by decide) (fun c_64 => ?_) (fun c_64 => ?_)
  · have c_64 : ¬ tk0.toInt = 3 := f_ne rfl tI_3 c_64
    refine lv_iconst (v := 0) hx hb dX11_isWord_21 (by decide) ?_
    rw [hQ0]
    exact W.zret (v := 0) hx hb hr (by decide) (fun t ht hW => ⟨⟨0, (), rfl, Or.inl ⟨rfl, c_64⟩, ⟨by rw [ht]; exact hP, hD⟩⟩, hS.F ht⟩) hS.2.2 dX11_isWord_22
  · have c_64 : tk0.toInt = 3 := f_eq rfl tI_3 c_64
    refine lv_aload_n hx hb dX11_isWord_8 rfl (lv_at hl 0 rfl) ?_
    refine va_get (D := (dC, dI)) (ci := 9) (v := .long nm0) (C := RX11) (T := TX11) (N := 69) hx hb hts iw_X11_isWord_X11 hown hK hP 0 rfl rfl 10 (by decide) (hts (.fieldLink RX11 190 "HungFloorsModel" "name" "J") (by decide +kernel)) (fun _ h9 => h9) rfl dX11_isWord_9 ?_
    refine lv_lload_n hx hb dX11_isWord_12 rfl (lv_at hl 1 rfl) ?_
    refine W.lcmp hx hb dX11_isWord_13 ?_
    refine lv_topi (fun z_65 ez_65 => ?_)
    refine lv_if_ne (tgt := 21) hx hb dX11_isWord_14 (by decide) (fun c_66 => ?_) (fun c_66 => ?_)
    · have c_66 : ¬ z_65.toInt = 0 := f_ne rfl tI_0 c_66
      refine lv_iconst (v := 0) hx hb dX11_isWord_21 (by decide) ?_
      rw [hQ0]
      exact W.zret (v := 0) hx hb hr (by decide) (fun t ht hW => ⟨⟨0, (), rfl, Or.inr (Or.inl ⟨rfl, c_64⟩), ⟨by rw [ht]; exact hP, hD⟩⟩, hS.F ht⟩) hS.2.2 dX11_isWord_22
    · have c_66 : z_65.toInt = 0 := f_eq rfl tI_0 c_66
      refine lv_iconst (v := 1) hx hb dX11_isWord_17 (by decide) ?_
      refine lv_goto (tgt := 22) hx hb dX11_isWord_18 (by decide) ?_
      rw [hQ0]
      exact W.zret (v := 1) hx hb hr (by decide) (fun t ht hW => ⟨⟨1, (), rfl, Or.inr (Or.inr (⟨rfl, (lc_eq ez_65 c_66), c_64⟩)), ⟨by rw [ht]; exact hP, hD⟩⟩, hS.F ht⟩) hS.2.2 dX11_isWord_22
theorem iw_X11_here_X11 : ∀ w ∈ wsX110, w ∈ wsX11_here := fun _ h => List.mem_cons_of_mem _ (List.mem_append_right _ h)
set_option maxHeartbeats 4000000 in
set_option maxRecDepth 100000 in
theorem c_X11_here_n12 (l : Launch) (dC : Nat → ClassId) (dI : Nat → Nat → Nat) (ad : Nat → Nat) (tN : Nat) (fN : Nat → Int64) (cB cI cJ cZ : ClassId) (h0 : Nat) (h1 : Nat) (p2 : Int32) (p3 : Int32) (r0 : Nat → Nat) (sz0 : Int32) (fk0 : Int32) (en0 : Int32) (tk0 : Int32) (nm0 : Int64) (bk0 : Int32) (rb0 : Int32) (dw0 : Int32) (rl0 : Int32) (sd0 : Int64) (jm0 : Int32) (bd0 : Int64) (gm0 : Int32) (ti0 : Int32) (w0 : va_W) (f1 : Nat → Int64) (o0 : ok_mo ad cB cI cJ cZ h0 r0 sz0 fk0 en0 tk0 nm0 bk0 rb0 dw0 rl0 sd0 jm0 bd0 gm0 ti0 w0) (sz : Nat) (up21 : 0 ≤ p2.toInt) (up22 : p2.toInt ≤ 6) (up31 : 0 ≤ p3.toInt) (up32 : p3.toInt ≤ 6) : Met l yX11_here wsX11_here ({ frames := 0, cells := 0, slots := 0, locals := 0 } : Room) (va_Pc [.ref h0, .ref h1, .int p2, .int p3] (fun U => U.heap.size = sz ∧ va_P (dC, dI) vwCl (List.flatten [w0, [(h1, .inl (cJ, 12, .inr (.inl f1)))]]) U.heap ∧ va_K (dC, dI) vwCl [(cB, .byte), (cI, .int), (cJ, .long), (cZ, .boolean)] U ∧ va_D (fun _ => True) (List.flatten [w0, [(h1, .inl (cJ, 12, .inr (.inl f1)))]]) ∧ ex_Y ad tN fN (va_A (List.flatten [w0, [(h1, .inl (cJ, 12, .inr (.inl f1)))]]) sz) U)) (va_Qi (fun (r : Int32) (_ : Unit) => -1 ≤ r.toInt ∧ r.toInt ≤ 5 ∧ (r.toInt < p3.toInt ∨ r.toInt = -1)) (fun (_ : Unit) (t : State) => va_P (dC, dI) vwCl (List.flatten [w0, [(h1, .inl (cJ, 12, .inr (.inl f1)))]]) t.heap ∧ va_D (va_A (List.flatten [w0, [(h1, .inl (cJ, 12, .inr (.inl f1)))]]) sz) (List.flatten [w0, [(h1, .inl (cJ, 12, .inr (.inl f1)))]])) (va_A (List.flatten [w0, [(h1, .inl (cJ, 12, .inr (.inl f1)))]]) sz)) 0 0 (va_A (List.flatten [w0, [(h1, .inl (cJ, 12, .inr (.inl f1)))]]) sz) := by
  refine Met.ofW (cc := cX11_here) (maxL := 5) (ret := (some .int)) (by decide) rfl ?_
  intro p e s m args below meth c s₁ B hml hv
  obtain ⟨rfl, hsz, hP, hK, hD0, hE⟩ := hv
  have hx := B.exec
  have hb := B.bytes
  have hr := B.returns
  have hts := atoms_spec (ws := wsX11_here) B.pre
  have hown : s.vm.findClass RX11 = some m.cls := findClass_of_methodNamed B.named
  have hlocks := B.notSynchronized
  subst hsz
  have hD := hD0.self (sz := s.heap.size)
  generalize hAe : va_A (List.flatten [w0, [(h1, .inl (cJ, 12, .inr (.inl f1)))]]) s.heap.size = A at hD hE ⊢
  have hA : ∀ q : Nat, s.heap.size ≤ q → A q := fun q h => by rw [← hAe]; exact Or.inr h
  have hS : va_S A s.heap s.heap [] := va_S.rf
  have hl := lv_entry ([.ref h0, .ref h1, .int p2, .int p3]) (n := 5) (Nat.le_of_ble_eq_true rfl)
  rw [lg_entry_eq]
  generalize (lg_sl ([.ref h0, .ref h1, .int p2, .int p3]) ++ List.replicate (5 - (lg_sl ([.ref h0, .ref h1, .int p2, .int p3])).length) Slot.unset).toArray = ls at hl ⊢
  have hl : lv_has ls 5 [(0, .ref h0), (1, .ref h1), (2, .int p2), (3, .int p3)] := hl
  clear hAe
  refine W_name (fun Q0 hQ0 => ?_)
  obtain ⟨hx_1, hx_2, hx_3, hx_4, hx_5, hx_6, hx_7, hx_8, hx_9, hx_10, hx_11, hx_12, hx_13, hx_14, hx_15, hx_16, hx_17, hx_18, hx_19, hx_20, hx_21, hx_22⟩ := okx_mo o0
  refine lv_iconst (v := 0) hx hb dX11_here_0 (by decide) ?_
  refine lv_istore (lv' := [(4, .int 0), (0, .ref h0), (1, .ref h1), (2, .int p2), (3, .int p3)]) hx hb dX11_here_1 hl (by decide) rfl (fun ls hl => ?_)
  obtain ⟨tp_73, fp_80, aq_81, nu_88, mv_93, mg_98, su_99, bu_102, fa_105, pp_106, so_111, rfl, hl_74, hh_75, hl_76, hh_77, hl_78, hh_79, hl_82, hh_83, hl_84, hh_85, hl_86, hh_87, hl_89, hh_90, hl_91, hh_92, hl_94, hh_95, hl_96, hh_97, hl_100, hh_101, hl_103, hh_104, hl_107, hh_108, hl_109, hh_110, hl_112, hh_113⟩ := o0
  have lp_173 : ∀ (n : Nat) (g_23 : Int32), 0 ≤ g_23.toInt → g_23.toInt ≤ 6 → g_23.toInt - p3.toInt ≤ 0 → (6 - g_23.toInt).toNat < n → ∀ (H : Heap) (locs : List Loc), va_P (dC, dI) vwCl (List.flatten [[(h0, .inr (9, (.ref (r0 0) :: .ref (r0 1) :: .int tp_73 :: .int sz0 :: .int fk0 :: .int fp_80 :: .int aq_81 :: .int en0 :: .int tk0 :: .int nu_88 :: .long nm0 :: .ref (r0 2) :: .ref (r0 3) :: .ref (r0 4) :: .ref (r0 5) :: .ref (r0 6) :: .ref (r0 7) :: .ref (r0 8) :: .ref (r0 9) :: .ref (r0 10) :: .ref (r0 11) :: .ref (r0 12) :: .ref (r0 13) :: .int bk0 :: .int rb0 :: .ref (r0 14) :: .int mv_93 :: .ref (r0 15) :: .ref (r0 16) :: .ref (r0 17) :: .ref (r0 18) :: .ref (r0 19) :: .ref (r0 20) :: .ref (r0 21) :: .ref (r0 22) :: .ref (r0 23) :: .int dw0 :: .int rl0 :: .int mg_98 :: .long su_99 :: .long sd0 :: .ref (r0 24) :: .ref (r0 25) :: .int jm0 :: .long bu_102 :: .long bd0 :: .ref (r0 26) :: .int gm0 :: .int fa_105 :: .ref (r0 27) :: .ref (r0 28) :: .ref (r0 29) :: .ref (r0 30) :: .ref (r0 31) :: .ref (r0 32) :: .ref (r0 33) :: .ref (r0 34) :: .ref (r0 35) :: .ref (r0 36) :: .ref (r0 37) :: .int pp_106 :: .int ti0 :: .ref (r0 38) :: .ref (r0 39) :: .ref (r0 40) :: .int so_111 :: .ref (r0 41) :: .ref (r0 42) :: .ref (r0 43) :: [])))], [(h1, .inl (cJ, 12, .inr (.inl f1)))]]) H → va_D A (List.flatten [[(h0, .inr (9, (.ref (r0 0) :: .ref (r0 1) :: .int tp_73 :: .int sz0 :: .int fk0 :: .int fp_80 :: .int aq_81 :: .int en0 :: .int tk0 :: .int nu_88 :: .long nm0 :: .ref (r0 2) :: .ref (r0 3) :: .ref (r0 4) :: .ref (r0 5) :: .ref (r0 6) :: .ref (r0 7) :: .ref (r0 8) :: .ref (r0 9) :: .ref (r0 10) :: .ref (r0 11) :: .ref (r0 12) :: .ref (r0 13) :: .int bk0 :: .int rb0 :: .ref (r0 14) :: .int mv_93 :: .ref (r0 15) :: .ref (r0 16) :: .ref (r0 17) :: .ref (r0 18) :: .ref (r0 19) :: .ref (r0 20) :: .ref (r0 21) :: .ref (r0 22) :: .ref (r0 23) :: .int dw0 :: .int rl0 :: .int mg_98 :: .long su_99 :: .long sd0 :: .ref (r0 24) :: .ref (r0 25) :: .int jm0 :: .long bu_102 :: .long bd0 :: .ref (r0 26) :: .int gm0 :: .int fa_105 :: .ref (r0 27) :: .ref (r0 28) :: .ref (r0 29) :: .ref (r0 30) :: .ref (r0 31) :: .ref (r0 32) :: .ref (r0 33) :: .ref (r0 34) :: .ref (r0 35) :: .ref (r0 36) :: .ref (r0 37) :: .int pp_106 :: .int ti0 :: .ref (r0 38) :: .ref (r0 39) :: .ref (r0 40) :: .int so_111 :: .ref (r0 41) :: .ref (r0 42) :: .ref (r0 43) :: [])))], [(h1, .inl (cJ, 12, .inr (.inl f1)))]]) → va_S A s.heap H locs → ∀ (ls : Array Slot), lv_has ls 5 [(4, .int g_23), (0, .ref h0), (1, .ref h1), (2, .int p2), (3, .int p3)] → W p l e (headSpec wsX11_here ({ frames := 0, cells := 0, slots := 0, locals := 0 } : Room)).room s m ([.ref h0, .ref h1, .int p2, .int p3] : List Value).toArray below meth c H locs 0 0 Q0 (F0 m 3 ls []) := by
    intro n
    induction n with
    | zero => intro g_23 iv_170 iv_171 iv_172 hm; exact absurd hm (Nat.not_lt_zero _)
    | succ n ih_174 =>
      intro g_23 iv_170 iv_171 iv_172 hm H locs hP hD hS ls hl
      refine lv_iload hx hb dX11_here_3 (lv_at hl 0 rfl) ?_
      refine lv_iload_n hx hb dX11_here_5 rfl (lv_at hl 4 rfl) ?_
      refine lv_icmp_ge (tgt := 40) hx hb dX11_here_6 (by decide) (fun c_175 => ?_) (fun c_175 => ?_)
      · have c_175 : p3.toInt ≤ g_23.toInt := f_le rfl rfl c_175
        refine lv_iconst (v := (-1)) hx hb dX11_here_40 (by decide) ?_
        rw [hQ0]
        exact W.iret (v := (-1)) hx hb hr (fun t ht hW => ⟨⟨(-1), (), rfl, ⟨by decide, by decide, (by have := tI_m1; omega)⟩, ⟨by rw [ht]; exact hP, hD⟩⟩, hS.F ht⟩) hS.2.2 dX11_here_41
      · have c_175 : g_23.toInt < p3.toInt := f_nle rfl rfl c_175
        refine lv_aload_n hx hb dX11_here_9 rfl (lv_at hl 1 rfl) ?_
        refine va_get (D := (dC, dI)) (ci := 9) (v := .int tk0) (C := RX11) (T := TX11) (N := 69) hx hb hts iw_X11_here_X11 hown hK hP 0 rfl rfl 8 (by decide) (hts (.fieldLink RX11 183 "HungFloorsModel" "token" "I") (by decide +kernel)) (fun _ h9 => h9) rfl dX11_here_10 ?_
        refine lv_iconst (v := 2) hx hb dX11_here_13 (by decide) ?_
        refine lv_icmp_ne (tgt := 34) hx hb dX11_here_14 (by decide) (fun c_176 => ?_) (fun c_176 => ?_)
        · have c_176 : ¬ tk0.toInt = 2 := f_ne rfl tI_2 c_176
          obtain ⟨z_177, ez_177⟩ : ∃ y : Int32, y = g_23 + 1 := ⟨_, rfl⟩
          have hz_177 : z_177.toInt = g_23.toInt + 1 := by rw [ez_177]; exact t_add rfl tI_1 (by omega) (by omega)
          refine lv_iinc (v := z_177) (lv' := [(4, .int z_177), (0, .ref h0), (1, .ref h1), (2, .int p2), (3, .int p3)]) hx hb dX11_here_34 hl (k := 0) rfl (by rw [ez_177]; rfl) (by decide) rfl (fun ls hl => ?_)
          refine lv_goto (tgt := 3) hx hb dX11_here_37 (by decide) ?_
          exact ih_174 z_177 (by omega) (by omega) (by omega) (by omega) _ _ hP hD hS ls (lv_sub hl [0, 1, 2, 3, 4] rfl)
        · have c_176 : tk0.toInt = 2 := f_eq rfl tI_2 c_176
          refine lv_aload_n hx hb dX11_here_17 rfl (lv_at hl 2 rfl) ?_
          refine lv_iload_n hx hb dX11_here_18 rfl (lv_at hl 3 rfl) ?_
          refine lv_iload hx hb dX11_here_19 (lv_at hl 0 rfl) ?_
          refine lv_iadd hx hb dX11_here_21 ?_
          refine lv_topi (fun z_178 ez_178 => ?_)
          have hz_178 : z_178.toInt = p2.toInt + g_23.toInt := by rw [ez_178]; exact t_add rfl rfl (by omega) (by omega)
          refine va_lald hx hb hK hP 1 2 rfl rfl (v_in rfl (by omega) (by omega)) dX11_here_22 ?_
          refine lv_topl (fun z_179 ez_179 => ?_)
          refine lv_aload_n hx hb dX11_here_23 rfl (lv_at hl 1 rfl) ?_
          refine va_get (D := (dC, dI)) (ci := 9) (v := .long nm0) (C := RX11) (T := TX11) (N := 69) hx hb hts iw_X11_here_X11 hown hK hP 0 rfl rfl 10 (by decide) (hts (.fieldLink RX11 190 "HungFloorsModel" "name" "J") (by decide +kernel)) (fun _ h9 => h9) rfl dX11_here_24 ?_
          refine W.lcmp hx hb dX11_here_27 ?_
          refine lv_topi (fun z_180 ez_180 => ?_)
          refine lv_if_ne (tgt := 34) hx hb dX11_here_28 (by decide) (fun c_181 => ?_) (fun c_181 => ?_)
          · have c_181 : ¬ z_180.toInt = 0 := f_ne rfl tI_0 c_181
            obtain ⟨z_182, ez_182⟩ : ∃ y : Int32, y = g_23 + 1 := ⟨_, rfl⟩
            have hz_182 : z_182.toInt = g_23.toInt + 1 := by rw [ez_182]; exact t_add rfl tI_1 (by omega) (by omega)
            refine lv_iinc (v := z_182) (lv' := [(4, .int z_182), (0, .ref h0), (1, .ref h1), (2, .int p2), (3, .int p3)]) hx hb dX11_here_34 hl (k := 0) rfl (by rw [ez_182]; rfl) (by decide) rfl (fun ls hl => ?_)
            refine lv_goto (tgt := 3) hx hb dX11_here_37 (by decide) ?_
            exact ih_174 z_182 (by omega) (by omega) (by omega) (by omega) _ _ hP hD hS ls (lv_sub hl [0, 1, 2, 3, 4] rfl)
          · have c_181 : z_180.toInt = 0 := f_eq rfl tI_0 c_181
            refine lv_iload hx hb dX11_here_31 (lv_at hl 0 rfl) ?_
            rw [hQ0]
            exact W.iret (v := g_23) hx hb hr (fun t ht hW => ⟨⟨g_23, (), rfl, ⟨by omega, by omega, (by omega)⟩, ⟨by rw [ht]; exact hP, hD⟩⟩, hS.F ht⟩) hS.2.2 dX11_here_33
  exact lp_173 _ 0 (by have := tI_0; omega) (by have := tI_0; omega) (by have := tI_0; omega) (Nat.lt_succ_self _) _ _ hP hD hS ls (lv_sub hl [0, 1, 2, 3, 4] rfl)
set_option maxHeartbeats 4000000 in
set_option maxRecDepth 100000 in
theorem c_X11_here_n8 (l : Launch) (dC : Nat → ClassId) (dI : Nat → Nat → Nat) (ad : Nat → Nat) (tN : Nat) (fN : Nat → Int64) (cB cI cJ cZ : ClassId) (h0 : Nat) (h1 : Nat) (p2 : Int32) (p3 : Int32) (r0 : Nat → Nat) (sz0 : Int32) (fk0 : Int32) (en0 : Int32) (tk0 : Int32) (nm0 : Int64) (bk0 : Int32) (rb0 : Int32) (dw0 : Int32) (rl0 : Int32) (sd0 : Int64) (jm0 : Int32) (bd0 : Int64) (gm0 : Int32) (ti0 : Int32) (w0 : va_W) (f1 : Nat → Int64) (o0 : ok_mo ad cB cI cJ cZ h0 r0 sz0 fk0 en0 tk0 nm0 bk0 rb0 dw0 rl0 sd0 jm0 bd0 gm0 ti0 w0) (sz : Nat) (up21 : 0 ≤ p2.toInt) (up22 : p2.toInt ≤ 4) (up31 : 0 ≤ p3.toInt) (up32 : p3.toInt ≤ 4) : Met l yX11_here wsX11_here ({ frames := 0, cells := 0, slots := 0, locals := 0 } : Room) (va_Pc [.ref h0, .ref h1, .int p2, .int p3] (fun U => U.heap.size = sz ∧ va_P (dC, dI) vwCl (List.flatten [w0, [(h1, .inl (cJ, 8, .inr (.inl f1)))]]) U.heap ∧ va_K (dC, dI) vwCl [(cB, .byte), (cI, .int), (cJ, .long), (cZ, .boolean)] U ∧ va_D (fun _ => True) (List.flatten [w0, [(h1, .inl (cJ, 8, .inr (.inl f1)))]]) ∧ ex_Y ad tN fN (va_A (List.flatten [w0, [(h1, .inl (cJ, 8, .inr (.inl f1)))]]) sz) U)) (va_Qi (fun (r : Int32) (_ : Unit) => -1 ≤ r.toInt ∧ r.toInt ≤ 3 ∧ (r.toInt < p3.toInt ∨ r.toInt = -1)) (fun (_ : Unit) (t : State) => va_P (dC, dI) vwCl (List.flatten [w0, [(h1, .inl (cJ, 8, .inr (.inl f1)))]]) t.heap ∧ va_D (va_A (List.flatten [w0, [(h1, .inl (cJ, 8, .inr (.inl f1)))]]) sz) (List.flatten [w0, [(h1, .inl (cJ, 8, .inr (.inl f1)))]])) (va_A (List.flatten [w0, [(h1, .inl (cJ, 8, .inr (.inl f1)))]]) sz)) 0 0 (va_A (List.flatten [w0, [(h1, .inl (cJ, 8, .inr (.inl f1)))]]) sz) := by
  refine Met.ofW (cc := cX11_here) (maxL := 5) (ret := (some .int)) (by decide) rfl ?_
  intro p e s m args below meth c s₁ B hml hv
  obtain ⟨rfl, hsz, hP, hK, hD0, hE⟩ := hv
  have hx := B.exec
  have hb := B.bytes
  have hr := B.returns
  have hts := atoms_spec (ws := wsX11_here) B.pre
  have hown : s.vm.findClass RX11 = some m.cls := findClass_of_methodNamed B.named
  have hlocks := B.notSynchronized
  subst hsz
  have hD := hD0.self (sz := s.heap.size)
  generalize hAe : va_A (List.flatten [w0, [(h1, .inl (cJ, 8, .inr (.inl f1)))]]) s.heap.size = A at hD hE ⊢
  have hA : ∀ q : Nat, s.heap.size ≤ q → A q := fun q h => by rw [← hAe]; exact Or.inr h
  have hS : va_S A s.heap s.heap [] := va_S.rf
  have hl := lv_entry ([.ref h0, .ref h1, .int p2, .int p3]) (n := 5) (Nat.le_of_ble_eq_true rfl)
  rw [lg_entry_eq]
  generalize (lg_sl ([.ref h0, .ref h1, .int p2, .int p3]) ++ List.replicate (5 - (lg_sl ([.ref h0, .ref h1, .int p2, .int p3])).length) Slot.unset).toArray = ls at hl ⊢
  have hl : lv_has ls 5 [(0, .ref h0), (1, .ref h1), (2, .int p2), (3, .int p3)] := hl
  clear hAe
  refine W_name (fun Q0 hQ0 => ?_)
  obtain ⟨hx_1, hx_2, hx_3, hx_4, hx_5, hx_6, hx_7, hx_8, hx_9, hx_10, hx_11, hx_12, hx_13, hx_14, hx_15, hx_16, hx_17, hx_18, hx_19, hx_20, hx_21, hx_22⟩ := okx_mo o0
  refine lv_iconst (v := 0) hx hb dX11_here_0 (by decide) ?_
  refine lv_istore (lv' := [(4, .int 0), (0, .ref h0), (1, .ref h1), (2, .int p2), (3, .int p3)]) hx hb dX11_here_1 hl (by decide) rfl (fun ls hl => ?_)
  obtain ⟨tp_73, fp_80, aq_81, nu_88, mv_93, mg_98, su_99, bu_102, fa_105, pp_106, so_111, rfl, hl_74, hh_75, hl_76, hh_77, hl_78, hh_79, hl_82, hh_83, hl_84, hh_85, hl_86, hh_87, hl_89, hh_90, hl_91, hh_92, hl_94, hh_95, hl_96, hh_97, hl_100, hh_101, hl_103, hh_104, hl_107, hh_108, hl_109, hh_110, hl_112, hh_113⟩ := o0
  have lp_157 : ∀ (n : Nat) (g_23 : Int32), 0 ≤ g_23.toInt → g_23.toInt ≤ 4 → g_23.toInt - p3.toInt ≤ 0 → (4 - g_23.toInt).toNat < n → ∀ (H : Heap) (locs : List Loc), va_P (dC, dI) vwCl (List.flatten [[(h0, .inr (9, (.ref (r0 0) :: .ref (r0 1) :: .int tp_73 :: .int sz0 :: .int fk0 :: .int fp_80 :: .int aq_81 :: .int en0 :: .int tk0 :: .int nu_88 :: .long nm0 :: .ref (r0 2) :: .ref (r0 3) :: .ref (r0 4) :: .ref (r0 5) :: .ref (r0 6) :: .ref (r0 7) :: .ref (r0 8) :: .ref (r0 9) :: .ref (r0 10) :: .ref (r0 11) :: .ref (r0 12) :: .ref (r0 13) :: .int bk0 :: .int rb0 :: .ref (r0 14) :: .int mv_93 :: .ref (r0 15) :: .ref (r0 16) :: .ref (r0 17) :: .ref (r0 18) :: .ref (r0 19) :: .ref (r0 20) :: .ref (r0 21) :: .ref (r0 22) :: .ref (r0 23) :: .int dw0 :: .int rl0 :: .int mg_98 :: .long su_99 :: .long sd0 :: .ref (r0 24) :: .ref (r0 25) :: .int jm0 :: .long bu_102 :: .long bd0 :: .ref (r0 26) :: .int gm0 :: .int fa_105 :: .ref (r0 27) :: .ref (r0 28) :: .ref (r0 29) :: .ref (r0 30) :: .ref (r0 31) :: .ref (r0 32) :: .ref (r0 33) :: .ref (r0 34) :: .ref (r0 35) :: .ref (r0 36) :: .ref (r0 37) :: .int pp_106 :: .int ti0 :: .ref (r0 38) :: .ref (r0 39) :: .ref (r0 40) :: .int so_111 :: .ref (r0 41) :: .ref (r0 42) :: .ref (r0 43) :: [])))], [(h1, .inl (cJ, 8, .inr (.inl f1)))]]) H → va_D A (List.flatten [[(h0, .inr (9, (.ref (r0 0) :: .ref (r0 1) :: .int tp_73 :: .int sz0 :: .int fk0 :: .int fp_80 :: .int aq_81 :: .int en0 :: .int tk0 :: .int nu_88 :: .long nm0 :: .ref (r0 2) :: .ref (r0 3) :: .ref (r0 4) :: .ref (r0 5) :: .ref (r0 6) :: .ref (r0 7) :: .ref (r0 8) :: .ref (r0 9) :: .ref (r0 10) :: .ref (r0 11) :: .ref (r0 12) :: .ref (r0 13) :: .int bk0 :: .int rb0 :: .ref (r0 14) :: .int mv_93 :: .ref (r0 15) :: .ref (r0 16) :: .ref (r0 17) :: .ref (r0 18) :: .ref (r0 19) :: .ref (r0 20) :: .ref (r0 21) :: .ref (r0 22) :: .ref (r0 23) :: .int dw0 :: .int rl0 :: .int mg_98 :: .long su_99 :: .long sd0 :: .ref (r0 24) :: .ref (r0 25) :: .int jm0 :: .long bu_102 :: .long bd0 :: .ref (r0 26) :: .int gm0 :: .int fa_105 :: .ref (r0 27) :: .ref (r0 28) :: .ref (r0 29) :: .ref (r0 30) :: .ref (r0 31) :: .ref (r0 32) :: .ref (r0 33) :: .ref (r0 34) :: .ref (r0 35) :: .ref (r0 36) :: .ref (r0 37) :: .int pp_106 :: .int ti0 :: .ref (r0 38) :: .ref (r0 39) :: .ref (r0 40) :: .int so_111 :: .ref (r0 41) :: .ref (r0 42) :: .ref (r0 43) :: [])))], [(h1, .inl (cJ, 8, .inr (.inl f1)))]]) → va_S A s.heap H locs → ∀ (ls : Array Slot), lv_has ls 5 [(4, .int g_23), (0, .ref h0), (1, .ref h1), (2, .int p2), (3, .int p3)] → W p l e (headSpec wsX11_here ({ frames := 0, cells := 0, slots := 0, locals := 0 } : Room)).room s m ([.ref h0, .ref h1, .int p2, .int p3] : List Value).toArray below meth c H locs 0 0 Q0 (F0 m 3 ls []) := by
    intro n
    induction n with
    | zero => intro g_23 iv_154 iv_155 iv_156 hm; exact absurd hm (Nat.not_lt_zero _)
    | succ n ih_158 =>
      intro g_23 iv_154 iv_155 iv_156 hm H locs hP hD hS ls hl
      refine lv_iload hx hb dX11_here_3 (lv_at hl 0 rfl) ?_
      refine lv_iload_n hx hb dX11_here_5 rfl (lv_at hl 4 rfl) ?_
      refine lv_icmp_ge (tgt := 40) hx hb dX11_here_6 (by decide) (fun c_159 => ?_) (fun c_159 => ?_)
      · have c_159 : p3.toInt ≤ g_23.toInt := f_le rfl rfl c_159
        refine lv_iconst (v := (-1)) hx hb dX11_here_40 (by decide) ?_
        rw [hQ0]
        exact W.iret (v := (-1)) hx hb hr (fun t ht hW => ⟨⟨(-1), (), rfl, ⟨by decide, by decide, (by have := tI_m1; omega)⟩, ⟨by rw [ht]; exact hP, hD⟩⟩, hS.F ht⟩) hS.2.2 dX11_here_41
      · have c_159 : g_23.toInt < p3.toInt := f_nle rfl rfl c_159
        refine lv_aload_n hx hb dX11_here_9 rfl (lv_at hl 1 rfl) ?_
        refine va_get (D := (dC, dI)) (ci := 9) (v := .int tk0) (C := RX11) (T := TX11) (N := 69) hx hb hts iw_X11_here_X11 hown hK hP 0 rfl rfl 8 (by decide) (hts (.fieldLink RX11 183 "HungFloorsModel" "token" "I") (by decide +kernel)) (fun _ h9 => h9) rfl dX11_here_10 ?_
        refine lv_iconst (v := 2) hx hb dX11_here_13 (by decide) ?_
        refine lv_icmp_ne (tgt := 34) hx hb dX11_here_14 (by decide) (fun c_160 => ?_) (fun c_160 => ?_)
        · have c_160 : ¬ tk0.toInt = 2 := f_ne rfl tI_2 c_160
          obtain ⟨z_161, ez_161⟩ : ∃ y : Int32, y = g_23 + 1 := ⟨_, rfl⟩
          have hz_161 : z_161.toInt = g_23.toInt + 1 := by rw [ez_161]; exact t_add rfl tI_1 (by omega) (by omega)
          refine lv_iinc (v := z_161) (lv' := [(4, .int z_161), (0, .ref h0), (1, .ref h1), (2, .int p2), (3, .int p3)]) hx hb dX11_here_34 hl (k := 0) rfl (by rw [ez_161]; rfl) (by decide) rfl (fun ls hl => ?_)
          refine lv_goto (tgt := 3) hx hb dX11_here_37 (by decide) ?_
          exact ih_158 z_161 (by omega) (by omega) (by omega) (by omega) _ _ hP hD hS ls (lv_sub hl [0, 1, 2, 3, 4] rfl)
        · have c_160 : tk0.toInt = 2 := f_eq rfl tI_2 c_160
          refine lv_aload_n hx hb dX11_here_17 rfl (lv_at hl 2 rfl) ?_
          refine lv_iload_n hx hb dX11_here_18 rfl (lv_at hl 3 rfl) ?_
          refine lv_iload hx hb dX11_here_19 (lv_at hl 0 rfl) ?_
          refine lv_iadd hx hb dX11_here_21 ?_
          refine lv_topi (fun z_162 ez_162 => ?_)
          have hz_162 : z_162.toInt = p2.toInt + g_23.toInt := by rw [ez_162]; exact t_add rfl rfl (by omega) (by omega)
          refine va_lald hx hb hK hP 1 2 rfl rfl (v_in rfl (by omega) (by omega)) dX11_here_22 ?_
          refine lv_topl (fun z_163 ez_163 => ?_)
          refine lv_aload_n hx hb dX11_here_23 rfl (lv_at hl 1 rfl) ?_
          refine va_get (D := (dC, dI)) (ci := 9) (v := .long nm0) (C := RX11) (T := TX11) (N := 69) hx hb hts iw_X11_here_X11 hown hK hP 0 rfl rfl 10 (by decide) (hts (.fieldLink RX11 190 "HungFloorsModel" "name" "J") (by decide +kernel)) (fun _ h9 => h9) rfl dX11_here_24 ?_
          refine W.lcmp hx hb dX11_here_27 ?_
          refine lv_topi (fun z_164 ez_164 => ?_)
          refine lv_if_ne (tgt := 34) hx hb dX11_here_28 (by decide) (fun c_165 => ?_) (fun c_165 => ?_)
          · have c_165 : ¬ z_164.toInt = 0 := f_ne rfl tI_0 c_165
            obtain ⟨z_166, ez_166⟩ : ∃ y : Int32, y = g_23 + 1 := ⟨_, rfl⟩
            have hz_166 : z_166.toInt = g_23.toInt + 1 := by rw [ez_166]; exact t_add rfl tI_1 (by omega) (by omega)
            refine lv_iinc (v := z_166) (lv' := [(4, .int z_166), (0, .ref h0), (1, .ref h1), (2, .int p2), (3, .int p3)]) hx hb dX11_here_34 hl (k := 0) rfl (by rw [ez_166]; rfl) (by decide) rfl (fun ls hl => ?_)
            refine lv_goto (tgt := 3) hx hb dX11_here_37 (by decide) ?_
            exact ih_158 z_166 (by omega) (by omega) (by omega) (by omega) _ _ hP hD hS ls (lv_sub hl [0, 1, 2, 3, 4] rfl)
          · have c_165 : z_164.toInt = 0 := f_eq rfl tI_0 c_165
            refine lv_iload hx hb dX11_here_31 (lv_at hl 0 rfl) ?_
            rw [hQ0]
            exact W.iret (v := g_23) hx hb hr (fun t ht hW => ⟨⟨g_23, (), rfl, ⟨by omega, by omega, (by omega)⟩, ⟨by rw [ht]; exact hP, hD⟩⟩, hS.F ht⟩) hS.2.2 dX11_here_33
  exact lp_157 _ 0 (by have := tI_0; omega) (by have := tI_0; omega) (by have := tI_0; omega) (Nat.lt_succ_self _) _ _ hP hD hS ls (lv_sub hl [0, 1, 2, 3, 4] rfl)
set_option maxHeartbeats 4000000 in
set_option maxRecDepth 100000 in
theorem c_X11_here_n80 (l : Launch) (dC : Nat → ClassId) (dI : Nat → Nat → Nat) (ad : Nat → Nat) (tN : Nat) (fN : Nat → Int64) (cB cI cJ cZ : ClassId) (h0 : Nat) (h1 : Nat) (p2 : Int32) (p3 : Int32) (r0 : Nat → Nat) (sz0 : Int32) (fk0 : Int32) (en0 : Int32) (tk0 : Int32) (nm0 : Int64) (bk0 : Int32) (rb0 : Int32) (dw0 : Int32) (rl0 : Int32) (sd0 : Int64) (jm0 : Int32) (bd0 : Int64) (gm0 : Int32) (ti0 : Int32) (w0 : va_W) (f1 : Nat → Int64) (o0 : ok_mo ad cB cI cJ cZ h0 r0 sz0 fk0 en0 tk0 nm0 bk0 rb0 dw0 rl0 sd0 jm0 bd0 gm0 ti0 w0) (sz : Nat) (up21 : 0 ≤ p2.toInt) (up22 : p2.toInt ≤ 70) (up31 : 0 ≤ p3.toInt) (up32 : p3.toInt ≤ 10) : Met l yX11_here wsX11_here ({ frames := 0, cells := 0, slots := 0, locals := 0 } : Room) (va_Pc [.ref h0, .ref h1, .int p2, .int p3] (fun U => U.heap.size = sz ∧ va_P (dC, dI) vwCl (List.flatten [w0, [(h1, .inl (cJ, 80, .inr (.inl f1)))]]) U.heap ∧ va_K (dC, dI) vwCl [(cB, .byte), (cI, .int), (cJ, .long), (cZ, .boolean)] U ∧ va_D (fun _ => True) (List.flatten [w0, [(h1, .inl (cJ, 80, .inr (.inl f1)))]]) ∧ ex_Y ad tN fN (va_A (List.flatten [w0, [(h1, .inl (cJ, 80, .inr (.inl f1)))]]) sz) U)) (va_Qi (fun (r : Int32) (_ : Unit) => -1 ≤ r.toInt ∧ r.toInt ≤ 9 ∧ (r.toInt < p3.toInt ∨ r.toInt = -1)) (fun (_ : Unit) (t : State) => va_P (dC, dI) vwCl (List.flatten [w0, [(h1, .inl (cJ, 80, .inr (.inl f1)))]]) t.heap ∧ va_D (va_A (List.flatten [w0, [(h1, .inl (cJ, 80, .inr (.inl f1)))]]) sz) (List.flatten [w0, [(h1, .inl (cJ, 80, .inr (.inl f1)))]])) (va_A (List.flatten [w0, [(h1, .inl (cJ, 80, .inr (.inl f1)))]]) sz)) 0 0 (va_A (List.flatten [w0, [(h1, .inl (cJ, 80, .inr (.inl f1)))]]) sz) := by
  refine Met.ofW (cc := cX11_here) (maxL := 5) (ret := (some .int)) (by decide) rfl ?_
  intro p e s m args below meth c s₁ B hml hv
  obtain ⟨rfl, hsz, hP, hK, hD0, hE⟩ := hv
  have hx := B.exec
  have hb := B.bytes
  have hr := B.returns
  have hts := atoms_spec (ws := wsX11_here) B.pre
  have hown : s.vm.findClass RX11 = some m.cls := findClass_of_methodNamed B.named
  have hlocks := B.notSynchronized
  subst hsz
  have hD := hD0.self (sz := s.heap.size)
  generalize hAe : va_A (List.flatten [w0, [(h1, .inl (cJ, 80, .inr (.inl f1)))]]) s.heap.size = A at hD hE ⊢
  have hA : ∀ q : Nat, s.heap.size ≤ q → A q := fun q h => by rw [← hAe]; exact Or.inr h
  have hS : va_S A s.heap s.heap [] := va_S.rf
  have hl := lv_entry ([.ref h0, .ref h1, .int p2, .int p3]) (n := 5) (Nat.le_of_ble_eq_true rfl)
  rw [lg_entry_eq]
  generalize (lg_sl ([.ref h0, .ref h1, .int p2, .int p3]) ++ List.replicate (5 - (lg_sl ([.ref h0, .ref h1, .int p2, .int p3])).length) Slot.unset).toArray = ls at hl ⊢
  have hl : lv_has ls 5 [(0, .ref h0), (1, .ref h1), (2, .int p2), (3, .int p3)] := hl
  clear hAe
  refine W_name (fun Q0 hQ0 => ?_)
  obtain ⟨hx_1, hx_2, hx_3, hx_4, hx_5, hx_6, hx_7, hx_8, hx_9, hx_10, hx_11, hx_12, hx_13, hx_14, hx_15, hx_16, hx_17, hx_18, hx_19, hx_20, hx_21, hx_22⟩ := okx_mo o0
  refine lv_iconst (v := 0) hx hb dX11_here_0 (by decide) ?_
  refine lv_istore (lv' := [(4, .int 0), (0, .ref h0), (1, .ref h1), (2, .int p2), (3, .int p3)]) hx hb dX11_here_1 hl (by decide) rfl (fun ls hl => ?_)
  obtain ⟨tp_73, fp_80, aq_81, nu_88, mv_93, mg_98, su_99, bu_102, fa_105, pp_106, so_111, rfl, hl_74, hh_75, hl_76, hh_77, hl_78, hh_79, hl_82, hh_83, hl_84, hh_85, hl_86, hh_87, hl_89, hh_90, hl_91, hh_92, hl_94, hh_95, hl_96, hh_97, hl_100, hh_101, hl_103, hh_104, hl_107, hh_108, hl_109, hh_110, hl_112, hh_113⟩ := o0
  have lp_205 : ∀ (n : Nat) (g_23 : Int32), 0 ≤ g_23.toInt → g_23.toInt ≤ 10 → g_23.toInt - p3.toInt ≤ 0 → (10 - g_23.toInt).toNat < n → ∀ (H : Heap) (locs : List Loc), va_P (dC, dI) vwCl (List.flatten [[(h0, .inr (9, (.ref (r0 0) :: .ref (r0 1) :: .int tp_73 :: .int sz0 :: .int fk0 :: .int fp_80 :: .int aq_81 :: .int en0 :: .int tk0 :: .int nu_88 :: .long nm0 :: .ref (r0 2) :: .ref (r0 3) :: .ref (r0 4) :: .ref (r0 5) :: .ref (r0 6) :: .ref (r0 7) :: .ref (r0 8) :: .ref (r0 9) :: .ref (r0 10) :: .ref (r0 11) :: .ref (r0 12) :: .ref (r0 13) :: .int bk0 :: .int rb0 :: .ref (r0 14) :: .int mv_93 :: .ref (r0 15) :: .ref (r0 16) :: .ref (r0 17) :: .ref (r0 18) :: .ref (r0 19) :: .ref (r0 20) :: .ref (r0 21) :: .ref (r0 22) :: .ref (r0 23) :: .int dw0 :: .int rl0 :: .int mg_98 :: .long su_99 :: .long sd0 :: .ref (r0 24) :: .ref (r0 25) :: .int jm0 :: .long bu_102 :: .long bd0 :: .ref (r0 26) :: .int gm0 :: .int fa_105 :: .ref (r0 27) :: .ref (r0 28) :: .ref (r0 29) :: .ref (r0 30) :: .ref (r0 31) :: .ref (r0 32) :: .ref (r0 33) :: .ref (r0 34) :: .ref (r0 35) :: .ref (r0 36) :: .ref (r0 37) :: .int pp_106 :: .int ti0 :: .ref (r0 38) :: .ref (r0 39) :: .ref (r0 40) :: .int so_111 :: .ref (r0 41) :: .ref (r0 42) :: .ref (r0 43) :: [])))], [(h1, .inl (cJ, 80, .inr (.inl f1)))]]) H → va_D A (List.flatten [[(h0, .inr (9, (.ref (r0 0) :: .ref (r0 1) :: .int tp_73 :: .int sz0 :: .int fk0 :: .int fp_80 :: .int aq_81 :: .int en0 :: .int tk0 :: .int nu_88 :: .long nm0 :: .ref (r0 2) :: .ref (r0 3) :: .ref (r0 4) :: .ref (r0 5) :: .ref (r0 6) :: .ref (r0 7) :: .ref (r0 8) :: .ref (r0 9) :: .ref (r0 10) :: .ref (r0 11) :: .ref (r0 12) :: .ref (r0 13) :: .int bk0 :: .int rb0 :: .ref (r0 14) :: .int mv_93 :: .ref (r0 15) :: .ref (r0 16) :: .ref (r0 17) :: .ref (r0 18) :: .ref (r0 19) :: .ref (r0 20) :: .ref (r0 21) :: .ref (r0 22) :: .ref (r0 23) :: .int dw0 :: .int rl0 :: .int mg_98 :: .long su_99 :: .long sd0 :: .ref (r0 24) :: .ref (r0 25) :: .int jm0 :: .long bu_102 :: .long bd0 :: .ref (r0 26) :: .int gm0 :: .int fa_105 :: .ref (r0 27) :: .ref (r0 28) :: .ref (r0 29) :: .ref (r0 30) :: .ref (r0 31) :: .ref (r0 32) :: .ref (r0 33) :: .ref (r0 34) :: .ref (r0 35) :: .ref (r0 36) :: .ref (r0 37) :: .int pp_106 :: .int ti0 :: .ref (r0 38) :: .ref (r0 39) :: .ref (r0 40) :: .int so_111 :: .ref (r0 41) :: .ref (r0 42) :: .ref (r0 43) :: [])))], [(h1, .inl (cJ, 80, .inr (.inl f1)))]]) → va_S A s.heap H locs → ∀ (ls : Array Slot), lv_has ls 5 [(4, .int g_23), (0, .ref h0), (1, .ref h1), (2, .int p2), (3, .int p3)] → W p l e (headSpec wsX11_here ({ frames := 0, cells := 0, slots := 0, locals := 0 } : Room)).room s m ([.ref h0, .ref h1, .int p2, .int p3] : List Value).toArray below meth c H locs 0 0 Q0 (F0 m 3 ls []) := by
    intro n
    induction n with
    | zero => intro g_23 iv_202 iv_203 iv_204 hm; exact absurd hm (Nat.not_lt_zero _)
    | succ n ih_206 =>
      intro g_23 iv_202 iv_203 iv_204 hm H locs hP hD hS ls hl
      refine lv_iload hx hb dX11_here_3 (lv_at hl 0 rfl) ?_
      refine lv_iload_n hx hb dX11_here_5 rfl (lv_at hl 4 rfl) ?_
      refine lv_icmp_ge (tgt := 40) hx hb dX11_here_6 (by decide) (fun c_207 => ?_) (fun c_207 => ?_)
      · have c_207 : p3.toInt ≤ g_23.toInt := f_le rfl rfl c_207
        refine lv_iconst (v := (-1)) hx hb dX11_here_40 (by decide) ?_
        rw [hQ0]
        exact W.iret (v := (-1)) hx hb hr (fun t ht hW => ⟨⟨(-1), (), rfl, ⟨by decide, by decide, (by have := tI_m1; omega)⟩, ⟨by rw [ht]; exact hP, hD⟩⟩, hS.F ht⟩) hS.2.2 dX11_here_41
      · have c_207 : g_23.toInt < p3.toInt := f_nle rfl rfl c_207
        refine lv_aload_n hx hb dX11_here_9 rfl (lv_at hl 1 rfl) ?_
        refine va_get (D := (dC, dI)) (ci := 9) (v := .int tk0) (C := RX11) (T := TX11) (N := 69) hx hb hts iw_X11_here_X11 hown hK hP 0 rfl rfl 8 (by decide) (hts (.fieldLink RX11 183 "HungFloorsModel" "token" "I") (by decide +kernel)) (fun _ h9 => h9) rfl dX11_here_10 ?_
        refine lv_iconst (v := 2) hx hb dX11_here_13 (by decide) ?_
        refine lv_icmp_ne (tgt := 34) hx hb dX11_here_14 (by decide) (fun c_208 => ?_) (fun c_208 => ?_)
        · have c_208 : ¬ tk0.toInt = 2 := f_ne rfl tI_2 c_208
          obtain ⟨z_209, ez_209⟩ : ∃ y : Int32, y = g_23 + 1 := ⟨_, rfl⟩
          have hz_209 : z_209.toInt = g_23.toInt + 1 := by rw [ez_209]; exact t_add rfl tI_1 (by omega) (by omega)
          refine lv_iinc (v := z_209) (lv' := [(4, .int z_209), (0, .ref h0), (1, .ref h1), (2, .int p2), (3, .int p3)]) hx hb dX11_here_34 hl (k := 0) rfl (by rw [ez_209]; rfl) (by decide) rfl (fun ls hl => ?_)
          refine lv_goto (tgt := 3) hx hb dX11_here_37 (by decide) ?_
          exact ih_206 z_209 (by omega) (by omega) (by omega) (by omega) _ _ hP hD hS ls (lv_sub hl [0, 1, 2, 3, 4] rfl)
        · have c_208 : tk0.toInt = 2 := f_eq rfl tI_2 c_208
          refine lv_aload_n hx hb dX11_here_17 rfl (lv_at hl 2 rfl) ?_
          refine lv_iload_n hx hb dX11_here_18 rfl (lv_at hl 3 rfl) ?_
          refine lv_iload hx hb dX11_here_19 (lv_at hl 0 rfl) ?_
          refine lv_iadd hx hb dX11_here_21 ?_
          refine lv_topi (fun z_210 ez_210 => ?_)
          have hz_210 : z_210.toInt = p2.toInt + g_23.toInt := by rw [ez_210]; exact t_add rfl rfl (by omega) (by omega)
          refine va_lald hx hb hK hP 1 2 rfl rfl (v_in rfl (by omega) (by omega)) dX11_here_22 ?_
          refine lv_topl (fun z_211 ez_211 => ?_)
          refine lv_aload_n hx hb dX11_here_23 rfl (lv_at hl 1 rfl) ?_
          refine va_get (D := (dC, dI)) (ci := 9) (v := .long nm0) (C := RX11) (T := TX11) (N := 69) hx hb hts iw_X11_here_X11 hown hK hP 0 rfl rfl 10 (by decide) (hts (.fieldLink RX11 190 "HungFloorsModel" "name" "J") (by decide +kernel)) (fun _ h9 => h9) rfl dX11_here_24 ?_
          refine W.lcmp hx hb dX11_here_27 ?_
          refine lv_topi (fun z_212 ez_212 => ?_)
          refine lv_if_ne (tgt := 34) hx hb dX11_here_28 (by decide) (fun c_213 => ?_) (fun c_213 => ?_)
          · have c_213 : ¬ z_212.toInt = 0 := f_ne rfl tI_0 c_213
            obtain ⟨z_214, ez_214⟩ : ∃ y : Int32, y = g_23 + 1 := ⟨_, rfl⟩
            have hz_214 : z_214.toInt = g_23.toInt + 1 := by rw [ez_214]; exact t_add rfl tI_1 (by omega) (by omega)
            refine lv_iinc (v := z_214) (lv' := [(4, .int z_214), (0, .ref h0), (1, .ref h1), (2, .int p2), (3, .int p3)]) hx hb dX11_here_34 hl (k := 0) rfl (by rw [ez_214]; rfl) (by decide) rfl (fun ls hl => ?_)
            refine lv_goto (tgt := 3) hx hb dX11_here_37 (by decide) ?_
            exact ih_206 z_214 (by omega) (by omega) (by omega) (by omega) _ _ hP hD hS ls (lv_sub hl [0, 1, 2, 3, 4] rfl)
          · have c_213 : z_212.toInt = 0 := f_eq rfl tI_0 c_213
            refine lv_iload hx hb dX11_here_31 (lv_at hl 0 rfl) ?_
            rw [hQ0]
            exact W.iret (v := g_23) hx hb hr (fun t ht hW => ⟨⟨g_23, (), rfl, ⟨by omega, by omega, (by omega)⟩, ⟨by rw [ht]; exact hP, hD⟩⟩, hS.F ht⟩) hS.2.2 dX11_here_33
  exact lp_205 _ 0 (by have := tI_0; omega) (by have := tI_0; omega) (by have := tI_0; omega) (Nat.lt_succ_self _) _ _ hP hD hS ls (lv_sub hl [0, 1, 2, 3, 4] rfl)
set_option maxHeartbeats 4000000 in
set_option maxRecDepth 100000 in
theorem c_X11_must (l : Launch) (dC : Nat → ClassId) (dI : Nat → Nat → Nat) (ad : Nat → Nat) (tN : Nat) (fN : Nat → Int64) (cB cI cJ cZ : ClassId) (h0 : Nat) (p1 : Int32) (r0 : Nat → Nat) (sz0 : Int32) (fk0 : Int32) (en0 : Int32) (tk0 : Int32) (nm0 : Int64) (bk0 : Int32) (rb0 : Int32) (dw0 : Int32) (rl0 : Int32) (sd0 : Int64) (jm0 : Int32) (bd0 : Int64) (gm0 : Int32) (ti0 : Int32) (w0 : va_W) (tq1 : Nat → Int32) (w1 : va_W) (o0 : ok_mo ad cB cI cJ cZ h0 r0 sz0 fk0 en0 tk0 nm0 bk0 rb0 dw0 rl0 sd0 jm0 bd0 gm0 ti0 w0) (o1 : ok_gU ad cB cI cJ cZ r0 tq1 w1) (sz : Nat) (hq_ez : en0.toInt ≤ sz0.toInt) : Met l yX11_must wsX11_must ({ frames := 2, cells := 0, slots := 0, locals := 43 } : Room) (va_Pc [.ref h0, .int p1] (fun U => U.heap.size = sz ∧ va_P (dC, dI) vwCl (List.flatten [w0, w1]) U.heap ∧ va_K (dC, dI) vwCl [(cB, .byte), (cI, .int), (cJ, .long), (cZ, .boolean)] U ∧ va_D (fun _ => True) (List.flatten [w0, w1]) ∧ ex_Y ad tN fN (va_A (List.flatten [w0, w1]) sz) U)) (va_Qv (fun _ : Unit => True) (fun (_ : Unit) (t : State) => ∃ (fk09 : Int32) (en09 : Int32) (tk09 : Int32) (nm09 : Int64) (w09 : va_W), ok_mo ad cB cI cJ cZ h0 r0 sz0 fk09 en09 tk09 nm09 bk0 rb0 dw0 rl0 sd0 jm0 bd0 gm0 ti0 w09 ∧ (en09.toInt ≤ sz0.toInt) ∧ (fk0.toInt = 0 ∨ 1 ≤ fk09.toInt) ∧ (1 ≤ fk09.toInt ∨ en0.toInt < en09.toInt ∨ (tk09.toInt = 0 ∧ en0.toInt ≤ en09.toInt)) ∧ va_P (dC, dI) vwCl (List.flatten [w09, w1]) t.heap ∧ va_D (va_A (List.flatten [w0, w1]) sz) (List.flatten [w09, w1])) (va_A (List.flatten [w0, w1]) sz)) 0 0 (va_A (List.flatten [w0, w1]) sz) := by
  refine Met.ofW (cc := cX11_must) (maxL := 2) (ret := none) (by decide) rfl ?_
  intro p e s m args below meth c s₁ B hml hv
  obtain ⟨rfl, hsz, hP, hK, hD0, hE⟩ := hv
  have hx := B.exec
  have hb := B.bytes
  have hr := B.returns
  have hts := atoms_spec (ws := wsX11_must) B.pre
  have hown : s.vm.findClass RX11 = some m.cls := findClass_of_methodNamed B.named
  have hlocks := B.notSynchronized
  subst hsz
  have hD := hD0.self (sz := s.heap.size)
  generalize hAe : va_A (List.flatten [w0, w1]) s.heap.size = A at hD hE ⊢
  have hA : ∀ q : Nat, s.heap.size ≤ q → A q := fun q h => by rw [← hAe]; exact Or.inr h
  have hS : va_S A s.heap s.heap [] := va_S.rf
  have hl := lv_entry ([.ref h0, .int p1]) (n := 2) (Nat.le_of_ble_eq_true rfl)
  rw [lg_entry_eq]
  generalize (lg_sl ([.ref h0, .int p1]) ++ List.replicate (2 - (lg_sl ([.ref h0, .int p1])).length) Slot.unset).toArray = ls at hl ⊢
  have hl : lv_has ls 2 [(0, .ref h0), (1, .int p1)] := hl
  clear hAe
  refine W_name (fun Q0 hQ0 => ?_)
  obtain ⟨hx_1, hx_2, hx_3, hx_4, hx_5, hx_6, hx_7, hx_8, hx_9, hx_10, hx_11, hx_12, hx_13, hx_14, hx_15, hx_16, hx_17, hx_18, hx_19, hx_20, hx_21, hx_22⟩ := okx_mo o0
  refine lv_aload_n hx hb dX11_must_0 rfl (lv_at hl 0 rfl) ?_
  obtain ⟨tp_23, fp_30, aq_31, nu_38, mv_43, mg_48, su_49, bu_52, fa_55, pp_56, so_61, rfl, hl_24, hh_25, hl_26, hh_27, hl_28, hh_29, hl_32, hh_33, hl_34, hh_35, hl_36, hh_37, hl_39, hh_40, hl_41, hh_42, hl_44, hh_45, hl_46, hh_47, hl_50, hh_51, hl_53, hh_54, hl_57, hh_58, hl_59, hh_60, hl_62, hh_63⟩ := o0
  have hpm : List.Perm ([[(h0, .inr (9, (.ref (r0 0) :: .ref (r0 1) :: .int tp_23 :: .int sz0 :: .int fk0 :: .int fp_30 :: .int aq_31 :: .int en0 :: .int tk0 :: .int nu_38 :: .long nm0 :: .ref (r0 2) :: .ref (r0 3) :: .ref (r0 4) :: .ref (r0 5) :: .ref (r0 6) :: .ref (r0 7) :: .ref (r0 8) :: .ref (r0 9) :: .ref (r0 10) :: .ref (r0 11) :: .ref (r0 12) :: .ref (r0 13) :: .int bk0 :: .int rb0 :: .ref (r0 14) :: .int mv_43 :: .ref (r0 15) :: .ref (r0 16) :: .ref (r0 17) :: .ref (r0 18) :: .ref (r0 19) :: .ref (r0 20) :: .ref (r0 21) :: .ref (r0 22) :: .ref (r0 23) :: .int dw0 :: .int rl0 :: .int mg_48 :: .long su_49 :: .long sd0 :: .ref (r0 24) :: .ref (r0 25) :: .int jm0 :: .long bu_52 :: .long bd0 :: .ref (r0 26) :: .int gm0 :: .int fa_55 :: .ref (r0 27) :: .ref (r0 28) :: .ref (r0 29) :: .ref (r0 30) :: .ref (r0 31) :: .ref (r0 32) :: .ref (r0 33) :: .ref (r0 34) :: .ref (r0 35) :: .ref (r0 36) :: .ref (r0 37) :: .int pp_56 :: .int ti0 :: .ref (r0 38) :: .ref (r0 39) :: .ref (r0 40) :: .int so_61 :: .ref (r0 41) :: .ref (r0 42) :: .ref (r0 43) :: [])))], w1] : List va_W) (([[(h0, .inr (9, (.ref (r0 0) :: .ref (r0 1) :: .int tp_23 :: .int sz0 :: .int fk0 :: .int fp_30 :: .int aq_31 :: .int en0 :: .int tk0 :: .int nu_38 :: .long nm0 :: .ref (r0 2) :: .ref (r0 3) :: .ref (r0 4) :: .ref (r0 5) :: .ref (r0 6) :: .ref (r0 7) :: .ref (r0 8) :: .ref (r0 9) :: .ref (r0 10) :: .ref (r0 11) :: .ref (r0 12) :: .ref (r0 13) :: .int bk0 :: .int rb0 :: .ref (r0 14) :: .int mv_43 :: .ref (r0 15) :: .ref (r0 16) :: .ref (r0 17) :: .ref (r0 18) :: .ref (r0 19) :: .ref (r0 20) :: .ref (r0 21) :: .ref (r0 22) :: .ref (r0 23) :: .int dw0 :: .int rl0 :: .int mg_48 :: .long su_49 :: .long sd0 :: .ref (r0 24) :: .ref (r0 25) :: .int jm0 :: .long bu_52 :: .long bd0 :: .ref (r0 26) :: .int gm0 :: .int fa_55 :: .ref (r0 27) :: .ref (r0 28) :: .ref (r0 29) :: .ref (r0 30) :: .ref (r0 31) :: .ref (r0 32) :: .ref (r0 33) :: .ref (r0 34) :: .ref (r0 35) :: .ref (r0 36) :: .ref (r0 37) :: .int pp_56 :: .int ti0 :: .ref (r0 38) :: .ref (r0 39) :: .ref (r0 40) :: .int so_61 :: .ref (r0 41) :: .ref (r0 42) :: .ref (r0 43) :: [])))]] : List va_W) ++ ([w1] : List va_W)) := pm_n 2 [0, 1] (by decide) rfl rfl
  have hPc := bk_P hpm hP
  have hDc := bk_D hpm hD
  have hFc := bk_F hpm hD hS hA
  refine va_calli (va_runV (As := []) (rest := []) ⟨hx, hb, hml, hown, hts⟩ (c_X11_isGood l dC dI ad tN fN cB cI cJ cZ h0 r0 sz0 fk0 en0 tk0 nm0 bk0 rb0 dw0 rl0 sd0 jm0 bd0 gm0 ti0 _ ⟨tp_23, fp_30, aq_31, nu_38, mv_43, mg_48, su_49, bu_52, fa_55, pp_56, so_61, rfl, by omega, by omega, by omega, by omega, by omega, by omega, by omega, by omega, by omega, by omega, by omega, by omega, by omega, by omega, by omega, by omega, by omega, by omega, by omega, by omega, by omega, by omega, by omega, by omega, by omega, by omega, by omega, by omega, by omega, by omega⟩ s.heap.size) (cwV 0 hts gX11_must_X11_isGood rfl rfl rfl (by decide +kernel) ⟨(Nat.le_of_ble_eq_true rfl), (Nat.le_of_ble_eq_true rfl)⟩) ⟨fun a U g mk q => by obtain ⟨q0, q1, qP, qK, qD, qE⟩ := q; exact ⟨q0, q1, qP, va_K.moved (u := U) (U := U.calling g mk a) (Vm.Alike.refl U.vm) qK, qD, ey_blind qE⟩, va_recv hK hPc (ci := 9) (q0 := 0) rfl rfl, fun U hU hW => ⟨rfl, by rw [hU], by rw [hU]; exact hPc, va_K.moved hW.alike hK, hDc.weaken (fun _ _ _ _ => trivial), ey_call hE hS hFc hU hW⟩⟩ rfl rfl hl.1 rfl (lv_room (Nat.le_of_ble_eq_true rfl)) dX11_must_1 ⟨(Nat.le_of_ble_eq_true rfl), (Nat.le_of_ble_eq_true rfl)⟩) hS (fun q _ h => hFc q h) hFc (fun r_64 u t H locs ht hvm hw hB hz1 hk1 hS => ?_)
  obtain ⟨hP1, hD1⟩ := hB
  rw [ht] at hP1
  obtain ⟨hP, hD⟩ := bk_join hpm hP hD hk1 hFc (Cs1 := [[(h0, .inr (9, (.ref (r0 0) :: .ref (r0 1) :: .int tp_23 :: .int sz0 :: .int fk0 :: .int fp_30 :: .int aq_31 :: .int en0 :: .int tk0 :: .int nu_38 :: .long nm0 :: .ref (r0 2) :: .ref (r0 3) :: .ref (r0 4) :: .ref (r0 5) :: .ref (r0 6) :: .ref (r0 7) :: .ref (r0 8) :: .ref (r0 9) :: .ref (r0 10) :: .ref (r0 11) :: .ref (r0 12) :: .ref (r0 13) :: .int bk0 :: .int rb0 :: .ref (r0 14) :: .int mv_43 :: .ref (r0 15) :: .ref (r0 16) :: .ref (r0 17) :: .ref (r0 18) :: .ref (r0 19) :: .ref (r0 20) :: .ref (r0 21) :: .ref (r0 22) :: .ref (r0 23) :: .int dw0 :: .int rl0 :: .int mg_48 :: .long su_49 :: .long sd0 :: .ref (r0 24) :: .ref (r0 25) :: .int jm0 :: .long bu_52 :: .long bd0 :: .ref (r0 26) :: .int gm0 :: .int fa_55 :: .ref (r0 27) :: .ref (r0 28) :: .ref (r0 29) :: .ref (r0 30) :: .ref (r0 31) :: .ref (r0 32) :: .ref (r0 33) :: .ref (r0 34) :: .ref (r0 35) :: .ref (r0 36) :: .ref (r0 37) :: .int pp_56 :: .int ti0 :: .ref (r0 38) :: .ref (r0 39) :: .ref (r0 40) :: .int so_61 :: .ref (r0 41) :: .ref (r0 42) :: .ref (r0 43) :: [])))]]) hP1 hD1
  have hpm2 : List.Perm (([[(h0, .inr (9, (.ref (r0 0) :: .ref (r0 1) :: .int tp_23 :: .int sz0 :: .int fk0 :: .int fp_30 :: .int aq_31 :: .int en0 :: .int tk0 :: .int nu_38 :: .long nm0 :: .ref (r0 2) :: .ref (r0 3) :: .ref (r0 4) :: .ref (r0 5) :: .ref (r0 6) :: .ref (r0 7) :: .ref (r0 8) :: .ref (r0 9) :: .ref (r0 10) :: .ref (r0 11) :: .ref (r0 12) :: .ref (r0 13) :: .int bk0 :: .int rb0 :: .ref (r0 14) :: .int mv_43 :: .ref (r0 15) :: .ref (r0 16) :: .ref (r0 17) :: .ref (r0 18) :: .ref (r0 19) :: .ref (r0 20) :: .ref (r0 21) :: .ref (r0 22) :: .ref (r0 23) :: .int dw0 :: .int rl0 :: .int mg_48 :: .long su_49 :: .long sd0 :: .ref (r0 24) :: .ref (r0 25) :: .int jm0 :: .long bu_52 :: .long bd0 :: .ref (r0 26) :: .int gm0 :: .int fa_55 :: .ref (r0 27) :: .ref (r0 28) :: .ref (r0 29) :: .ref (r0 30) :: .ref (r0 31) :: .ref (r0 32) :: .ref (r0 33) :: .ref (r0 34) :: .ref (r0 35) :: .ref (r0 36) :: .ref (r0 37) :: .int pp_56 :: .int ti0 :: .ref (r0 38) :: .ref (r0 39) :: .ref (r0 40) :: .int so_61 :: .ref (r0 41) :: .ref (r0 42) :: .ref (r0 43) :: [])))]] : List va_W) ++ ([w1] : List va_W)) ([[(h0, .inr (9, (.ref (r0 0) :: .ref (r0 1) :: .int tp_23 :: .int sz0 :: .int fk0 :: .int fp_30 :: .int aq_31 :: .int en0 :: .int tk0 :: .int nu_38 :: .long nm0 :: .ref (r0 2) :: .ref (r0 3) :: .ref (r0 4) :: .ref (r0 5) :: .ref (r0 6) :: .ref (r0 7) :: .ref (r0 8) :: .ref (r0 9) :: .ref (r0 10) :: .ref (r0 11) :: .ref (r0 12) :: .ref (r0 13) :: .int bk0 :: .int rb0 :: .ref (r0 14) :: .int mv_43 :: .ref (r0 15) :: .ref (r0 16) :: .ref (r0 17) :: .ref (r0 18) :: .ref (r0 19) :: .ref (r0 20) :: .ref (r0 21) :: .ref (r0 22) :: .ref (r0 23) :: .int dw0 :: .int rl0 :: .int mg_48 :: .long su_49 :: .long sd0 :: .ref (r0 24) :: .ref (r0 25) :: .int jm0 :: .long bu_52 :: .long bd0 :: .ref (r0 26) :: .int gm0 :: .int fa_55 :: .ref (r0 27) :: .ref (r0 28) :: .ref (r0 29) :: .ref (r0 30) :: .ref (r0 31) :: .ref (r0 32) :: .ref (r0 33) :: .ref (r0 34) :: .ref (r0 35) :: .ref (r0 36) :: .ref (r0 37) :: .int pp_56 :: .int ti0 :: .ref (r0 38) :: .ref (r0 39) :: .ref (r0 40) :: .int so_61 :: .ref (r0 41) :: .ref (r0 42) :: .ref (r0 43) :: [])))], w1] : List va_W) := pm_n 2 [0, 1] (by decide) rfl rfl
  have hP := bk_reP hpm2 hP
  have hD := bk_reD hpm2 hD
  have hP : va_P (dC, dI) vwCl (List.flatten [[(h0, .inr (9, (.ref (r0 0) :: .ref (r0 1) :: .int tp_23 :: .int sz0 :: .int fk0 :: .int fp_30 :: .int aq_31 :: .int en0 :: .int tk0 :: .int nu_38 :: .long nm0 :: .ref (r0 2) :: .ref (r0 3) :: .ref (r0 4) :: .ref (r0 5) :: .ref (r0 6) :: .ref (r0 7) :: .ref (r0 8) :: .ref (r0 9) :: .ref (r0 10) :: .ref (r0 11) :: .ref (r0 12) :: .ref (r0 13) :: .int bk0 :: .int rb0 :: .ref (r0 14) :: .int mv_43 :: .ref (r0 15) :: .ref (r0 16) :: .ref (r0 17) :: .ref (r0 18) :: .ref (r0 19) :: .ref (r0 20) :: .ref (r0 21) :: .ref (r0 22) :: .ref (r0 23) :: .int dw0 :: .int rl0 :: .int mg_48 :: .long su_49 :: .long sd0 :: .ref (r0 24) :: .ref (r0 25) :: .int jm0 :: .long bu_52 :: .long bd0 :: .ref (r0 26) :: .int gm0 :: .int fa_55 :: .ref (r0 27) :: .ref (r0 28) :: .ref (r0 29) :: .ref (r0 30) :: .ref (r0 31) :: .ref (r0 32) :: .ref (r0 33) :: .ref (r0 34) :: .ref (r0 35) :: .ref (r0 36) :: .ref (r0 37) :: .int pp_56 :: .int ti0 :: .ref (r0 38) :: .ref (r0 39) :: .ref (r0 40) :: .int so_61 :: .ref (r0 41) :: .ref (r0 42) :: .ref (r0 43) :: [])))], w1]) H := hP
  have hD : va_D A (List.flatten [[(h0, .inr (9, (.ref (r0 0) :: .ref (r0 1) :: .int tp_23 :: .int sz0 :: .int fk0 :: .int fp_30 :: .int aq_31 :: .int en0 :: .int tk0 :: .int nu_38 :: .long nm0 :: .ref (r0 2) :: .ref (r0 3) :: .ref (r0 4) :: .ref (r0 5) :: .ref (r0 6) :: .ref (r0 7) :: .ref (r0 8) :: .ref (r0 9) :: .ref (r0 10) :: .ref (r0 11) :: .ref (r0 12) :: .ref (r0 13) :: .int bk0 :: .int rb0 :: .ref (r0 14) :: .int mv_43 :: .ref (r0 15) :: .ref (r0 16) :: .ref (r0 17) :: .ref (r0 18) :: .ref (r0 19) :: .ref (r0 20) :: .ref (r0 21) :: .ref (r0 22) :: .ref (r0 23) :: .int dw0 :: .int rl0 :: .int mg_48 :: .long su_49 :: .long sd0 :: .ref (r0 24) :: .ref (r0 25) :: .int jm0 :: .long bu_52 :: .long bd0 :: .ref (r0 26) :: .int gm0 :: .int fa_55 :: .ref (r0 27) :: .ref (r0 28) :: .ref (r0 29) :: .ref (r0 30) :: .ref (r0 31) :: .ref (r0 32) :: .ref (r0 33) :: .ref (r0 34) :: .ref (r0 35) :: .ref (r0 36) :: .ref (r0 37) :: .int pp_56 :: .int ti0 :: .ref (r0 38) :: .ref (r0 39) :: .ref (r0 40) :: .int so_61 :: .ref (r0 41) :: .ref (r0 42) :: .ref (r0 43) :: [])))], w1]) := hD
  rcases hw with ⟨rfl, c_65⟩ | ⟨rfl, c_66⟩
  · refine lv_if_ne (tgt := 8) hx hb dX11_must_4 (by decide) (fun c_67 => absurd c_67 (by decide)) (fun c_67 => ?_)
    rw [hQ0]
    exact W.vret hx hb hr (fun t ht hW => ⟨⟨(), rfl, trivial, ⟨fk0, en0, tk0, nm0, _, ⟨tp_23, fp_30, aq_31, nu_38, mv_43, mg_48, su_49, bu_52, fa_55, pp_56, so_61, rfl, by omega, by omega, by omega, by omega, by omega, by omega, by omega, by omega, by omega, by omega, by omega, by omega, by omega, by omega, by omega, by omega, by omega, by omega, by omega, by omega, by omega, by omega, by omega, by omega, by omega, by omega, by omega, by omega, by omega, by omega⟩, hq_ez, (by omega), (by omega), by rw [ht]; exact hP, hD⟩⟩, hS.F ht⟩) hS.2.2 dX11_must_7
  · refine lv_if_ne (tgt := 8) hx hb dX11_must_4 (by decide) (fun c_68 => ?_) (fun c_68 => absurd c_68 (by decide))
    refine lv_iload_n hx hb dX11_must_8 rfl (lv_at hl 1 rfl) ?_
    refine lv_if_eq (tgt := 19) hx hb dX11_must_9 (by decide) (fun c_69 => ?_) (fun c_69 => ?_)
    · have c_69 : p1.toInt = 0 := f_eq rfl tI_0 c_69
      refine lv_aload_n hx hb dX11_must_19 rfl (lv_at hl 0 rfl) ?_
      have hpm : List.Perm ([[(h0, .inr (9, (.ref (r0 0) :: .ref (r0 1) :: .int tp_23 :: .int sz0 :: .int fk0 :: .int fp_30 :: .int aq_31 :: .int en0 :: .int tk0 :: .int nu_38 :: .long nm0 :: .ref (r0 2) :: .ref (r0 3) :: .ref (r0 4) :: .ref (r0 5) :: .ref (r0 6) :: .ref (r0 7) :: .ref (r0 8) :: .ref (r0 9) :: .ref (r0 10) :: .ref (r0 11) :: .ref (r0 12) :: .ref (r0 13) :: .int bk0 :: .int rb0 :: .ref (r0 14) :: .int mv_43 :: .ref (r0 15) :: .ref (r0 16) :: .ref (r0 17) :: .ref (r0 18) :: .ref (r0 19) :: .ref (r0 20) :: .ref (r0 21) :: .ref (r0 22) :: .ref (r0 23) :: .int dw0 :: .int rl0 :: .int mg_48 :: .long su_49 :: .long sd0 :: .ref (r0 24) :: .ref (r0 25) :: .int jm0 :: .long bu_52 :: .long bd0 :: .ref (r0 26) :: .int gm0 :: .int fa_55 :: .ref (r0 27) :: .ref (r0 28) :: .ref (r0 29) :: .ref (r0 30) :: .ref (r0 31) :: .ref (r0 32) :: .ref (r0 33) :: .ref (r0 34) :: .ref (r0 35) :: .ref (r0 36) :: .ref (r0 37) :: .int pp_56 :: .int ti0 :: .ref (r0 38) :: .ref (r0 39) :: .ref (r0 40) :: .int so_61 :: .ref (r0 41) :: .ref (r0 42) :: .ref (r0 43) :: [])))], w1] : List va_W) (([[(h0, .inr (9, (.ref (r0 0) :: .ref (r0 1) :: .int tp_23 :: .int sz0 :: .int fk0 :: .int fp_30 :: .int aq_31 :: .int en0 :: .int tk0 :: .int nu_38 :: .long nm0 :: .ref (r0 2) :: .ref (r0 3) :: .ref (r0 4) :: .ref (r0 5) :: .ref (r0 6) :: .ref (r0 7) :: .ref (r0 8) :: .ref (r0 9) :: .ref (r0 10) :: .ref (r0 11) :: .ref (r0 12) :: .ref (r0 13) :: .int bk0 :: .int rb0 :: .ref (r0 14) :: .int mv_43 :: .ref (r0 15) :: .ref (r0 16) :: .ref (r0 17) :: .ref (r0 18) :: .ref (r0 19) :: .ref (r0 20) :: .ref (r0 21) :: .ref (r0 22) :: .ref (r0 23) :: .int dw0 :: .int rl0 :: .int mg_48 :: .long su_49 :: .long sd0 :: .ref (r0 24) :: .ref (r0 25) :: .int jm0 :: .long bu_52 :: .long bd0 :: .ref (r0 26) :: .int gm0 :: .int fa_55 :: .ref (r0 27) :: .ref (r0 28) :: .ref (r0 29) :: .ref (r0 30) :: .ref (r0 31) :: .ref (r0 32) :: .ref (r0 33) :: .ref (r0 34) :: .ref (r0 35) :: .ref (r0 36) :: .ref (r0 37) :: .int pp_56 :: .int ti0 :: .ref (r0 38) :: .ref (r0 39) :: .ref (r0 40) :: .int so_61 :: .ref (r0 41) :: .ref (r0 42) :: .ref (r0 43) :: [])))]] : List va_W) ++ ([w1] : List va_W)) := pm_n 2 [0, 1] (by decide) rfl rfl
      have hPc := bk_P hpm hP
      have hDc := bk_D hpm hD
      have hFc := bk_F hpm hD hS hA
      refine va_callv (va_runV (As := []) (rest := []) ⟨hx, hb, hml, hown, hts⟩ (c_X11_wrong l dC dI ad tN fN cB cI cJ cZ h0 r0 sz0 fk0 en0 tk0 nm0 bk0 rb0 dw0 rl0 sd0 jm0 bd0 gm0 ti0 _ ⟨tp_23, fp_30, aq_31, nu_38, mv_43, mg_48, su_49, bu_52, fa_55, pp_56, so_61, rfl, by omega, by omega, by omega, by omega, by omega, by omega, by omega, by omega, by omega, by omega, by omega, by omega, by omega, by omega, by omega, by omega, by omega, by omega, by omega, by omega, by omega, by omega, by omega, by omega, by omega, by omega, by omega, by omega, by omega, by omega⟩ H.size) (cwV 0 hts gX11_must_X11_wrong rfl rfl rfl (by decide +kernel) ⟨(Nat.le_of_ble_eq_true rfl), (Nat.le_of_ble_eq_true rfl)⟩) ⟨fun a U g mk q => by obtain ⟨q0, q1, qP, qK, qD, qE⟩ := q; exact ⟨q0, q1, qP, va_K.moved (u := U) (U := U.calling g mk a) (Vm.Alike.refl U.vm) qK, qD, ey_blind qE⟩, va_recv hK hPc (ci := 9) (q0 := 0) rfl rfl, fun U hU hW => ⟨rfl, by rw [hU], by rw [hU]; exact hPc, va_K.moved hW.alike hK, hDc.weaken (fun _ _ _ _ => trivial), ey_call hE hS hFc hU hW⟩⟩ rfl rfl hl.1 rfl (lv_room (Nat.le_of_ble_eq_true rfl)) dX11_must_20 ⟨(Nat.le_of_ble_eq_true rfl), (Nat.le_of_ble_eq_true rfl)⟩) hS (fun q _ h => hFc q h) hFc (fun u t H locs ht hvm hw hB hz1 hk1 hS => ?_)
      obtain ⟨fk_73, w_71, o_72, hpp_74, hP1, hD1⟩ := hB
      rw [ht] at hP1
      obtain ⟨hP, hD⟩ := bk_join hpm hP hD hk1 hFc (Cs1 := [w_71]) hP1 hD1
      have hpm2 : List.Perm (([w_71] : List va_W) ++ ([w1] : List va_W)) ([w_71, w1] : List va_W) := pm_n 2 [0, 1] (by decide) rfl rfl
      have hP := bk_reP hpm2 hP
      have hD := bk_reD hpm2 hD
      have hP : va_P (dC, dI) vwCl (List.flatten [w_71, w1]) H := hP
      have hD : va_D A (List.flatten [w_71, w1]) := hD
      obtain ⟨hx_75, hx_76, hx_77, hx_78, hx_79, hx_80, hx_81, hx_82, hx_83, hx_84, hx_85, hx_86, hx_87, hx_88, hx_89, hx_90, hx_91, hx_92, hx_93, hx_94, hx_95, hx_96⟩ := okx_mo o_72
      have hpp_74 : 1 ≤ fk_73.toInt := hpp_74
      rw [hQ0]
      exact W.vret hx hb hr (fun t ht hW => ⟨⟨(), rfl, trivial, ⟨fk_73, en0, tk0, nm0, _, o_72, hq_ez, (by omega), (by omega), by rw [ht]; exact hP, hD⟩⟩, hS.F ht⟩) hS.2.2 dX11_must_23
    · have c_69 : ¬ p1.toInt = 0 := f_ne rfl tI_0 c_69
      refine lv_aload_n hx hb dX11_must_12 rfl (lv_at hl 0 rfl) ?_
      have hpm : List.Perm ([[(h0, .inr (9, (.ref (r0 0) :: .ref (r0 1) :: .int tp_23 :: .int sz0 :: .int fk0 :: .int fp_30 :: .int aq_31 :: .int en0 :: .int tk0 :: .int nu_38 :: .long nm0 :: .ref (r0 2) :: .ref (r0 3) :: .ref (r0 4) :: .ref (r0 5) :: .ref (r0 6) :: .ref (r0 7) :: .ref (r0 8) :: .ref (r0 9) :: .ref (r0 10) :: .ref (r0 11) :: .ref (r0 12) :: .ref (r0 13) :: .int bk0 :: .int rb0 :: .ref (r0 14) :: .int mv_43 :: .ref (r0 15) :: .ref (r0 16) :: .ref (r0 17) :: .ref (r0 18) :: .ref (r0 19) :: .ref (r0 20) :: .ref (r0 21) :: .ref (r0 22) :: .ref (r0 23) :: .int dw0 :: .int rl0 :: .int mg_48 :: .long su_49 :: .long sd0 :: .ref (r0 24) :: .ref (r0 25) :: .int jm0 :: .long bu_52 :: .long bd0 :: .ref (r0 26) :: .int gm0 :: .int fa_55 :: .ref (r0 27) :: .ref (r0 28) :: .ref (r0 29) :: .ref (r0 30) :: .ref (r0 31) :: .ref (r0 32) :: .ref (r0 33) :: .ref (r0 34) :: .ref (r0 35) :: .ref (r0 36) :: .ref (r0 37) :: .int pp_56 :: .int ti0 :: .ref (r0 38) :: .ref (r0 39) :: .ref (r0 40) :: .int so_61 :: .ref (r0 41) :: .ref (r0 42) :: .ref (r0 43) :: [])))], w1] : List va_W) (([[(h0, .inr (9, (.ref (r0 0) :: .ref (r0 1) :: .int tp_23 :: .int sz0 :: .int fk0 :: .int fp_30 :: .int aq_31 :: .int en0 :: .int tk0 :: .int nu_38 :: .long nm0 :: .ref (r0 2) :: .ref (r0 3) :: .ref (r0 4) :: .ref (r0 5) :: .ref (r0 6) :: .ref (r0 7) :: .ref (r0 8) :: .ref (r0 9) :: .ref (r0 10) :: .ref (r0 11) :: .ref (r0 12) :: .ref (r0 13) :: .int bk0 :: .int rb0 :: .ref (r0 14) :: .int mv_43 :: .ref (r0 15) :: .ref (r0 16) :: .ref (r0 17) :: .ref (r0 18) :: .ref (r0 19) :: .ref (r0 20) :: .ref (r0 21) :: .ref (r0 22) :: .ref (r0 23) :: .int dw0 :: .int rl0 :: .int mg_48 :: .long su_49 :: .long sd0 :: .ref (r0 24) :: .ref (r0 25) :: .int jm0 :: .long bu_52 :: .long bd0 :: .ref (r0 26) :: .int gm0 :: .int fa_55 :: .ref (r0 27) :: .ref (r0 28) :: .ref (r0 29) :: .ref (r0 30) :: .ref (r0 31) :: .ref (r0 32) :: .ref (r0 33) :: .ref (r0 34) :: .ref (r0 35) :: .ref (r0 36) :: .ref (r0 37) :: .int pp_56 :: .int ti0 :: .ref (r0 38) :: .ref (r0 39) :: .ref (r0 40) :: .int so_61 :: .ref (r0 41) :: .ref (r0 42) :: .ref (r0 43) :: [])))], w1] : List va_W) ++ ([] : List va_W)) := pm_n 2 [0, 1] (by decide) rfl rfl
      have hPc := bk_P hpm hP
      have hDc := bk_D hpm hD
      have hFc := bk_F hpm hD hS hA
      refine va_callv (va_runV (As := []) (rest := []) ⟨hx, hb, hml, hown, hts⟩ (c_X11_goOn l dC dI ad tN fN cB cI cJ cZ h0 r0 sz0 fk0 en0 tk0 nm0 bk0 rb0 dw0 rl0 sd0 jm0 bd0 gm0 ti0 _ tq1 _ ⟨tp_23, fp_30, aq_31, nu_38, mv_43, mg_48, su_49, bu_52, fa_55, pp_56, so_61, rfl, by omega, by omega, by omega, by omega, by omega, by omega, by omega, by omega, by omega, by omega, by omega, by omega, by omega, by omega, by omega, by omega, by omega, by omega, by omega, by omega, by omega, by omega, by omega, by omega, by omega, by omega, by omega, by omega, by omega, by omega⟩ o1 H.size hq_ez) (cwV 0 hts gX11_must_X11_goOn rfl rfl rfl (by decide +kernel) ⟨(Nat.le_of_ble_eq_true rfl), (Nat.le_of_ble_eq_true rfl)⟩) ⟨fun a U g mk q => by obtain ⟨q0, q1, qP, qK, qD, qE⟩ := q; exact ⟨q0, q1, qP, va_K.moved (u := U) (U := U.calling g mk a) (Vm.Alike.refl U.vm) qK, qD, ey_blind qE⟩, va_recv hK hPc (ci := 9) (q0 := 0) rfl rfl, fun U hU hW => ⟨rfl, by rw [hU], by rw [hU]; exact hPc, va_K.moved hW.alike hK, hDc.weaken (fun _ _ _ _ => trivial), ey_call hE hS hFc hU hW⟩⟩ rfl rfl hl.1 rfl (lv_room (Nat.le_of_ble_eq_true rfl)) dX11_must_13 ⟨(Nat.le_of_ble_eq_true rfl), (Nat.le_of_ble_eq_true rfl)⟩) hS (fun q _ h => hFc q h) hFc (fun u t H locs ht hvm hw hB hz1 hk1 hS => ?_)
      obtain ⟨en_100, tk_101, nm_102, w_98, o_99, hpp_103, hpp_104, hpp_105, hP1, hD1⟩ := hB
      rw [ht] at hP1
      obtain ⟨hP, hD⟩ := bk_join hpm hP hD hk1 hFc (Cs1 := [w_98, w1]) hP1 hD1
      have hpm2 : List.Perm (([w_98, w1] : List va_W) ++ ([] : List va_W)) ([w_98, w1] : List va_W) := pm_n 2 [0, 1] (by decide) rfl rfl
      have hP := bk_reP hpm2 hP
      have hD := bk_reD hpm2 hD
      have hP : va_P (dC, dI) vwCl (List.flatten [w_98, w1]) H := hP
      have hD : va_D A (List.flatten [w_98, w1]) := hD
      obtain ⟨hx_106, hx_107, hx_108, hx_109, hx_110, hx_111, hx_112, hx_113, hx_114, hx_115, hx_116, hx_117, hx_118, hx_119, hx_120, hx_121, hx_122, hx_123, hx_124, hx_125, hx_126, hx_127⟩ := okx_mo o_99
      have hpp_103 : en_100.toInt ≤ sz0.toInt := hpp_103
      have hpp_104 : fk0.toInt = 0 ∨ 1 ≤ fk0.toInt := hpp_104
      have hpp_105 : 1 ≤ fk0.toInt ∨ en0.toInt < en_100.toInt ∨ (tk_101.toInt = 0 ∧ en0.toInt ≤ en_100.toInt) := hpp_105
      refine lv_goto (tgt := 23) hx hb dX11_must_16 (by decide) ?_
      rw [hQ0]
      exact W.vret hx hb hr (fun t ht hW => ⟨⟨(), rfl, trivial, ⟨fk0, en_100, tk_101, nm_102, _, o_99, hpp_103, hpp_104, hpp_105, by rw [ht]; exact hP, hD⟩⟩, hS.F ht⟩) hS.2.2 dX11_must_23
theorem iw_X11_readDrawing_X11 : ∀ w ∈ wsX110, w ∈ wsX11_readDrawing := fun _ h => List.mem_cons_of_mem _ (List.mem_append_right _ h)
set_option maxHeartbeats 4000000 in
set_option maxRecDepth 100000 in
theorem c_X11_readDrawing (l : Launch) (dC : Nat → ClassId) (dI : Nat → Nat → Nat) (ad : Nat → Nat) (tN : Nat) (fN : Nat → Int64) (cB cI cJ cZ : ClassId) (h0 : Nat) (r0 : Nat → Nat) (sz0 : Int32) (fk0 : Int32) (en0 : Int32) (tk0 : Int32) (nm0 : Int64) (bk0 : Int32) (rb0 : Int32) (dw0 : Int32) (rl0 : Int32) (sd0 : Int64) (jm0 : Int32) (bd0 : Int64) (gm0 : Int32) (ti0 : Int32) (w0 : va_W) (tq1 : Nat → Int32) (w1 : va_W) (fl2 : Nat → Int32) (dr2 : Nat → Int32) (rd2 : Nat → Int32) (rf2 : Nat → Int32) (rh2 : Nat → Int32) (w2 : va_W) (o0 : ok_mo ad cB cI cJ cZ h0 r0 sz0 fk0 en0 tk0 nm0 bk0 rb0 dw0 rl0 sd0 jm0 bd0 gm0 ti0 w0) (o1 : ok_gU ad cB cI cJ cZ r0 tq1 w1) (o2 : ok_gH ad cB cI cJ cZ r0 fl2 dr2 rd2 rf2 rh2 w2) (sz : Nat) (ue01 : 0 ≤ ((dr2 (rb0 : Int32).toNatClampNeg)).toInt) (ue02 : ((dr2 (rb0 : Int32).toNatClampNeg)).toInt ≤ 3) (hq_ez : en0.toInt ≤ sz0.toInt) (hq_hn : rb0.toInt + bk0.toInt = 1) (hq_hb : HF bk0 fl2 dr2 rd2 rf2) (hq_hr : 1 ≤ fk0.toInt ∨ HF rb0 fl2 dr2 rd2 rf2) : Met l yX11_readDrawing wsX11_readDrawing ({ frames := 3, cells := 0, slots := 0, locals := 66 } : Room) (va_Pc [.ref h0] (fun U => U.heap.size = sz ∧ va_P (dC, dI) vwCl (List.flatten [w0, w1, w2]) U.heap ∧ va_K (dC, dI) vwCl [(cB, .byte), (cI, .int), (cJ, .long), (cZ, .boolean)] U ∧ va_D (fun _ => True) (List.flatten [w0, w1, w2]) ∧ ex_Y ad tN fN (va_A (List.flatten [w0, w1, w2]) sz) U)) (va_Qv (fun _ : Unit => True) (fun (_ : Unit) (t : State) => ∃ (fk09 : Int32) (en09 : Int32) (tk09 : Int32) (nm09 : Int64) (w09 : va_W) (dr29 : Nat → Int32) (rd29 : Nat → Int32) (w29 : va_W), ok_mo ad cB cI cJ cZ h0 r0 sz0 fk09 en09 tk09 nm09 bk0 rb0 dw0 rl0 sd0 jm0 bd0 gm0 ti0 w09 ∧ ok_gH ad cB cI cJ cZ r0 fl2 dr29 rd29 rf2 rh2 w29 ∧ (en09.toInt ≤ sz0.toInt) ∧ (fk0.toInt = 0 ∨ 1 ≤ fk09.toInt) ∧ (1 ≤ fk09.toInt ∨ en0.toInt < en09.toInt ∨ (tk09.toInt = 0 ∧ en0.toInt ≤ en09.toInt)) ∧ (HF bk0 fl2 dr29 rd29 rf2) ∧ (1 ≤ fk09.toInt ∨ HF rb0 fl2 dr29 rd29 rf2) ∧ va_P (dC, dI) vwCl (List.flatten [w09, w1, w29]) t.heap ∧ va_D (va_A (List.flatten [w0, w1, w2]) sz) (List.flatten [w09, w1, w29])) (va_A (List.flatten [w0, w1, w2]) sz)) 0 0 (va_A (List.flatten [w0, w1, w2]) sz) := by
  refine Met.ofW (cc := cX11_readDrawing) (maxL := 2) (ret := none) (by decide) rfl ?_
  intro p e s m args below meth c s₁ B hml hv
  obtain ⟨rfl, hsz, hP, hK, hD0, hE⟩ := hv
  have hx := B.exec
  have hb := B.bytes
  have hr := B.returns
  have hts := atoms_spec (ws := wsX11_readDrawing) B.pre
  have hown : s.vm.findClass RX11 = some m.cls := findClass_of_methodNamed B.named
  have hlocks := B.notSynchronized
  subst hsz
  have hD := hD0.self (sz := s.heap.size)
  generalize hAe : va_A (List.flatten [w0, w1, w2]) s.heap.size = A at hD hE ⊢
  have hA : ∀ q : Nat, s.heap.size ≤ q → A q := fun q h => by rw [← hAe]; exact Or.inr h
  have hS : va_S A s.heap s.heap [] := va_S.rf
  have hl := lv_entry ([.ref h0]) (n := 2) (Nat.le_of_ble_eq_true rfl)
  rw [lg_entry_eq]
  generalize (lg_sl ([.ref h0]) ++ List.replicate (2 - (lg_sl ([.ref h0])).length) Slot.unset).toArray = ls at hl ⊢
  have hl : lv_has ls 2 [(0, .ref h0)] := hl
  clear hAe
  refine W_name (fun Q0 hQ0 => ?_)
  obtain ⟨hx_1, hx_2, hx_3, hx_4, hx_5, hx_6, hx_7, hx_8, hx_9, hx_10, hx_11, hx_12, hx_13, hx_14, hx_15, hx_16, hx_17, hx_18, hx_19, hx_20, hx_21, hx_22⟩ := okx_mo o0
  obtain ⟨y_23, fy_23⟩ : ∃ y : Int32, y = (dr2 (rb0 : Int32).toNatClampNeg) := ⟨_, rfl⟩
  rw [← fy_23] at ue01 ue02
  refine lv_iconst (v := 4) hx hb dX11_readDrawing_0 (by decide) ?_
  refine lv_aload_n hx hb dX11_readDrawing_1 rfl (lv_at hl 0 rfl) ?_
  obtain ⟨tp_24, fp_31, aq_32, nu_39, mv_44, mg_49, su_50, bu_53, fa_56, pp_57, so_62, rfl, hl_25, hh_26, hl_27, hh_28, hl_29, hh_30, hl_33, hh_34, hl_35, hh_36, hl_37, hh_38, hl_40, hh_41, hl_42, hh_43, hl_45, hh_46, hl_47, hh_48, hl_51, hh_52, hl_54, hh_55, hl_58, hh_59, hl_60, hh_61, hl_63, hh_64⟩ := o0
  refine va_get (D := (dC, dI)) (ci := 9) (v := .int rb0) (C := RX11) (T := TX11) (N := 69) hx hb hts iw_X11_readDrawing_X11 hown hK hP 0 rfl rfl 24 (by decide) (hts (.fieldLink RX11 224 "HungFloorsModel" "rb" "I") (by decide +kernel)) (fun _ h9 => h9) rfl dX11_readDrawing_2 ?_
  refine lv_imul hx hb dX11_readDrawing_5 ?_
  refine lv_topi (fun z_65 ez_65 => ?_)
  have hz_65 : z_65.toInt = 4 * rb0.toInt := by rw [ez_65]; exact t_mul tI_4 rfl (by omega) (by omega)
  have fz_65 : z_65 = (4 * rb0) := by rw [ez_65]
  refine lv_aload_n hx hb dX11_readDrawing_6 rfl (lv_at hl 0 rfl) ?_
  refine va_get (D := (dC, dI)) (ci := 9) (v := .ref (r0 3)) (C := RX11) (T := TX11) (N := 69) hx hb hts iw_X11_readDrawing_X11 hown hK hP 0 rfl rfl 12 (by decide) (hts (.fieldLink RX11 24 "HungFloorsModel" "drawings" "[I") (by decide +kernel)) (fun _ h9 => h9) rfl dX11_readDrawing_7 ?_
  refine lv_aload_n hx hb dX11_readDrawing_10 rfl (lv_at hl 0 rfl) ?_
  refine va_get (D := (dC, dI)) (ci := 9) (v := .int rb0) (C := RX11) (T := TX11) (N := 69) hx hb hts iw_X11_readDrawing_X11 hown hK hP 0 rfl rfl 24 (by decide) (hts (.fieldLink RX11 224 "HungFloorsModel" "rb" "I") (by decide +kernel)) (fun _ h9 => h9) rfl dX11_readDrawing_11 ?_
  obtain ⟨f_66, rfl⟩ := o1
  obtain ⟨f_69, f_70, f_71, f_72, f_73, f_75, f_79, rfl, hr_67, hr_68, hr_74, hr_76, hr_77, hr_78, hr_80, hp_81, hp_82⟩ := o2
  refine va_iald hx hb hK hP 4 1 rfl rfl (v_in rfl (by omega) (by omega)) dX11_readDrawing_14 ?_
  refine lv_topi (fun z_83 ez_83 => ?_)
  have gz_83 := rg_at hr_68 ez_83
  have g1z_83 := gz_83.1
  have g2z_83 := gz_83.2
  have fz_83 : z_83 = (dr2 (rb0 : Int32).toNatClampNeg) := by rw [ez_83]
  have qz_83 : z_83.toInt = y_23.toInt := by rw [fz_83, fy_23]
  refine lv_iadd hx hb dX11_readDrawing_15 ?_
  refine lv_topi (fun z_84 ez_84 => ?_)
  have hz_84 : z_84.toInt = z_65.toInt + z_83.toInt := by rw [ez_84]; exact t_add rfl rfl (by omega) (by omega)
  have fz_84 : z_84 = ((4 * rb0) + (dr2 (rb0 : Int32).toNatClampNeg)) := by rw [ez_84, fz_65, fz_83]
  refine lv_istore_n (lv' := [(1, .int z_84), (0, .ref h0)]) hx hb dX11_readDrawing_16 rfl hl (by decide) rfl (fun ls hl => ?_)
  refine lv_aload_n hx hb dX11_readDrawing_17 rfl (lv_at hl 1 rfl) ?_
  refine va_get (D := (dC, dI)) (ci := 9) (v := .ref (r0 5)) (C := RX11) (T := TX11) (N := 69) hx hb hts iw_X11_readDrawing_X11 hown hK hP 0 rfl rfl 14 (by decide) (hts (.fieldLink RX11 31 "HungFloorsModel" "dName" "[J") (by decide +kernel)) (fun _ h9 => h9) rfl dX11_readDrawing_18 ?_
  refine lv_iload_n hx hb dX11_readDrawing_21 rfl (lv_at hl 0 rfl) ?_
  refine lv_aload_n hx hb dX11_readDrawing_22 rfl (lv_at hl 1 rfl) ?_
  refine lv_aload_n hx hb dX11_readDrawing_23 rfl (lv_at hl 1 rfl) ?_
  refine lv_aload_n hx hb dX11_readDrawing_24 rfl (lv_at hl 1 rfl) ?_
  refine va_get (D := (dC, dI)) (ci := 9) (v := .ref (r0 5)) (C := RX11) (T := TX11) (N := 69) hx hb hts iw_X11_readDrawing_X11 hown hK hP 0 rfl rfl 14 (by decide) (hts (.fieldLink RX11 31 "HungFloorsModel" "dName" "[J") (by decide +kernel)) (fun _ h9 => h9) rfl dX11_readDrawing_25 ?_
  refine lv_iconst (v := 4) hx hb dX11_readDrawing_28 (by decide) ?_
  refine lv_aload_n hx hb dX11_readDrawing_29 rfl (lv_at hl 1 rfl) ?_
  refine va_get (D := (dC, dI)) (ci := 9) (v := .int rb0) (C := RX11) (T := TX11) (N := 69) hx hb hts iw_X11_readDrawing_X11 hown hK hP 0 rfl rfl 24 (by decide) (hts (.fieldLink RX11 224 "HungFloorsModel" "rb" "I") (by decide +kernel)) (fun _ h9 => h9) rfl dX11_readDrawing_30 ?_
  refine lv_imul hx hb dX11_readDrawing_33 ?_
  refine lv_topi (fun z_85 ez_85 => ?_)
  have hz_85 : z_85.toInt = 4 * rb0.toInt := by rw [ez_85]; exact t_mul tI_4 rfl (by omega) (by omega)
  have fz_85 : z_85 = (4 * rb0) := by rw [ez_85]
  refine lv_aload_n hx hb dX11_readDrawing_34 rfl (lv_at hl 1 rfl) ?_
  refine va_get (D := (dC, dI)) (ci := 9) (v := .ref (r0 3)) (C := RX11) (T := TX11) (N := 69) hx hb hts iw_X11_readDrawing_X11 hown hK hP 0 rfl rfl 12 (by decide) (hts (.fieldLink RX11 24 "HungFloorsModel" "drawings" "[I") (by decide +kernel)) (fun _ h9 => h9) rfl dX11_readDrawing_35 ?_
  refine lv_aload_n hx hb dX11_readDrawing_38 rfl (lv_at hl 1 rfl) ?_
  refine va_get (D := (dC, dI)) (ci := 9) (v := .int rb0) (C := RX11) (T := TX11) (N := 69) hx hb hts iw_X11_readDrawing_X11 hown hK hP 0 rfl rfl 24 (by decide) (hts (.fieldLink RX11 224 "HungFloorsModel" "rb" "I") (by decide +kernel)) (fun _ h9 => h9) rfl dX11_readDrawing_39 ?_
  refine va_iald hx hb hK hP 4 1 rfl rfl (v_in rfl (by omega) (by omega)) dX11_readDrawing_42 ?_
  refine lv_topi (fun z_86 ez_86 => ?_)
  have gz_86 := rg_at hr_68 ez_86
  have g1z_86 := gz_86.1
  have g2z_86 := gz_86.2
  have fz_86 : z_86 = (dr2 (rb0 : Int32).toNatClampNeg) := by rw [ez_86]
  have qz_86 : z_86.toInt = y_23.toInt := by rw [fz_86, fy_23]
  have hpm : List.Perm ([[(h0, .inr (9, (.ref (r0 0) :: .ref (r0 1) :: .int tp_24 :: .int sz0 :: .int fk0 :: .int fp_31 :: .int aq_32 :: .int en0 :: .int tk0 :: .int nu_39 :: .long nm0 :: .ref (r0 2) :: .ref (r0 3) :: .ref (r0 4) :: .ref (r0 5) :: .ref (r0 6) :: .ref (r0 7) :: .ref (r0 8) :: .ref (r0 9) :: .ref (r0 10) :: .ref (r0 11) :: .ref (r0 12) :: .ref (r0 13) :: .int bk0 :: .int rb0 :: .ref (r0 14) :: .int mv_44 :: .ref (r0 15) :: .ref (r0 16) :: .ref (r0 17) :: .ref (r0 18) :: .ref (r0 19) :: .ref (r0 20) :: .ref (r0 21) :: .ref (r0 22) :: .ref (r0 23) :: .int dw0 :: .int rl0 :: .int mg_49 :: .long su_50 :: .long sd0 :: .ref (r0 24) :: .ref (r0 25) :: .int jm0 :: .long bu_53 :: .long bd0 :: .ref (r0 26) :: .int gm0 :: .int fa_56 :: .ref (r0 27) :: .ref (r0 28) :: .ref (r0 29) :: .ref (r0 30) :: .ref (r0 31) :: .ref (r0 32) :: .ref (r0 33) :: .ref (r0 34) :: .ref (r0 35) :: .ref (r0 36) :: .ref (r0 37) :: .int pp_57 :: .int ti0 :: .ref (r0 38) :: .ref (r0 39) :: .ref (r0 40) :: .int so_62 :: .ref (r0 41) :: .ref (r0 42) :: .ref (r0 43) :: [])))], [(r0 0, .inl (cB, 1620, .inl f_66)), (r0 1, .inl (cB, 1600, .inl tq1))], [(r0 2, .inl (cI, 2, .inl fl2))], [(r0 3, .inl (cI, 2, .inl dr2))], [(r0 4, .inl (cJ, 12, .inr (.inl f_69)))], [(r0 5, .inl (cJ, 8, .inr (.inl f_70)))], [(r0 6, .inl (cJ, 80, .inr (.inl f_71)))], [(r0 7, .inl (cI, 12, .inl f_72))], [(r0 8, .inl (cI, 12, .inl f_73))], [(r0 9, .inl (cI, 12, .inl f_75))], [(r0 10, .inl (cI, 8, .inl rd2))], [(r0 11, .inl (cI, 80, .inl rf2))], [(r0 12, .inl (cI, 80, .inl rh2))], [(r0 13, .inl (cI, 80, .inl f_79))]] : List va_W) (([[(h0, .inr (9, (.ref (r0 0) :: .ref (r0 1) :: .int tp_24 :: .int sz0 :: .int fk0 :: .int fp_31 :: .int aq_32 :: .int en0 :: .int tk0 :: .int nu_39 :: .long nm0 :: .ref (r0 2) :: .ref (r0 3) :: .ref (r0 4) :: .ref (r0 5) :: .ref (r0 6) :: .ref (r0 7) :: .ref (r0 8) :: .ref (r0 9) :: .ref (r0 10) :: .ref (r0 11) :: .ref (r0 12) :: .ref (r0 13) :: .int bk0 :: .int rb0 :: .ref (r0 14) :: .int mv_44 :: .ref (r0 15) :: .ref (r0 16) :: .ref (r0 17) :: .ref (r0 18) :: .ref (r0 19) :: .ref (r0 20) :: .ref (r0 21) :: .ref (r0 22) :: .ref (r0 23) :: .int dw0 :: .int rl0 :: .int mg_49 :: .long su_50 :: .long sd0 :: .ref (r0 24) :: .ref (r0 25) :: .int jm0 :: .long bu_53 :: .long bd0 :: .ref (r0 26) :: .int gm0 :: .int fa_56 :: .ref (r0 27) :: .ref (r0 28) :: .ref (r0 29) :: .ref (r0 30) :: .ref (r0 31) :: .ref (r0 32) :: .ref (r0 33) :: .ref (r0 34) :: .ref (r0 35) :: .ref (r0 36) :: .ref (r0 37) :: .int pp_57 :: .int ti0 :: .ref (r0 38) :: .ref (r0 39) :: .ref (r0 40) :: .int so_62 :: .ref (r0 41) :: .ref (r0 42) :: .ref (r0 43) :: [])))], [(r0 5, .inl (cJ, 8, .inr (.inl f_70)))]] : List va_W) ++ ([[(r0 0, .inl (cB, 1620, .inl f_66)), (r0 1, .inl (cB, 1600, .inl tq1))], [(r0 2, .inl (cI, 2, .inl fl2))], [(r0 3, .inl (cI, 2, .inl dr2))], [(r0 4, .inl (cJ, 12, .inr (.inl f_69)))], [(r0 6, .inl (cJ, 80, .inr (.inl f_71)))], [(r0 7, .inl (cI, 12, .inl f_72))], [(r0 8, .inl (cI, 12, .inl f_73))], [(r0 9, .inl (cI, 12, .inl f_75))], [(r0 10, .inl (cI, 8, .inl rd2))], [(r0 11, .inl (cI, 80, .inl rf2))], [(r0 12, .inl (cI, 80, .inl rh2))], [(r0 13, .inl (cI, 80, .inl f_79))]] : List va_W)) := pm_n 14 [0, 5, 1, 2, 3, 4, 6, 7, 8, 9, 10, 11, 12, 13] (by decide) rfl rfl
  have hPc := bk_P hpm hP
  have hDc := bk_D hpm hD
  have hFc := bk_F hpm hD hS hA
  refine va_calli (va_runV (As := [.ref (r0 5), .int z_85, .int z_86]) (rest := [.ref h0, .int z_84, .ref (r0 5)]) ⟨hx, hb, hml, hown, hts⟩ (c_X11_here_n8 l dC dI ad tN fN cB cI cJ cZ h0 (r0 5) z_85 z_86 r0 sz0 fk0 en0 tk0 nm0 bk0 rb0 dw0 rl0 sd0 jm0 bd0 gm0 ti0 _ _ ⟨tp_24, fp_31, aq_32, nu_39, mv_44, mg_49, su_50, bu_53, fa_56, pp_57, so_62, rfl, by omega, by omega, by omega, by omega, by omega, by omega, by omega, by omega, by omega, by omega, by omega, by omega, by omega, by omega, by omega, by omega, by omega, by omega, by omega, by omega, by omega, by omega, by omega, by omega, by omega, by omega, by omega, by omega, by omega, by omega⟩ s.heap.size (by omega) (by omega) (by omega) (by omega)) (cwV 3 hts gX11_readDrawing_X11_here rfl rfl rfl (by decide +kernel) ⟨(Nat.le_of_ble_eq_true rfl), (Nat.le_of_ble_eq_true rfl)⟩) ⟨fun a U g mk q => by obtain ⟨q0, q1, qP, qK, qD, qE⟩ := q; exact ⟨q0, q1, qP, va_K.moved (u := U) (U := U.calling g mk a) (Vm.Alike.refl U.vm) qK, qD, ey_blind qE⟩, va_recv hK hPc (ci := 9) (q0 := 0) rfl rfl, fun U hU hW => ⟨rfl, by rw [hU], by rw [hU]; exact hPc, va_K.moved hW.alike hK, hDc.weaken (fun _ _ _ _ => trivial), ey_call hE hS hFc hU hW⟩⟩ rfl rfl hl.1 rfl (lv_room (Nat.le_of_ble_eq_true rfl)) dX11_readDrawing_43 ⟨(Nat.le_of_ble_eq_true rfl), (Nat.le_of_ble_eq_true rfl)⟩) hS (fun q _ h => hFc q h) hFc (fun r_87 u t H locs ht hvm hw hB hz1 hk1 hS => ?_)
  obtain ⟨hP1, hD1⟩ := hB
  rw [ht] at hP1
  obtain ⟨hP, hD⟩ := bk_join hpm hP hD hk1 hFc (Cs1 := [[(h0, .inr (9, (.ref (r0 0) :: .ref (r0 1) :: .int tp_24 :: .int sz0 :: .int fk0 :: .int fp_31 :: .int aq_32 :: .int en0 :: .int tk0 :: .int nu_39 :: .long nm0 :: .ref (r0 2) :: .ref (r0 3) :: .ref (r0 4) :: .ref (r0 5) :: .ref (r0 6) :: .ref (r0 7) :: .ref (r0 8) :: .ref (r0 9) :: .ref (r0 10) :: .ref (r0 11) :: .ref (r0 12) :: .ref (r0 13) :: .int bk0 :: .int rb0 :: .ref (r0 14) :: .int mv_44 :: .ref (r0 15) :: .ref (r0 16) :: .ref (r0 17) :: .ref (r0 18) :: .ref (r0 19) :: .ref (r0 20) :: .ref (r0 21) :: .ref (r0 22) :: .ref (r0 23) :: .int dw0 :: .int rl0 :: .int mg_49 :: .long su_50 :: .long sd0 :: .ref (r0 24) :: .ref (r0 25) :: .int jm0 :: .long bu_53 :: .long bd0 :: .ref (r0 26) :: .int gm0 :: .int fa_56 :: .ref (r0 27) :: .ref (r0 28) :: .ref (r0 29) :: .ref (r0 30) :: .ref (r0 31) :: .ref (r0 32) :: .ref (r0 33) :: .ref (r0 34) :: .ref (r0 35) :: .ref (r0 36) :: .ref (r0 37) :: .int pp_57 :: .int ti0 :: .ref (r0 38) :: .ref (r0 39) :: .ref (r0 40) :: .int so_62 :: .ref (r0 41) :: .ref (r0 42) :: .ref (r0 43) :: [])))], [(r0 5, .inl (cJ, 8, .inr (.inl f_70)))]]) hP1 hD1
  have hpm2 : List.Perm (([[(h0, .inr (9, (.ref (r0 0) :: .ref (r0 1) :: .int tp_24 :: .int sz0 :: .int fk0 :: .int fp_31 :: .int aq_32 :: .int en0 :: .int tk0 :: .int nu_39 :: .long nm0 :: .ref (r0 2) :: .ref (r0 3) :: .ref (r0 4) :: .ref (r0 5) :: .ref (r0 6) :: .ref (r0 7) :: .ref (r0 8) :: .ref (r0 9) :: .ref (r0 10) :: .ref (r0 11) :: .ref (r0 12) :: .ref (r0 13) :: .int bk0 :: .int rb0 :: .ref (r0 14) :: .int mv_44 :: .ref (r0 15) :: .ref (r0 16) :: .ref (r0 17) :: .ref (r0 18) :: .ref (r0 19) :: .ref (r0 20) :: .ref (r0 21) :: .ref (r0 22) :: .ref (r0 23) :: .int dw0 :: .int rl0 :: .int mg_49 :: .long su_50 :: .long sd0 :: .ref (r0 24) :: .ref (r0 25) :: .int jm0 :: .long bu_53 :: .long bd0 :: .ref (r0 26) :: .int gm0 :: .int fa_56 :: .ref (r0 27) :: .ref (r0 28) :: .ref (r0 29) :: .ref (r0 30) :: .ref (r0 31) :: .ref (r0 32) :: .ref (r0 33) :: .ref (r0 34) :: .ref (r0 35) :: .ref (r0 36) :: .ref (r0 37) :: .int pp_57 :: .int ti0 :: .ref (r0 38) :: .ref (r0 39) :: .ref (r0 40) :: .int so_62 :: .ref (r0 41) :: .ref (r0 42) :: .ref (r0 43) :: [])))], [(r0 5, .inl (cJ, 8, .inr (.inl f_70)))]] : List va_W) ++ ([[(r0 0, .inl (cB, 1620, .inl f_66)), (r0 1, .inl (cB, 1600, .inl tq1))], [(r0 2, .inl (cI, 2, .inl fl2))], [(r0 3, .inl (cI, 2, .inl dr2))], [(r0 4, .inl (cJ, 12, .inr (.inl f_69)))], [(r0 6, .inl (cJ, 80, .inr (.inl f_71)))], [(r0 7, .inl (cI, 12, .inl f_72))], [(r0 8, .inl (cI, 12, .inl f_73))], [(r0 9, .inl (cI, 12, .inl f_75))], [(r0 10, .inl (cI, 8, .inl rd2))], [(r0 11, .inl (cI, 80, .inl rf2))], [(r0 12, .inl (cI, 80, .inl rh2))], [(r0 13, .inl (cI, 80, .inl f_79))]] : List va_W)) ([[(h0, .inr (9, (.ref (r0 0) :: .ref (r0 1) :: .int tp_24 :: .int sz0 :: .int fk0 :: .int fp_31 :: .int aq_32 :: .int en0 :: .int tk0 :: .int nu_39 :: .long nm0 :: .ref (r0 2) :: .ref (r0 3) :: .ref (r0 4) :: .ref (r0 5) :: .ref (r0 6) :: .ref (r0 7) :: .ref (r0 8) :: .ref (r0 9) :: .ref (r0 10) :: .ref (r0 11) :: .ref (r0 12) :: .ref (r0 13) :: .int bk0 :: .int rb0 :: .ref (r0 14) :: .int mv_44 :: .ref (r0 15) :: .ref (r0 16) :: .ref (r0 17) :: .ref (r0 18) :: .ref (r0 19) :: .ref (r0 20) :: .ref (r0 21) :: .ref (r0 22) :: .ref (r0 23) :: .int dw0 :: .int rl0 :: .int mg_49 :: .long su_50 :: .long sd0 :: .ref (r0 24) :: .ref (r0 25) :: .int jm0 :: .long bu_53 :: .long bd0 :: .ref (r0 26) :: .int gm0 :: .int fa_56 :: .ref (r0 27) :: .ref (r0 28) :: .ref (r0 29) :: .ref (r0 30) :: .ref (r0 31) :: .ref (r0 32) :: .ref (r0 33) :: .ref (r0 34) :: .ref (r0 35) :: .ref (r0 36) :: .ref (r0 37) :: .int pp_57 :: .int ti0 :: .ref (r0 38) :: .ref (r0 39) :: .ref (r0 40) :: .int so_62 :: .ref (r0 41) :: .ref (r0 42) :: .ref (r0 43) :: [])))], [(r0 0, .inl (cB, 1620, .inl f_66)), (r0 1, .inl (cB, 1600, .inl tq1))], [(r0 2, .inl (cI, 2, .inl fl2))], [(r0 3, .inl (cI, 2, .inl dr2))], [(r0 4, .inl (cJ, 12, .inr (.inl f_69)))], [(r0 5, .inl (cJ, 8, .inr (.inl f_70)))], [(r0 6, .inl (cJ, 80, .inr (.inl f_71)))], [(r0 7, .inl (cI, 12, .inl f_72))], [(r0 8, .inl (cI, 12, .inl f_73))], [(r0 9, .inl (cI, 12, .inl f_75))], [(r0 10, .inl (cI, 8, .inl rd2))], [(r0 11, .inl (cI, 80, .inl rf2))], [(r0 12, .inl (cI, 80, .inl rh2))], [(r0 13, .inl (cI, 80, .inl f_79))]] : List va_W) := pm_n 14 [0, 2, 3, 4, 5, 1, 6, 7, 8, 9, 10, 11, 12, 13] (by decide) rfl rfl
  have hP := bk_reP hpm2 hP
  have hD := bk_reD hpm2 hD
  have hP : va_P (dC, dI) vwCl (List.flatten [[(h0, .inr (9, (.ref (r0 0) :: .ref (r0 1) :: .int tp_24 :: .int sz0 :: .int fk0 :: .int fp_31 :: .int aq_32 :: .int en0 :: .int tk0 :: .int nu_39 :: .long nm0 :: .ref (r0 2) :: .ref (r0 3) :: .ref (r0 4) :: .ref (r0 5) :: .ref (r0 6) :: .ref (r0 7) :: .ref (r0 8) :: .ref (r0 9) :: .ref (r0 10) :: .ref (r0 11) :: .ref (r0 12) :: .ref (r0 13) :: .int bk0 :: .int rb0 :: .ref (r0 14) :: .int mv_44 :: .ref (r0 15) :: .ref (r0 16) :: .ref (r0 17) :: .ref (r0 18) :: .ref (r0 19) :: .ref (r0 20) :: .ref (r0 21) :: .ref (r0 22) :: .ref (r0 23) :: .int dw0 :: .int rl0 :: .int mg_49 :: .long su_50 :: .long sd0 :: .ref (r0 24) :: .ref (r0 25) :: .int jm0 :: .long bu_53 :: .long bd0 :: .ref (r0 26) :: .int gm0 :: .int fa_56 :: .ref (r0 27) :: .ref (r0 28) :: .ref (r0 29) :: .ref (r0 30) :: .ref (r0 31) :: .ref (r0 32) :: .ref (r0 33) :: .ref (r0 34) :: .ref (r0 35) :: .ref (r0 36) :: .ref (r0 37) :: .int pp_57 :: .int ti0 :: .ref (r0 38) :: .ref (r0 39) :: .ref (r0 40) :: .int so_62 :: .ref (r0 41) :: .ref (r0 42) :: .ref (r0 43) :: [])))], [(r0 0, .inl (cB, 1620, .inl f_66)), (r0 1, .inl (cB, 1600, .inl tq1))], [(r0 2, .inl (cI, 2, .inl fl2)), (r0 3, .inl (cI, 2, .inl dr2)), (r0 4, .inl (cJ, 12, .inr (.inl f_69))), (r0 5, .inl (cJ, 8, .inr (.inl f_70))), (r0 6, .inl (cJ, 80, .inr (.inl f_71))), (r0 7, .inl (cI, 12, .inl f_72)), (r0 8, .inl (cI, 12, .inl f_73)), (r0 9, .inl (cI, 12, .inl f_75)), (r0 10, .inl (cI, 8, .inl rd2)), (r0 11, .inl (cI, 80, .inl rf2)), (r0 12, .inl (cI, 80, .inl rh2)), (r0 13, .inl (cI, 80, .inl f_79))]]) H := hP
  have hD : va_D A (List.flatten [[(h0, .inr (9, (.ref (r0 0) :: .ref (r0 1) :: .int tp_24 :: .int sz0 :: .int fk0 :: .int fp_31 :: .int aq_32 :: .int en0 :: .int tk0 :: .int nu_39 :: .long nm0 :: .ref (r0 2) :: .ref (r0 3) :: .ref (r0 4) :: .ref (r0 5) :: .ref (r0 6) :: .ref (r0 7) :: .ref (r0 8) :: .ref (r0 9) :: .ref (r0 10) :: .ref (r0 11) :: .ref (r0 12) :: .ref (r0 13) :: .int bk0 :: .int rb0 :: .ref (r0 14) :: .int mv_44 :: .ref (r0 15) :: .ref (r0 16) :: .ref (r0 17) :: .ref (r0 18) :: .ref (r0 19) :: .ref (r0 20) :: .ref (r0 21) :: .ref (r0 22) :: .ref (r0 23) :: .int dw0 :: .int rl0 :: .int mg_49 :: .long su_50 :: .long sd0 :: .ref (r0 24) :: .ref (r0 25) :: .int jm0 :: .long bu_53 :: .long bd0 :: .ref (r0 26) :: .int gm0 :: .int fa_56 :: .ref (r0 27) :: .ref (r0 28) :: .ref (r0 29) :: .ref (r0 30) :: .ref (r0 31) :: .ref (r0 32) :: .ref (r0 33) :: .ref (r0 34) :: .ref (r0 35) :: .ref (r0 36) :: .ref (r0 37) :: .int pp_57 :: .int ti0 :: .ref (r0 38) :: .ref (r0 39) :: .ref (r0 40) :: .int so_62 :: .ref (r0 41) :: .ref (r0 42) :: .ref (r0 43) :: [])))], [(r0 0, .inl (cB, 1620, .inl f_66)), (r0 1, .inl (cB, 1600, .inl tq1))], [(r0 2, .inl (cI, 2, .inl fl2)), (r0 3, .inl (cI, 2, .inl dr2)), (r0 4, .inl (cJ, 12, .inr (.inl f_69))), (r0 5, .inl (cJ, 8, .inr (.inl f_70))), (r0 6, .inl (cJ, 80, .inr (.inl f_71))), (r0 7, .inl (cI, 12, .inl f_72)), (r0 8, .inl (cI, 12, .inl f_73)), (r0 9, .inl (cI, 12, .inl f_75)), (r0 10, .inl (cI, 8, .inl rd2)), (r0 11, .inl (cI, 80, .inl rf2)), (r0 12, .inl (cI, 80, .inl rh2)), (r0 13, .inl (cI, 80, .inl f_79))]]) := hD
  obtain ⟨hlr_87, hhr_87, hpr_88⟩ := hw
  have hpr_88 : r_87.toInt < z_86.toInt ∨ r_87.toInt = -1 := hpr_88
  have hpm : List.Perm ([[(h0, .inr (9, (.ref (r0 0) :: .ref (r0 1) :: .int tp_24 :: .int sz0 :: .int fk0 :: .int fp_31 :: .int aq_32 :: .int en0 :: .int tk0 :: .int nu_39 :: .long nm0 :: .ref (r0 2) :: .ref (r0 3) :: .ref (r0 4) :: .ref (r0 5) :: .ref (r0 6) :: .ref (r0 7) :: .ref (r0 8) :: .ref (r0 9) :: .ref (r0 10) :: .ref (r0 11) :: .ref (r0 12) :: .ref (r0 13) :: .int bk0 :: .int rb0 :: .ref (r0 14) :: .int mv_44 :: .ref (r0 15) :: .ref (r0 16) :: .ref (r0 17) :: .ref (r0 18) :: .ref (r0 19) :: .ref (r0 20) :: .ref (r0 21) :: .ref (r0 22) :: .ref (r0 23) :: .int dw0 :: .int rl0 :: .int mg_49 :: .long su_50 :: .long sd0 :: .ref (r0 24) :: .ref (r0 25) :: .int jm0 :: .long bu_53 :: .long bd0 :: .ref (r0 26) :: .int gm0 :: .int fa_56 :: .ref (r0 27) :: .ref (r0 28) :: .ref (r0 29) :: .ref (r0 30) :: .ref (r0 31) :: .ref (r0 32) :: .ref (r0 33) :: .ref (r0 34) :: .ref (r0 35) :: .ref (r0 36) :: .ref (r0 37) :: .int pp_57 :: .int ti0 :: .ref (r0 38) :: .ref (r0 39) :: .ref (r0 40) :: .int so_62 :: .ref (r0 41) :: .ref (r0 42) :: .ref (r0 43) :: [])))], [(r0 0, .inl (cB, 1620, .inl f_66)), (r0 1, .inl (cB, 1600, .inl tq1))], [(r0 2, .inl (cI, 2, .inl fl2)), (r0 3, .inl (cI, 2, .inl dr2)), (r0 4, .inl (cJ, 12, .inr (.inl f_69))), (r0 5, .inl (cJ, 8, .inr (.inl f_70))), (r0 6, .inl (cJ, 80, .inr (.inl f_71))), (r0 7, .inl (cI, 12, .inl f_72)), (r0 8, .inl (cI, 12, .inl f_73)), (r0 9, .inl (cI, 12, .inl f_75)), (r0 10, .inl (cI, 8, .inl rd2)), (r0 11, .inl (cI, 80, .inl rf2)), (r0 12, .inl (cI, 80, .inl rh2)), (r0 13, .inl (cI, 80, .inl f_79))]] : List va_W) (([[(h0, .inr (9, (.ref (r0 0) :: .ref (r0 1) :: .int tp_24 :: .int sz0 :: .int fk0 :: .int fp_31 :: .int aq_32 :: .int en0 :: .int tk0 :: .int nu_39 :: .long nm0 :: .ref (r0 2) :: .ref (r0 3) :: .ref (r0 4) :: .ref (r0 5) :: .ref (r0 6) :: .ref (r0 7) :: .ref (r0 8) :: .ref (r0 9) :: .ref (r0 10) :: .ref (r0 11) :: .ref (r0 12) :: .ref (r0 13) :: .int bk0 :: .int rb0 :: .ref (r0 14) :: .int mv_44 :: .ref (r0 15) :: .ref (r0 16) :: .ref (r0 17) :: .ref (r0 18) :: .ref (r0 19) :: .ref (r0 20) :: .ref (r0 21) :: .ref (r0 22) :: .ref (r0 23) :: .int dw0 :: .int rl0 :: .int mg_49 :: .long su_50 :: .long sd0 :: .ref (r0 24) :: .ref (r0 25) :: .int jm0 :: .long bu_53 :: .long bd0 :: .ref (r0 26) :: .int gm0 :: .int fa_56 :: .ref (r0 27) :: .ref (r0 28) :: .ref (r0 29) :: .ref (r0 30) :: .ref (r0 31) :: .ref (r0 32) :: .ref (r0 33) :: .ref (r0 34) :: .ref (r0 35) :: .ref (r0 36) :: .ref (r0 37) :: .int pp_57 :: .int ti0 :: .ref (r0 38) :: .ref (r0 39) :: .ref (r0 40) :: .int so_62 :: .ref (r0 41) :: .ref (r0 42) :: .ref (r0 43) :: [])))], [(r0 0, .inl (cB, 1620, .inl f_66)), (r0 1, .inl (cB, 1600, .inl tq1))]] : List va_W) ++ ([[(r0 2, .inl (cI, 2, .inl fl2)), (r0 3, .inl (cI, 2, .inl dr2)), (r0 4, .inl (cJ, 12, .inr (.inl f_69))), (r0 5, .inl (cJ, 8, .inr (.inl f_70))), (r0 6, .inl (cJ, 80, .inr (.inl f_71))), (r0 7, .inl (cI, 12, .inl f_72)), (r0 8, .inl (cI, 12, .inl f_73)), (r0 9, .inl (cI, 12, .inl f_75)), (r0 10, .inl (cI, 8, .inl rd2)), (r0 11, .inl (cI, 80, .inl rf2)), (r0 12, .inl (cI, 80, .inl rh2)), (r0 13, .inl (cI, 80, .inl f_79))]] : List va_W)) := pm_n 3 [0, 1, 2] (by decide) rfl rfl
  have hPc := bk_P hpm hP
  have hDc := bk_D hpm hD
  have hFc := bk_F hpm hD hS hA
  refine va_calll (va_runV (As := [.int r_87]) (rest := [.int z_84, .ref (r0 5)]) ⟨hx, hb, hml, hown, hts⟩ (c_X11_fresh l dC dI ad tN fN cB cI cJ cZ h0 r_87 r0 sz0 fk0 en0 tk0 nm0 bk0 rb0 dw0 rl0 sd0 jm0 bd0 gm0 ti0 _ tq1 _ ⟨tp_24, fp_31, aq_32, nu_39, mv_44, mg_49, su_50, bu_53, fa_56, pp_57, so_62, rfl, by omega, by omega, by omega, by omega, by omega, by omega, by omega, by omega, by omega, by omega, by omega, by omega, by omega, by omega, by omega, by omega, by omega, by omega, by omega, by omega, by omega, by omega, by omega, by omega, by omega, by omega, by omega, by omega, by omega, by omega⟩ ⟨f_66, rfl⟩ H.size hq_ez) (cwV 1 hts gX11_readDrawing_X11_fresh rfl rfl rfl (by decide +kernel) ⟨(Nat.le_of_ble_eq_true rfl), (Nat.le_of_ble_eq_true rfl)⟩) ⟨fun a U g mk q => by obtain ⟨q0, q1, qP, qK, qD, qE⟩ := q; exact ⟨q0, q1, qP, va_K.moved (u := U) (U := U.calling g mk a) (Vm.Alike.refl U.vm) qK, qD, ey_blind qE⟩, va_recv hK hPc (ci := 9) (q0 := 0) rfl rfl, fun U hU hW => ⟨rfl, by rw [hU], by rw [hU]; exact hPc, va_K.moved hW.alike hK, hDc.weaken (fun _ _ _ _ => trivial), ey_call hE hS hFc hU hW⟩⟩ rfl rfl hl.1 rfl (lv_room (Nat.le_of_ble_eq_true rfl)) dX11_readDrawing_46 ⟨(Nat.le_of_ble_eq_true rfl), (Nat.le_of_ble_eq_true rfl)⟩) hS (fun q _ h => hFc q h) hFc (fun r_89 u t H locs ht hvm hw hB hz1 hk1 hS => ?_)
  obtain ⟨fk_92, en_93, tk_94, nm_95, w_90, o_91, hpp_96, hpp_97, hpp_98, hP1, hD1⟩ := hB
  rw [ht] at hP1
  obtain ⟨hP, hD⟩ := bk_join hpm hP hD hk1 hFc (Cs1 := [w_90, [(r0 0, .inl (cB, 1620, .inl f_66)), (r0 1, .inl (cB, 1600, .inl tq1))]]) hP1 hD1
  have hpm2 : List.Perm (([w_90, [(r0 0, .inl (cB, 1620, .inl f_66)), (r0 1, .inl (cB, 1600, .inl tq1))]] : List va_W) ++ ([[(r0 2, .inl (cI, 2, .inl fl2)), (r0 3, .inl (cI, 2, .inl dr2)), (r0 4, .inl (cJ, 12, .inr (.inl f_69))), (r0 5, .inl (cJ, 8, .inr (.inl f_70))), (r0 6, .inl (cJ, 80, .inr (.inl f_71))), (r0 7, .inl (cI, 12, .inl f_72)), (r0 8, .inl (cI, 12, .inl f_73)), (r0 9, .inl (cI, 12, .inl f_75)), (r0 10, .inl (cI, 8, .inl rd2)), (r0 11, .inl (cI, 80, .inl rf2)), (r0 12, .inl (cI, 80, .inl rh2)), (r0 13, .inl (cI, 80, .inl f_79))]] : List va_W)) ([w_90, [(r0 0, .inl (cB, 1620, .inl f_66)), (r0 1, .inl (cB, 1600, .inl tq1))], [(r0 2, .inl (cI, 2, .inl fl2)), (r0 3, .inl (cI, 2, .inl dr2)), (r0 4, .inl (cJ, 12, .inr (.inl f_69))), (r0 5, .inl (cJ, 8, .inr (.inl f_70))), (r0 6, .inl (cJ, 80, .inr (.inl f_71))), (r0 7, .inl (cI, 12, .inl f_72)), (r0 8, .inl (cI, 12, .inl f_73)), (r0 9, .inl (cI, 12, .inl f_75)), (r0 10, .inl (cI, 8, .inl rd2)), (r0 11, .inl (cI, 80, .inl rf2)), (r0 12, .inl (cI, 80, .inl rh2)), (r0 13, .inl (cI, 80, .inl f_79))]] : List va_W) := pm_n 3 [0, 1, 2] (by decide) rfl rfl
  have hP := bk_reP hpm2 hP
  have hD := bk_reD hpm2 hD
  have hP : va_P (dC, dI) vwCl (List.flatten [w_90, [(r0 0, .inl (cB, 1620, .inl f_66)), (r0 1, .inl (cB, 1600, .inl tq1))], [(r0 2, .inl (cI, 2, .inl fl2)), (r0 3, .inl (cI, 2, .inl dr2)), (r0 4, .inl (cJ, 12, .inr (.inl f_69))), (r0 5, .inl (cJ, 8, .inr (.inl f_70))), (r0 6, .inl (cJ, 80, .inr (.inl f_71))), (r0 7, .inl (cI, 12, .inl f_72)), (r0 8, .inl (cI, 12, .inl f_73)), (r0 9, .inl (cI, 12, .inl f_75)), (r0 10, .inl (cI, 8, .inl rd2)), (r0 11, .inl (cI, 80, .inl rf2)), (r0 12, .inl (cI, 80, .inl rh2)), (r0 13, .inl (cI, 80, .inl f_79))]]) H := hP
  have hD : va_D A (List.flatten [w_90, [(r0 0, .inl (cB, 1620, .inl f_66)), (r0 1, .inl (cB, 1600, .inl tq1))], [(r0 2, .inl (cI, 2, .inl fl2)), (r0 3, .inl (cI, 2, .inl dr2)), (r0 4, .inl (cJ, 12, .inr (.inl f_69))), (r0 5, .inl (cJ, 8, .inr (.inl f_70))), (r0 6, .inl (cJ, 80, .inr (.inl f_71))), (r0 7, .inl (cI, 12, .inl f_72)), (r0 8, .inl (cI, 12, .inl f_73)), (r0 9, .inl (cI, 12, .inl f_75)), (r0 10, .inl (cI, 8, .inl rd2)), (r0 11, .inl (cI, 80, .inl rf2)), (r0 12, .inl (cI, 80, .inl rh2)), (r0 13, .inl (cI, 80, .inl f_79))]]) := hD
  obtain ⟨hx_99, hx_100, hx_101, hx_102, hx_103, hx_104, hx_105, hx_106, hx_107, hx_108, hx_109, hx_110, hx_111, hx_112, hx_113, hx_114, hx_115, hx_116, hx_117, hx_118, hx_119, hx_120⟩ := okx_mo o_91
  have hpp_96 : en_93.toInt ≤ sz0.toInt := hpp_96
  have hpp_97 : fk0.toInt = 0 ∨ 1 ≤ fk_92.toInt := hpp_97
  have hpp_98 : 1 ≤ fk_92.toInt ∨ en0.toInt < en_93.toInt ∨ (tk_94.toInt = 0 ∧ en0.toInt ≤ en_93.toInt) := hpp_98
  obtain ⟨tp_121, fp_128, aq_129, nu_136, mv_141, mg_146, su_147, bu_150, fa_153, pp_154, so_159, rfl, hl_122, hh_123, hl_124, hh_125, hl_126, hh_127, hl_130, hh_131, hl_132, hh_133, hl_134, hh_135, hl_137, hh_138, hl_139, hh_140, hl_142, hh_143, hl_144, hh_145, hl_148, hh_149, hl_151, hh_152, hl_155, hh_156, hl_157, hh_158, hl_160, hh_161⟩ := o_91
  refine va_last hx hb hK hP hD hS 6 2 rfl rfl (v_in rfl (by omega) (by omega)) dX11_readDrawing_49 (fun H locs hP hD hS => ?_)
  obtain ⟨f_162, qf_162, hP, hD⟩ : ∃ f_162 : Nat → Int64, f_162 = vp_updL f_70 (z_84 : Int32).toNatClampNeg (r_89 : Int64) ∧ va_P (dC, dI) vwCl (List.flatten [[(h0, .inr (9, (.ref (r0 0) :: .ref (r0 1) :: .int tp_121 :: .int sz0 :: .int fk_92 :: .int fp_128 :: .int aq_129 :: .int en_93 :: .int tk_94 :: .int nu_136 :: .long nm_95 :: .ref (r0 2) :: .ref (r0 3) :: .ref (r0 4) :: .ref (r0 5) :: .ref (r0 6) :: .ref (r0 7) :: .ref (r0 8) :: .ref (r0 9) :: .ref (r0 10) :: .ref (r0 11) :: .ref (r0 12) :: .ref (r0 13) :: .int bk0 :: .int rb0 :: .ref (r0 14) :: .int mv_141 :: .ref (r0 15) :: .ref (r0 16) :: .ref (r0 17) :: .ref (r0 18) :: .ref (r0 19) :: .ref (r0 20) :: .ref (r0 21) :: .ref (r0 22) :: .ref (r0 23) :: .int dw0 :: .int rl0 :: .int mg_146 :: .long su_147 :: .long sd0 :: .ref (r0 24) :: .ref (r0 25) :: .int jm0 :: .long bu_150 :: .long bd0 :: .ref (r0 26) :: .int gm0 :: .int fa_153 :: .ref (r0 27) :: .ref (r0 28) :: .ref (r0 29) :: .ref (r0 30) :: .ref (r0 31) :: .ref (r0 32) :: .ref (r0 33) :: .ref (r0 34) :: .ref (r0 35) :: .ref (r0 36) :: .ref (r0 37) :: .int pp_154 :: .int ti0 :: .ref (r0 38) :: .ref (r0 39) :: .ref (r0 40) :: .int so_159 :: .ref (r0 41) :: .ref (r0 42) :: .ref (r0 43) :: [])))], [(r0 0, .inl (cB, 1620, .inl f_66)), (r0 1, .inl (cB, 1600, .inl tq1))], [(r0 2, .inl (cI, 2, .inl fl2)), (r0 3, .inl (cI, 2, .inl dr2)), (r0 4, .inl (cJ, 12, .inr (.inl f_69))), (r0 5, .inl (cJ, 8, .inr (.inl f_162))), (r0 6, .inl (cJ, 80, .inr (.inl f_71))), (r0 7, .inl (cI, 12, .inl f_72)), (r0 8, .inl (cI, 12, .inl f_73)), (r0 9, .inl (cI, 12, .inl f_75)), (r0 10, .inl (cI, 8, .inl rd2)), (r0 11, .inl (cI, 80, .inl rf2)), (r0 12, .inl (cI, 80, .inl rh2)), (r0 13, .inl (cI, 80, .inl f_79))]]) H ∧ va_D A (List.flatten [[(h0, .inr (9, (.ref (r0 0) :: .ref (r0 1) :: .int tp_121 :: .int sz0 :: .int fk_92 :: .int fp_128 :: .int aq_129 :: .int en_93 :: .int tk_94 :: .int nu_136 :: .long nm_95 :: .ref (r0 2) :: .ref (r0 3) :: .ref (r0 4) :: .ref (r0 5) :: .ref (r0 6) :: .ref (r0 7) :: .ref (r0 8) :: .ref (r0 9) :: .ref (r0 10) :: .ref (r0 11) :: .ref (r0 12) :: .ref (r0 13) :: .int bk0 :: .int rb0 :: .ref (r0 14) :: .int mv_141 :: .ref (r0 15) :: .ref (r0 16) :: .ref (r0 17) :: .ref (r0 18) :: .ref (r0 19) :: .ref (r0 20) :: .ref (r0 21) :: .ref (r0 22) :: .ref (r0 23) :: .int dw0 :: .int rl0 :: .int mg_146 :: .long su_147 :: .long sd0 :: .ref (r0 24) :: .ref (r0 25) :: .int jm0 :: .long bu_150 :: .long bd0 :: .ref (r0 26) :: .int gm0 :: .int fa_153 :: .ref (r0 27) :: .ref (r0 28) :: .ref (r0 29) :: .ref (r0 30) :: .ref (r0 31) :: .ref (r0 32) :: .ref (r0 33) :: .ref (r0 34) :: .ref (r0 35) :: .ref (r0 36) :: .ref (r0 37) :: .int pp_154 :: .int ti0 :: .ref (r0 38) :: .ref (r0 39) :: .ref (r0 40) :: .int so_159 :: .ref (r0 41) :: .ref (r0 42) :: .ref (r0 43) :: [])))], [(r0 0, .inl (cB, 1620, .inl f_66)), (r0 1, .inl (cB, 1600, .inl tq1))], [(r0 2, .inl (cI, 2, .inl fl2)), (r0 3, .inl (cI, 2, .inl dr2)), (r0 4, .inl (cJ, 12, .inr (.inl f_69))), (r0 5, .inl (cJ, 8, .inr (.inl f_162))), (r0 6, .inl (cJ, 80, .inr (.inl f_71))), (r0 7, .inl (cI, 12, .inl f_72)), (r0 8, .inl (cI, 12, .inl f_73)), (r0 9, .inl (cI, 12, .inl f_75)), (r0 10, .inl (cI, 8, .inl rd2)), (r0 11, .inl (cI, 80, .inl rf2)), (r0 12, .inl (cI, 80, .inl rh2)), (r0 13, .inl (cI, 80, .inl f_79))]]) := ⟨_, rfl, hP, hD⟩
  refine lv_aload_n hx hb dX11_readDrawing_50 rfl (lv_at hl 1 rfl) ?_
  refine va_get (D := (dC, dI)) (ci := 9) (v := .ref (r0 10)) (C := RX11) (T := TX11) (N := 69) hx hb hts iw_X11_readDrawing_X11 hown hK hP 0 rfl rfl 19 (by decide) (hts (.fieldLink RX11 46 "HungFloorsModel" "rods" "[I") (by decide +kernel)) (fun _ h9 => h9) rfl dX11_readDrawing_51 ?_
  refine lv_iload_n hx hb dX11_readDrawing_54 rfl (lv_at hl 0 rfl) ?_
  refine lv_iconst (v := 0) hx hb dX11_readDrawing_55 (by decide) ?_
  refine va_iast hx hb hK hP hD hS 11 1 rfl rfl (v_in rfl (by omega) (by omega)) dX11_readDrawing_56 (fun H locs hP hD hS => ?_)
  obtain ⟨f_163, qf_163, hr_164, hP, hD⟩ : ∃ f_163 : Nat → Int32, f_163 = upd rd2 (z_84 : Int32).toNatClampNeg (0 : Int32) ∧ rg (0) 10 f_163 ∧ va_P (dC, dI) vwCl (List.flatten [[(h0, .inr (9, (.ref (r0 0) :: .ref (r0 1) :: .int tp_121 :: .int sz0 :: .int fk_92 :: .int fp_128 :: .int aq_129 :: .int en_93 :: .int tk_94 :: .int nu_136 :: .long nm_95 :: .ref (r0 2) :: .ref (r0 3) :: .ref (r0 4) :: .ref (r0 5) :: .ref (r0 6) :: .ref (r0 7) :: .ref (r0 8) :: .ref (r0 9) :: .ref (r0 10) :: .ref (r0 11) :: .ref (r0 12) :: .ref (r0 13) :: .int bk0 :: .int rb0 :: .ref (r0 14) :: .int mv_141 :: .ref (r0 15) :: .ref (r0 16) :: .ref (r0 17) :: .ref (r0 18) :: .ref (r0 19) :: .ref (r0 20) :: .ref (r0 21) :: .ref (r0 22) :: .ref (r0 23) :: .int dw0 :: .int rl0 :: .int mg_146 :: .long su_147 :: .long sd0 :: .ref (r0 24) :: .ref (r0 25) :: .int jm0 :: .long bu_150 :: .long bd0 :: .ref (r0 26) :: .int gm0 :: .int fa_153 :: .ref (r0 27) :: .ref (r0 28) :: .ref (r0 29) :: .ref (r0 30) :: .ref (r0 31) :: .ref (r0 32) :: .ref (r0 33) :: .ref (r0 34) :: .ref (r0 35) :: .ref (r0 36) :: .ref (r0 37) :: .int pp_154 :: .int ti0 :: .ref (r0 38) :: .ref (r0 39) :: .ref (r0 40) :: .int so_159 :: .ref (r0 41) :: .ref (r0 42) :: .ref (r0 43) :: [])))], [(r0 0, .inl (cB, 1620, .inl f_66)), (r0 1, .inl (cB, 1600, .inl tq1))], [(r0 2, .inl (cI, 2, .inl fl2)), (r0 3, .inl (cI, 2, .inl dr2)), (r0 4, .inl (cJ, 12, .inr (.inl f_69))), (r0 5, .inl (cJ, 8, .inr (.inl f_162))), (r0 6, .inl (cJ, 80, .inr (.inl f_71))), (r0 7, .inl (cI, 12, .inl f_72)), (r0 8, .inl (cI, 12, .inl f_73)), (r0 9, .inl (cI, 12, .inl f_75)), (r0 10, .inl (cI, 8, .inl f_163)), (r0 11, .inl (cI, 80, .inl rf2)), (r0 12, .inl (cI, 80, .inl rh2)), (r0 13, .inl (cI, 80, .inl f_79))]]) H ∧ va_D A (List.flatten [[(h0, .inr (9, (.ref (r0 0) :: .ref (r0 1) :: .int tp_121 :: .int sz0 :: .int fk_92 :: .int fp_128 :: .int aq_129 :: .int en_93 :: .int tk_94 :: .int nu_136 :: .long nm_95 :: .ref (r0 2) :: .ref (r0 3) :: .ref (r0 4) :: .ref (r0 5) :: .ref (r0 6) :: .ref (r0 7) :: .ref (r0 8) :: .ref (r0 9) :: .ref (r0 10) :: .ref (r0 11) :: .ref (r0 12) :: .ref (r0 13) :: .int bk0 :: .int rb0 :: .ref (r0 14) :: .int mv_141 :: .ref (r0 15) :: .ref (r0 16) :: .ref (r0 17) :: .ref (r0 18) :: .ref (r0 19) :: .ref (r0 20) :: .ref (r0 21) :: .ref (r0 22) :: .ref (r0 23) :: .int dw0 :: .int rl0 :: .int mg_146 :: .long su_147 :: .long sd0 :: .ref (r0 24) :: .ref (r0 25) :: .int jm0 :: .long bu_150 :: .long bd0 :: .ref (r0 26) :: .int gm0 :: .int fa_153 :: .ref (r0 27) :: .ref (r0 28) :: .ref (r0 29) :: .ref (r0 30) :: .ref (r0 31) :: .ref (r0 32) :: .ref (r0 33) :: .ref (r0 34) :: .ref (r0 35) :: .ref (r0 36) :: .ref (r0 37) :: .int pp_154 :: .int ti0 :: .ref (r0 38) :: .ref (r0 39) :: .ref (r0 40) :: .int so_159 :: .ref (r0 41) :: .ref (r0 42) :: .ref (r0 43) :: [])))], [(r0 0, .inl (cB, 1620, .inl f_66)), (r0 1, .inl (cB, 1600, .inl tq1))], [(r0 2, .inl (cI, 2, .inl fl2)), (r0 3, .inl (cI, 2, .inl dr2)), (r0 4, .inl (cJ, 12, .inr (.inl f_69))), (r0 5, .inl (cJ, 8, .inr (.inl f_162))), (r0 6, .inl (cJ, 80, .inr (.inl f_71))), (r0 7, .inl (cI, 12, .inl f_72)), (r0 8, .inl (cI, 12, .inl f_73)), (r0 9, .inl (cI, 12, .inl f_75)), (r0 10, .inl (cI, 8, .inl f_163)), (r0 11, .inl (cI, 80, .inl rf2)), (r0 12, .inl (cI, 80, .inl rh2)), (r0 13, .inl (cI, 80, .inl f_79))]]) := ⟨_, rfl, rg_upd hr_77 (by decide) (by decide), hP, hD⟩
  refine lv_aload_n hx hb dX11_readDrawing_57 rfl (lv_at hl 1 rfl) ?_
  refine va_get (D := (dC, dI)) (ci := 9) (v := .ref (r0 3)) (C := RX11) (T := TX11) (N := 69) hx hb hts iw_X11_readDrawing_X11 hown hK hP 0 rfl rfl 12 (by decide) (hts (.fieldLink RX11 24 "HungFloorsModel" "drawings" "[I") (by decide +kernel)) (fun _ h9 => h9) rfl dX11_readDrawing_58 ?_
  refine lv_aload_n hx hb dX11_readDrawing_61 rfl (lv_at hl 1 rfl) ?_
  refine va_get (D := (dC, dI)) (ci := 9) (v := .int rb0) (C := RX11) (T := TX11) (N := 69) hx hb hts iw_X11_readDrawing_X11 hown hK hP 0 rfl rfl 24 (by decide) (hts (.fieldLink RX11 224 "HungFloorsModel" "rb" "I") (by decide +kernel)) (fun _ h9 => h9) rfl dX11_readDrawing_62 ?_
  refine lv_dup2_11 hx hb dX11_readDrawing_65 rfl rfl ?_
  refine va_iald hx hb hK hP 4 1 rfl rfl (v_in rfl (by omega) (by omega)) dX11_readDrawing_66 ?_
  refine lv_topi (fun z_165 ez_165 => ?_)
  have gz_165 := rg_at hr_68 ez_165
  have g1z_165 := gz_165.1
  have g2z_165 := gz_165.2
  have fz_165 : z_165 = (dr2 (rb0 : Int32).toNatClampNeg) := by rw [ez_165]
  have qz_165 : z_165.toInt = y_23.toInt := by rw [fz_165, fy_23]
  refine lv_iconst (v := 1) hx hb dX11_readDrawing_67 (by decide) ?_
  refine lv_iadd hx hb dX11_readDrawing_68 ?_
  refine lv_topi (fun z_166 ez_166 => ?_)
  have hz_166 : z_166.toInt = z_165.toInt + 1 := by rw [ez_166]; exact t_add rfl tI_1 (by omega) (by omega)
  have fz_166 : z_166 = ((dr2 (rb0 : Int32).toNatClampNeg) + 1) := by rw [ez_166, fz_165]
  refine va_iast hx hb hK hP hD hS 4 1 rfl rfl (v_in rfl (by omega) (by omega)) dX11_readDrawing_69 (fun H locs hP hD hS => ?_)
  obtain ⟨f_167, qf_167, hr_168, hP, hD⟩ : ∃ f_167 : Nat → Int32, f_167 = upd dr2 (rb0 : Int32).toNatClampNeg (z_166 : Int32) ∧ rg (0) 4 f_167 ∧ va_P (dC, dI) vwCl (List.flatten [[(h0, .inr (9, (.ref (r0 0) :: .ref (r0 1) :: .int tp_121 :: .int sz0 :: .int fk_92 :: .int fp_128 :: .int aq_129 :: .int en_93 :: .int tk_94 :: .int nu_136 :: .long nm_95 :: .ref (r0 2) :: .ref (r0 3) :: .ref (r0 4) :: .ref (r0 5) :: .ref (r0 6) :: .ref (r0 7) :: .ref (r0 8) :: .ref (r0 9) :: .ref (r0 10) :: .ref (r0 11) :: .ref (r0 12) :: .ref (r0 13) :: .int bk0 :: .int rb0 :: .ref (r0 14) :: .int mv_141 :: .ref (r0 15) :: .ref (r0 16) :: .ref (r0 17) :: .ref (r0 18) :: .ref (r0 19) :: .ref (r0 20) :: .ref (r0 21) :: .ref (r0 22) :: .ref (r0 23) :: .int dw0 :: .int rl0 :: .int mg_146 :: .long su_147 :: .long sd0 :: .ref (r0 24) :: .ref (r0 25) :: .int jm0 :: .long bu_150 :: .long bd0 :: .ref (r0 26) :: .int gm0 :: .int fa_153 :: .ref (r0 27) :: .ref (r0 28) :: .ref (r0 29) :: .ref (r0 30) :: .ref (r0 31) :: .ref (r0 32) :: .ref (r0 33) :: .ref (r0 34) :: .ref (r0 35) :: .ref (r0 36) :: .ref (r0 37) :: .int pp_154 :: .int ti0 :: .ref (r0 38) :: .ref (r0 39) :: .ref (r0 40) :: .int so_159 :: .ref (r0 41) :: .ref (r0 42) :: .ref (r0 43) :: [])))], [(r0 0, .inl (cB, 1620, .inl f_66)), (r0 1, .inl (cB, 1600, .inl tq1))], [(r0 2, .inl (cI, 2, .inl fl2)), (r0 3, .inl (cI, 2, .inl f_167)), (r0 4, .inl (cJ, 12, .inr (.inl f_69))), (r0 5, .inl (cJ, 8, .inr (.inl f_162))), (r0 6, .inl (cJ, 80, .inr (.inl f_71))), (r0 7, .inl (cI, 12, .inl f_72)), (r0 8, .inl (cI, 12, .inl f_73)), (r0 9, .inl (cI, 12, .inl f_75)), (r0 10, .inl (cI, 8, .inl f_163)), (r0 11, .inl (cI, 80, .inl rf2)), (r0 12, .inl (cI, 80, .inl rh2)), (r0 13, .inl (cI, 80, .inl f_79))]]) H ∧ va_D A (List.flatten [[(h0, .inr (9, (.ref (r0 0) :: .ref (r0 1) :: .int tp_121 :: .int sz0 :: .int fk_92 :: .int fp_128 :: .int aq_129 :: .int en_93 :: .int tk_94 :: .int nu_136 :: .long nm_95 :: .ref (r0 2) :: .ref (r0 3) :: .ref (r0 4) :: .ref (r0 5) :: .ref (r0 6) :: .ref (r0 7) :: .ref (r0 8) :: .ref (r0 9) :: .ref (r0 10) :: .ref (r0 11) :: .ref (r0 12) :: .ref (r0 13) :: .int bk0 :: .int rb0 :: .ref (r0 14) :: .int mv_141 :: .ref (r0 15) :: .ref (r0 16) :: .ref (r0 17) :: .ref (r0 18) :: .ref (r0 19) :: .ref (r0 20) :: .ref (r0 21) :: .ref (r0 22) :: .ref (r0 23) :: .int dw0 :: .int rl0 :: .int mg_146 :: .long su_147 :: .long sd0 :: .ref (r0 24) :: .ref (r0 25) :: .int jm0 :: .long bu_150 :: .long bd0 :: .ref (r0 26) :: .int gm0 :: .int fa_153 :: .ref (r0 27) :: .ref (r0 28) :: .ref (r0 29) :: .ref (r0 30) :: .ref (r0 31) :: .ref (r0 32) :: .ref (r0 33) :: .ref (r0 34) :: .ref (r0 35) :: .ref (r0 36) :: .ref (r0 37) :: .int pp_154 :: .int ti0 :: .ref (r0 38) :: .ref (r0 39) :: .ref (r0 40) :: .int so_159 :: .ref (r0 41) :: .ref (r0 42) :: .ref (r0 43) :: [])))], [(r0 0, .inl (cB, 1620, .inl f_66)), (r0 1, .inl (cB, 1600, .inl tq1))], [(r0 2, .inl (cI, 2, .inl fl2)), (r0 3, .inl (cI, 2, .inl f_167)), (r0 4, .inl (cJ, 12, .inr (.inl f_69))), (r0 5, .inl (cJ, 8, .inr (.inl f_162))), (r0 6, .inl (cJ, 80, .inr (.inl f_71))), (r0 7, .inl (cI, 12, .inl f_72)), (r0 8, .inl (cI, 12, .inl f_73)), (r0 9, .inl (cI, 12, .inl f_75)), (r0 10, .inl (cI, 8, .inl f_163)), (r0 11, .inl (cI, 80, .inl rf2)), (r0 12, .inl (cI, 80, .inl rh2)), (r0 13, .inl (cI, 80, .inl f_79))]]) := ⟨_, rfl, rg_upd hr_68 (by omega) (by omega), hP, hD⟩
  have hp_169 : HR f_167 f_163 f_79 := HR_drawing (n := y_23) hp_82 hr_68 (by omega) fy_23 (by omega) (by omega) (by omega) qf_163 qf_167
  rw [hQ0]
  exact W.vret hx hb hr (fun t ht hW => ⟨⟨(), rfl, trivial, ⟨fk_92, en_93, tk_94, nm_95, _, f_167, f_163, _, ⟨tp_121, fp_128, aq_129, nu_136, mv_141, mg_146, su_147, bu_150, fa_153, pp_154, so_159, rfl, by omega, by omega, by omega, by omega, by omega, by omega, by omega, by omega, by omega, by omega, by omega, by omega, by omega, by omega, by omega, by omega, by omega, by omega, by omega, by omega, by omega, by omega, by omega, by omega, by omega, by omega, by omega, by omega, by omega, by omega⟩, ⟨f_69, f_162, f_71, f_72, f_73, f_75, f_79, rfl, hr_67, hr_168, hr_74, hr_76, hr_164, hr_78, hr_80, hp_81, hp_169⟩, hpp_96, hpp_97, hpp_98, (HF_drawO (n := y_23) hq_hb hr_68 (by omega) (by omega) (by omega) fy_23 (by omega) (by omega) qf_163 qf_167), (Or.elim hq_hr (fun h9 => Or.inl (by omega)) (fun h9 => Or.inr (HF_drawS (n := y_23) h9 hr_68 (by omega) fy_23 (by omega) (by omega) (by omega) qf_163 qf_167))), by rw [ht]; exact hP, hD⟩⟩, hS.F ht⟩) hS.2.2 dX11_readDrawing_70
