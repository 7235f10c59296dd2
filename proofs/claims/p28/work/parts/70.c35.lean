theorem okx_main {ad : Nat → Nat} {cB cI cJ cZ : ClassId} {a : Nat} {r : Nat → Nat} {pl : Nat} {sp : Nat} {rd : Nat} {fi : Nat} {se : Nat} {fa : Nat} {cr : Nat} {ra : Nat} {pa : Nat} {nw : Int32} {w : va_W} (h : ok_main ad cB cI cJ cZ a r pl sp rd fi se fa cr ra pa nw w) : 0 ≤ nw.toInt ∧ nw.toInt ≤ 100000 := by
  obtain ⟨_, _, _, _, _, _, _, h0, h1⟩ := h
  exact ⟨h0, h1⟩
theorem iw_X10_putOnTape_X10 : ∀ w ∈ wsX100, w ∈ wsX10_putOnTape := fun _ h => List.mem_cons_of_mem _ (List.mem_append_right _ h)
set_option maxHeartbeats 4000000 in
set_option maxRecDepth 100000 in
theorem c_X10_putOnTape (l : Launch) (dC : Nat → ClassId) (dI : Nat → Nat → Nat) (ad : Nat → Nat) (tN : Nat) (fN : Nat → Int64) (cB cI cJ cZ cQ : ClassId) (h0 : Nat) (p1 : Int32) (r0 : Nat → Nat) (pl0 : Nat) (sp0 : Nat) (rd0 : Nat) (fi0 : Nat) (se0 : Nat) (fa0 : Nat) (cr0 : Nat) (ra0 : Nat) (pa0 : Nat) (nw0 : Int32) (w0 : va_W) (o0 : ok_main ad cB cI cJ cZ h0 r0 pl0 sp0 rd0 fi0 se0 fa0 cr0 ra0 pa0 nw0 w0) (sz : Nat) : Met l yX10_putOnTape wsX10_putOnTape ({ frames := 0, cells := 0, slots := 0, locals := 0 } : Room) (va_Pc [.ref h0, .int p1] (fun U => U.heap.size = sz ∧ va_P (dC, dI) vwCl (List.flatten [w0]) U.heap ∧ va_K (dC, dI) vwCl [(cB, .byte), (cI, .int), (cJ, .long), (cZ, .boolean), (cQ, .array .long)] U ∧ va_D (fun _ => True) (List.flatten [w0]) ∧ ex_Y ad tN fN (va_A (List.flatten [w0]) sz) U)) (va_Qv (fun _ : Unit => True) (fun (_ : Unit) (t : State) => ∃ (w09 : va_W), ok_main ad cB cI cJ cZ h0 r0 pl0 sp0 rd0 fi0 se0 fa0 cr0 ra0 pa0 nw0 w09 ∧ va_P (dC, dI) vwCl (List.flatten [w09]) t.heap ∧ va_D (va_A (List.flatten [w0]) sz) (List.flatten [w09])) (va_A (List.flatten [w0]) sz)) 0 0 (va_A (List.flatten [w0]) sz) := by
  refine Met.ofW (cc := cX10_putOnTape) (maxL := 3) (ret := none) (by decide) rfl ?_
  intro p e s m args below meth c s₁ B hml hv
  obtain ⟨rfl, hsz, hP, hK, hD0, hE⟩ := hv
  have hx := B.exec
  have hb := B.bytes
  have hr := B.returns
  have hts := atoms_spec (ws := wsX10_putOnTape) B.pre
  have hown : s.vm.findClass RX10 = some m.cls := findClass_of_methodNamed B.named
  have hlocks := B.notSynchronized
  subst hsz
  have hD := hD0.self (sz := s.heap.size)
  generalize hAe : va_A (List.flatten [w0]) s.heap.size = A at hD hE ⊢
  have hA : ∀ q : Nat, s.heap.size ≤ q → A q := fun q h => by rw [← hAe]; exact Or.inr h
  have hS : va_S A s.heap s.heap [] := va_S.rf
  have hl := lv_entry ([.ref h0, .int p1]) (n := 3) (Nat.le_of_ble_eq_true rfl)
  rw [lg_entry_eq]
  generalize (lg_sl ([.ref h0, .int p1]) ++ List.replicate (3 - (lg_sl ([.ref h0, .int p1])).length) Slot.unset).toArray = ls at hl ⊢
  have hl : lv_has ls 3 [(0, .ref h0), (1, .int p1)] := hl
  clear hAe
  refine W_name (fun Q0 hQ0 => ?_)
  obtain ⟨hx_1, hx_2⟩ := okx_main o0
  refine lv_bipush (v := 24) hx hb dX10_putOnTape_0 (by decide) ?_
  refine lv_istore_n (lv' := [(2, .int 24), (0, .ref h0), (1, .int p1)]) hx hb dX10_putOnTape_2 rfl hl (by decide) rfl (fun ls hl => ?_)
  obtain ⟨f_20, tp_21, f_24, mv_25, rfl, hl_22, hh_23, hl_26, hh_27⟩ := o0
  have lp_83 : ∀ (n : Nat) (g_3 : Int32) (g_36 : Int32) (gf_37 : Nat → Int32), -8 ≤ g_3.toInt → g_3.toInt ≤ 24 → 0 ≤ g_36.toInt → g_36.toInt ≤ 1600 → tp_21.toInt - g_36.toInt ≤ 0 → (g_3.toInt - (-8)).toNat < n → ∀ (H : Heap) (locs : List Loc), va_P (dC, dI) vwCl (List.flatten [[(h0, .inr (8, [.ref (r0 0), .int g_36, .ref pl0, .ref sp0, .ref rd0, .ref (r0 1), .int mv_25, .ref fi0, .ref se0, .ref fa0, .ref cr0, .ref ra0, .ref pa0, .int nw0])), (r0 0, .inl (cB, 1600, .inl gf_37)), (r0 1, .inl (cI, 6, .inl f_24))]]) H → va_D A (List.flatten [[(h0, .inr (8, [.ref (r0 0), .int g_36, .ref pl0, .ref sp0, .ref rd0, .ref (r0 1), .int mv_25, .ref fi0, .ref se0, .ref fa0, .ref cr0, .ref ra0, .ref pa0, .int nw0])), (r0 0, .inl (cB, 1600, .inl gf_37)), (r0 1, .inl (cI, 6, .inl f_24))]]) → va_S A s.heap H locs → ∀ (ls : Array Slot), lv_has ls 3 [(2, .int g_3), (0, .ref h0), (1, .int p1)] → W p l e (headSpec wsX10_putOnTape ({ frames := 0, cells := 0, slots := 0, locals := 0 } : Room)).room s m ([.ref h0, .int p1] : List Value).toArray below meth c H locs 0 0 Q0 (F0 m 3 ls []) := by
    intro n
    induction n with
    | zero => intro g_3 g_36 gf_37 iv_78 iv_79 iv_80 iv_81 iv_82 hm; exact absurd hm (Nat.not_lt_zero _)
    | succ n ih_84 =>
      intro g_3 g_36 gf_37 iv_78 iv_79 iv_80 iv_81 iv_82 hm H locs hP hD hS ls hl
      refine lv_iload_n hx hb dX10_putOnTape_3 rfl (lv_at hl 0 rfl) ?_
      refine lv_if_lt (tgt := 46) hx hb dX10_putOnTape_4 (by decide) (fun c_85 => ?_) (fun c_85 => ?_)
      · have c_85 : g_3.toInt < 0 := f_lt rfl tI_0 c_85
        rw [hQ0]
        exact W.vret hx hb hr (fun t ht hW => ⟨⟨(), rfl, trivial, ⟨_, ⟨gf_37, g_36, f_24, mv_25, rfl, by omega, by omega, by omega, by omega⟩, by rw [ht]; exact hP, hD⟩⟩, hS.F ht⟩) hS.2.2 dX10_putOnTape_46
      · have c_85 : 0 ≤ g_3.toInt := f_nlt rfl tI_0 c_85
        refine lv_aload_n hx hb dX10_putOnTape_7 rfl (lv_at hl 1 rfl) ?_
        refine va_get (D := (dC, dI)) (ci := 8) (v := .int g_36) (C := RX10) (T := TX10) (N := 14) hx hb hts iw_X10_putOnTape_X10 hown hK hP 0 rfl rfl 1 (by decide) (hts (.fieldLink RX10 13 "HungFloors" "taped" "I") (by decide +kernel)) (fun _ h9 => h9) rfl dX10_putOnTape_8 ?_
        refine lv_sipush (v := 1600) hx hb dX10_putOnTape_11 (by decide) ?_
        refine lv_icmp_ge (tgt := 40) hx hb dX10_putOnTape_14 (by decide) (fun c_86 => ?_) (fun c_86 => ?_)
        · have c_86 : 1600 ≤ g_36.toInt := f_le tI_1600 rfl c_86
          obtain ⟨z_87, ez_87⟩ : ∃ y : Int32, y = g_3 + (-8) := ⟨_, rfl⟩
          have hz_87 : z_87.toInt = g_3.toInt + (-8) := by rw [ez_87]; exact t_add rfl tI_m8 (by omega) (by omega)
          refine lv_iinc (v := z_87) (lv' := [(2, .int z_87), (0, .ref h0), (1, .int p1)]) hx hb dX10_putOnTape_40 hl (k := 0) rfl (by rw [ez_87]; rfl) (by decide) rfl (fun ls hl => ?_)
          refine lv_goto (tgt := 3) hx hb dX10_putOnTape_43 (by decide) ?_
          exact ih_84 z_87 g_36 gf_37 (by omega) (by omega) (by omega) (by omega) (by omega) (by omega) _ _ hP hD hS ls (lv_sub hl [0, 1, 2] rfl)
        · have c_86 : g_36.toInt < 1600 := f_nle tI_1600 rfl c_86
          refine lv_aload_n hx hb dX10_putOnTape_17 rfl (lv_at hl 1 rfl) ?_
          refine va_get (D := (dC, dI)) (ci := 8) (v := .ref (r0 0)) (C := RX10) (T := TX10) (N := 14) hx hb hts iw_X10_putOnTape_X10 hown hK hP 0 rfl rfl 0 (by decide) (hts (.fieldLink RX10 9 "HungFloors" "tape" "[B") (by decide +kernel)) (fun _ h9 => h9) rfl dX10_putOnTape_18 ?_
          refine lv_aload_n hx hb dX10_putOnTape_21 rfl (lv_at hl 1 rfl) ?_
          refine va_get (D := (dC, dI)) (ci := 8) (v := .int g_36) (C := RX10) (T := TX10) (N := 14) hx hb hts iw_X10_putOnTape_X10 hown hK hP 0 rfl rfl 1 (by decide) (hts (.fieldLink RX10 13 "HungFloors" "taped" "I") (by decide +kernel)) (fun _ h9 => h9) rfl dX10_putOnTape_22 ?_
          refine lv_iload_n hx hb dX10_putOnTape_25 rfl (lv_at hl 2 rfl) ?_
          refine lv_iload_n hx hb dX10_putOnTape_26 rfl (lv_at hl 0 rfl) ?_
          refine lv_ishr hx hb dX10_putOnTape_27 ?_
          refine lv_topi (fun z_88 ez_88 => ?_)
          obtain ⟨z_89, ez_89⟩ : ∃ y : Int32, (z_88 : Int32).toInt8.toInt32 = y := ⟨_, rfl⟩
          refine lv_i2b (v := z_89) hx hb dX10_putOnTape_28 ez_89 ?_
          refine va_bast hx hb hK hP hD hS 1 0 rfl rfl (v_in rfl (by omega) (by omega)) dX10_putOnTape_29 (fun H locs hP hD hS => ?_)
          obtain ⟨f_90, hP, hD⟩ : ∃ f_90 : Nat → Int32, va_P (dC, dI) vwCl (List.flatten [[(h0, .inr (8, [.ref (r0 0), .int g_36, .ref pl0, .ref sp0, .ref rd0, .ref (r0 1), .int mv_25, .ref fi0, .ref se0, .ref fa0, .ref cr0, .ref ra0, .ref pa0, .int nw0])), (r0 0, .inl (cB, 1600, .inl f_90)), (r0 1, .inl (cI, 6, .inl f_24))]]) H ∧ va_D A (List.flatten [[(h0, .inr (8, [.ref (r0 0), .int g_36, .ref pl0, .ref sp0, .ref rd0, .ref (r0 1), .int mv_25, .ref fi0, .ref se0, .ref fa0, .ref cr0, .ref ra0, .ref pa0, .int nw0])), (r0 0, .inl (cB, 1600, .inl f_90)), (r0 1, .inl (cI, 6, .inl f_24))]]) := ⟨_, hP, hD⟩
          refine lv_aload_n hx hb dX10_putOnTape_30 rfl (lv_at hl 1 rfl) ?_
          refine lv_dup hx hb dX10_putOnTape_31 rfl ?_
          refine va_get (D := (dC, dI)) (ci := 8) (v := .int g_36) (C := RX10) (T := TX10) (N := 14) hx hb hts iw_X10_putOnTape_X10 hown hK hP 0 rfl rfl 1 (by decide) (hts (.fieldLink RX10 13 "HungFloors" "taped" "I") (by decide +kernel)) (fun _ h9 => h9) rfl dX10_putOnTape_32 ?_
          refine lv_iconst (v := 1) hx hb dX10_putOnTape_35 (by decide) ?_
          refine lv_iadd hx hb dX10_putOnTape_36 ?_
          refine lv_topi (fun z_91 ez_91 => ?_)
          have hz_91 : z_91.toInt = g_36.toInt + 1 := by rw [ez_91]; exact t_add rfl tI_1 (by omega) (by omega)
          refine va_put (D := (dC, dI)) (ci := 8) (v := .int z_91) (ty := .int) (C := RX10) (T := TX10) (N := 14) hx hb hts iw_X10_putOnTape_X10 tyX10 tyX10_ok nmX10 hown hK hP hD hS 0 rfl rfl 1 (by decide) (hts (.fieldLink RX10 13 "HungFloors" "taped" "I") (by decide +kernel)) (fun _ h9 => h9) rfl (by decide +kernel) rfl rfl (Nat.le_of_ble_eq_true rfl) dX10_putOnTape_37 (fun H locs hP hD hS => ?_)
          have hP : va_P (dC, dI) vwCl (List.flatten [[(h0, .inr (8, [.ref (r0 0), .int z_91, .ref pl0, .ref sp0, .ref rd0, .ref (r0 1), .int mv_25, .ref fi0, .ref se0, .ref fa0, .ref cr0, .ref ra0, .ref pa0, .int nw0])), (r0 0, .inl (cB, 1600, .inl f_90)), (r0 1, .inl (cI, 6, .inl f_24))]]) H := hP
          have hD : va_D A (List.flatten [[(h0, .inr (8, [.ref (r0 0), .int z_91, .ref pl0, .ref sp0, .ref rd0, .ref (r0 1), .int mv_25, .ref fi0, .ref se0, .ref fa0, .ref cr0, .ref ra0, .ref pa0, .int nw0])), (r0 0, .inl (cB, 1600, .inl f_90)), (r0 1, .inl (cI, 6, .inl f_24))]]) := hD
          obtain ⟨z_92, ez_92⟩ : ∃ y : Int32, y = g_3 + (-8) := ⟨_, rfl⟩
          have hz_92 : z_92.toInt = g_3.toInt + (-8) := by rw [ez_92]; exact t_add rfl tI_m8 (by omega) (by omega)
          refine lv_iinc (v := z_92) (lv' := [(2, .int z_92), (0, .ref h0), (1, .int p1)]) hx hb dX10_putOnTape_40 hl (k := 0) rfl (by rw [ez_92]; rfl) (by decide) rfl (fun ls hl => ?_)
          refine lv_goto (tgt := 3) hx hb dX10_putOnTape_43 (by decide) ?_
          exact ih_84 z_92 z_91 f_90 (by omega) (by omega) (by omega) (by omega) (by omega) (by omega) _ _ hP hD hS ls (lv_sub hl [0, 1, 2] rfl)
  exact lp_83 _ 24 tp_21 f_20 (by have := tI_24; omega) (by have := tI_24; omega) (by have := tI_24; omega) (by have := tI_24; omega) (by have := tI_24; omega) (Nat.lt_succ_self _) _ _ hP hD hS ls (lv_sub hl [0, 1, 2] rfl)
theorem iw_X10_feed_X10 : ∀ w ∈ wsX100, w ∈ wsX10_feed := fun _ h => List.mem_cons_of_mem _ (List.mem_append_right _ h)
set_option maxHeartbeats 4000000 in
set_option maxRecDepth 100000 in
theorem c_X10_feed (l : Launch) (dC : Nat → ClassId) (dI : Nat → Nat → Nat) (ad : Nat → Nat) (tN : Nat) (fN : Nat → Int64) (cB cI cJ cZ cQ : ClassId) (h0 : Nat) (p1 : Int32) (p2 : Int32) (p3 : Int32) (p4 : Int32) (p5 : Int32) (r0 : Nat → Nat) (pl0 : Nat) (sp0 : Nat) (rd0 : Nat) (fi0 : Nat) (se0 : Nat) (fa0 : Nat) (cr0 : Nat) (ra0 : Nat) (pa0 : Nat) (nw0 : Int32) (w0 : va_W) (o0 : ok_main ad cB cI cJ cZ h0 r0 pl0 sp0 rd0 fi0 se0 fa0 cr0 ra0 pa0 nw0 w0) (sz : Nat) : Met l yX10_feed wsX10_feed ({ frames := 1, cells := 0, slots := 0, locals := 22 } : Room) (va_Pc [.ref h0, .int p1, .int p2, .int p3, .int p4, .int p5] (fun U => U.heap.size = sz ∧ va_P (dC, dI) vwCl (List.flatten [w0]) U.heap ∧ va_K (dC, dI) vwCl [(cB, .byte), (cI, .int), (cJ, .long), (cZ, .boolean), (cQ, .array .long)] U ∧ va_D (fun _ => True) (List.flatten [w0]) ∧ ex_Y ad tN fN (va_A (List.flatten [w0]) sz) U)) (va_Qi (fun (r : Int32) (_ : Unit) => -1 ≤ r.toInt ∧ r.toInt ≤ 1600) (fun (_ : Unit) (t : State) => ∃ (w09 : va_W), ok_main ad cB cI cJ cZ h0 r0 pl0 sp0 rd0 fi0 se0 fa0 cr0 ra0 pa0 nw0 w09 ∧ va_P (dC, dI) vwCl (List.flatten [w09]) t.heap ∧ va_D (va_A (List.flatten [w0]) sz) (List.flatten [w09])) (va_A (List.flatten [w0]) sz)) 0 0 (va_A (List.flatten [w0]) sz) := by
  refine Met.ofW (cc := cX10_feed) (maxL := 6) (ret := (some .int)) (by decide) rfl ?_
  intro p e s m args below meth c s₁ B hml hv
  obtain ⟨rfl, hsz, hP, hK, hD0, hE⟩ := hv
  have hx := B.exec
  have hb := B.bytes
  have hr := B.returns
  have hts := atoms_spec (ws := wsX10_feed) B.pre
  have hown : s.vm.findClass RX10 = some m.cls := findClass_of_methodNamed B.named
  have hlocks := B.notSynchronized
  subst hsz
  have hD := hD0.self (sz := s.heap.size)
  generalize hAe : va_A (List.flatten [w0]) s.heap.size = A at hD hE ⊢
  have hA : ∀ q : Nat, s.heap.size ≤ q → A q := fun q h => by rw [← hAe]; exact Or.inr h
  have hS : va_S A s.heap s.heap [] := va_S.rf
  have hl := lv_entry ([.ref h0, .int p1, .int p2, .int p3, .int p4, .int p5]) (n := 6) (Nat.le_of_ble_eq_true rfl)
  rw [lg_entry_eq]
  generalize (lg_sl ([.ref h0, .int p1, .int p2, .int p3, .int p4, .int p5]) ++ List.replicate (6 - (lg_sl ([.ref h0, .int p1, .int p2, .int p3, .int p4, .int p5])).length) Slot.unset).toArray = ls at hl ⊢
  have hl : lv_has ls 6 [(0, .ref h0), (1, .int p1), (2, .int p2), (3, .int p3), (4, .int p4), (5, .int p5)] := hl
  clear hAe
  refine W_name (fun Q0 hQ0 => ?_)
  obtain ⟨hx_1, hx_2⟩ := okx_main o0
  refine lv_aload_n hx hb dX10_feed_0 rfl (lv_at hl 0 rfl) ?_
  obtain ⟨f_3, tp_4, f_7, mv_8, rfl, hl_5, hh_6, hl_9, hh_10⟩ := o0
  refine va_get (D := (dC, dI)) (ci := 8) (v := .int tp_4) (C := RX10) (T := TX10) (N := 14) hx hb hts iw_X10_feed_X10 hown hK hP 0 rfl rfl 1 (by decide) (hts (.fieldLink RX10 13 "HungFloors" "taped" "I") (by decide +kernel)) (fun _ h9 => h9) rfl dX10_feed_1 ?_
  refine lv_bipush (v := 20) hx hb dX10_feed_4 (by decide) ?_
  refine lv_iadd hx hb dX10_feed_6 ?_
  refine lv_topi (fun z_11 ez_11 => ?_)
  have hz_11 : z_11.toInt = tp_4.toInt + 20 := by rw [ez_11]; exact t_add rfl tI_20 (by omega) (by omega)
  refine lv_sipush (v := 1600) hx hb dX10_feed_7 (by decide) ?_
  refine lv_icmp_le (tgt := 15) hx hb dX10_feed_10 (by decide) (fun c_12 => ?_) (fun c_12 => ?_)
  · have c_12 : z_11.toInt ≤ 1600 := f_le rfl tI_1600 c_12
    refine lv_aload_n hx hb dX10_feed_15 rfl (lv_at hl 0 rfl) ?_
    refine lv_iload_n hx hb dX10_feed_16 rfl (lv_at hl 1 rfl) ?_
    have hpm : List.Perm ([[(h0, .inr (8, [.ref (r0 0), .int tp_4, .ref pl0, .ref sp0, .ref rd0, .ref (r0 1), .int mv_8, .ref fi0, .ref se0, .ref fa0, .ref cr0, .ref ra0, .ref pa0, .int nw0])), (r0 0, .inl (cB, 1600, .inl f_3)), (r0 1, .inl (cI, 6, .inl f_7))]] : List va_W) (([[(h0, .inr (8, [.ref (r0 0), .int tp_4, .ref pl0, .ref sp0, .ref rd0, .ref (r0 1), .int mv_8, .ref fi0, .ref se0, .ref fa0, .ref cr0, .ref ra0, .ref pa0, .int nw0])), (r0 0, .inl (cB, 1600, .inl f_3)), (r0 1, .inl (cI, 6, .inl f_7))]] : List va_W) ++ ([] : List va_W)) := pm_n 1 [0] (by decide) rfl rfl
    have hPc := bk_P hpm hP
    have hDc := bk_D hpm hD
    have hFc := bk_F hpm hD hS hA
    refine va_callv (va_runV (As := [.int p1]) (rest := []) ⟨hx, hb, hml, hown, hts⟩ (c_X10_putOnTape l dC dI ad tN fN cB cI cJ cZ cQ h0 p1 r0 pl0 sp0 rd0 fi0 se0 fa0 cr0 ra0 pa0 nw0 _ ⟨f_3, tp_4, f_7, mv_8, rfl, by omega, by omega, by omega, by omega⟩ s.heap.size) (cwV 1 hts gX10_feed_X10_putOnTape rfl rfl rfl (by decide +kernel) ⟨(Nat.le_of_ble_eq_true rfl), (Nat.le_of_ble_eq_true rfl)⟩) ⟨fun a U g mk q => by obtain ⟨q0, q1, qP, qK, qD, qE⟩ := q; exact ⟨q0, q1, qP, va_K.moved (u := U) (U := U.calling g mk a) (Vm.Alike.refl U.vm) qK, qD, ey_blind qE⟩, va_recv hK hPc (ci := 8) (q0 := 0) rfl rfl, fun U hU hW => ⟨rfl, by rw [hU], by rw [hU]; exact hPc, va_K.moved hW.alike hK, hDc.weaken (fun _ _ _ _ => trivial), ey_call hE hS hFc hU hW⟩⟩ rfl rfl hl.1 rfl (lv_room (Nat.le_of_ble_eq_true rfl)) dX10_feed_17 ⟨(Nat.le_of_ble_eq_true rfl), (Nat.le_of_ble_eq_true rfl)⟩) hS (fun q _ h => hFc q h) hFc (fun u t H locs ht hvm hw hB hz1 hk1 hS => ?_)
    obtain ⟨w_14, o_15, hP1, hD1⟩ := hB
    rw [ht] at hP1
    obtain ⟨hP, hD⟩ := bk_join hpm hP hD hk1 hFc (Cs1 := [w_14]) hP1 hD1
    have hpm2 : List.Perm (([w_14] : List va_W) ++ ([] : List va_W)) ([w_14] : List va_W) := pm_n 1 [0] (by decide) rfl rfl
    have hP := bk_reP hpm2 hP
    have hD := bk_reD hpm2 hD
    have hP : va_P (dC, dI) vwCl (List.flatten [w_14]) H := hP
    have hD : va_D A (List.flatten [w_14]) := hD
    obtain ⟨hx_16, hx_17⟩ := okx_main o_15
    refine lv_aload_n hx hb dX10_feed_20 rfl (lv_at hl 0 rfl) ?_
    refine lv_iload_n hx hb dX10_feed_21 rfl (lv_at hl 2 rfl) ?_
    obtain ⟨f_18, tp_19, f_22, mv_23, rfl, hl_20, hh_21, hl_24, hh_25⟩ := o_15
    have hpm : List.Perm ([[(h0, .inr (8, [.ref (r0 0), .int tp_19, .ref pl0, .ref sp0, .ref rd0, .ref (r0 1), .int mv_23, .ref fi0, .ref se0, .ref fa0, .ref cr0, .ref ra0, .ref pa0, .int nw0])), (r0 0, .inl (cB, 1600, .inl f_18)), (r0 1, .inl (cI, 6, .inl f_22))]] : List va_W) (([[(h0, .inr (8, [.ref (r0 0), .int tp_19, .ref pl0, .ref sp0, .ref rd0, .ref (r0 1), .int mv_23, .ref fi0, .ref se0, .ref fa0, .ref cr0, .ref ra0, .ref pa0, .int nw0])), (r0 0, .inl (cB, 1600, .inl f_18)), (r0 1, .inl (cI, 6, .inl f_22))]] : List va_W) ++ ([] : List va_W)) := pm_n 1 [0] (by decide) rfl rfl
    have hPc := bk_P hpm hP
    have hDc := bk_D hpm hD
    have hFc := bk_F hpm hD hS hA
    refine va_callv (va_runV (As := [.int p2]) (rest := []) ⟨hx, hb, hml, hown, hts⟩ (c_X10_putOnTape l dC dI ad tN fN cB cI cJ cZ cQ h0 p2 r0 pl0 sp0 rd0 fi0 se0 fa0 cr0 ra0 pa0 nw0 _ ⟨f_18, tp_19, f_22, mv_23, rfl, by omega, by omega, by omega, by omega⟩ H.size) (cwV 1 hts gX10_feed_X10_putOnTape rfl rfl rfl (by decide +kernel) ⟨(Nat.le_of_ble_eq_true rfl), (Nat.le_of_ble_eq_true rfl)⟩) ⟨fun a U g mk q => by obtain ⟨q0, q1, qP, qK, qD, qE⟩ := q; exact ⟨q0, q1, qP, va_K.moved (u := U) (U := U.calling g mk a) (Vm.Alike.refl U.vm) qK, qD, ey_blind qE⟩, va_recv hK hPc (ci := 8) (q0 := 0) rfl rfl, fun U hU hW => ⟨rfl, by rw [hU], by rw [hU]; exact hPc, va_K.moved hW.alike hK, hDc.weaken (fun _ _ _ _ => trivial), ey_call hE hS hFc hU hW⟩⟩ rfl rfl hl.1 rfl (lv_room (Nat.le_of_ble_eq_true rfl)) dX10_feed_22 ⟨(Nat.le_of_ble_eq_true rfl), (Nat.le_of_ble_eq_true rfl)⟩) hS (fun q _ h => hFc q h) hFc (fun u t H locs ht hvm hw hB hz1 hk1 hS => ?_)
    obtain ⟨w_27, o_28, hP1, hD1⟩ := hB
    rw [ht] at hP1
    obtain ⟨hP, hD⟩ := bk_join hpm hP hD hk1 hFc (Cs1 := [w_27]) hP1 hD1
    have hpm2 : List.Perm (([w_27] : List va_W) ++ ([] : List va_W)) ([w_27] : List va_W) := pm_n 1 [0] (by decide) rfl rfl
    have hP := bk_reP hpm2 hP
    have hD := bk_reD hpm2 hD
    have hP : va_P (dC, dI) vwCl (List.flatten [w_27]) H := hP
    have hD : va_D A (List.flatten [w_27]) := hD
    obtain ⟨hx_29, hx_30⟩ := okx_main o_28
    refine lv_aload_n hx hb dX10_feed_25 rfl (lv_at hl 0 rfl) ?_
    refine lv_iload_n hx hb dX10_feed_26 rfl (lv_at hl 3 rfl) ?_
    obtain ⟨f_31, tp_32, f_35, mv_36, rfl, hl_33, hh_34, hl_37, hh_38⟩ := o_28
    have hpm : List.Perm ([[(h0, .inr (8, [.ref (r0 0), .int tp_32, .ref pl0, .ref sp0, .ref rd0, .ref (r0 1), .int mv_36, .ref fi0, .ref se0, .ref fa0, .ref cr0, .ref ra0, .ref pa0, .int nw0])), (r0 0, .inl (cB, 1600, .inl f_31)), (r0 1, .inl (cI, 6, .inl f_35))]] : List va_W) (([[(h0, .inr (8, [.ref (r0 0), .int tp_32, .ref pl0, .ref sp0, .ref rd0, .ref (r0 1), .int mv_36, .ref fi0, .ref se0, .ref fa0, .ref cr0, .ref ra0, .ref pa0, .int nw0])), (r0 0, .inl (cB, 1600, .inl f_31)), (r0 1, .inl (cI, 6, .inl f_35))]] : List va_W) ++ ([] : List va_W)) := pm_n 1 [0] (by decide) rfl rfl
    have hPc := bk_P hpm hP
    have hDc := bk_D hpm hD
    have hFc := bk_F hpm hD hS hA
    refine va_callv (va_runV (As := [.int p3]) (rest := []) ⟨hx, hb, hml, hown, hts⟩ (c_X10_putOnTape l dC dI ad tN fN cB cI cJ cZ cQ h0 p3 r0 pl0 sp0 rd0 fi0 se0 fa0 cr0 ra0 pa0 nw0 _ ⟨f_31, tp_32, f_35, mv_36, rfl, by omega, by omega, by omega, by omega⟩ H.size) (cwV 1 hts gX10_feed_X10_putOnTape rfl rfl rfl (by decide +kernel) ⟨(Nat.le_of_ble_eq_true rfl), (Nat.le_of_ble_eq_true rfl)⟩) ⟨fun a U g mk q => by obtain ⟨q0, q1, qP, qK, qD, qE⟩ := q; exact ⟨q0, q1, qP, va_K.moved (u := U) (U := U.calling g mk a) (Vm.Alike.refl U.vm) qK, qD, ey_blind qE⟩, va_recv hK hPc (ci := 8) (q0 := 0) rfl rfl, fun U hU hW => ⟨rfl, by rw [hU], by rw [hU]; exact hPc, va_K.moved hW.alike hK, hDc.weaken (fun _ _ _ _ => trivial), ey_call hE hS hFc hU hW⟩⟩ rfl rfl hl.1 rfl (lv_room (Nat.le_of_ble_eq_true rfl)) dX10_feed_27 ⟨(Nat.le_of_ble_eq_true rfl), (Nat.le_of_ble_eq_true rfl)⟩) hS (fun q _ h => hFc q h) hFc (fun u t H locs ht hvm hw hB hz1 hk1 hS => ?_)
    obtain ⟨w_40, o_41, hP1, hD1⟩ := hB
    rw [ht] at hP1
    obtain ⟨hP, hD⟩ := bk_join hpm hP hD hk1 hFc (Cs1 := [w_40]) hP1 hD1
    have hpm2 : List.Perm (([w_40] : List va_W) ++ ([] : List va_W)) ([w_40] : List va_W) := pm_n 1 [0] (by decide) rfl rfl
    have hP := bk_reP hpm2 hP
    have hD := bk_reD hpm2 hD
    have hP : va_P (dC, dI) vwCl (List.flatten [w_40]) H := hP
    have hD : va_D A (List.flatten [w_40]) := hD
    obtain ⟨hx_42, hx_43⟩ := okx_main o_41
    refine lv_aload_n hx hb dX10_feed_30 rfl (lv_at hl 0 rfl) ?_
    refine lv_iload hx hb dX10_feed_31 (lv_at hl 4 rfl) ?_
    obtain ⟨f_44, tp_45, f_48, mv_49, rfl, hl_46, hh_47, hl_50, hh_51⟩ := o_41
    have hpm : List.Perm ([[(h0, .inr (8, [.ref (r0 0), .int tp_45, .ref pl0, .ref sp0, .ref rd0, .ref (r0 1), .int mv_49, .ref fi0, .ref se0, .ref fa0, .ref cr0, .ref ra0, .ref pa0, .int nw0])), (r0 0, .inl (cB, 1600, .inl f_44)), (r0 1, .inl (cI, 6, .inl f_48))]] : List va_W) (([[(h0, .inr (8, [.ref (r0 0), .int tp_45, .ref pl0, .ref sp0, .ref rd0, .ref (r0 1), .int mv_49, .ref fi0, .ref se0, .ref fa0, .ref cr0, .ref ra0, .ref pa0, .int nw0])), (r0 0, .inl (cB, 1600, .inl f_44)), (r0 1, .inl (cI, 6, .inl f_48))]] : List va_W) ++ ([] : List va_W)) := pm_n 1 [0] (by decide) rfl rfl
    have hPc := bk_P hpm hP
    have hDc := bk_D hpm hD
    have hFc := bk_F hpm hD hS hA
    refine va_callv (va_runV (As := [.int p4]) (rest := []) ⟨hx, hb, hml, hown, hts⟩ (c_X10_putOnTape l dC dI ad tN fN cB cI cJ cZ cQ h0 p4 r0 pl0 sp0 rd0 fi0 se0 fa0 cr0 ra0 pa0 nw0 _ ⟨f_44, tp_45, f_48, mv_49, rfl, by omega, by omega, by omega, by omega⟩ H.size) (cwV 1 hts gX10_feed_X10_putOnTape rfl rfl rfl (by decide +kernel) ⟨(Nat.le_of_ble_eq_true rfl), (Nat.le_of_ble_eq_true rfl)⟩) ⟨fun a U g mk q => by obtain ⟨q0, q1, qP, qK, qD, qE⟩ := q; exact ⟨q0, q1, qP, va_K.moved (u := U) (U := U.calling g mk a) (Vm.Alike.refl U.vm) qK, qD, ey_blind qE⟩, va_recv hK hPc (ci := 8) (q0 := 0) rfl rfl, fun U hU hW => ⟨rfl, by rw [hU], by rw [hU]; exact hPc, va_K.moved hW.alike hK, hDc.weaken (fun _ _ _ _ => trivial), ey_call hE hS hFc hU hW⟩⟩ rfl rfl hl.1 rfl (lv_room (Nat.le_of_ble_eq_true rfl)) dX10_feed_33 ⟨(Nat.le_of_ble_eq_true rfl), (Nat.le_of_ble_eq_true rfl)⟩) hS (fun q _ h => hFc q h) hFc (fun u t H locs ht hvm hw hB hz1 hk1 hS => ?_)
    obtain ⟨w_53, o_54, hP1, hD1⟩ := hB
    rw [ht] at hP1
    obtain ⟨hP, hD⟩ := bk_join hpm hP hD hk1 hFc (Cs1 := [w_53]) hP1 hD1
    have hpm2 : List.Perm (([w_53] : List va_W) ++ ([] : List va_W)) ([w_53] : List va_W) := pm_n 1 [0] (by decide) rfl rfl
    have hP := bk_reP hpm2 hP
    have hD := bk_reD hpm2 hD
    have hP : va_P (dC, dI) vwCl (List.flatten [w_53]) H := hP
    have hD : va_D A (List.flatten [w_53]) := hD
    obtain ⟨hx_55, hx_56⟩ := okx_main o_54
    refine lv_aload_n hx hb dX10_feed_36 rfl (lv_at hl 0 rfl) ?_
    refine lv_iload hx hb dX10_feed_37 (lv_at hl 5 rfl) ?_
    obtain ⟨f_57, tp_58, f_61, mv_62, rfl, hl_59, hh_60, hl_63, hh_64⟩ := o_54
    have hpm : List.Perm ([[(h0, .inr (8, [.ref (r0 0), .int tp_58, .ref pl0, .ref sp0, .ref rd0, .ref (r0 1), .int mv_62, .ref fi0, .ref se0, .ref fa0, .ref cr0, .ref ra0, .ref pa0, .int nw0])), (r0 0, .inl (cB, 1600, .inl f_57)), (r0 1, .inl (cI, 6, .inl f_61))]] : List va_W) (([[(h0, .inr (8, [.ref (r0 0), .int tp_58, .ref pl0, .ref sp0, .ref rd0, .ref (r0 1), .int mv_62, .ref fi0, .ref se0, .ref fa0, .ref cr0, .ref ra0, .ref pa0, .int nw0])), (r0 0, .inl (cB, 1600, .inl f_57)), (r0 1, .inl (cI, 6, .inl f_61))]] : List va_W) ++ ([] : List va_W)) := pm_n 1 [0] (by decide) rfl rfl
    have hPc := bk_P hpm hP
    have hDc := bk_D hpm hD
    have hFc := bk_F hpm hD hS hA
    refine va_callv (va_runV (As := [.int p5]) (rest := []) ⟨hx, hb, hml, hown, hts⟩ (c_X10_putOnTape l dC dI ad tN fN cB cI cJ cZ cQ h0 p5 r0 pl0 sp0 rd0 fi0 se0 fa0 cr0 ra0 pa0 nw0 _ ⟨f_57, tp_58, f_61, mv_62, rfl, by omega, by omega, by omega, by omega⟩ H.size) (cwV 1 hts gX10_feed_X10_putOnTape rfl rfl rfl (by decide +kernel) ⟨(Nat.le_of_ble_eq_true rfl), (Nat.le_of_ble_eq_true rfl)⟩) ⟨fun a U g mk q => by obtain ⟨q0, q1, qP, qK, qD, qE⟩ := q; exact ⟨q0, q1, qP, va_K.moved (u := U) (U := U.calling g mk a) (Vm.Alike.refl U.vm) qK, qD, ey_blind qE⟩, va_recv hK hPc (ci := 8) (q0 := 0) rfl rfl, fun U hU hW => ⟨rfl, by rw [hU], by rw [hU]; exact hPc, va_K.moved hW.alike hK, hDc.weaken (fun _ _ _ _ => trivial), ey_call hE hS hFc hU hW⟩⟩ rfl rfl hl.1 rfl (lv_room (Nat.le_of_ble_eq_true rfl)) dX10_feed_39 ⟨(Nat.le_of_ble_eq_true rfl), (Nat.le_of_ble_eq_true rfl)⟩) hS (fun q _ h => hFc q h) hFc (fun u t H locs ht hvm hw hB hz1 hk1 hS => ?_)
    obtain ⟨w_66, o_67, hP1, hD1⟩ := hB
    rw [ht] at hP1
    obtain ⟨hP, hD⟩ := bk_join hpm hP hD hk1 hFc (Cs1 := [w_66]) hP1 hD1
    have hpm2 : List.Perm (([w_66] : List va_W) ++ ([] : List va_W)) ([w_66] : List va_W) := pm_n 1 [0] (by decide) rfl rfl
    have hP := bk_reP hpm2 hP
    have hD := bk_reD hpm2 hD
    have hP : va_P (dC, dI) vwCl (List.flatten [w_66]) H := hP
    have hD : va_D A (List.flatten [w_66]) := hD
    obtain ⟨hx_68, hx_69⟩ := okx_main o_67
    refine lv_aload_n hx hb dX10_feed_42 rfl (lv_at hl 0 rfl) ?_
    obtain ⟨f_70, tp_71, f_74, mv_75, rfl, hl_72, hh_73, hl_76, hh_77⟩ := o_67
    refine va_get (D := (dC, dI)) (ci := 8) (v := .int tp_71) (C := RX10) (T := TX10) (N := 14) hx hb hts iw_X10_feed_X10 hown hK hP 0 rfl rfl 1 (by decide) (hts (.fieldLink RX10 13 "HungFloors" "taped" "I") (by decide +kernel)) (fun _ h9 => h9) rfl dX10_feed_43 ?_
    rw [hQ0]
    exact W.iret (v := tp_71) hx hb hr (fun t ht hW => ⟨⟨tp_71, (), rfl, ⟨by omega, by omega⟩, ⟨_, ⟨f_70, tp_71, f_74, mv_75, rfl, by omega, by omega, by omega, by omega⟩, by rw [ht]; exact hP, hD⟩⟩, hS.F ht⟩) hS.2.2 dX10_feed_46
  · have c_12 : 1600 < z_11.toInt := f_nle rfl tI_1600 c_12
    refine lv_iconst (v := (-1)) hx hb dX10_feed_13 (by decide) ?_
    rw [hQ0]
    exact W.iret (v := (-1)) hx hb hr (fun t ht hW => ⟨⟨(-1), (), rfl, ⟨by decide, by decide⟩, ⟨_, ⟨f_3, tp_4, f_7, mv_8, rfl, by omega, by omega, by omega, by omega⟩, by rw [ht]; exact hP, hD⟩⟩, hS.F ht⟩) hS.2.2 dX10_feed_14
theorem iw_X10_end_X10 : ∀ w ∈ wsX100, w ∈ wsX10_end := fun _ h => List.mem_cons_of_mem _ (List.mem_append_right _ h)
set_option maxHeartbeats 4000000 in
set_option maxRecDepth 100000 in
theorem c_X10_end (l : Launch) (dC : Nat → ClassId) (dI : Nat → Nat → Nat) (ad : Nat → Nat) (tN : Nat) (fN : Nat → Int64) (cB cI cJ cZ cQ : ClassId) (h0 : Nat) (p1 : Int32) (r0 : Nat → Nat) (pl0 : Nat) (sp0 : Nat) (rd0 : Nat) (fi0 : Nat) (se0 : Nat) (fa0 : Nat) (cr0 : Nat) (ra0 : Nat) (pa0 : Nat) (nw0 : Int32) (w0 : va_W) (o0 : ok_main ad cB cI cJ cZ h0 r0 pl0 sp0 rd0 fi0 se0 fa0 cr0 ra0 pa0 nw0 w0) (sz : Nat) : Met l yX10_end wsX10_end ({ frames := 0, cells := 0, slots := 0, locals := 0 } : Room) (va_Pc [.ref h0, .int p1] (fun U => U.heap.size = sz ∧ va_P (dC, dI) vwCl (List.flatten [w0]) U.heap ∧ va_K (dC, dI) vwCl [(cB, .byte), (cI, .int), (cJ, .long), (cZ, .boolean), (cQ, .array .long)] U ∧ va_D (fun _ => True) (List.flatten [w0]) ∧ ex_Y ad tN fN (va_A (List.flatten [w0]) sz) U)) (va_Qi (fun (r : Int32) (_ : Unit) => -1 ≤ r.toInt ∧ r.toInt ≤ 1600) (fun (_ : Unit) (t : State) => ∃ (w09 : va_W), ok_main ad cB cI cJ cZ h0 r0 pl0 sp0 rd0 fi0 se0 fa0 cr0 ra0 pa0 nw0 w09 ∧ va_P (dC, dI) vwCl (List.flatten [w09]) t.heap ∧ va_D (va_A (List.flatten [w0]) sz) (List.flatten [w09])) (va_A (List.flatten [w0]) sz)) 0 0 (va_A (List.flatten [w0]) sz) := by
  refine Met.ofW (cc := cX10_end) (maxL := 2) (ret := (some .int)) (by decide) rfl ?_
  intro p e s m args below meth c s₁ B hml hv
  obtain ⟨rfl, hsz, hP, hK, hD0, hE⟩ := hv
  have hx := B.exec
  have hb := B.bytes
  have hr := B.returns
  have hts := atoms_spec (ws := wsX10_end) B.pre
  have hown : s.vm.findClass RX10 = some m.cls := findClass_of_methodNamed B.named
  have hlocks := B.notSynchronized
  subst hsz
  have hD := hD0.self (sz := s.heap.size)
  generalize hAe : va_A (List.flatten [w0]) s.heap.size = A at hD hE ⊢
  have hA : ∀ q : Nat, s.heap.size ≤ q → A q := fun q h => by rw [← hAe]; exact Or.inr h
  have hS : va_S A s.heap s.heap [] := va_S.rf
  have hl := lv_entry ([.ref h0, .int p1]) (n := 2) (Nat.le_of_ble_eq_true rfl)
  rw [lg_entry_eq]
  generalize (lg_sl ([.ref h0, .int p1]) ++ List.replicate (2 - (lg_sl ([.ref h0, .int p1])).length) Slot.unset).toArray = ls at hl ⊢
  have hl : lv_has ls 2 [(0, .ref h0), (1, .int p1)] := hl
  clear hAe
  refine W_name (fun Q0 hQ0 => ?_)
  obtain ⟨hx_1, hx_2⟩ := okx_main o0
  refine lv_iload_n hx hb dX10_end_0 rfl (lv_at hl 1 rfl) ?_
  refine lv_if_lt (tgt := 12) hx hb dX10_end_1 (by decide) (fun c_3 => ?_) (fun c_3 => ?_)
  · have c_3 : p1.toInt < 0 := f_lt rfl tI_0 c_3
    refine lv_iconst (v := (-1)) hx hb dX10_end_12 (by decide) ?_
    rw [hQ0]
    exact W.iret (v := (-1)) hx hb hr (fun t ht hW => ⟨⟨(-1), (), rfl, ⟨by decide, by decide⟩, ⟨_, o0, by rw [ht]; exact hP, hD⟩⟩, hS.F ht⟩) hS.2.2 dX10_end_13
  · have c_3 : 0 ≤ p1.toInt := f_nlt rfl tI_0 c_3
    refine lv_iload_n hx hb dX10_end_4 rfl (lv_at hl 1 rfl) ?_
    refine lv_aload_n hx hb dX10_end_5 rfl (lv_at hl 0 rfl) ?_
    obtain ⟨f_4, tp_5, f_8, mv_9, rfl, hl_6, hh_7, hl_10, hh_11⟩ := o0
    refine va_get (D := (dC, dI)) (ci := 8) (v := .int tp_5) (C := RX10) (T := TX10) (N := 14) hx hb hts iw_X10_end_X10 hown hK hP 0 rfl rfl 1 (by decide) (hts (.fieldLink RX10 13 "HungFloors" "taped" "I") (by decide +kernel)) (fun _ h9 => h9) rfl dX10_end_6 ?_
    refine lv_icmp_le (tgt := 14) hx hb dX10_end_9 (by decide) (fun c_12 => ?_) (fun c_12 => ?_)
    · have c_12 : p1.toInt ≤ tp_5.toInt := f_le rfl rfl c_12
      refine lv_aload_n hx hb dX10_end_14 rfl (lv_at hl 0 rfl) ?_
      refine lv_iload_n hx hb dX10_end_15 rfl (lv_at hl 1 rfl) ?_
      refine va_put (D := (dC, dI)) (ci := 8) (v := .int p1) (ty := .int) (C := RX10) (T := TX10) (N := 14) hx hb hts iw_X10_end_X10 tyX10 tyX10_ok nmX10 hown hK hP hD hS 0 rfl rfl 1 (by decide) (hts (.fieldLink RX10 13 "HungFloors" "taped" "I") (by decide +kernel)) (fun _ h9 => h9) rfl (by decide +kernel) rfl rfl (Nat.le_of_ble_eq_true rfl) dX10_end_16 (fun H locs hP hD hS => ?_)
      have hP : va_P (dC, dI) vwCl (List.flatten [[(h0, .inr (8, [.ref (r0 0), .int p1, .ref pl0, .ref sp0, .ref rd0, .ref (r0 1), .int mv_9, .ref fi0, .ref se0, .ref fa0, .ref cr0, .ref ra0, .ref pa0, .int nw0])), (r0 0, .inl (cB, 1600, .inl f_4)), (r0 1, .inl (cI, 6, .inl f_8))]]) H := hP
      have hD : va_D A (List.flatten [[(h0, .inr (8, [.ref (r0 0), .int p1, .ref pl0, .ref sp0, .ref rd0, .ref (r0 1), .int mv_9, .ref fi0, .ref se0, .ref fa0, .ref cr0, .ref ra0, .ref pa0, .int nw0])), (r0 0, .inl (cB, 1600, .inl f_4)), (r0 1, .inl (cI, 6, .inl f_8))]]) := hD
      refine lv_iload_n hx hb dX10_end_19 rfl (lv_at hl 1 rfl) ?_
      rw [hQ0]
      exact W.iret (v := p1) hx hb hr (fun t ht hW => ⟨⟨p1, (), rfl, ⟨by omega, by omega⟩, ⟨_, ⟨f_4, p1, f_8, mv_9, rfl, by omega, by omega, by omega, by omega⟩, by rw [ht]; exact hP, hD⟩⟩, hS.F ht⟩) hS.2.2 dX10_end_20
    · have c_12 : tp_5.toInt < p1.toInt := f_nle rfl rfl c_12
      refine lv_iconst (v := (-1)) hx hb dX10_end_12 (by decide) ?_
      rw [hQ0]
      exact W.iret (v := (-1)) hx hb hr (fun t ht hW => ⟨⟨(-1), (), rfl, ⟨by decide, by decide⟩, ⟨_, ⟨f_4, tp_5, f_8, mv_9, rfl, by omega, by omega, by omega, by omega⟩, by rw [ht]; exact hP, hD⟩⟩, hS.F ht⟩) hS.2.2 dX10_end_13
theorem iw_X10_move_X10 : ∀ w ∈ wsX100, w ∈ wsX10_move := fun _ h => List.mem_cons_of_mem _ (List.mem_append_right _ h)
set_option maxHeartbeats 4000000 in
set_option maxRecDepth 100000 in
theorem c_X10_move (l : Launch) (dC : Nat → ClassId) (dI : Nat → Nat → Nat) (ad : Nat → Nat) (tN : Nat) (fN : Nat → Int64) (cB cI cJ cZ cQ : ClassId) (h0 : Nat) (p1 : Int32) (r0 : Nat → Nat) (pl0 : Nat) (sp0 : Nat) (rd0 : Nat) (fi0 : Nat) (se0 : Nat) (fa0 : Nat) (cr0 : Nat) (ra0 : Nat) (pa0 : Nat) (nw0 : Int32) (w0 : va_W) (o0 : ok_main ad cB cI cJ cZ h0 r0 pl0 sp0 rd0 fi0 se0 fa0 cr0 ra0 pa0 nw0 w0) (sz : Nat) : Met l yX10_move wsX10_move ({ frames := 1, cells := 0, slots := 0, locals := 20 } : Room) (va_Pc [.ref h0, .int p1] (fun U => U.heap.size = sz ∧ va_P (dC, dI) vwCl (List.flatten [w0]) U.heap ∧ va_K (dC, dI) vwCl [(cB, .byte), (cI, .int), (cJ, .long), (cZ, .boolean), (cQ, .array .long)] U ∧ va_D (fun _ => True) (List.flatten [w0]) ∧ ex_Y ad tN fN (va_A (List.flatten [w0]) sz) U)) (va_Qi (fun (r : Int32) (_ : Unit) => (r = 0 ∧ p1.toInt < 0) ∨ (r = 0 ∧ 0 ≤ p1.toInt ∧ 20 < p1.toInt) ∨ (r = 1 ∧ 0 ≤ p1.toInt ∧ p1.toInt ≤ 20)) (fun (_ : Unit) (t : State) => ∃ (w09 : va_W), ok_main ad cB cI cJ cZ h0 r0 pl0 sp0 rd0 fi0 se0 fa0 cr0 ra0 pa0 nw0 w09 ∧ va_P (dC, dI) vwCl (List.flatten [w09]) t.heap ∧ va_D (va_A (List.flatten [w0]) sz) (List.flatten [w09])) (va_A (List.flatten [w0]) sz)) 0 0 (va_A (List.flatten [w0]) sz) := by
  refine Met.ofW (cc := cX10_move) (maxL := 2) (ret := (some .boolean)) (by decide) rfl ?_
  intro p e s m args below meth c s₁ B hml hv
  obtain ⟨rfl, hsz, hP, hK, hD0, hE⟩ := hv
  have hx := B.exec
  have hb := B.bytes
  have hr := B.returns
  have hts := atoms_spec (ws := wsX10_move) B.pre
  have hown : s.vm.findClass RX10 = some m.cls := findClass_of_methodNamed B.named
  have hlocks := B.notSynchronized
  subst hsz
  have hD := hD0.self (sz := s.heap.size)
  generalize hAe : va_A (List.flatten [w0]) s.heap.size = A at hD hE ⊢
  have hA : ∀ q : Nat, s.heap.size ≤ q → A q := fun q h => by rw [← hAe]; exact Or.inr h
  have hS : va_S A s.heap s.heap [] := va_S.rf
  have hl := lv_entry ([.ref h0, .int p1]) (n := 2) (Nat.le_of_ble_eq_true rfl)
  rw [lg_entry_eq]
  generalize (lg_sl ([.ref h0, .int p1]) ++ List.replicate (2 - (lg_sl ([.ref h0, .int p1])).length) Slot.unset).toArray = ls at hl ⊢
  have hl : lv_has ls 2 [(0, .ref h0), (1, .int p1)] := hl
  clear hAe
  refine W_name (fun Q0 hQ0 => ?_)
  obtain ⟨hx_1, hx_2⟩ := okx_main o0
  refine lv_iload_n hx hb dX10_move_0 rfl (lv_at hl 1 rfl) ?_
  have hpm : List.Perm ([w0] : List va_W) (([] : List va_W) ++ ([w0] : List va_W)) := pm_n 1 [0] (by decide) rfl rfl
  have hPc := bk_P hpm hP
  have hDc := bk_D hpm hD
  have hFc := bk_F hpm hD hS hA
  refine va_calli (va_runS (As := [.int p1]) (rest := []) ⟨hx, hb, hml, hown, hts⟩ (c_X10_isMove l dC dI ad tN fN cB cI cJ cZ p1 s.heap.size) (va_cwS 1 hts gX10_move_X10_isMove rfl rfl rfl (by decide +kernel) ⟨(Nat.le_of_ble_eq_true rfl), (Nat.le_of_ble_eq_true rfl)⟩) ⟨fun a U g mk q => by obtain ⟨q0, q1, qP, qK, qD, qE⟩ := q; exact ⟨q0, q1, qP, va_K.moved (u := U) (U := U.calling g mk a) (Vm.Alike.refl U.vm) qK, qD, ey_blind qE⟩, fun U hU hW => ⟨rfl, by rw [hU], by rw [hU]; exact hPc, va_K.moved hW.alike (va_K.sub hK [0, 1, 2, 3] rfl), hDc.weaken (fun _ _ _ _ => trivial), ey_call hE hS hFc hU hW⟩⟩ rfl rfl hl.1 rfl (lv_room (Nat.le_of_ble_eq_true rfl)) dX10_move_1 ⟨(Nat.le_of_ble_eq_true rfl), (Nat.le_of_ble_eq_true rfl)⟩) hS (fun q _ h => hFc q h) hFc (fun r_3 u t H locs ht hvm hw hB hz1 hk1 hS => ?_)
  obtain ⟨hP1, hD1⟩ := hB
  rw [ht] at hP1
  obtain ⟨hP, hD⟩ := bk_join hpm hP hD hk1 hFc (Cs1 := []) hP1 hD1
  have hpm2 : List.Perm (([] : List va_W) ++ ([w0] : List va_W)) ([w0] : List va_W) := pm_n 1 [0] (by decide) rfl rfl
  have hP := bk_reP hpm2 hP
  have hD := bk_reD hpm2 hD
  have hP : va_P (dC, dI) vwCl (List.flatten [w0]) H := hP
  have hD : va_D A (List.flatten [w0]) := hD
  rcases hw with ⟨rfl, c_4⟩ | ⟨rfl, c_5, c_6⟩ | ⟨rfl, c_7, c_8⟩
  · refine lv_if_ne (tgt := 9) hx hb dX10_move_4 (by decide) (fun c_9 => absurd c_9 (by decide)) (fun c_9 => ?_)
    refine lv_iconst (v := 0) hx hb dX10_move_7 (by decide) ?_
    rw [hQ0]
    exact W.zret (v := 0) hx hb hr (by decide) (fun t ht hW => ⟨⟨0, (), rfl, Or.inl ⟨rfl, c_4⟩, ⟨_, o0, by rw [ht]; exact hP, hD⟩⟩, hS.F ht⟩) hS.2.2 dX10_move_8
  · refine lv_if_ne (tgt := 9) hx hb dX10_move_4 (by decide) (fun c_10 => absurd c_10 (by decide)) (fun c_10 => ?_)
    refine lv_iconst (v := 0) hx hb dX10_move_7 (by decide) ?_
    rw [hQ0]
    exact W.zret (v := 0) hx hb hr (by decide) (fun t ht hW => ⟨⟨0, (), rfl, Or.inr (Or.inl ⟨rfl, c_5, c_6⟩), ⟨_, o0, by rw [ht]; exact hP, hD⟩⟩, hS.F ht⟩) hS.2.2 dX10_move_8
  · refine lv_if_ne (tgt := 9) hx hb dX10_move_4 (by decide) (fun c_11 => ?_) (fun c_11 => absurd c_11 (by decide))
    refine lv_aload_n hx hb dX10_move_9 rfl (lv_at hl 0 rfl) ?_
    refine lv_iload_n hx hb dX10_move_10 rfl (lv_at hl 1 rfl) ?_
    obtain ⟨f_12, tp_13, f_16, mv_17, rfl, hl_14, hh_15, hl_18, hh_19⟩ := o0
    refine va_put (D := (dC, dI)) (ci := 8) (v := .int p1) (ty := .int) (C := RX10) (T := TX10) (N := 14) hx hb hts iw_X10_move_X10 tyX10 tyX10_ok nmX10 hown hK hP hD hS 0 rfl rfl 6 (by decide) (hts (.fieldLink RX10 38 "HungFloors" "moving" "I") (by decide +kernel)) (fun _ h9 => h9) rfl (by decide +kernel) rfl rfl (Nat.le_of_ble_eq_true rfl) dX10_move_11 (fun H locs hP hD hS => ?_)
    have hP : va_P (dC, dI) vwCl (List.flatten [[(h0, .inr (8, [.ref (r0 0), .int tp_13, .ref pl0, .ref sp0, .ref rd0, .ref (r0 1), .int p1, .ref fi0, .ref se0, .ref fa0, .ref cr0, .ref ra0, .ref pa0, .int nw0])), (r0 0, .inl (cB, 1600, .inl f_12)), (r0 1, .inl (cI, 6, .inl f_16))]]) H := hP
    have hD : va_D A (List.flatten [[(h0, .inr (8, [.ref (r0 0), .int tp_13, .ref pl0, .ref sp0, .ref rd0, .ref (r0 1), .int p1, .ref fi0, .ref se0, .ref fa0, .ref cr0, .ref ra0, .ref pa0, .int nw0])), (r0 0, .inl (cB, 1600, .inl f_12)), (r0 1, .inl (cI, 6, .inl f_16))]]) := hD
    refine lv_iconst (v := 1) hx hb dX10_move_14 (by decide) ?_
    rw [hQ0]
    exact W.zret (v := 1) hx hb hr (by decide) (fun t ht hW => ⟨⟨1, (), rfl, Or.inr (Or.inr (⟨rfl, c_7, c_8⟩)), ⟨_, ⟨f_12, tp_13, f_16, p1, rfl, by omega, by omega, by omega, by omega⟩, by rw [ht]; exact hP, hD⟩⟩, hS.F ht⟩) hS.2.2 dX10_move_15
theorem iw_X10_later_X10 : ∀ w ∈ wsX100, w ∈ wsX10_later := fun _ h => List.mem_cons_of_mem _ (List.mem_append_right _ h)
set_option maxHeartbeats 4000000 in
set_option maxRecDepth 100000 in
theorem c_X10_later (l : Launch) (dC : Nat → ClassId) (dI : Nat → Nat → Nat) (ad : Nat → Nat) (tN : Nat) (fN : Nat → Int64) (cB cI cJ cZ cQ : ClassId) (h0 : Nat) (p1 : Int32) (r0 : Nat → Nat) (pl0 : Nat) (sp0 : Nat) (rd0 : Nat) (fi0 : Nat) (se0 : Nat) (fa0 : Nat) (cr0 : Nat) (ra0 : Nat) (pa0 : Nat) (nw0 : Int32) (w0 : va_W) (o0 : ok_main ad cB cI cJ cZ h0 r0 pl0 sp0 rd0 fi0 se0 fa0 cr0 ra0 pa0 nw0 w0) (sz : Nat) : Met l yX10_later wsX10_later ({ frames := 0, cells := 0, slots := 0, locals := 0 } : Room) (va_Pc [.ref h0, .int p1] (fun U => U.heap.size = sz ∧ va_P (dC, dI) vwCl (List.flatten [w0]) U.heap ∧ va_K (dC, dI) vwCl [(cB, .byte), (cI, .int), (cJ, .long), (cZ, .boolean), (cQ, .array .long)] U ∧ va_D (fun _ => True) (List.flatten [w0]) ∧ ex_Y ad tN fN (va_A (List.flatten [w0]) sz) U)) (va_Qi (fun (r : Int32) (_ : Unit) => -1 ≤ r.toInt ∧ r.toInt ≤ 101000) (fun (_ : Unit) (t : State) => ∃ (nw09 : Int32) (w09 : va_W), ok_main ad cB cI cJ cZ h0 r0 pl0 sp0 rd0 fi0 se0 fa0 cr0 ra0 pa0 nw09 w09 ∧ va_P (dC, dI) vwCl (List.flatten [w09]) t.heap ∧ va_D (va_A (List.flatten [w0]) sz) (List.flatten [w09])) (va_A (List.flatten [w0]) sz)) 0 0 (va_A (List.flatten [w0]) sz) := by
  refine Met.ofW (cc := cX10_later) (maxL := 2) (ret := (some .int)) (by decide) rfl ?_
  intro p e s m args below meth c s₁ B hml hv
  obtain ⟨rfl, hsz, hP, hK, hD0, hE⟩ := hv
  have hx := B.exec
  have hb := B.bytes
  have hr := B.returns
  have hts := atoms_spec (ws := wsX10_later) B.pre
  have hown : s.vm.findClass RX10 = some m.cls := findClass_of_methodNamed B.named
  have hlocks := B.notSynchronized
  subst hsz
  have hD := hD0.self (sz := s.heap.size)
  generalize hAe : va_A (List.flatten [w0]) s.heap.size = A at hD hE ⊢
  have hA : ∀ q : Nat, s.heap.size ≤ q → A q := fun q h => by rw [← hAe]; exact Or.inr h
  have hS : va_S A s.heap s.heap [] := va_S.rf
  have hl := lv_entry ([.ref h0, .int p1]) (n := 2) (Nat.le_of_ble_eq_true rfl)
  rw [lg_entry_eq]
  generalize (lg_sl ([.ref h0, .int p1]) ++ List.replicate (2 - (lg_sl ([.ref h0, .int p1])).length) Slot.unset).toArray = ls at hl ⊢
  have hl : lv_has ls 2 [(0, .ref h0), (1, .int p1)] := hl
  clear hAe
  refine W_name (fun Q0 hQ0 => ?_)
  obtain ⟨hx_1, hx_2⟩ := okx_main o0
  refine lv_iload_n hx hb dX10_later_0 rfl (lv_at hl 1 rfl) ?_
  refine lv_if_lt (tgt := 23) hx hb dX10_later_1 (by decide) (fun c_3 => ?_) (fun c_3 => ?_)
  · have c_3 : p1.toInt < 0 := f_lt rfl tI_0 c_3
    refine lv_iconst (v := (-1)) hx hb dX10_later_23 (by decide) ?_
    rw [hQ0]
    exact W.iret (v := (-1)) hx hb hr (fun t ht hW => ⟨⟨(-1), (), rfl, ⟨by decide, by decide⟩, ⟨nw0, _, o0, by rw [ht]; exact hP, hD⟩⟩, hS.F ht⟩) hS.2.2 dX10_later_24
  · have c_3 : 0 ≤ p1.toInt := f_nlt rfl tI_0 c_3
    refine lv_iload_n hx hb dX10_later_4 rfl (lv_at hl 1 rfl) ?_
    refine lv_sipush (v := 1000) hx hb dX10_later_5 (by decide) ?_
    refine lv_icmp_gt (tgt := 23) hx hb dX10_later_8 (by decide) (fun c_4 => ?_) (fun c_4 => ?_)
    · have c_4 : 1000 < p1.toInt := f_lt tI_1000 rfl c_4
      refine lv_iconst (v := (-1)) hx hb dX10_later_23 (by decide) ?_
      rw [hQ0]
      exact W.iret (v := (-1)) hx hb hr (fun t ht hW => ⟨⟨(-1), (), rfl, ⟨by decide, by decide⟩, ⟨nw0, _, o0, by rw [ht]; exact hP, hD⟩⟩, hS.F ht⟩) hS.2.2 dX10_later_24
    · have c_4 : p1.toInt ≤ 1000 := f_nlt tI_1000 rfl c_4
      refine lv_aload_n hx hb dX10_later_11 rfl (lv_at hl 0 rfl) ?_
      obtain ⟨f_5, tp_6, f_9, mv_10, rfl, hl_7, hh_8, hl_11, hh_12⟩ := o0
      refine va_get (D := (dC, dI)) (ci := 8) (v := .int nw0) (C := RX10) (T := TX10) (N := 14) hx hb hts iw_X10_later_X10 hown hK hP 0 rfl rfl 13 (by decide) (hts (.fieldLink RX10 79 "HungFloors" "now" "I") (by decide +kernel)) (fun _ h9 => h9) rfl dX10_later_12 ?_
      refine lv_iload_n hx hb dX10_later_15 rfl (lv_at hl 1 rfl) ?_
      refine lv_iadd hx hb dX10_later_16 ?_
      refine lv_topi (fun z_13 ez_13 => ?_)
      have hz_13 : z_13.toInt = nw0.toInt + p1.toInt := by rw [ez_13]; exact t_add rfl rfl (by omega) (by omega)
      have fz_13 : z_13 = (nw0 + p1) := by rw [ez_13]
      refine lv_ldcw hx hb hown (hts (.constant RX10 275 (100000)) (by decide +kernel)) dX10_later_17 ?_
      refine lv_icmp_le (tgt := 25) hx hb dX10_later_20 (by decide) (fun c_14 => ?_) (fun c_14 => ?_)
      · have c_14 : z_13.toInt ≤ 100000 := f_le rfl tI_100000 c_14
        refine lv_aload_n hx hb dX10_later_25 rfl (lv_at hl 0 rfl) ?_
        refine lv_dup hx hb dX10_later_26 rfl ?_
        refine va_get (D := (dC, dI)) (ci := 8) (v := .int nw0) (C := RX10) (T := TX10) (N := 14) hx hb hts iw_X10_later_X10 hown hK hP 0 rfl rfl 13 (by decide) (hts (.fieldLink RX10 79 "HungFloors" "now" "I") (by decide +kernel)) (fun _ h9 => h9) rfl dX10_later_27 ?_
        refine lv_iload_n hx hb dX10_later_30 rfl (lv_at hl 1 rfl) ?_
        refine lv_iadd hx hb dX10_later_31 ?_
        refine lv_topi (fun z_15 ez_15 => ?_)
        have hz_15 : z_15.toInt = nw0.toInt + p1.toInt := by rw [ez_15]; exact t_add rfl rfl (by omega) (by omega)
        have fz_15 : z_15 = (nw0 + p1) := by rw [ez_15]
        refine va_put (D := (dC, dI)) (ci := 8) (v := .int z_15) (ty := .int) (C := RX10) (T := TX10) (N := 14) hx hb hts iw_X10_later_X10 tyX10 tyX10_ok nmX10 hown hK hP hD hS 0 rfl rfl 13 (by decide) (hts (.fieldLink RX10 79 "HungFloors" "now" "I") (by decide +kernel)) (fun _ h9 => h9) rfl (by decide +kernel) rfl rfl (Nat.le_of_ble_eq_true rfl) dX10_later_32 (fun H locs hP hD hS => ?_)
        have hP : va_P (dC, dI) vwCl (List.flatten [[(h0, .inr (8, [.ref (r0 0), .int tp_6, .ref pl0, .ref sp0, .ref rd0, .ref (r0 1), .int mv_10, .ref fi0, .ref se0, .ref fa0, .ref cr0, .ref ra0, .ref pa0, .int z_15])), (r0 0, .inl (cB, 1600, .inl f_5)), (r0 1, .inl (cI, 6, .inl f_9))]]) H := hP
        have hD : va_D A (List.flatten [[(h0, .inr (8, [.ref (r0 0), .int tp_6, .ref pl0, .ref sp0, .ref rd0, .ref (r0 1), .int mv_10, .ref fi0, .ref se0, .ref fa0, .ref cr0, .ref ra0, .ref pa0, .int z_15])), (r0 0, .inl (cB, 1600, .inl f_5)), (r0 1, .inl (cI, 6, .inl f_9))]]) := hD
        refine lv_aload_n hx hb dX10_later_35 rfl (lv_at hl 0 rfl) ?_
        refine va_get (D := (dC, dI)) (ci := 8) (v := .int z_15) (C := RX10) (T := TX10) (N := 14) hx hb hts iw_X10_later_X10 hown hK hP 0 rfl rfl 13 (by decide) (hts (.fieldLink RX10 79 "HungFloors" "now" "I") (by decide +kernel)) (fun _ h9 => h9) rfl dX10_later_36 ?_
        rw [hQ0]
        exact W.iret (v := z_15) hx hb hr (fun t ht hW => ⟨⟨z_15, (), rfl, ⟨by omega, by omega⟩, ⟨z_15, _, ⟨f_5, tp_6, f_9, mv_10, rfl, by omega, by omega, by omega, by omega⟩, by rw [ht]; exact hP, hD⟩⟩, hS.F ht⟩) hS.2.2 dX10_later_39
      · have c_14 : 100000 < z_13.toInt := f_nle rfl tI_100000 c_14
        refine lv_iconst (v := (-1)) hx hb dX10_later_23 (by decide) ?_
        rw [hQ0]
        exact W.iret (v := (-1)) hx hb hr (fun t ht hW => ⟨⟨(-1), (), rfl, ⟨by decide, by decide⟩, ⟨nw0, _, ⟨f_5, tp_6, f_9, mv_10, rfl, by omega, by omega, by omega, by omega⟩, by rw [ht]; exact hP, hD⟩⟩, hS.F ht⟩) hS.2.2 dX10_later_24
theorem iw_X10_fault_X10 : ∀ w ∈ wsX100, w ∈ wsX10_fault := fun _ h => List.mem_cons_of_mem _ (List.mem_append_left _ (List.mem_append_right _ h))
theorem iw_X10_fault_X4 : ∀ w ∈ wsX40, w ∈ wsX10_fault := fun _ h => List.mem_cons_of_mem _ (List.mem_append_right _ h)
set_option maxHeartbeats 4000000 in
set_option maxRecDepth 100000 in
theorem c_X10_fault (l : Launch) (dC : Nat → ClassId) (dI : Nat → Nat → Nat) (ad : Nat → Nat) (tN : Nat) (fN : Nat → Int64) (cB cI cJ cZ cQ : ClassId) (h0 : Nat) (p1 : Int32) (r0 : Nat → Nat) (pl0 : Nat) (sp0 : Nat) (rd0 : Nat) (fi0 : Nat) (se0 : Nat) (fa0 : Nat) (cr0 : Nat) (ra0 : Nat) (pa0 : Nat) (nw0 : Int32) (w0 : va_W) (r1 : Nat → Nat) (tk1 : Nat) (rp1 : Nat) (w1 : va_W) (o0 : ok_main ad cB cI cJ cZ h0 r0 pl0 sp0 rd0 fi0 se0 fa0 cr0 ra0 pa0 nw0 w0) (o1 : ok_read ad cB cI cJ cZ rd0 r1 tk1 rp1 w1) (sz : Nat) : Met l yX10_fault wsX10_fault ({ frames := 0, cells := 0, slots := 0, locals := 0 } : Room) (va_Pc [.ref h0, .int p1] (fun U => U.heap.size = sz ∧ va_P (dC, dI) vwCl (List.flatten [w0, w1]) U.heap ∧ va_K (dC, dI) vwCl [(cB, .byte), (cI, .int), (cJ, .long), (cZ, .boolean), (cQ, .array .long)] U ∧ va_D (fun _ => True) (List.flatten [w0, w1]) ∧ ex_Y ad tN fN (va_A (List.flatten [w0, w1]) sz) U)) (va_Qi (fun (r : Int32) (_ : Unit) => True) (fun (_ : Unit) (t : State) => va_P (dC, dI) vwCl (List.flatten [w0, w1]) t.heap ∧ va_D (va_A (List.flatten [w0, w1]) sz) (List.flatten [w0, w1])) (va_A (List.flatten [w0, w1]) sz)) 0 0 (va_A (List.flatten [w0, w1]) sz) := by
  refine Met.ofW (cc := cX10_fault) (maxL := 2) (ret := (some .int)) (by decide) rfl ?_
  intro p e s m args below meth c s₁ B hml hv
  obtain ⟨rfl, hsz, hP, hK, hD0, hE⟩ := hv
  have hx := B.exec
  have hb := B.bytes
  have hr := B.returns
  have hts := atoms_spec (ws := wsX10_fault) B.pre
  have hown : s.vm.findClass RX10 = some m.cls := findClass_of_methodNamed B.named
  have hlocks := B.notSynchronized
  subst hsz
  have hD := hD0.self (sz := s.heap.size)
  generalize hAe : va_A (List.flatten [w0, w1]) s.heap.size = A at hD hE ⊢
  have hA : ∀ q : Nat, s.heap.size ≤ q → A q := fun q h => by rw [← hAe]; exact Or.inr h
  have hS : va_S A s.heap s.heap [] := va_S.rf
  have hl := lv_entry ([.ref h0, .int p1]) (n := 2) (Nat.le_of_ble_eq_true rfl)
  rw [lg_entry_eq]
  generalize (lg_sl ([.ref h0, .int p1]) ++ List.replicate (2 - (lg_sl ([.ref h0, .int p1])).length) Slot.unset).toArray = ls at hl ⊢
  have hl : lv_has ls 2 [(0, .ref h0), (1, .int p1)] := hl
  clear hAe
  refine W_name (fun Q0 hQ0 => ?_)
  obtain ⟨hx_1, hx_2⟩ := okx_main o0
  refine lv_iload_n hx hb dX10_fault_0 rfl (lv_at hl 1 rfl) ?_
  refine lv_if_ne (tgt := 12) hx hb dX10_fault_1 (by decide) (fun c_3 => ?_) (fun c_3 => ?_)
  · have c_3 : ¬ p1.toInt = 0 := f_ne rfl tI_0 c_3
    refine lv_iload_n hx hb dX10_fault_12 rfl (lv_at hl 1 rfl) ?_
    refine lv_iconst (v := 1) hx hb dX10_fault_13 (by decide) ?_
    refine lv_icmp_ne (tgt := 27) hx hb dX10_fault_14 (by decide) (fun c_4 => ?_) (fun c_4 => ?_)
    · have c_4 : ¬ p1.toInt = 1 := f_ne rfl tI_1 c_4
      refine lv_iconst (v := (-1)) hx hb dX10_fault_27 (by decide) ?_
      rw [hQ0]
      exact W.iret (v := (-1)) hx hb hr (fun t ht hW => ⟨⟨(-1), (), rfl, trivial, ⟨by rw [ht]; exact hP, hD⟩⟩, hS.F ht⟩) hS.2.2 dX10_fault_28
    · have c_4 : p1.toInt = 1 := f_eq rfl tI_1 c_4
      refine lv_aload_n hx hb dX10_fault_17 rfl (lv_at hl 0 rfl) ?_
      obtain ⟨f_5, tp_6, f_9, mv_10, rfl, hl_7, hh_8, hl_11, hh_12⟩ := o0
      refine va_get (D := (dC, dI)) (ci := 8) (v := .ref rd0) (C := RX10) (T := TX10) (N := 14) hx hb hts iw_X10_fault_X10 hown hK hP 0 rfl rfl 4 (by decide) (hts (.fieldLink RX10 30 "HungFloors" "reader" "LHungFloors$HouseReader;") (by decide +kernel)) (fun _ h9 => h9) rfl dX10_fault_18 ?_
      obtain ⟨fk_13, fp_14, rfl⟩ := o1
      refine va_get (D := (dC, dI)) (ci := 3) (v := .int fp_14) (C := RX4) (T := TX4) (N := 4) hx hb hts iw_X10_fault_X4 hown hK hP 3 rfl rfl 3 (by decide) (hts (.fieldLink RX10 99 "HungFloors$HouseReader" "faultPlace" "I") (by decide +kernel)) (fun _ h9 => h9) rfl dX10_fault_21 ?_
      refine lv_goto (tgt := 28) hx hb dX10_fault_24 (by decide) ?_
      rw [hQ0]
      exact W.iret (v := fp_14) hx hb hr (fun t ht hW => ⟨⟨fp_14, (), rfl, trivial, ⟨by rw [ht]; exact hP, hD⟩⟩, hS.F ht⟩) hS.2.2 dX10_fault_28
  · have c_3 : p1.toInt = 0 := f_eq rfl tI_0 c_3
    refine lv_aload_n hx hb dX10_fault_4 rfl (lv_at hl 0 rfl) ?_
    obtain ⟨f_15, tp_16, f_19, mv_20, rfl, hl_17, hh_18, hl_21, hh_22⟩ := o0
    refine va_get (D := (dC, dI)) (ci := 8) (v := .ref rd0) (C := RX10) (T := TX10) (N := 14) hx hb hts iw_X10_fault_X10 hown hK hP 0 rfl rfl 4 (by decide) (hts (.fieldLink RX10 30 "HungFloors" "reader" "LHungFloors$HouseReader;") (by decide +kernel)) (fun _ h9 => h9) rfl dX10_fault_5 ?_
    obtain ⟨fk_23, fp_24, rfl⟩ := o1
    refine va_get (D := (dC, dI)) (ci := 3) (v := .int fk_23) (C := RX4) (T := TX4) (N := 4) hx hb hts iw_X10_fault_X4 hown hK hP 3 rfl rfl 2 (by decide) (hts (.fieldLink RX10 96 "HungFloors$HouseReader" "faultKind" "I") (by decide +kernel)) (fun _ h9 => h9) rfl dX10_fault_8 ?_
    rw [hQ0]
    exact W.iret (v := fk_23) hx hb hr (fun t ht hW => ⟨⟨fk_23, (), rfl, trivial, ⟨by rw [ht]; exact hP, hD⟩⟩, hS.F ht⟩) hS.2.2 dX10_fault_11
theorem okx_pap {ad : Nat → Nat} {cB cI cJ cZ : ClassId} {a : Nat} {r : Nat → Nat} {pc : Int32} {w : va_W} (h : ok_pap ad cB cI cJ cZ a r pc w) : 0 ≤ pc.toInt ∧ pc.toInt ≤ 60 := by
  obtain ⟨_, _, _, _, _, _, _, _, _, _, _, _, h0, h1, _, _, _⟩ := h
  exact ⟨h0, h1⟩
theorem iw_X10_house_X10 : ∀ w ∈ wsX100, w ∈ wsX10_house := fun _ h => List.mem_cons_of_mem _ (List.mem_append_left _ (List.mem_append_left _ (List.mem_append_left _ (List.mem_append_left _ (List.mem_append_right _ h)))))
theorem iw_X10_house_X7 : ∀ w ∈ wsX70, w ∈ wsX10_house := fun _ h => List.mem_cons_of_mem _ (List.mem_append_left _ (List.mem_append_left _ (List.mem_append_left _ (List.mem_append_right _ h))))
set_option maxHeartbeats 4000000 in
set_option maxRecDepth 100000 in
theorem c_X10_house (l : Launch) (dC : Nat → ClassId) (dI : Nat → Nat → Nat) (ad : Nat → Nat) (tN : Nat) (fN : Nat → Int64) (cB cI cJ cZ cQ : ClassId) (h0 : Nat) (r0 : Nat → Nat) (pl0 : Nat) (sp0 : Nat) (rd0 : Nat) (fi0 : Nat) (se0 : Nat) (fa0 : Nat) (cr0 : Nat) (ra0 : Nat) (pa0 : Nat) (nw0 : Int32) (w0 : va_W) (r1 : Nat → Nat) (fc1 : Int32) (dc1 : Int32) (rk1 : Nat → Int32) (w1 : va_W) (r2 : Nat → Nat) (fc2 : Int32) (dc2 : Int32) (rk2 : Nat → Int32) (w2 : va_W) (r3 : Nat → Nat) (tk3 : Nat) (rp3 : Nat) (w3 : va_W) (r4 : Nat → Nat) (tx4 : Nat) (w4 : va_W) (r5 : Nat → Nat) (pc5 : Int32) (w5 : va_W) (o0 : ok_main ad cB cI cJ cZ h0 r0 pl0 sp0 rd0 fi0 se0 fa0 cr0 ra0 pa0 nw0 w0) (o1 : ok_plan ad cB cI cJ cZ pl0 r1 fc1 dc1 rk1 w1) (o2 : ok_plan ad cB cI cJ cZ sp0 r2 fc2 dc2 rk2 w2) (o3 : ok_read ad cB cI cJ cZ rd0 r3 tk3 rp3 w3) (o4 : ok_tok ad cB cI cJ cZ tk3 r4 tx4 w4) (o5 : ok_pap ad cB cI cJ cZ pa0 r5 pc5 w5) (sz : Nat) : Met l yX10_house wsX10_house ({ frames := 7, cells := 0, slots := 0, locals := 163 } : Room) (va_Pc [.ref h0] (fun U => U.heap.size = sz ∧ va_P (dC, dI) vwCl (List.flatten [w0, w1, w2, w3, w4, w5]) U.heap ∧ va_K (dC, dI) vwCl [(cB, .byte), (cI, .int), (cJ, .long), (cZ, .boolean), (cQ, .array .long)] U ∧ va_D (fun _ => True) (List.flatten [w0, w1, w2, w3, w4, w5]) ∧ ex_Y ad tN fN (va_A (List.flatten [w0, w1, w2, w3, w4, w5]) sz) U)) (va_Qi (fun (r : Int32) (_ : Unit) => -1 ≤ r.toInt ∧ r.toInt ≤ 4) (fun (_ : Unit) (t : State) => ∃ (pl09 : Nat) (sp09 : Nat) (w09 : va_W) (fc29 : Int32) (dc29 : Int32) (rk29 : Nat → Int32) (w29 : va_W) (w39 : va_W) (w49 : va_W) (pc59 : Int32) (w59 : va_W), ((pl09 = sp0 ∧ sp09 = pl0) ∨ (pl09 = pl0 ∧ sp09 = sp0)) ∧ ok_main ad cB cI cJ cZ h0 r0 pl09 sp09 rd0 fi0 se0 fa0 cr0 ra0 pa0 nw0 w09 ∧ ok_plan ad cB cI cJ cZ sp0 r2 fc29 dc29 rk29 w29 ∧ ok_read ad cB cI cJ cZ rd0 r3 tk3 sp0 w39 ∧ ok_tok ad cB cI cJ cZ tk3 r4 (r0 0) w49 ∧ ok_pap ad cB cI cJ cZ pa0 r5 pc59 w59 ∧ va_P (dC, dI) vwCl (List.flatten [w09, w1, w29, w39, w49, w59]) t.heap ∧ va_D (va_A (List.flatten [w0, w1, w2, w3, w4, w5]) sz) (List.flatten [w09, w1, w29, w39, w49, w59])) (va_A (List.flatten [w0, w1, w2, w3, w4, w5]) sz)) 0 0 (va_A (List.flatten [w0, w1, w2, w3, w4, w5]) sz) := by
  refine Met.ofW (cc := cX10_house) (maxL := 3) (ret := (some .int)) (by decide) rfl ?_
  intro p e s m args below meth c s₁ B hml hv
  obtain ⟨rfl, hsz, hP, hK, hD0, hE⟩ := hv
  have hx := B.exec
  have hb := B.bytes
  have hr := B.returns
  have hts := atoms_spec (ws := wsX10_house) B.pre
  have hown : s.vm.findClass RX10 = some m.cls := findClass_of_methodNamed B.named
  have hlocks := B.notSynchronized
  subst hsz
  have hD := hD0.self (sz := s.heap.size)
  generalize hAe : va_A (List.flatten [w0, w1, w2, w3, w4, w5]) s.heap.size = A at hD hE ⊢
  have hA : ∀ q : Nat, s.heap.size ≤ q → A q := fun q h => by rw [← hAe]; exact Or.inr h
  have hS : va_S A s.heap s.heap [] := va_S.rf
  have hl := lv_entry ([.ref h0]) (n := 3) (Nat.le_of_ble_eq_true rfl)
  rw [lg_entry_eq]
  generalize (lg_sl ([.ref h0]) ++ List.replicate (3 - (lg_sl ([.ref h0])).length) Slot.unset).toArray = ls at hl ⊢
  have hl : lv_has ls 3 [(0, .ref h0)] := hl
  clear hAe
  refine W_name (fun Q0 hQ0 => ?_)
  obtain ⟨hx_1, hx_2⟩ := okx_main o0
  obtain ⟨hx_3, hx_4, hx_5, hx_6⟩ := okx_plan o1
  obtain ⟨hx_7, hx_8, hx_9, hx_10⟩ := okx_plan o2
  obtain ⟨hx_11, hx_12⟩ := okx_pap o5
  refine lv_aload_n hx hb dX10_house_0 rfl (lv_at hl 0 rfl) ?_
  obtain ⟨f_13, tp_14, f_17, mv_18, rfl, hl_15, hh_16, hl_19, hh_20⟩ := o0
  refine va_get (D := (dC, dI)) (ci := 8) (v := .ref rd0) (C := RX10) (T := TX10) (N := 14) hx hb hts iw_X10_house_X10 hown hK hP 0 rfl rfl 4 (by decide) (hts (.fieldLink RX10 30 "HungFloors" "reader" "LHungFloors$HouseReader;") (by decide +kernel)) (fun _ h9 => h9) rfl dX10_house_1 ?_
  refine lv_aload_n hx hb dX10_house_4 rfl (lv_at hl 0 rfl) ?_
  refine va_get (D := (dC, dI)) (ci := 8) (v := .ref (r0 0)) (C := RX10) (T := TX10) (N := 14) hx hb hts iw_X10_house_X10 hown hK hP 0 rfl rfl 0 (by decide) (hts (.fieldLink RX10 9 "HungFloors" "tape" "[B") (by decide +kernel)) (fun _ h9 => h9) rfl dX10_house_5 ?_
  refine lv_aload_n hx hb dX10_house_8 rfl (lv_at hl 0 rfl) ?_
  refine va_get (D := (dC, dI)) (ci := 8) (v := .int tp_14) (C := RX10) (T := TX10) (N := 14) hx hb hts iw_X10_house_X10 hown hK hP 0 rfl rfl 1 (by decide) (hts (.fieldLink RX10 13 "HungFloors" "taped" "I") (by decide +kernel)) (fun _ h9 => h9) rfl dX10_house_9 ?_
  refine lv_aload_n hx hb dX10_house_12 rfl (lv_at hl 0 rfl) ?_
  refine va_get (D := (dC, dI)) (ci := 8) (v := .ref sp0) (C := RX10) (T := TX10) (N := 14) hx hb hts iw_X10_house_X10 hown hK hP 0 rfl rfl 3 (by decide) (hts (.fieldLink RX10 24 "HungFloors" "spare" "LHungFloors$Plan;") (by decide +kernel)) (fun _ h9 => h9) rfl dX10_house_13 ?_
  obtain ⟨fk_21, fp_22, rfl⟩ := o3
  have hpm : List.Perm ([[(h0, .inr (8, [.ref (r0 0), .int tp_14, .ref pl0, .ref sp0, .ref rd0, .ref (r0 1), .int mv_18, .ref fi0, .ref se0, .ref fa0, .ref cr0, .ref ra0, .ref pa0, .int nw0]))], [(r0 0, .inl (cB, 1600, .inl f_13))], [(r0 1, .inl (cI, 6, .inl f_17))], w1, w2, [(rd0, .inr (3, [.ref tk3, .ref rp3, .int fk_21, .int fp_22]))], w4, w5] : List va_W) (([[(rd0, .inr (3, [.ref tk3, .ref rp3, .int fk_21, .int fp_22]))], w4, [(r0 0, .inl (cB, 1600, .inl f_13))], w2] : List va_W) ++ ([[(h0, .inr (8, [.ref (r0 0), .int tp_14, .ref pl0, .ref sp0, .ref rd0, .ref (r0 1), .int mv_18, .ref fi0, .ref se0, .ref fa0, .ref cr0, .ref ra0, .ref pa0, .int nw0]))], [(r0 1, .inl (cI, 6, .inl f_17))], w1, w5] : List va_W)) := pm_n 8 [5, 6, 1, 4, 0, 2, 3, 7] (by decide) rfl rfl
  have hPc := bk_P hpm hP
  have hDc := bk_D hpm hD
  have hFc := bk_F hpm hD hS hA
  refine va_calli (va_runV (As := [.ref (r0 0), .int tp_14, .ref sp0]) (rest := []) ⟨hx, hb, hml, hown, hts⟩ (c_X4_readHouse l dC dI ad tN fN cB cI cJ cZ rd0 (r0 0) tp_14 sp0 r3 tk3 rp3 _ r4 tx4 _ _ r2 fc2 dc2 rk2 _ ⟨fk_21, fp_22, rfl⟩ o4 o2 s.heap.size (by omega) (by omega)) (cwV 3 hts gX10_house_X4_readHouse rfl rfl rfl (by decide +kernel) ⟨(Nat.le_of_ble_eq_true rfl), (Nat.le_of_ble_eq_true rfl)⟩) ⟨fun a U g mk q => by obtain ⟨q0, q1, qP, qK, qD, qE⟩ := q; exact ⟨q0, q1, qP, va_K.moved (u := U) (U := U.calling g mk a) (Vm.Alike.refl U.vm) qK, qD, ey_blind qE⟩, va_recv hK hPc (ci := 3) (q0 := 0) rfl rfl, fun U hU hW => ⟨rfl, by rw [hU], by rw [hU]; exact hPc, va_K.moved hW.alike (va_K.sub hK [0, 1, 2, 3] rfl), hDc.weaken (fun _ _ _ _ => trivial), ey_call hE hS hFc hU hW⟩⟩ rfl rfl hl.1 rfl (lv_room (Nat.le_of_ble_eq_true rfl)) dX10_house_16 ⟨(Nat.le_of_ble_eq_true rfl), (Nat.le_of_ble_eq_true rfl)⟩) hS (fun q _ h => hFc q h) hFc (fun r_23 u t H locs ht hvm hw hB hz1 hk1 hS => ?_)
  obtain ⟨w_24, w_26, fc_30, dc_31, fx_32, w_28, o_25, o_27, o_29, hP1, hD1⟩ := hB
  rw [ht] at hP1
  obtain ⟨hP, hD⟩ := bk_join hpm hP hD hk1 hFc (Cs1 := [w_24, w_26, [(r0 0, .inl (cB, 1600, .inl f_13))], w_28]) hP1 hD1
  have hpm2 : List.Perm (([w_24, w_26, [(r0 0, .inl (cB, 1600, .inl f_13))], w_28] : List va_W) ++ ([[(h0, .inr (8, [.ref (r0 0), .int tp_14, .ref pl0, .ref sp0, .ref rd0, .ref (r0 1), .int mv_18, .ref fi0, .ref se0, .ref fa0, .ref cr0, .ref ra0, .ref pa0, .int nw0]))], [(r0 1, .inl (cI, 6, .inl f_17))], w1, w5] : List va_W)) ([[(h0, .inr (8, [.ref (r0 0), .int tp_14, .ref pl0, .ref sp0, .ref rd0, .ref (r0 1), .int mv_18, .ref fi0, .ref se0, .ref fa0, .ref cr0, .ref ra0, .ref pa0, .int nw0]))], [(r0 0, .inl (cB, 1600, .inl f_13))], [(r0 1, .inl (cI, 6, .inl f_17))], w1, w_28, w_24, w_26, w5] : List va_W) := pm_n 8 [4, 2, 5, 6, 3, 0, 1, 7] (by decide) rfl rfl
  have hP := bk_reP hpm2 hP
  have hD := bk_reD hpm2 hD
  have hP : va_P (dC, dI) vwCl (List.flatten [[(h0, .inr (8, [.ref (r0 0), .int tp_14, .ref pl0, .ref sp0, .ref rd0, .ref (r0 1), .int mv_18, .ref fi0, .ref se0, .ref fa0, .ref cr0, .ref ra0, .ref pa0, .int nw0])), (r0 0, .inl (cB, 1600, .inl f_13)), (r0 1, .inl (cI, 6, .inl f_17))], w1, w_28, w_24, w_26, w5]) H := hP
  have hD : va_D A (List.flatten [[(h0, .inr (8, [.ref (r0 0), .int tp_14, .ref pl0, .ref sp0, .ref rd0, .ref (r0 1), .int mv_18, .ref fi0, .ref se0, .ref fa0, .ref cr0, .ref ra0, .ref pa0, .int nw0])), (r0 0, .inl (cB, 1600, .inl f_13)), (r0 1, .inl (cI, 6, .inl f_17))], w1, w_28, w_24, w_26, w5]) := hD
  obtain ⟨hx_33, hx_34, hx_35, hx_36⟩ := okx_plan o_29
  obtain ⟨hlr_23, hhr_23⟩ := hw
  refine lv_if_ne (tgt := 24) hx hb dX10_house_19 (by decide) (fun c_37 => ?_) (fun c_37 => ?_)
  · have c_37 : ¬ r_23.toInt = 0 := f_ne rfl tI_0 c_37
    refine lv_aload_n hx hb dX10_house_24 rfl (lv_at hl 0 rfl) ?_
    refine va_get (D := (dC, dI)) (ci := 8) (v := .ref pl0) (C := RX10) (T := TX10) (N := 14) hx hb hts iw_X10_house_X10 hown hK hP 0 rfl rfl 2 (by decide) (hts (.fieldLink RX10 20 "HungFloors" "plan" "LHungFloors$Plan;") (by decide +kernel)) (fun _ h9 => h9) rfl dX10_house_25 ?_
    refine lv_astore_n (lv' := [(1, .ref pl0), (0, .ref h0)]) hx hb dX10_house_28 rfl hl (by decide) rfl (fun ls hl => ?_)
    refine lv_aload_n hx hb dX10_house_29 rfl (lv_at hl 1 rfl) ?_
    refine lv_aload_n hx hb dX10_house_30 rfl (lv_at hl 1 rfl) ?_
    refine va_get (D := (dC, dI)) (ci := 8) (v := .ref sp0) (C := RX10) (T := TX10) (N := 14) hx hb hts iw_X10_house_X10 hown hK hP 0 rfl rfl 3 (by decide) (hts (.fieldLink RX10 24 "HungFloors" "spare" "LHungFloors$Plan;") (by decide +kernel)) (fun _ h9 => h9) rfl dX10_house_31 ?_
    refine va_put (D := (dC, dI)) (ci := 8) (v := .ref sp0) (ty := .object "HungFloors$Plan") (C := RX10) (T := TX10) (N := 14) hx hb hts iw_X10_house_X10 tyX10 tyX10_ok nmX10 hown hK hP hD hS 0 rfl rfl 2 (by decide) (hts (.fieldLink RX10 20 "HungFloors" "plan" "LHungFloors$Plan;") (by decide +kernel)) (fun _ h9 => h9) rfl (by decide +kernel) rfl rfl (Nat.le_of_ble_eq_true rfl) dX10_house_34 (fun H locs hP hD hS => ?_)
    have hP : va_P (dC, dI) vwCl (List.flatten [[(h0, .inr (8, [.ref (r0 0), .int tp_14, .ref sp0, .ref sp0, .ref rd0, .ref (r0 1), .int mv_18, .ref fi0, .ref se0, .ref fa0, .ref cr0, .ref ra0, .ref pa0, .int nw0])), (r0 0, .inl (cB, 1600, .inl f_13)), (r0 1, .inl (cI, 6, .inl f_17))], w1, w_28, w_24, w_26, w5]) H := hP
    have hD : va_D A (List.flatten [[(h0, .inr (8, [.ref (r0 0), .int tp_14, .ref sp0, .ref sp0, .ref rd0, .ref (r0 1), .int mv_18, .ref fi0, .ref se0, .ref fa0, .ref cr0, .ref ra0, .ref pa0, .int nw0])), (r0 0, .inl (cB, 1600, .inl f_13)), (r0 1, .inl (cI, 6, .inl f_17))], w1, w_28, w_24, w_26, w5]) := hD
    refine lv_aload_n hx hb dX10_house_37 rfl (lv_at hl 1 rfl) ?_
    refine lv_aload_n hx hb dX10_house_38 rfl (lv_at hl 0 rfl) ?_
    refine va_put (D := (dC, dI)) (ci := 8) (v := .ref pl0) (ty := .object "HungFloors$Plan") (C := RX10) (T := TX10) (N := 14) hx hb hts iw_X10_house_X10 tyX10 tyX10_ok nmX10 hown hK hP hD hS 0 rfl rfl 3 (by decide) (hts (.fieldLink RX10 24 "HungFloors" "spare" "LHungFloors$Plan;") (by decide +kernel)) (fun _ h9 => h9) rfl (by decide +kernel) rfl rfl (Nat.le_of_ble_eq_true rfl) dX10_house_39 (fun H locs hP hD hS => ?_)
    have hP : va_P (dC, dI) vwCl (List.flatten [[(h0, .inr (8, [.ref (r0 0), .int tp_14, .ref sp0, .ref pl0, .ref rd0, .ref (r0 1), .int mv_18, .ref fi0, .ref se0, .ref fa0, .ref cr0, .ref ra0, .ref pa0, .int nw0])), (r0 0, .inl (cB, 1600, .inl f_13)), (r0 1, .inl (cI, 6, .inl f_17))], w1, w_28, w_24, w_26, w5]) H := hP
    have hD : va_D A (List.flatten [[(h0, .inr (8, [.ref (r0 0), .int tp_14, .ref sp0, .ref pl0, .ref rd0, .ref (r0 1), .int mv_18, .ref fi0, .ref se0, .ref fa0, .ref cr0, .ref ra0, .ref pa0, .int nw0])), (r0 0, .inl (cB, 1600, .inl f_13)), (r0 1, .inl (cI, 6, .inl f_17))], w1, w_28, w_24, w_26, w5]) := hD
    refine lv_aload_n hx hb dX10_house_42 rfl (lv_at hl 1 rfl) ?_
    refine lv_iconst (v := 0) hx hb dX10_house_43 (by decide) ?_
    refine va_put (D := (dC, dI)) (ci := 8) (v := .int 0) (ty := .int) (C := RX10) (T := TX10) (N := 14) hx hb hts iw_X10_house_X10 tyX10 tyX10_ok nmX10 hown hK hP hD hS 0 rfl rfl 1 (by decide) (hts (.fieldLink RX10 13 "HungFloors" "taped" "I") (by decide +kernel)) (fun _ h9 => h9) rfl (by decide +kernel) rfl rfl (Nat.le_of_ble_eq_true rfl) dX10_house_44 (fun H locs hP hD hS => ?_)
    have hP : va_P (dC, dI) vwCl (List.flatten [[(h0, .inr (8, [.ref (r0 0), .int 0, .ref sp0, .ref pl0, .ref rd0, .ref (r0 1), .int mv_18, .ref fi0, .ref se0, .ref fa0, .ref cr0, .ref ra0, .ref pa0, .int nw0])), (r0 0, .inl (cB, 1600, .inl f_13)), (r0 1, .inl (cI, 6, .inl f_17))], w1, w_28, w_24, w_26, w5]) H := hP
    have hD : va_D A (List.flatten [[(h0, .inr (8, [.ref (r0 0), .int 0, .ref sp0, .ref pl0, .ref rd0, .ref (r0 1), .int mv_18, .ref fi0, .ref se0, .ref fa0, .ref cr0, .ref ra0, .ref pa0, .int nw0])), (r0 0, .inl (cB, 1600, .inl f_13)), (r0 1, .inl (cI, 6, .inl f_17))], w1, w_28, w_24, w_26, w5]) := hD
    refine lv_aload_n hx hb dX10_house_47 rfl (lv_at hl 1 rfl) ?_
    refine lv_iconst (v := 0) hx hb dX10_house_48 (by decide) ?_
    refine va_put (D := (dC, dI)) (ci := 8) (v := .int 0) (ty := .int) (C := RX10) (T := TX10) (N := 14) hx hb hts iw_X10_house_X10 tyX10 tyX10_ok nmX10 hown hK hP hD hS 0 rfl rfl 6 (by decide) (hts (.fieldLink RX10 38 "HungFloors" "moving" "I") (by decide +kernel)) (fun _ h9 => h9) rfl (by decide +kernel) rfl rfl (Nat.le_of_ble_eq_true rfl) dX10_house_49 (fun H locs hP hD hS => ?_)
    have hP : va_P (dC, dI) vwCl (List.flatten [[(h0, .inr (8, [.ref (r0 0), .int 0, .ref sp0, .ref pl0, .ref rd0, .ref (r0 1), .int 0, .ref fi0, .ref se0, .ref fa0, .ref cr0, .ref ra0, .ref pa0, .int nw0])), (r0 0, .inl (cB, 1600, .inl f_13)), (r0 1, .inl (cI, 6, .inl f_17))], w1, w_28, w_24, w_26, w5]) H := hP
    have hD : va_D A (List.flatten [[(h0, .inr (8, [.ref (r0 0), .int 0, .ref sp0, .ref pl0, .ref rd0, .ref (r0 1), .int 0, .ref fi0, .ref se0, .ref fa0, .ref cr0, .ref ra0, .ref pa0, .int nw0])), (r0 0, .inl (cB, 1600, .inl f_13)), (r0 1, .inl (cI, 6, .inl f_17))], w1, w_28, w_24, w_26, w5]) := hD
    refine lv_iconst (v := 0) hx hb dX10_house_52 (by decide) ?_
    refine lv_istore_n (lv' := [(2, .int 0), (1, .ref pl0), (0, .ref h0)]) hx hb dX10_house_53 rfl hl (by decide) rfl (fun ls hl => ?_)
    obtain ⟨f_119, f_120, f_121, f_122, f_125, f_127, f_128, f_130, f_132, rfl, hl_117, hh_118, hl_123, hh_124, hr_126, hr_129, hr_131⟩ := o1
    obtain ⟨f_135, f_136, f_137, f_138, f_141, f_143, f_144, f_146, f_148, rfl, hl_133, hh_134, hl_139, hh_140, hr_142, hr_145, hr_147⟩ := o_29
    obtain ⟨f_151, f_152, f_153, f_154, f_155, f_156, f_157, sc_158, f_161, f_163, f_164, rfl, hl_149, hh_150, hl_159, hh_160, hr_162⟩ := o5
    have lp_193 : ∀ (n : Nat) (g_38 : Int32) (gf_42 : Nat → Int32), 0 ≤ g_38.toInt → g_38.toInt ≤ 70 → (70 - g_38.toInt).toNat < n → ∀ (H : Heap) (locs : List Loc), va_P (dC, dI) vwCl (List.flatten [[(h0, .inr (8, [.ref (r0 0), .int 0, .ref sp0, .ref pl0, .ref rd0, .ref (r0 1), .int 0, .ref fi0, .ref se0, .ref fa0, .ref cr0, .ref ra0, .ref pa0, .int nw0])), (r0 0, .inl (cB, 1600, .inl f_13)), (r0 1, .inl (cI, 6, .inl gf_42))], [(pl0, .inr (5, [.int fc1, .ref (r1 0), .ref (r1 1), .ref (r1 2), .ref (r1 3), .int dc1, .ref (r1 4), .ref (r1 5), .ref (r1 6), .ref (r1 7), .ref (r1 8), .ref (r1 9)])), (r1 0, .inl (cJ, 6, .inr (.inl f_119))), (r1 1, .inl (cI, 6, .inl f_120)), (r1 2, .inl (cI, 6, .inl f_121)), (r1 3, .inl (cI, 6, .inl f_122)), (r1 4, .inl (cJ, 4, .inr (.inl f_125))), (r1 5, .inl (cI, 4, .inl rk1)), (r1 6, .inl (cJ, 40, .inr (.inl f_127))), (r1 7, .inl (cI, 40, .inl f_128)), (r1 8, .inl (cI, 40, .inl f_130)), (r1 9, .inl (cI, 40, .inl f_132))], [(sp0, .inr (5, [.int fc_30, .ref (r2 0), .ref (r2 1), .ref (r2 2), .ref (r2 3), .int dc_31, .ref (r2 4), .ref (r2 5), .ref (r2 6), .ref (r2 7), .ref (r2 8), .ref (r2 9)])), (r2 0, .inl (cJ, 6, .inr (.inl f_135))), (r2 1, .inl (cI, 6, .inl f_136)), (r2 2, .inl (cI, 6, .inl f_137)), (r2 3, .inl (cI, 6, .inl f_138)), (r2 4, .inl (cJ, 4, .inr (.inl f_141))), (r2 5, .inl (cI, 4, .inl fx_32)), (r2 6, .inl (cJ, 40, .inr (.inl f_143))), (r2 7, .inl (cI, 40, .inl f_144)), (r2 8, .inl (cI, 40, .inl f_146)), (r2 9, .inl (cI, 40, .inl f_148))], w_24, w_26, [(pa0, .inr (4, [.int pc5, .ref (r5 0), .ref (r5 1), .ref (r5 2), .ref (r5 3), .ref (r5 4), .ref (r5 5), .ref (r5 6), .int sc_158, .ref (r5 7), .ref (r5 8), .ref (r5 9)])), (r5 0, .inl (cI, 60, .inl f_151)), (r5 1, .inl (cI, 60, .inl f_152)), (r5 2, .inl (cI, 60, .inl f_153)), (r5 3, .inl (cI, 60, .inl f_154)), (r5 4, .inl (cZ, 60, .inl f_155)), (r5 5, .inl (cI, 60, .inl f_156)), (r5 6, .inl (cI, 60, .inl f_157)), (r5 7, .inl (cI, 9, .inl f_161)), (r5 8, .inl (cI, 9, .inl f_163)), (r5 9, .inl (cI, 9, .inl f_164))]]) H → va_D A (List.flatten [[(h0, .inr (8, [.ref (r0 0), .int 0, .ref sp0, .ref pl0, .ref rd0, .ref (r0 1), .int 0, .ref fi0, .ref se0, .ref fa0, .ref cr0, .ref ra0, .ref pa0, .int nw0])), (r0 0, .inl (cB, 1600, .inl f_13)), (r0 1, .inl (cI, 6, .inl gf_42))], [(pl0, .inr (5, [.int fc1, .ref (r1 0), .ref (r1 1), .ref (r1 2), .ref (r1 3), .int dc1, .ref (r1 4), .ref (r1 5), .ref (r1 6), .ref (r1 7), .ref (r1 8), .ref (r1 9)])), (r1 0, .inl (cJ, 6, .inr (.inl f_119))), (r1 1, .inl (cI, 6, .inl f_120)), (r1 2, .inl (cI, 6, .inl f_121)), (r1 3, .inl (cI, 6, .inl f_122)), (r1 4, .inl (cJ, 4, .inr (.inl f_125))), (r1 5, .inl (cI, 4, .inl rk1)), (r1 6, .inl (cJ, 40, .inr (.inl f_127))), (r1 7, .inl (cI, 40, .inl f_128)), (r1 8, .inl (cI, 40, .inl f_130)), (r1 9, .inl (cI, 40, .inl f_132))], [(sp0, .inr (5, [.int fc_30, .ref (r2 0), .ref (r2 1), .ref (r2 2), .ref (r2 3), .int dc_31, .ref (r2 4), .ref (r2 5), .ref (r2 6), .ref (r2 7), .ref (r2 8), .ref (r2 9)])), (r2 0, .inl (cJ, 6, .inr (.inl f_135))), (r2 1, .inl (cI, 6, .inl f_136)), (r2 2, .inl (cI, 6, .inl f_137)), (r2 3, .inl (cI, 6, .inl f_138)), (r2 4, .inl (cJ, 4, .inr (.inl f_141))), (r2 5, .inl (cI, 4, .inl fx_32)), (r2 6, .inl (cJ, 40, .inr (.inl f_143))), (r2 7, .inl (cI, 40, .inl f_144)), (r2 8, .inl (cI, 40, .inl f_146)), (r2 9, .inl (cI, 40, .inl f_148))], w_24, w_26, [(pa0, .inr (4, [.int pc5, .ref (r5 0), .ref (r5 1), .ref (r5 2), .ref (r5 3), .ref (r5 4), .ref (r5 5), .ref (r5 6), .int sc_158, .ref (r5 7), .ref (r5 8), .ref (r5 9)])), (r5 0, .inl (cI, 60, .inl f_151)), (r5 1, .inl (cI, 60, .inl f_152)), (r5 2, .inl (cI, 60, .inl f_153)), (r5 3, .inl (cI, 60, .inl f_154)), (r5 4, .inl (cZ, 60, .inl f_155)), (r5 5, .inl (cI, 60, .inl f_156)), (r5 6, .inl (cI, 60, .inl f_157)), (r5 7, .inl (cI, 9, .inl f_161)), (r5 8, .inl (cI, 9, .inl f_163)), (r5 9, .inl (cI, 9, .inl f_164))]]) → va_S A s.heap H locs → ∀ (ls : Array Slot), lv_has ls 3 [(2, .int g_38), (1, .ref pl0), (0, .ref h0)] → W p l e (headSpec wsX10_house ({ frames := 7, cells := 0, slots := 0, locals := 163 } : Room)).room s m ([.ref h0] : List Value).toArray below meth c H locs 0 0 Q0 (F0 m 54 ls []) := by
      intro n
      induction n with
      | zero => intro g_38 gf_42 iv_191 iv_192 hm; exact absurd hm (Nat.not_lt_zero _)
      | succ n ih_194 =>
        intro g_38 gf_42 iv_191 iv_192 hm H locs hP hD hS ls hl
        refine lv_iload_n hx hb dX10_house_54 rfl (lv_at hl 0 rfl) ?_
        refine lv_bipush (v := 6) hx hb dX10_house_55 (by decide) ?_
        refine lv_icmp_ge (tgt := 73) hx hb dX10_house_57 (by decide) (fun c_195 => ?_) (fun c_195 => ?_)
        · have c_195 : 6 ≤ g_38.toInt := f_le tI_6 rfl c_195
          refine lv_aload_n hx hb dX10_house_73 rfl (lv_at hl 2 rfl) ?_
          refine va_get (D := (dC, dI)) (ci := 8) (v := .ref pa0) (C := RX10) (T := TX10) (N := 14) hx hb hts iw_X10_house_X10 hown hK hP 0 rfl rfl 12 (by decide) (hts (.fieldLink RX10 75 "HungFloors" "papers" "LHungFloors$Papers;") (by decide +kernel)) (fun _ h9 => h9) rfl dX10_house_74 ?_
          have hpm : List.Perm ([[(h0, .inr (8, [.ref (r0 0), .int 0, .ref sp0, .ref pl0, .ref rd0, .ref (r0 1), .int 0, .ref fi0, .ref se0, .ref fa0, .ref cr0, .ref ra0, .ref pa0, .int nw0])), (r0 0, .inl (cB, 1600, .inl f_13)), (r0 1, .inl (cI, 6, .inl gf_42))], [(pl0, .inr (5, [.int fc1, .ref (r1 0), .ref (r1 1), .ref (r1 2), .ref (r1 3), .int dc1, .ref (r1 4), .ref (r1 5), .ref (r1 6), .ref (r1 7), .ref (r1 8), .ref (r1 9)])), (r1 0, .inl (cJ, 6, .inr (.inl f_119))), (r1 1, .inl (cI, 6, .inl f_120)), (r1 2, .inl (cI, 6, .inl f_121)), (r1 3, .inl (cI, 6, .inl f_122)), (r1 4, .inl (cJ, 4, .inr (.inl f_125))), (r1 5, .inl (cI, 4, .inl rk1)), (r1 6, .inl (cJ, 40, .inr (.inl f_127))), (r1 7, .inl (cI, 40, .inl f_128)), (r1 8, .inl (cI, 40, .inl f_130)), (r1 9, .inl (cI, 40, .inl f_132))], [(sp0, .inr (5, [.int fc_30, .ref (r2 0), .ref (r2 1), .ref (r2 2), .ref (r2 3), .int dc_31, .ref (r2 4), .ref (r2 5), .ref (r2 6), .ref (r2 7), .ref (r2 8), .ref (r2 9)])), (r2 0, .inl (cJ, 6, .inr (.inl f_135))), (r2 1, .inl (cI, 6, .inl f_136)), (r2 2, .inl (cI, 6, .inl f_137)), (r2 3, .inl (cI, 6, .inl f_138)), (r2 4, .inl (cJ, 4, .inr (.inl f_141))), (r2 5, .inl (cI, 4, .inl fx_32)), (r2 6, .inl (cJ, 40, .inr (.inl f_143))), (r2 7, .inl (cI, 40, .inl f_144)), (r2 8, .inl (cI, 40, .inl f_146)), (r2 9, .inl (cI, 40, .inl f_148))], w_24, w_26, [(pa0, .inr (4, [.int pc5, .ref (r5 0), .ref (r5 1), .ref (r5 2), .ref (r5 3), .ref (r5 4), .ref (r5 5), .ref (r5 6), .int sc_158, .ref (r5 7), .ref (r5 8), .ref (r5 9)])), (r5 0, .inl (cI, 60, .inl f_151)), (r5 1, .inl (cI, 60, .inl f_152)), (r5 2, .inl (cI, 60, .inl f_153)), (r5 3, .inl (cI, 60, .inl f_154)), (r5 4, .inl (cZ, 60, .inl f_155)), (r5 5, .inl (cI, 60, .inl f_156)), (r5 6, .inl (cI, 60, .inl f_157)), (r5 7, .inl (cI, 9, .inl f_161)), (r5 8, .inl (cI, 9, .inl f_163)), (r5 9, .inl (cI, 9, .inl f_164))]] : List va_W) (([[(pa0, .inr (4, [.int pc5, .ref (r5 0), .ref (r5 1), .ref (r5 2), .ref (r5 3), .ref (r5 4), .ref (r5 5), .ref (r5 6), .int sc_158, .ref (r5 7), .ref (r5 8), .ref (r5 9)])), (r5 0, .inl (cI, 60, .inl f_151)), (r5 1, .inl (cI, 60, .inl f_152)), (r5 2, .inl (cI, 60, .inl f_153)), (r5 3, .inl (cI, 60, .inl f_154)), (r5 4, .inl (cZ, 60, .inl f_155)), (r5 5, .inl (cI, 60, .inl f_156)), (r5 6, .inl (cI, 60, .inl f_157)), (r5 7, .inl (cI, 9, .inl f_161)), (r5 8, .inl (cI, 9, .inl f_163)), (r5 9, .inl (cI, 9, .inl f_164))]] : List va_W) ++ ([[(h0, .inr (8, [.ref (r0 0), .int 0, .ref sp0, .ref pl0, .ref rd0, .ref (r0 1), .int 0, .ref fi0, .ref se0, .ref fa0, .ref cr0, .ref ra0, .ref pa0, .int nw0])), (r0 0, .inl (cB, 1600, .inl f_13)), (r0 1, .inl (cI, 6, .inl gf_42))], [(pl0, .inr (5, [.int fc1, .ref (r1 0), .ref (r1 1), .ref (r1 2), .ref (r1 3), .int dc1, .ref (r1 4), .ref (r1 5), .ref (r1 6), .ref (r1 7), .ref (r1 8), .ref (r1 9)])), (r1 0, .inl (cJ, 6, .inr (.inl f_119))), (r1 1, .inl (cI, 6, .inl f_120)), (r1 2, .inl (cI, 6, .inl f_121)), (r1 3, .inl (cI, 6, .inl f_122)), (r1 4, .inl (cJ, 4, .inr (.inl f_125))), (r1 5, .inl (cI, 4, .inl rk1)), (r1 6, .inl (cJ, 40, .inr (.inl f_127))), (r1 7, .inl (cI, 40, .inl f_128)), (r1 8, .inl (cI, 40, .inl f_130)), (r1 9, .inl (cI, 40, .inl f_132))], [(sp0, .inr (5, [.int fc_30, .ref (r2 0), .ref (r2 1), .ref (r2 2), .ref (r2 3), .int dc_31, .ref (r2 4), .ref (r2 5), .ref (r2 6), .ref (r2 7), .ref (r2 8), .ref (r2 9)])), (r2 0, .inl (cJ, 6, .inr (.inl f_135))), (r2 1, .inl (cI, 6, .inl f_136)), (r2 2, .inl (cI, 6, .inl f_137)), (r2 3, .inl (cI, 6, .inl f_138)), (r2 4, .inl (cJ, 4, .inr (.inl f_141))), (r2 5, .inl (cI, 4, .inl fx_32)), (r2 6, .inl (cJ, 40, .inr (.inl f_143))), (r2 7, .inl (cI, 40, .inl f_144)), (r2 8, .inl (cI, 40, .inl f_146)), (r2 9, .inl (cI, 40, .inl f_148))], w_24, w_26] : List va_W)) := pm_n 6 [5, 0, 1, 2, 3, 4] (by decide) rfl rfl
          have hPc := bk_P hpm hP
          have hDc := bk_D hpm hD
          have hFc := bk_F hpm hD hS hA
          refine va_callv (va_runV (As := []) (rest := []) ⟨hx, hb, hml, hown, hts⟩ (c_X6_forgetAll l dC dI ad tN fN cB cI cJ cZ pa0 r5 pc5 _ ⟨f_151, f_152, f_153, f_154, f_155, f_156, f_157, sc_158, f_161, f_163, f_164, rfl, by omega, by omega, by omega, by omega, hr_162⟩ H.size) (cwV 0 hts gX10_house_X6_forgetAll rfl rfl rfl (by decide +kernel) ⟨(Nat.le_of_ble_eq_true rfl), (Nat.le_of_ble_eq_true rfl)⟩) ⟨fun a U g mk q => by obtain ⟨q0, q1, qP, qK, qD, qE⟩ := q; exact ⟨q0, q1, qP, va_K.moved (u := U) (U := U.calling g mk a) (Vm.Alike.refl U.vm) qK, qD, ey_blind qE⟩, va_recv hK hPc (ci := 4) (q0 := 0) rfl rfl, fun U hU hW => ⟨rfl, by rw [hU], by rw [hU]; exact hPc, va_K.moved hW.alike (va_K.sub hK [0, 1, 2, 3] rfl), hDc.weaken (fun _ _ _ _ => trivial), ey_call hE hS hFc hU hW⟩⟩ rfl rfl hl.1 rfl (lv_room (Nat.le_of_ble_eq_true rfl)) dX10_house_77 ⟨(Nat.le_of_ble_eq_true rfl), (Nat.le_of_ble_eq_true rfl)⟩) hS (fun q _ h => hFc q h) hFc (fun u t H locs ht hvm hw hB hz1 hk1 hS => ?_)
          obtain ⟨w_197, o_198, hP1, hD1⟩ := hB
          rw [ht] at hP1
          obtain ⟨hP, hD⟩ := bk_join hpm hP hD hk1 hFc (Cs1 := [w_197]) hP1 hD1
          have hpm2 : List.Perm (([w_197] : List va_W) ++ ([[(h0, .inr (8, [.ref (r0 0), .int 0, .ref sp0, .ref pl0, .ref rd0, .ref (r0 1), .int 0, .ref fi0, .ref se0, .ref fa0, .ref cr0, .ref ra0, .ref pa0, .int nw0])), (r0 0, .inl (cB, 1600, .inl f_13)), (r0 1, .inl (cI, 6, .inl gf_42))], [(pl0, .inr (5, [.int fc1, .ref (r1 0), .ref (r1 1), .ref (r1 2), .ref (r1 3), .int dc1, .ref (r1 4), .ref (r1 5), .ref (r1 6), .ref (r1 7), .ref (r1 8), .ref (r1 9)])), (r1 0, .inl (cJ, 6, .inr (.inl f_119))), (r1 1, .inl (cI, 6, .inl f_120)), (r1 2, .inl (cI, 6, .inl f_121)), (r1 3, .inl (cI, 6, .inl f_122)), (r1 4, .inl (cJ, 4, .inr (.inl f_125))), (r1 5, .inl (cI, 4, .inl rk1)), (r1 6, .inl (cJ, 40, .inr (.inl f_127))), (r1 7, .inl (cI, 40, .inl f_128)), (r1 8, .inl (cI, 40, .inl f_130)), (r1 9, .inl (cI, 40, .inl f_132))], [(sp0, .inr (5, [.int fc_30, .ref (r2 0), .ref (r2 1), .ref (r2 2), .ref (r2 3), .int dc_31, .ref (r2 4), .ref (r2 5), .ref (r2 6), .ref (r2 7), .ref (r2 8), .ref (r2 9)])), (r2 0, .inl (cJ, 6, .inr (.inl f_135))), (r2 1, .inl (cI, 6, .inl f_136)), (r2 2, .inl (cI, 6, .inl f_137)), (r2 3, .inl (cI, 6, .inl f_138)), (r2 4, .inl (cJ, 4, .inr (.inl f_141))), (r2 5, .inl (cI, 4, .inl fx_32)), (r2 6, .inl (cJ, 40, .inr (.inl f_143))), (r2 7, .inl (cI, 40, .inl f_144)), (r2 8, .inl (cI, 40, .inl f_146)), (r2 9, .inl (cI, 40, .inl f_148))], w_24, w_26] : List va_W)) ([[(h0, .inr (8, [.ref (r0 0), .int 0, .ref sp0, .ref pl0, .ref rd0, .ref (r0 1), .int 0, .ref fi0, .ref se0, .ref fa0, .ref cr0, .ref ra0, .ref pa0, .int nw0])), (r0 0, .inl (cB, 1600, .inl f_13)), (r0 1, .inl (cI, 6, .inl gf_42))], [(pl0, .inr (5, [.int fc1, .ref (r1 0), .ref (r1 1), .ref (r1 2), .ref (r1 3), .int dc1, .ref (r1 4), .ref (r1 5), .ref (r1 6), .ref (r1 7), .ref (r1 8), .ref (r1 9)])), (r1 0, .inl (cJ, 6, .inr (.inl f_119))), (r1 1, .inl (cI, 6, .inl f_120)), (r1 2, .inl (cI, 6, .inl f_121)), (r1 3, .inl (cI, 6, .inl f_122)), (r1 4, .inl (cJ, 4, .inr (.inl f_125))), (r1 5, .inl (cI, 4, .inl rk1)), (r1 6, .inl (cJ, 40, .inr (.inl f_127))), (r1 7, .inl (cI, 40, .inl f_128)), (r1 8, .inl (cI, 40, .inl f_130)), (r1 9, .inl (cI, 40, .inl f_132))], [(sp0, .inr (5, [.int fc_30, .ref (r2 0), .ref (r2 1), .ref (r2 2), .ref (r2 3), .int dc_31, .ref (r2 4), .ref (r2 5), .ref (r2 6), .ref (r2 7), .ref (r2 8), .ref (r2 9)])), (r2 0, .inl (cJ, 6, .inr (.inl f_135))), (r2 1, .inl (cI, 6, .inl f_136)), (r2 2, .inl (cI, 6, .inl f_137)), (r2 3, .inl (cI, 6, .inl f_138)), (r2 4, .inl (cJ, 4, .inr (.inl f_141))), (r2 5, .inl (cI, 4, .inl fx_32)), (r2 6, .inl (cJ, 40, .inr (.inl f_143))), (r2 7, .inl (cI, 40, .inl f_144)), (r2 8, .inl (cI, 40, .inl f_146)), (r2 9, .inl (cI, 40, .inl f_148))], w_24, w_26, w_197] : List va_W) := pm_n 6 [1, 2, 3, 4, 5, 0] (by decide) rfl rfl
          have hP := bk_reP hpm2 hP
          have hD := bk_reD hpm2 hD
          have hP : va_P (dC, dI) vwCl (List.flatten [[(h0, .inr (8, [.ref (r0 0), .int 0, .ref sp0, .ref pl0, .ref rd0, .ref (r0 1), .int 0, .ref fi0, .ref se0, .ref fa0, .ref cr0, .ref ra0, .ref pa0, .int nw0])), (r0 0, .inl (cB, 1600, .inl f_13)), (r0 1, .inl (cI, 6, .inl gf_42))], [(pl0, .inr (5, [.int fc1, .ref (r1 0), .ref (r1 1), .ref (r1 2), .ref (r1 3), .int dc1, .ref (r1 4), .ref (r1 5), .ref (r1 6), .ref (r1 7), .ref (r1 8), .ref (r1 9)])), (r1 0, .inl (cJ, 6, .inr (.inl f_119))), (r1 1, .inl (cI, 6, .inl f_120)), (r1 2, .inl (cI, 6, .inl f_121)), (r1 3, .inl (cI, 6, .inl f_122)), (r1 4, .inl (cJ, 4, .inr (.inl f_125))), (r1 5, .inl (cI, 4, .inl rk1)), (r1 6, .inl (cJ, 40, .inr (.inl f_127))), (r1 7, .inl (cI, 40, .inl f_128)), (r1 8, .inl (cI, 40, .inl f_130)), (r1 9, .inl (cI, 40, .inl f_132))], [(sp0, .inr (5, [.int fc_30, .ref (r2 0), .ref (r2 1), .ref (r2 2), .ref (r2 3), .int dc_31, .ref (r2 4), .ref (r2 5), .ref (r2 6), .ref (r2 7), .ref (r2 8), .ref (r2 9)])), (r2 0, .inl (cJ, 6, .inr (.inl f_135))), (r2 1, .inl (cI, 6, .inl f_136)), (r2 2, .inl (cI, 6, .inl f_137)), (r2 3, .inl (cI, 6, .inl f_138)), (r2 4, .inl (cJ, 4, .inr (.inl f_141))), (r2 5, .inl (cI, 4, .inl fx_32)), (r2 6, .inl (cJ, 40, .inr (.inl f_143))), (r2 7, .inl (cI, 40, .inl f_144)), (r2 8, .inl (cI, 40, .inl f_146)), (r2 9, .inl (cI, 40, .inl f_148))], w_24, w_26, w_197]) H := hP
          have hD : va_D A (List.flatten [[(h0, .inr (8, [.ref (r0 0), .int 0, .ref sp0, .ref pl0, .ref rd0, .ref (r0 1), .int 0, .ref fi0, .ref se0, .ref fa0, .ref cr0, .ref ra0, .ref pa0, .int nw0])), (r0 0, .inl (cB, 1600, .inl f_13)), (r0 1, .inl (cI, 6, .inl gf_42))], [(pl0, .inr (5, [.int fc1, .ref (r1 0), .ref (r1 1), .ref (r1 2), .ref (r1 3), .int dc1, .ref (r1 4), .ref (r1 5), .ref (r1 6), .ref (r1 7), .ref (r1 8), .ref (r1 9)])), (r1 0, .inl (cJ, 6, .inr (.inl f_119))), (r1 1, .inl (cI, 6, .inl f_120)), (r1 2, .inl (cI, 6, .inl f_121)), (r1 3, .inl (cI, 6, .inl f_122)), (r1 4, .inl (cJ, 4, .inr (.inl f_125))), (r1 5, .inl (cI, 4, .inl rk1)), (r1 6, .inl (cJ, 40, .inr (.inl f_127))), (r1 7, .inl (cI, 40, .inl f_128)), (r1 8, .inl (cI, 40, .inl f_130)), (r1 9, .inl (cI, 40, .inl f_132))], [(sp0, .inr (5, [.int fc_30, .ref (r2 0), .ref (r2 1), .ref (r2 2), .ref (r2 3), .int dc_31, .ref (r2 4), .ref (r2 5), .ref (r2 6), .ref (r2 7), .ref (r2 8), .ref (r2 9)])), (r2 0, .inl (cJ, 6, .inr (.inl f_135))), (r2 1, .inl (cI, 6, .inl f_136)), (r2 2, .inl (cI, 6, .inl f_137)), (r2 3, .inl (cI, 6, .inl f_138)), (r2 4, .inl (cJ, 4, .inr (.inl f_141))), (r2 5, .inl (cI, 4, .inl fx_32)), (r2 6, .inl (cJ, 40, .inr (.inl f_143))), (r2 7, .inl (cI, 40, .inl f_144)), (r2 8, .inl (cI, 40, .inl f_146)), (r2 9, .inl (cI, 40, .inl f_148))], w_24, w_26, w_197]) := hD
          obtain ⟨hx_199, hx_200⟩ := okx_pap o_198
          refine lv_aload_n hx hb dX10_house_80 rfl (lv_at hl 2 rfl) ?_
          refine va_get (D := (dC, dI)) (ci := 8) (v := .ref sp0) (C := RX10) (T := TX10) (N := 14) hx hb hts iw_X10_house_X10 hown hK hP 0 rfl rfl 2 (by decide) (hts (.fieldLink RX10 20 "HungFloors" "plan" "LHungFloors$Plan;") (by decide +kernel)) (fun _ h9 => h9) rfl dX10_house_81 ?_
          refine va_get (D := (dC, dI)) (ci := 5) (v := .int dc_31) (C := RX7) (T := TX7) (N := 12) hx hb hts iw_X10_house_X7 hown hK hP 14 rfl rfl 5 (by decide) (hts (.fieldLink RX10 93 "HungFloors$Plan" "drawingCount" "I") (by decide +kernel)) (fun _ h9 => h9) rfl dX10_house_84 ?_
          rw [hQ0]
          exact W.iret (v := dc_31) hx hb hr (fun t ht hW => ⟨⟨dc_31, (), rfl, ⟨by omega, by omega⟩, ⟨sp0, pl0, _, fc_30, dc_31, fx_32, _, _, _, 0, _, Or.inl ⟨rfl, rfl⟩, ⟨f_13, 0, gf_42, 0, rfl, by decide, by decide, by omega, by omega⟩, ⟨f_135, f_136, f_137, f_138, f_141, f_143, f_144, f_146, f_148, rfl, by omega, by omega, by omega, by omega, hr_142, hr_145, hr_147⟩, o_25, o_27, o_198, by rw [ht]; exact hP, hD⟩⟩, hS.F ht⟩) hS.2.2 dX10_house_87
        · have c_195 : g_38.toInt < 6 := f_nle tI_6 rfl c_195
          refine lv_aload_n hx hb dX10_house_60 rfl (lv_at hl 2 rfl) ?_
          refine va_get (D := (dC, dI)) (ci := 8) (v := .ref (r0 1)) (C := RX10) (T := TX10) (N := 14) hx hb hts iw_X10_house_X10 hown hK hP 0 rfl rfl 5 (by decide) (hts (.fieldLink RX10 34 "HungFloors" "people" "[I") (by decide +kernel)) (fun _ h9 => h9) rfl dX10_house_61 ?_
          refine lv_iload_n hx hb dX10_house_64 rfl (lv_at hl 0 rfl) ?_
          refine lv_iconst (v := 0) hx hb dX10_house_65 (by decide) ?_
          refine va_iast hx hb hK hP hD hS 2 1 rfl rfl (v_in rfl (by omega) (by omega)) dX10_house_66 (fun H locs hP hD hS => ?_)
          obtain ⟨f_201, hP, hD⟩ : ∃ f_201 : Nat → Int32, va_P (dC, dI) vwCl (List.flatten [[(h0, .inr (8, [.ref (r0 0), .int 0, .ref sp0, .ref pl0, .ref rd0, .ref (r0 1), .int 0, .ref fi0, .ref se0, .ref fa0, .ref cr0, .ref ra0, .ref pa0, .int nw0])), (r0 0, .inl (cB, 1600, .inl f_13)), (r0 1, .inl (cI, 6, .inl f_201))], [(pl0, .inr (5, [.int fc1, .ref (r1 0), .ref (r1 1), .ref (r1 2), .ref (r1 3), .int dc1, .ref (r1 4), .ref (r1 5), .ref (r1 6), .ref (r1 7), .ref (r1 8), .ref (r1 9)])), (r1 0, .inl (cJ, 6, .inr (.inl f_119))), (r1 1, .inl (cI, 6, .inl f_120)), (r1 2, .inl (cI, 6, .inl f_121)), (r1 3, .inl (cI, 6, .inl f_122)), (r1 4, .inl (cJ, 4, .inr (.inl f_125))), (r1 5, .inl (cI, 4, .inl rk1)), (r1 6, .inl (cJ, 40, .inr (.inl f_127))), (r1 7, .inl (cI, 40, .inl f_128)), (r1 8, .inl (cI, 40, .inl f_130)), (r1 9, .inl (cI, 40, .inl f_132))], [(sp0, .inr (5, [.int fc_30, .ref (r2 0), .ref (r2 1), .ref (r2 2), .ref (r2 3), .int dc_31, .ref (r2 4), .ref (r2 5), .ref (r2 6), .ref (r2 7), .ref (r2 8), .ref (r2 9)])), (r2 0, .inl (cJ, 6, .inr (.inl f_135))), (r2 1, .inl (cI, 6, .inl f_136)), (r2 2, .inl (cI, 6, .inl f_137)), (r2 3, .inl (cI, 6, .inl f_138)), (r2 4, .inl (cJ, 4, .inr (.inl f_141))), (r2 5, .inl (cI, 4, .inl fx_32)), (r2 6, .inl (cJ, 40, .inr (.inl f_143))), (r2 7, .inl (cI, 40, .inl f_144)), (r2 8, .inl (cI, 40, .inl f_146)), (r2 9, .inl (cI, 40, .inl f_148))], w_24, w_26, [(pa0, .inr (4, [.int pc5, .ref (r5 0), .ref (r5 1), .ref (r5 2), .ref (r5 3), .ref (r5 4), .ref (r5 5), .ref (r5 6), .int sc_158, .ref (r5 7), .ref (r5 8), .ref (r5 9)])), (r5 0, .inl (cI, 60, .inl f_151)), (r5 1, .inl (cI, 60, .inl f_152)), (r5 2, .inl (cI, 60, .inl f_153)), (r5 3, .inl (cI, 60, .inl f_154)), (r5 4, .inl (cZ, 60, .inl f_155)), (r5 5, .inl (cI, 60, .inl f_156)), (r5 6, .inl (cI, 60, .inl f_157)), (r5 7, .inl (cI, 9, .inl f_161)), (r5 8, .inl (cI, 9, .inl f_163)), (r5 9, .inl (cI, 9, .inl f_164))]]) H ∧ va_D A (List.flatten [[(h0, .inr (8, [.ref (r0 0), .int 0, .ref sp0, .ref pl0, .ref rd0, .ref (r0 1), .int 0, .ref fi0, .ref se0, .ref fa0, .ref cr0, .ref ra0, .ref pa0, .int nw0])), (r0 0, .inl (cB, 1600, .inl f_13)), (r0 1, .inl (cI, 6, .inl f_201))], [(pl0, .inr (5, [.int fc1, .ref (r1 0), .ref (r1 1), .ref (r1 2), .ref (r1 3), .int dc1, .ref (r1 4), .ref (r1 5), .ref (r1 6), .ref (r1 7), .ref (r1 8), .ref (r1 9)])), (r1 0, .inl (cJ, 6, .inr (.inl f_119))), (r1 1, .inl (cI, 6, .inl f_120)), (r1 2, .inl (cI, 6, .inl f_121)), (r1 3, .inl (cI, 6, .inl f_122)), (r1 4, .inl (cJ, 4, .inr (.inl f_125))), (r1 5, .inl (cI, 4, .inl rk1)), (r1 6, .inl (cJ, 40, .inr (.inl f_127))), (r1 7, .inl (cI, 40, .inl f_128)), (r1 8, .inl (cI, 40, .inl f_130)), (r1 9, .inl (cI, 40, .inl f_132))], [(sp0, .inr (5, [.int fc_30, .ref (r2 0), .ref (r2 1), .ref (r2 2), .ref (r2 3), .int dc_31, .ref (r2 4), .ref (r2 5), .ref (r2 6), .ref (r2 7), .ref (r2 8), .ref (r2 9)])), (r2 0, .inl (cJ, 6, .inr (.inl f_135))), (r2 1, .inl (cI, 6, .inl f_136)), (r2 2, .inl (cI, 6, .inl f_137)), (r2 3, .inl (cI, 6, .inl f_138)), (r2 4, .inl (cJ, 4, .inr (.inl f_141))), (r2 5, .inl (cI, 4, .inl fx_32)), (r2 6, .inl (cJ, 40, .inr (.inl f_143))), (r2 7, .inl (cI, 40, .inl f_144)), (r2 8, .inl (cI, 40, .inl f_146)), (r2 9, .inl (cI, 40, .inl f_148))], w_24, w_26, [(pa0, .inr (4, [.int pc5, .ref (r5 0), .ref (r5 1), .ref (r5 2), .ref (r5 3), .ref (r5 4), .ref (r5 5), .ref (r5 6), .int sc_158, .ref (r5 7), .ref (r5 8), .ref (r5 9)])), (r5 0, .inl (cI, 60, .inl f_151)), (r5 1, .inl (cI, 60, .inl f_152)), (r5 2, .inl (cI, 60, .inl f_153)), (r5 3, .inl (cI, 60, .inl f_154)), (r5 4, .inl (cZ, 60, .inl f_155)), (r5 5, .inl (cI, 60, .inl f_156)), (r5 6, .inl (cI, 60, .inl f_157)), (r5 7, .inl (cI, 9, .inl f_161)), (r5 8, .inl (cI, 9, .inl f_163)), (r5 9, .inl (cI, 9, .inl f_164))]]) := ⟨_, hP, hD⟩
          obtain ⟨z_202, ez_202⟩ : ∃ y : Int32, y = g_38 + 1 := ⟨_, rfl⟩
          have hz_202 : z_202.toInt = g_38.toInt + 1 := by rw [ez_202]; exact t_add rfl tI_1 (by omega) (by omega)
          refine lv_iinc (v := z_202) (lv' := [(2, .int z_202), (1, .ref pl0), (0, .ref h0)]) hx hb dX10_house_67 hl (k := 0) rfl (by rw [ez_202]; rfl) (by decide) rfl (fun ls hl => ?_)
          refine lv_goto (tgt := 54) hx hb dX10_house_70 (by decide) ?_
          exact ih_194 z_202 f_201 (by omega) (by omega) (by omega) _ _ hP hD hS ls (lv_sub hl [0, 1, 2] rfl)
    exact lp_193 _ 0 f_17 (by have := tI_0; omega) (by have := tI_0; omega) (Nat.lt_succ_self _) _ _ hP hD hS ls (lv_sub hl [0, 1, 2] rfl)
  · have c_37 : r_23.toInt = 0 := f_eq rfl tI_0 c_37
    refine lv_iconst (v := (-1)) hx hb dX10_house_22 (by decide) ?_
    rw [hQ0]
    exact W.iret (v := (-1)) hx hb hr (fun t ht hW => ⟨⟨(-1), (), rfl, ⟨by decide, by decide⟩, ⟨pl0, sp0, _, fc_30, dc_31, fx_32, _, _, _, pc5, _, Or.inr (⟨rfl, rfl⟩), ⟨f_13, tp_14, f_17, mv_18, rfl, by omega, by omega, by omega, by omega⟩, o_29, o_25, o_27, o5, by rw [ht]; exact hP, hD⟩⟩, hS.F ht⟩) hS.2.2 dX10_house_23
theorem iw_X10_isFloor_X10 : ∀ w ∈ wsX100, w ∈ wsX10_isFloor := fun _ h => List.mem_cons_of_mem _ (List.mem_append_left _ (List.mem_append_right _ h))
theorem iw_X10_isFloor_X7 : ∀ w ∈ wsX70, w ∈ wsX10_isFloor := fun _ h => List.mem_cons_of_mem _ (List.mem_append_right _ h)
set_option maxHeartbeats 4000000 in
set_option maxRecDepth 100000 in
theorem c_X10_isFloor (l : Launch) (dC : Nat → ClassId) (dI : Nat → Nat → Nat) (ad : Nat → Nat) (tN : Nat) (fN : Nat → Int64) (cB cI cJ cZ cQ : ClassId) (h0 : Nat) (p1 : Int32) (r0 : Nat → Nat) (pl0 : Nat) (sp0 : Nat) (rd0 : Nat) (fi0 : Nat) (se0 : Nat) (fa0 : Nat) (cr0 : Nat) (ra0 : Nat) (pa0 : Nat) (nw0 : Int32) (w0 : va_W) (r1 : Nat → Nat) (fc1 : Int32) (dc1 : Int32) (rk1 : Nat → Int32) (w1 : va_W) (o0 : ok_main ad cB cI cJ cZ h0 r0 pl0 sp0 rd0 fi0 se0 fa0 cr0 ra0 pa0 nw0 w0) (o1 : ok_plan ad cB cI cJ cZ pl0 r1 fc1 dc1 rk1 w1) (sz : Nat) : Met l yX10_isFloor wsX10_isFloor ({ frames := 0, cells := 0, slots := 0, locals := 0 } : Room) (va_Pc [.ref h0, .int p1] (fun U => U.heap.size = sz ∧ va_P (dC, dI) vwCl (List.flatten [w0, w1]) U.heap ∧ va_K (dC, dI) vwCl [(cB, .byte), (cI, .int), (cJ, .long), (cZ, .boolean), (cQ, .array .long)] U ∧ va_D (fun _ => True) (List.flatten [w0, w1]) ∧ ex_Y ad tN fN (va_A (List.flatten [w0, w1]) sz) U)) (va_Qi (fun (r : Int32) (_ : Unit) => (r = 0 ∧ p1.toInt ≤ -1 ∧ p1.toInt < 0) ∨ (r = 0 ∧ 0 ≤ p1.toInt ∧ 0 ≤ p1.toInt ∧ fc1.toInt ≤ p1.toInt) ∨ (r = 1 ∧ 0 ≤ p1.toInt ∧ p1.toInt ≤ 5 ∧ 0 ≤ p1.toInt ∧ p1.toInt < fc1.toInt)) (fun (_ : Unit) (t : State) => va_P (dC, dI) vwCl (List.flatten [w0, w1]) t.heap ∧ va_D (va_A (List.flatten [w0, w1]) sz) (List.flatten [w0, w1])) (va_A (List.flatten [w0, w1]) sz)) 0 0 (va_A (List.flatten [w0, w1]) sz) := by
  refine Met.ofW (cc := cX10_isFloor) (maxL := 2) (ret := (some .boolean)) (by decide) rfl ?_
  intro p e s m args below meth c s₁ B hml hv
  obtain ⟨rfl, hsz, hP, hK, hD0, hE⟩ := hv
  have hx := B.exec
  have hb := B.bytes
  have hr := B.returns
  have hts := atoms_spec (ws := wsX10_isFloor) B.pre
  have hown : s.vm.findClass RX10 = some m.cls := findClass_of_methodNamed B.named
  have hlocks := B.notSynchronized
  subst hsz
  have hD := hD0.self (sz := s.heap.size)
  generalize hAe : va_A (List.flatten [w0, w1]) s.heap.size = A at hD hE ⊢
  have hA : ∀ q : Nat, s.heap.size ≤ q → A q := fun q h => by rw [← hAe]; exact Or.inr h
  have hS : va_S A s.heap s.heap [] := va_S.rf
  have hl := lv_entry ([.ref h0, .int p1]) (n := 2) (Nat.le_of_ble_eq_true rfl)
  rw [lg_entry_eq]
  generalize (lg_sl ([.ref h0, .int p1]) ++ List.replicate (2 - (lg_sl ([.ref h0, .int p1])).length) Slot.unset).toArray = ls at hl ⊢
  have hl : lv_has ls 2 [(0, .ref h0), (1, .int p1)] := hl
  clear hAe
  refine W_name (fun Q0 hQ0 => ?_)
  obtain ⟨hx_1, hx_2⟩ := okx_main o0
  obtain ⟨hx_3, hx_4, hx_5, hx_6⟩ := okx_plan o1
  refine lv_iload_n hx hb dX10_isFloor_0 rfl (lv_at hl 1 rfl) ?_
  refine lv_if_lt (tgt := 19) hx hb dX10_isFloor_1 (by decide) (fun c_7 => ?_) (fun c_7 => ?_)
  · have c_7 : p1.toInt < 0 := f_lt rfl tI_0 c_7
    refine lv_iconst (v := 0) hx hb dX10_isFloor_19 (by decide) ?_
    rw [hQ0]
    exact W.zret (v := 0) hx hb hr (by decide) (fun t ht hW => ⟨⟨0, (), rfl, Or.inl ⟨rfl, (by omega), c_7⟩, ⟨by rw [ht]; exact hP, hD⟩⟩, hS.F ht⟩) hS.2.2 dX10_isFloor_20
  · have c_7 : 0 ≤ p1.toInt := f_nlt rfl tI_0 c_7
    refine lv_iload_n hx hb dX10_isFloor_4 rfl (lv_at hl 1 rfl) ?_
    refine lv_aload_n hx hb dX10_isFloor_5 rfl (lv_at hl 0 rfl) ?_
    obtain ⟨f_8, tp_9, f_12, mv_13, rfl, hl_10, hh_11, hl_14, hh_15⟩ := o0
    refine va_get (D := (dC, dI)) (ci := 8) (v := .ref pl0) (C := RX10) (T := TX10) (N := 14) hx hb hts iw_X10_isFloor_X10 hown hK hP 0 rfl rfl 2 (by decide) (hts (.fieldLink RX10 20 "HungFloors" "plan" "LHungFloors$Plan;") (by decide +kernel)) (fun _ h9 => h9) rfl dX10_isFloor_6 ?_
    obtain ⟨f_18, f_19, f_20, f_21, f_24, f_26, f_27, f_29, f_31, rfl, hl_16, hh_17, hl_22, hh_23, hr_25, hr_28, hr_30⟩ := o1
    refine va_get (D := (dC, dI)) (ci := 5) (v := .int fc1) (C := RX7) (T := TX7) (N := 12) hx hb hts iw_X10_isFloor_X7 hown hK hP 3 rfl rfl 0 (by decide) (hts (.fieldLink RX10 303 "HungFloors$Plan" "floorCount" "I") (by decide +kernel)) (fun _ h9 => h9) rfl dX10_isFloor_9 ?_
    refine lv_icmp_ge (tgt := 19) hx hb dX10_isFloor_12 (by decide) (fun c_32 => ?_) (fun c_32 => ?_)
    · have c_32 : fc1.toInt ≤ p1.toInt := f_le rfl rfl c_32
      refine lv_iconst (v := 0) hx hb dX10_isFloor_19 (by decide) ?_
      rw [hQ0]
      exact W.zret (v := 0) hx hb hr (by decide) (fun t ht hW => ⟨⟨0, (), rfl, Or.inr (Or.inl ⟨rfl, (by omega), c_7, c_32⟩), ⟨by rw [ht]; exact hP, hD⟩⟩, hS.F ht⟩) hS.2.2 dX10_isFloor_20
    · have c_32 : p1.toInt < fc1.toInt := f_nle rfl rfl c_32
      refine lv_iconst (v := 1) hx hb dX10_isFloor_15 (by decide) ?_
      refine lv_goto (tgt := 20) hx hb dX10_isFloor_16 (by decide) ?_
      rw [hQ0]
      exact W.zret (v := 1) hx hb hr (by decide) (fun t ht hW => ⟨⟨1, (), rfl, Or.inr (Or.inr (⟨rfl, (by omega), (by omega), c_7, c_32⟩)), ⟨by rw [ht]; exact hP, hD⟩⟩, hS.F ht⟩) hS.2.2 dX10_isFloor_20
theorem iw_X10_isDrawing_X10 : ∀ w ∈ wsX100, w ∈ wsX10_isDrawing := fun _ h => List.mem_cons_of_mem _ (List.mem_append_left _ (List.mem_append_right _ h))
theorem iw_X10_isDrawing_X7 : ∀ w ∈ wsX70, w ∈ wsX10_isDrawing := fun _ h => List.mem_cons_of_mem _ (List.mem_append_right _ h)
set_option maxHeartbeats 4000000 in
set_option maxRecDepth 100000 in
theorem c_X10_isDrawing (l : Launch) (dC : Nat → ClassId) (dI : Nat → Nat → Nat) (ad : Nat → Nat) (tN : Nat) (fN : Nat → Int64) (cB cI cJ cZ cQ : ClassId) (h0 : Nat) (p1 : Int32) (r0 : Nat → Nat) (pl0 : Nat) (sp0 : Nat) (rd0 : Nat) (fi0 : Nat) (se0 : Nat) (fa0 : Nat) (cr0 : Nat) (ra0 : Nat) (pa0 : Nat) (nw0 : Int32) (w0 : va_W) (r1 : Nat → Nat) (fc1 : Int32) (dc1 : Int32) (rk1 : Nat → Int32) (w1 : va_W) (o0 : ok_main ad cB cI cJ cZ h0 r0 pl0 sp0 rd0 fi0 se0 fa0 cr0 ra0 pa0 nw0 w0) (o1 : ok_plan ad cB cI cJ cZ pl0 r1 fc1 dc1 rk1 w1) (sz : Nat) : Met l yX10_isDrawing wsX10_isDrawing ({ frames := 0, cells := 0, slots := 0, locals := 0 } : Room) (va_Pc [.ref h0, .int p1] (fun U => U.heap.size = sz ∧ va_P (dC, dI) vwCl (List.flatten [w0, w1]) U.heap ∧ va_K (dC, dI) vwCl [(cB, .byte), (cI, .int), (cJ, .long), (cZ, .boolean), (cQ, .array .long)] U ∧ va_D (fun _ => True) (List.flatten [w0, w1]) ∧ ex_Y ad tN fN (va_A (List.flatten [w0, w1]) sz) U)) (va_Qi (fun (r : Int32) (_ : Unit) => (r = 0 ∧ p1.toInt ≤ -1 ∧ p1.toInt < 0) ∨ (r = 0 ∧ 0 ≤ p1.toInt ∧ 0 ≤ p1.toInt ∧ dc1.toInt ≤ p1.toInt) ∨ (r = 1 ∧ 0 ≤ p1.toInt ∧ p1.toInt ≤ 3 ∧ 0 ≤ p1.toInt ∧ p1.toInt < dc1.toInt)) (fun (_ : Unit) (t : State) => va_P (dC, dI) vwCl (List.flatten [w0, w1]) t.heap ∧ va_D (va_A (List.flatten [w0, w1]) sz) (List.flatten [w0, w1])) (va_A (List.flatten [w0, w1]) sz)) 0 0 (va_A (List.flatten [w0, w1]) sz) := by
  refine Met.ofW (cc := cX10_isDrawing) (maxL := 2) (ret := (some .boolean)) (by decide) rfl ?_
  intro p e s m args below meth c s₁ B hml hv
  obtain ⟨rfl, hsz, hP, hK, hD0, hE⟩ := hv
  have hx := B.exec
  have hb := B.bytes
  have hr := B.returns
  have hts := atoms_spec (ws := wsX10_isDrawing) B.pre
  have hown : s.vm.findClass RX10 = some m.cls := findClass_of_methodNamed B.named
  have hlocks := B.notSynchronized
  subst hsz
  have hD := hD0.self (sz := s.heap.size)
  generalize hAe : va_A (List.flatten [w0, w1]) s.heap.size = A at hD hE ⊢
  have hA : ∀ q : Nat, s.heap.size ≤ q → A q := fun q h => by rw [← hAe]; exact Or.inr h
  have hS : va_S A s.heap s.heap [] := va_S.rf
  have hl := lv_entry ([.ref h0, .int p1]) (n := 2) (Nat.le_of_ble_eq_true rfl)
  rw [lg_entry_eq]
  generalize (lg_sl ([.ref h0, .int p1]) ++ List.replicate (2 - (lg_sl ([.ref h0, .int p1])).length) Slot.unset).toArray = ls at hl ⊢
  have hl : lv_has ls 2 [(0, .ref h0), (1, .int p1)] := hl
  clear hAe
  refine W_name (fun Q0 hQ0 => ?_)
  obtain ⟨hx_1, hx_2⟩ := okx_main o0
  obtain ⟨hx_3, hx_4, hx_5, hx_6⟩ := okx_plan o1
  refine lv_iload_n hx hb dX10_isDrawing_0 rfl (lv_at hl 1 rfl) ?_
  refine lv_if_lt (tgt := 19) hx hb dX10_isDrawing_1 (by decide) (fun c_7 => ?_) (fun c_7 => ?_)
  · have c_7 : p1.toInt < 0 := f_lt rfl tI_0 c_7
    refine lv_iconst (v := 0) hx hb dX10_isDrawing_19 (by decide) ?_
    rw [hQ0]
    exact W.zret (v := 0) hx hb hr (by decide) (fun t ht hW => ⟨⟨0, (), rfl, Or.inl ⟨rfl, (by omega), c_7⟩, ⟨by rw [ht]; exact hP, hD⟩⟩, hS.F ht⟩) hS.2.2 dX10_isDrawing_20
  · have c_7 : 0 ≤ p1.toInt := f_nlt rfl tI_0 c_7
    refine lv_iload_n hx hb dX10_isDrawing_4 rfl (lv_at hl 1 rfl) ?_
    refine lv_aload_n hx hb dX10_isDrawing_5 rfl (lv_at hl 0 rfl) ?_
    obtain ⟨f_8, tp_9, f_12, mv_13, rfl, hl_10, hh_11, hl_14, hh_15⟩ := o0
    refine va_get (D := (dC, dI)) (ci := 8) (v := .ref pl0) (C := RX10) (T := TX10) (N := 14) hx hb hts iw_X10_isDrawing_X10 hown hK hP 0 rfl rfl 2 (by decide) (hts (.fieldLink RX10 20 "HungFloors" "plan" "LHungFloors$Plan;") (by decide +kernel)) (fun _ h9 => h9) rfl dX10_isDrawing_6 ?_
    obtain ⟨f_18, f_19, f_20, f_21, f_24, f_26, f_27, f_29, f_31, rfl, hl_16, hh_17, hl_22, hh_23, hr_25, hr_28, hr_30⟩ := o1
    refine va_get (D := (dC, dI)) (ci := 5) (v := .int dc1) (C := RX7) (T := TX7) (N := 12) hx hb hts iw_X10_isDrawing_X7 hown hK hP 3 rfl rfl 5 (by decide) (hts (.fieldLink RX10 93 "HungFloors$Plan" "drawingCount" "I") (by decide +kernel)) (fun _ h9 => h9) rfl dX10_isDrawing_9 ?_
    refine lv_icmp_ge (tgt := 19) hx hb dX10_isDrawing_12 (by decide) (fun c_32 => ?_) (fun c_32 => ?_)
    · have c_32 : dc1.toInt ≤ p1.toInt := f_le rfl rfl c_32
      refine lv_iconst (v := 0) hx hb dX10_isDrawing_19 (by decide) ?_
      rw [hQ0]
      exact W.zret (v := 0) hx hb hr (by decide) (fun t ht hW => ⟨⟨0, (), rfl, Or.inr (Or.inl ⟨rfl, (by omega), c_7, c_32⟩), ⟨by rw [ht]; exact hP, hD⟩⟩, hS.F ht⟩) hS.2.2 dX10_isDrawing_20
    · have c_32 : p1.toInt < dc1.toInt := f_nle rfl rfl c_32
      refine lv_iconst (v := 1) hx hb dX10_isDrawing_15 (by decide) ?_
      refine lv_goto (tgt := 20) hx hb dX10_isDrawing_16 (by decide) ?_
      rw [hQ0]
      exact W.zret (v := 1) hx hb hr (by decide) (fun t ht hW => ⟨⟨1, (), rfl, Or.inr (Or.inr (⟨rfl, (by omega), (by omega), c_7, c_32⟩)), ⟨by rw [ht]; exact hP, hD⟩⟩, hS.F ht⟩) hS.2.2 dX10_isDrawing_20
theorem iw_X10_isJoint_X10 : ∀ w ∈ wsX100, w ∈ wsX10_isJoint := fun _ h => List.mem_cons_of_mem _ (List.mem_append_left _ (List.mem_append_right _ h))
set_option maxHeartbeats 4000000 in
set_option maxRecDepth 100000 in
theorem c_X10_isJoint (l : Launch) (dC : Nat → ClassId) (dI : Nat → Nat → Nat) (ad : Nat → Nat) (tN : Nat) (fN : Nat → Int64) (cB cI cJ cZ cQ : ClassId) (h0 : Nat) (p1 : Int32) (p2 : Int32) (r0 : Nat → Nat) (pl0 : Nat) (sp0 : Nat) (rd0 : Nat) (fi0 : Nat) (se0 : Nat) (fa0 : Nat) (cr0 : Nat) (ra0 : Nat) (pa0 : Nat) (nw0 : Int32) (w0 : va_W) (r1 : Nat → Nat) (fc1 : Int32) (dc1 : Int32) (rk1 : Nat → Int32) (w1 : va_W) (o0 : ok_main ad cB cI cJ cZ h0 r0 pl0 sp0 rd0 fi0 se0 fa0 cr0 ra0 pa0 nw0 w0) (o1 : ok_plan ad cB cI cJ cZ pl0 r1 fc1 dc1 rk1 w1) (sz : Nat) : Met l yX10_isJoint wsX10_isJoint ({ frames := 2, cells := 0, slots := 0, locals := 44 } : Room) (va_Pc [.ref h0, .int p1, .int p2] (fun U => U.heap.size = sz ∧ va_P (dC, dI) vwCl (List.flatten [w0, w1]) U.heap ∧ va_K (dC, dI) vwCl [(cB, .byte), (cI, .int), (cJ, .long), (cZ, .boolean), (cQ, .array .long)] U ∧ va_D (fun _ => True) (List.flatten [w0, w1]) ∧ ex_Y ad tN fN (va_A (List.flatten [w0, w1]) sz) U)) (va_Qi (fun (r : Int32) (_ : Unit) => (r = 0 ∧ p1.toInt ≤ -1 ∧ p1.toInt ≤ -1 ∧ p1.toInt < 0) ∨ (r = 0 ∧ 0 ≤ p1.toInt ∧ 0 ≤ p1.toInt ∧ 0 ≤ p1.toInt ∧ dc1.toInt ≤ p1.toInt) ∨ (r = 0 ∧ 0 ≤ p1.toInt ∧ p1.toInt ≤ 3 ∧ p2.toInt ≤ -1 ∧ 0 ≤ p1.toInt ∧ p1.toInt ≤ 3 ∧ 0 ≤ p1.toInt ∧ p1.toInt < dc1.toInt ∧ p2.toInt < 0) ∨ (r = 0 ∧ 0 ≤ p1.toInt ∧ p1.toInt ≤ 3 ∧ 0 ≤ p2.toInt ∧ 0 ≤ p1.toInt ∧ p1.toInt ≤ 3 ∧ 0 ≤ p1.toInt ∧ p1.toInt < dc1.toInt ∧ 0 ≤ p2.toInt) ∨ (r = 1 ∧ 0 ≤ p1.toInt ∧ p1.toInt ≤ 3 ∧ 0 ≤ p2.toInt ∧ p2.toInt ≤ 69 ∧ 0 ≤ p1.toInt ∧ p1.toInt ≤ 3 ∧ 0 ≤ p1.toInt ∧ p1.toInt < dc1.toInt ∧ 0 ≤ p2.toInt)) (fun (_ : Unit) (t : State) => va_P (dC, dI) vwCl (List.flatten [w0, w1]) t.heap ∧ va_D (va_A (List.flatten [w0, w1]) sz) (List.flatten [w0, w1])) (va_A (List.flatten [w0, w1]) sz)) 0 0 (va_A (List.flatten [w0, w1]) sz) := by
  refine Met.ofW (cc := cX10_isJoint) (maxL := 3) (ret := (some .boolean)) (by decide) rfl ?_
  intro p e s m args below meth c s₁ B hml hv
  obtain ⟨rfl, hsz, hP, hK, hD0, hE⟩ := hv
  have hx := B.exec
  have hb := B.bytes
  have hr := B.returns
  have hts := atoms_spec (ws := wsX10_isJoint) B.pre
  have hown : s.vm.findClass RX10 = some m.cls := findClass_of_methodNamed B.named
  have hlocks := B.notSynchronized
  subst hsz
  have hD := hD0.self (sz := s.heap.size)
  generalize hAe : va_A (List.flatten [w0, w1]) s.heap.size = A at hD hE ⊢
  have hA : ∀ q : Nat, s.heap.size ≤ q → A q := fun q h => by rw [← hAe]; exact Or.inr h
  have hS : va_S A s.heap s.heap [] := va_S.rf
  have hl := lv_entry ([.ref h0, .int p1, .int p2]) (n := 3) (Nat.le_of_ble_eq_true rfl)
  rw [lg_entry_eq]
  generalize (lg_sl ([.ref h0, .int p1, .int p2]) ++ List.replicate (3 - (lg_sl ([.ref h0, .int p1, .int p2])).length) Slot.unset).toArray = ls at hl ⊢
  have hl : lv_has ls 3 [(0, .ref h0), (1, .int p1), (2, .int p2)] := hl
  clear hAe
  refine W_name (fun Q0 hQ0 => ?_)
  obtain ⟨hx_1, hx_2⟩ := okx_main o0
  obtain ⟨hx_3, hx_4, hx_5, hx_6⟩ := okx_plan o1
  refine lv_aload_n hx hb dX10_isJoint_0 rfl (lv_at hl 0 rfl) ?_
  refine lv_iload_n hx hb dX10_isJoint_1 rfl (lv_at hl 1 rfl) ?_
  obtain ⟨f_7, tp_8, f_11, mv_12, rfl, hl_9, hh_10, hl_13, hh_14⟩ := o0
  have hpm : List.Perm ([[(h0, .inr (8, [.ref (r0 0), .int tp_8, .ref pl0, .ref sp0, .ref rd0, .ref (r0 1), .int mv_12, .ref fi0, .ref se0, .ref fa0, .ref cr0, .ref ra0, .ref pa0, .int nw0])), (r0 0, .inl (cB, 1600, .inl f_7)), (r0 1, .inl (cI, 6, .inl f_11))], w1] : List va_W) (([[(h0, .inr (8, [.ref (r0 0), .int tp_8, .ref pl0, .ref sp0, .ref rd0, .ref (r0 1), .int mv_12, .ref fi0, .ref se0, .ref fa0, .ref cr0, .ref ra0, .ref pa0, .int nw0])), (r0 0, .inl (cB, 1600, .inl f_7)), (r0 1, .inl (cI, 6, .inl f_11))], w1] : List va_W) ++ ([] : List va_W)) := pm_n 2 [0, 1] (by decide) rfl rfl
  have hPc := bk_P hpm hP
  have hDc := bk_D hpm hD
  have hFc := bk_F hpm hD hS hA
  refine va_calli (va_runV (As := [.int p1]) (rest := []) ⟨hx, hb, hml, hown, hts⟩ (c_X10_isDrawing l dC dI ad tN fN cB cI cJ cZ cQ h0 p1 r0 pl0 sp0 rd0 fi0 se0 fa0 cr0 ra0 pa0 nw0 _ r1 fc1 dc1 rk1 _ ⟨f_7, tp_8, f_11, mv_12, rfl, by omega, by omega, by omega, by omega⟩ o1 s.heap.size) (cwV 1 hts gX10_isJoint_X10_isDrawing rfl rfl rfl (by decide +kernel) ⟨(Nat.le_of_ble_eq_true rfl), (Nat.le_of_ble_eq_true rfl)⟩) ⟨fun a U g mk q => by obtain ⟨q0, q1, qP, qK, qD, qE⟩ := q; exact ⟨q0, q1, qP, va_K.moved (u := U) (U := U.calling g mk a) (Vm.Alike.refl U.vm) qK, qD, ey_blind qE⟩, va_recv hK hPc (ci := 8) (q0 := 0) rfl rfl, fun U hU hW => ⟨rfl, by rw [hU], by rw [hU]; exact hPc, va_K.moved hW.alike hK, hDc.weaken (fun _ _ _ _ => trivial), ey_call hE hS hFc hU hW⟩⟩ rfl rfl hl.1 rfl (lv_room (Nat.le_of_ble_eq_true rfl)) dX10_isJoint_2 ⟨(Nat.le_of_ble_eq_true rfl), (Nat.le_of_ble_eq_true rfl)⟩) hS (fun q _ h => hFc q h) hFc (fun r_15 u t H locs ht hvm hw hB hz1 hk1 hS => ?_)
  obtain ⟨hP1, hD1⟩ := hB
  rw [ht] at hP1
  obtain ⟨hP, hD⟩ := bk_join hpm hP hD hk1 hFc (Cs1 := [[(h0, .inr (8, [.ref (r0 0), .int tp_8, .ref pl0, .ref sp0, .ref rd0, .ref (r0 1), .int mv_12, .ref fi0, .ref se0, .ref fa0, .ref cr0, .ref ra0, .ref pa0, .int nw0])), (r0 0, .inl (cB, 1600, .inl f_7)), (r0 1, .inl (cI, 6, .inl f_11))], w1]) hP1 hD1
  have hpm2 : List.Perm (([[(h0, .inr (8, [.ref (r0 0), .int tp_8, .ref pl0, .ref sp0, .ref rd0, .ref (r0 1), .int mv_12, .ref fi0, .ref se0, .ref fa0, .ref cr0, .ref ra0, .ref pa0, .int nw0])), (r0 0, .inl (cB, 1600, .inl f_7)), (r0 1, .inl (cI, 6, .inl f_11))], w1] : List va_W) ++ ([] : List va_W)) ([[(h0, .inr (8, [.ref (r0 0), .int tp_8, .ref pl0, .ref sp0, .ref rd0, .ref (r0 1), .int mv_12, .ref fi0, .ref se0, .ref fa0, .ref cr0, .ref ra0, .ref pa0, .int nw0])), (r0 0, .inl (cB, 1600, .inl f_7)), (r0 1, .inl (cI, 6, .inl f_11))], w1] : List va_W) := pm_n 2 [0, 1] (by decide) rfl rfl
  have hP := bk_reP hpm2 hP
  have hD := bk_reD hpm2 hD
  have hP : va_P (dC, dI) vwCl (List.flatten [[(h0, .inr (8, [.ref (r0 0), .int tp_8, .ref pl0, .ref sp0, .ref rd0, .ref (r0 1), .int mv_12, .ref fi0, .ref se0, .ref fa0, .ref cr0, .ref ra0, .ref pa0, .int nw0])), (r0 0, .inl (cB, 1600, .inl f_7)), (r0 1, .inl (cI, 6, .inl f_11))], w1]) H := hP
  have hD : va_D A (List.flatten [[(h0, .inr (8, [.ref (r0 0), .int tp_8, .ref pl0, .ref sp0, .ref rd0, .ref (r0 1), .int mv_12, .ref fi0, .ref se0, .ref fa0, .ref cr0, .ref ra0, .ref pa0, .int nw0])), (r0 0, .inl (cB, 1600, .inl f_7)), (r0 1, .inl (cI, 6, .inl f_11))], w1]) := hD
  rcases hw with ⟨rfl, c_16, c_17⟩ | ⟨rfl, c_18, c_19, c_20⟩ | ⟨rfl, c_21, c_22, c_23, c_24⟩
  · refine lv_if_eq (tgt := 28) hx hb dX10_isJoint_5 (by decide) (fun c_25 => ?_) (fun c_25 => absurd c_25 (by decide))
    refine lv_iconst (v := 0) hx hb dX10_isJoint_28 (by decide) ?_
    rw [hQ0]
    exact W.zret (v := 0) hx hb hr (by decide) (fun t ht hW => ⟨⟨0, (), rfl, Or.inl ⟨rfl, (by omega), c_16, c_17⟩, ⟨by rw [ht]; exact hP, hD⟩⟩, hS.F ht⟩) hS.2.2 dX10_isJoint_29
  · refine lv_if_eq (tgt := 28) hx hb dX10_isJoint_5 (by decide) (fun c_26 => ?_) (fun c_26 => absurd c_26 (by decide))
    refine lv_iconst (v := 0) hx hb dX10_isJoint_28 (by decide) ?_
    rw [hQ0]
    exact W.zret (v := 0) hx hb hr (by decide) (fun t ht hW => ⟨⟨0, (), rfl, Or.inr (Or.inl ⟨rfl, (by omega), c_18, c_19, c_20⟩), ⟨by rw [ht]; exact hP, hD⟩⟩, hS.F ht⟩) hS.2.2 dX10_isJoint_29
  · refine lv_if_eq (tgt := 28) hx hb dX10_isJoint_5 (by decide) (fun c_27 => absurd c_27 (by decide)) (fun c_27 => ?_)
    refine lv_iload_n hx hb dX10_isJoint_8 rfl (lv_at hl 2 rfl) ?_
    refine lv_if_lt (tgt := 28) hx hb dX10_isJoint_9 (by decide) (fun c_28 => ?_) (fun c_28 => ?_)
    · have c_28 : p2.toInt < 0 := f_lt rfl tI_0 c_28
      refine lv_iconst (v := 0) hx hb dX10_isJoint_28 (by decide) ?_
      rw [hQ0]
      exact W.zret (v := 0) hx hb hr (by decide) (fun t ht hW => ⟨⟨0, (), rfl, Or.inr (Or.inr (Or.inl ⟨rfl, (by omega), (by omega), (by omega), c_21, c_22, c_23, c_24, c_28⟩)), ⟨by rw [ht]; exact hP, hD⟩⟩, hS.F ht⟩) hS.2.2 dX10_isJoint_29
    · have c_28 : 0 ≤ p2.toInt := f_nlt rfl tI_0 c_28
      refine lv_iload_n hx hb dX10_isJoint_12 rfl (lv_at hl 2 rfl) ?_
      refine lv_aload_n hx hb dX10_isJoint_13 rfl (lv_at hl 0 rfl) ?_
      refine va_get (D := (dC, dI)) (ci := 8) (v := .ref pl0) (C := RX10) (T := TX10) (N := 14) hx hb hts iw_X10_isJoint_X10 hown hK hP 0 rfl rfl 2 (by decide) (hts (.fieldLink RX10 20 "HungFloors" "plan" "LHungFloors$Plan;") (by decide +kernel)) (fun _ h9 => h9) rfl dX10_isJoint_14 ?_
      refine lv_iload_n hx hb dX10_isJoint_17 rfl (lv_at hl 1 rfl) ?_
      obtain ⟨f_31, f_32, f_33, f_34, f_37, f_39, f_40, f_42, f_44, rfl, hl_29, hh_30, hl_35, hh_36, hr_38, hr_41, hr_43⟩ := o1
      have hpm : List.Perm ([[(h0, .inr (8, [.ref (r0 0), .int tp_8, .ref pl0, .ref sp0, .ref rd0, .ref (r0 1), .int mv_12, .ref fi0, .ref se0, .ref fa0, .ref cr0, .ref ra0, .ref pa0, .int nw0])), (r0 0, .inl (cB, 1600, .inl f_7)), (r0 1, .inl (cI, 6, .inl f_11))], [(pl0, .inr (5, [.int fc1, .ref (r1 0), .ref (r1 1), .ref (r1 2), .ref (r1 3), .int dc1, .ref (r1 4), .ref (r1 5), .ref (r1 6), .ref (r1 7), .ref (r1 8), .ref (r1 9)])), (r1 0, .inl (cJ, 6, .inr (.inl f_31))), (r1 1, .inl (cI, 6, .inl f_32)), (r1 2, .inl (cI, 6, .inl f_33)), (r1 3, .inl (cI, 6, .inl f_34)), (r1 4, .inl (cJ, 4, .inr (.inl f_37))), (r1 5, .inl (cI, 4, .inl rk1)), (r1 6, .inl (cJ, 40, .inr (.inl f_39))), (r1 7, .inl (cI, 40, .inl f_40)), (r1 8, .inl (cI, 40, .inl f_42)), (r1 9, .inl (cI, 40, .inl f_44))]] : List va_W) (([[(pl0, .inr (5, [.int fc1, .ref (r1 0), .ref (r1 1), .ref (r1 2), .ref (r1 3), .int dc1, .ref (r1 4), .ref (r1 5), .ref (r1 6), .ref (r1 7), .ref (r1 8), .ref (r1 9)])), (r1 0, .inl (cJ, 6, .inr (.inl f_31))), (r1 1, .inl (cI, 6, .inl f_32)), (r1 2, .inl (cI, 6, .inl f_33)), (r1 3, .inl (cI, 6, .inl f_34)), (r1 4, .inl (cJ, 4, .inr (.inl f_37))), (r1 5, .inl (cI, 4, .inl rk1)), (r1 6, .inl (cJ, 40, .inr (.inl f_39))), (r1 7, .inl (cI, 40, .inl f_40)), (r1 8, .inl (cI, 40, .inl f_42)), (r1 9, .inl (cI, 40, .inl f_44))]] : List va_W) ++ ([[(h0, .inr (8, [.ref (r0 0), .int tp_8, .ref pl0, .ref sp0, .ref rd0, .ref (r0 1), .int mv_12, .ref fi0, .ref se0, .ref fa0, .ref cr0, .ref ra0, .ref pa0, .int nw0])), (r0 0, .inl (cB, 1600, .inl f_7)), (r0 1, .inl (cI, 6, .inl f_11))]] : List va_W)) := pm_n 2 [1, 0] (by decide) rfl rfl
      have hPc := bk_P hpm hP
      have hDc := bk_D hpm hD
      have hFc := bk_F hpm hD hS hA
      refine va_calli (va_runV (As := [.int p1]) (rest := [.int p2]) ⟨hx, hb, hml, hown, hts⟩ (c_X7_jointsOf l dC dI ad tN fN cB cI cJ cZ pl0 p1 r1 fc1 dc1 rk1 _ ⟨f_31, f_32, f_33, f_34, f_37, f_39, f_40, f_42, f_44, rfl, by omega, by omega, by omega, by omega, hr_38, hr_41, hr_43⟩ H.size) (cwV 1 hts gX10_isJoint_X7_jointsOf rfl rfl rfl (by decide +kernel) ⟨(Nat.le_of_ble_eq_true rfl), (Nat.le_of_ble_eq_true rfl)⟩) ⟨fun a U g mk q => by obtain ⟨q0, q1, qP, qK, qD, qE⟩ := q; exact ⟨q0, q1, qP, va_K.moved (u := U) (U := U.calling g mk a) (Vm.Alike.refl U.vm) qK, qD, ey_blind qE⟩, va_recv hK hPc (ci := 5) (q0 := 0) rfl rfl, fun U hU hW => ⟨rfl, by rw [hU], by rw [hU]; exact hPc, va_K.moved hW.alike (va_K.sub hK [0, 1, 2, 3] rfl), hDc.weaken (fun _ _ _ _ => trivial), ey_call hE hS hFc hU hW⟩⟩ rfl rfl hl.1 rfl (lv_room (Nat.le_of_ble_eq_true rfl)) dX10_isJoint_18 ⟨(Nat.le_of_ble_eq_true rfl), (Nat.le_of_ble_eq_true rfl)⟩) hS (fun q _ h => hFc q h) hFc (fun r_45 u t H locs ht hvm hw hB hz1 hk1 hS => ?_)
      obtain ⟨hP1, hD1⟩ := hB
      rw [ht] at hP1
      obtain ⟨hP, hD⟩ := bk_join hpm hP hD hk1 hFc (Cs1 := [[(pl0, .inr (5, [.int fc1, .ref (r1 0), .ref (r1 1), .ref (r1 2), .ref (r1 3), .int dc1, .ref (r1 4), .ref (r1 5), .ref (r1 6), .ref (r1 7), .ref (r1 8), .ref (r1 9)])), (r1 0, .inl (cJ, 6, .inr (.inl f_31))), (r1 1, .inl (cI, 6, .inl f_32)), (r1 2, .inl (cI, 6, .inl f_33)), (r1 3, .inl (cI, 6, .inl f_34)), (r1 4, .inl (cJ, 4, .inr (.inl f_37))), (r1 5, .inl (cI, 4, .inl rk1)), (r1 6, .inl (cJ, 40, .inr (.inl f_39))), (r1 7, .inl (cI, 40, .inl f_40)), (r1 8, .inl (cI, 40, .inl f_42)), (r1 9, .inl (cI, 40, .inl f_44))]]) hP1 hD1
      have hpm2 : List.Perm (([[(pl0, .inr (5, [.int fc1, .ref (r1 0), .ref (r1 1), .ref (r1 2), .ref (r1 3), .int dc1, .ref (r1 4), .ref (r1 5), .ref (r1 6), .ref (r1 7), .ref (r1 8), .ref (r1 9)])), (r1 0, .inl (cJ, 6, .inr (.inl f_31))), (r1 1, .inl (cI, 6, .inl f_32)), (r1 2, .inl (cI, 6, .inl f_33)), (r1 3, .inl (cI, 6, .inl f_34)), (r1 4, .inl (cJ, 4, .inr (.inl f_37))), (r1 5, .inl (cI, 4, .inl rk1)), (r1 6, .inl (cJ, 40, .inr (.inl f_39))), (r1 7, .inl (cI, 40, .inl f_40)), (r1 8, .inl (cI, 40, .inl f_42)), (r1 9, .inl (cI, 40, .inl f_44))]] : List va_W) ++ ([[(h0, .inr (8, [.ref (r0 0), .int tp_8, .ref pl0, .ref sp0, .ref rd0, .ref (r0 1), .int mv_12, .ref fi0, .ref se0, .ref fa0, .ref cr0, .ref ra0, .ref pa0, .int nw0])), (r0 0, .inl (cB, 1600, .inl f_7)), (r0 1, .inl (cI, 6, .inl f_11))]] : List va_W)) ([[(h0, .inr (8, [.ref (r0 0), .int tp_8, .ref pl0, .ref sp0, .ref rd0, .ref (r0 1), .int mv_12, .ref fi0, .ref se0, .ref fa0, .ref cr0, .ref ra0, .ref pa0, .int nw0])), (r0 0, .inl (cB, 1600, .inl f_7)), (r0 1, .inl (cI, 6, .inl f_11))], [(pl0, .inr (5, [.int fc1, .ref (r1 0), .ref (r1 1), .ref (r1 2), .ref (r1 3), .int dc1, .ref (r1 4), .ref (r1 5), .ref (r1 6), .ref (r1 7), .ref (r1 8), .ref (r1 9)])), (r1 0, .inl (cJ, 6, .inr (.inl f_31))), (r1 1, .inl (cI, 6, .inl f_32)), (r1 2, .inl (cI, 6, .inl f_33)), (r1 3, .inl (cI, 6, .inl f_34)), (r1 4, .inl (cJ, 4, .inr (.inl f_37))), (r1 5, .inl (cI, 4, .inl rk1)), (r1 6, .inl (cJ, 40, .inr (.inl f_39))), (r1 7, .inl (cI, 40, .inl f_40)), (r1 8, .inl (cI, 40, .inl f_42)), (r1 9, .inl (cI, 40, .inl f_44))]] : List va_W) := pm_n 2 [1, 0] (by decide) rfl rfl
      have hP := bk_reP hpm2 hP
      have hD := bk_reD hpm2 hD
      have hP : va_P (dC, dI) vwCl (List.flatten [[(h0, .inr (8, [.ref (r0 0), .int tp_8, .ref pl0, .ref sp0, .ref rd0, .ref (r0 1), .int mv_12, .ref fi0, .ref se0, .ref fa0, .ref cr0, .ref ra0, .ref pa0, .int nw0])), (r0 0, .inl (cB, 1600, .inl f_7)), (r0 1, .inl (cI, 6, .inl f_11))], [(pl0, .inr (5, [.int fc1, .ref (r1 0), .ref (r1 1), .ref (r1 2), .ref (r1 3), .int dc1, .ref (r1 4), .ref (r1 5), .ref (r1 6), .ref (r1 7), .ref (r1 8), .ref (r1 9)])), (r1 0, .inl (cJ, 6, .inr (.inl f_31))), (r1 1, .inl (cI, 6, .inl f_32)), (r1 2, .inl (cI, 6, .inl f_33)), (r1 3, .inl (cI, 6, .inl f_34)), (r1 4, .inl (cJ, 4, .inr (.inl f_37))), (r1 5, .inl (cI, 4, .inl rk1)), (r1 6, .inl (cJ, 40, .inr (.inl f_39))), (r1 7, .inl (cI, 40, .inl f_40)), (r1 8, .inl (cI, 40, .inl f_42)), (r1 9, .inl (cI, 40, .inl f_44))]]) H := hP
      have hD : va_D A (List.flatten [[(h0, .inr (8, [.ref (r0 0), .int tp_8, .ref pl0, .ref sp0, .ref rd0, .ref (r0 1), .int mv_12, .ref fi0, .ref se0, .ref fa0, .ref cr0, .ref ra0, .ref pa0, .int nw0])), (r0 0, .inl (cB, 1600, .inl f_7)), (r0 1, .inl (cI, 6, .inl f_11))], [(pl0, .inr (5, [.int fc1, .ref (r1 0), .ref (r1 1), .ref (r1 2), .ref (r1 3), .int dc1, .ref (r1 4), .ref (r1 5), .ref (r1 6), .ref (r1 7), .ref (r1 8), .ref (r1 9)])), (r1 0, .inl (cJ, 6, .inr (.inl f_31))), (r1 1, .inl (cI, 6, .inl f_32)), (r1 2, .inl (cI, 6, .inl f_33)), (r1 3, .inl (cI, 6, .inl f_34)), (r1 4, .inl (cJ, 4, .inr (.inl f_37))), (r1 5, .inl (cI, 4, .inl rk1)), (r1 6, .inl (cJ, 40, .inr (.inl f_39))), (r1 7, .inl (cI, 40, .inl f_40)), (r1 8, .inl (cI, 40, .inl f_42)), (r1 9, .inl (cI, 40, .inl f_44))]]) := hD
      obtain ⟨hlr_45, hhr_45⟩ := hw
      refine lv_icmp_ge (tgt := 28) hx hb dX10_isJoint_21 (by decide) (fun c_46 => ?_) (fun c_46 => ?_)
      · have c_46 : r_45.toInt ≤ p2.toInt := f_le rfl rfl c_46
        refine lv_iconst (v := 0) hx hb dX10_isJoint_28 (by decide) ?_
        rw [hQ0]
        exact W.zret (v := 0) hx hb hr (by decide) (fun t ht hW => ⟨⟨0, (), rfl, Or.inr (Or.inr (Or.inr (Or.inl ⟨rfl, (by omega), (by omega), (by omega), c_21, c_22, c_23, c_24, c_28⟩))), ⟨by rw [ht]; exact hP, hD⟩⟩, hS.F ht⟩) hS.2.2 dX10_isJoint_29
      · have c_46 : p2.toInt < r_45.toInt := f_nle rfl rfl c_46
        refine lv_iconst (v := 1) hx hb dX10_isJoint_24 (by decide) ?_
        refine lv_goto (tgt := 29) hx hb dX10_isJoint_25 (by decide) ?_
        rw [hQ0]
        exact W.zret (v := 1) hx hb hr (by decide) (fun t ht hW => ⟨⟨1, (), rfl, Or.inr (Or.inr (Or.inr (Or.inr (⟨rfl, (by omega), (by omega), (by omega), (by omega), c_21, c_22, c_23, c_24, c_28⟩)))), ⟨by rw [ht]; exact hP, hD⟩⟩, hS.F ht⟩) hS.2.2 dX10_isJoint_29
theorem iw_X10_live_X10 : ∀ w ∈ wsX100, w ∈ wsX10_live := fun _ h => List.mem_cons_of_mem _ (List.mem_append_left _ (List.mem_append_right _ h))
set_option maxHeartbeats 4000000 in
set_option maxRecDepth 100000 in
theorem c_X10_live (l : Launch) (dC : Nat → ClassId) (dI : Nat → Nat → Nat) (ad : Nat → Nat) (tN : Nat) (fN : Nat → Int64) (cB cI cJ cZ cQ : ClassId) (h0 : Nat) (p1 : Int32) (p2 : Int32) (r0 : Nat → Nat) (pl0 : Nat) (sp0 : Nat) (rd0 : Nat) (fi0 : Nat) (se0 : Nat) (fa0 : Nat) (cr0 : Nat) (ra0 : Nat) (pa0 : Nat) (nw0 : Int32) (w0 : va_W) (r1 : Nat → Nat) (fc1 : Int32) (dc1 : Int32) (rk1 : Nat → Int32) (w1 : va_W) (o0 : ok_main ad cB cI cJ cZ h0 r0 pl0 sp0 rd0 fi0 se0 fa0 cr0 ra0 pa0 nw0 w0) (o1 : ok_plan ad cB cI cJ cZ pl0 r1 fc1 dc1 rk1 w1) (sz : Nat) : Met l yX10_live wsX10_live ({ frames := 1, cells := 0, slots := 0, locals := 21 } : Room) (va_Pc [.ref h0, .int p1, .int p2] (fun U => U.heap.size = sz ∧ va_P (dC, dI) vwCl (List.flatten [w0, w1]) U.heap ∧ va_K (dC, dI) vwCl [(cB, .byte), (cI, .int), (cJ, .long), (cZ, .boolean), (cQ, .array .long)] U ∧ va_D (fun _ => True) (List.flatten [w0, w1]) ∧ ex_Y ad tN fN (va_A (List.flatten [w0, w1]) sz) U)) (va_Qi (fun (r : Int32) (_ : Unit) => 0 ≤ r.toInt ∧ r.toInt ≤ 1) (fun (_ : Unit) (t : State) => ∃ (w09 : va_W), ok_main ad cB cI cJ cZ h0 r0 pl0 sp0 rd0 fi0 se0 fa0 cr0 ra0 pa0 nw0 w09 ∧ va_P (dC, dI) vwCl (List.flatten [w09, w1]) t.heap ∧ va_D (va_A (List.flatten [w0, w1]) sz) (List.flatten [w09, w1])) (va_A (List.flatten [w0, w1]) sz)) 0 0 (va_A (List.flatten [w0, w1]) sz) := by
  refine Met.ofW (cc := cX10_live) (maxL := 3) (ret := (some .boolean)) (by decide) rfl ?_
  intro p e s m args below meth c s₁ B hml hv
  obtain ⟨rfl, hsz, hP, hK, hD0, hE⟩ := hv
  have hx := B.exec
  have hb := B.bytes
  have hr := B.returns
  have hts := atoms_spec (ws := wsX10_live) B.pre
  have hown : s.vm.findClass RX10 = some m.cls := findClass_of_methodNamed B.named
  have hlocks := B.notSynchronized
  subst hsz
  have hD := hD0.self (sz := s.heap.size)
  generalize hAe : va_A (List.flatten [w0, w1]) s.heap.size = A at hD hE ⊢
  have hA : ∀ q : Nat, s.heap.size ≤ q → A q := fun q h => by rw [← hAe]; exact Or.inr h
  have hS : va_S A s.heap s.heap [] := va_S.rf
  have hl := lv_entry ([.ref h0, .int p1, .int p2]) (n := 3) (Nat.le_of_ble_eq_true rfl)
  rw [lg_entry_eq]
  generalize (lg_sl ([.ref h0, .int p1, .int p2]) ++ List.replicate (3 - (lg_sl ([.ref h0, .int p1, .int p2])).length) Slot.unset).toArray = ls at hl ⊢
  have hl : lv_has ls 3 [(0, .ref h0), (1, .int p1), (2, .int p2)] := hl
  clear hAe
  refine W_name (fun Q0 hQ0 => ?_)
  obtain ⟨hx_1, hx_2⟩ := okx_main o0
  obtain ⟨hx_3, hx_4, hx_5, hx_6⟩ := okx_plan o1
  refine lv_aload_n hx hb dX10_live_0 rfl (lv_at hl 0 rfl) ?_
  refine lv_iload_n hx hb dX10_live_1 rfl (lv_at hl 1 rfl) ?_
  obtain ⟨f_7, tp_8, f_11, mv_12, rfl, hl_9, hh_10, hl_13, hh_14⟩ := o0
  have hpm : List.Perm ([[(h0, .inr (8, [.ref (r0 0), .int tp_8, .ref pl0, .ref sp0, .ref rd0, .ref (r0 1), .int mv_12, .ref fi0, .ref se0, .ref fa0, .ref cr0, .ref ra0, .ref pa0, .int nw0])), (r0 0, .inl (cB, 1600, .inl f_7)), (r0 1, .inl (cI, 6, .inl f_11))], w1] : List va_W) (([[(h0, .inr (8, [.ref (r0 0), .int tp_8, .ref pl0, .ref sp0, .ref rd0, .ref (r0 1), .int mv_12, .ref fi0, .ref se0, .ref fa0, .ref cr0, .ref ra0, .ref pa0, .int nw0])), (r0 0, .inl (cB, 1600, .inl f_7)), (r0 1, .inl (cI, 6, .inl f_11))], w1] : List va_W) ++ ([] : List va_W)) := pm_n 2 [0, 1] (by decide) rfl rfl
  have hPc := bk_P hpm hP
  have hDc := bk_D hpm hD
  have hFc := bk_F hpm hD hS hA
  refine va_calli (va_runV (As := [.int p1]) (rest := []) ⟨hx, hb, hml, hown, hts⟩ (c_X10_isFloor l dC dI ad tN fN cB cI cJ cZ cQ h0 p1 r0 pl0 sp0 rd0 fi0 se0 fa0 cr0 ra0 pa0 nw0 _ r1 fc1 dc1 rk1 _ ⟨f_7, tp_8, f_11, mv_12, rfl, by omega, by omega, by omega, by omega⟩ o1 s.heap.size) (cwV 1 hts gX10_live_X10_isFloor rfl rfl rfl (by decide +kernel) ⟨(Nat.le_of_ble_eq_true rfl), (Nat.le_of_ble_eq_true rfl)⟩) ⟨fun a U g mk q => by obtain ⟨q0, q1, qP, qK, qD, qE⟩ := q; exact ⟨q0, q1, qP, va_K.moved (u := U) (U := U.calling g mk a) (Vm.Alike.refl U.vm) qK, qD, ey_blind qE⟩, va_recv hK hPc (ci := 8) (q0 := 0) rfl rfl, fun U hU hW => ⟨rfl, by rw [hU], by rw [hU]; exact hPc, va_K.moved hW.alike hK, hDc.weaken (fun _ _ _ _ => trivial), ey_call hE hS hFc hU hW⟩⟩ rfl rfl hl.1 rfl (lv_room (Nat.le_of_ble_eq_true rfl)) dX10_live_2 ⟨(Nat.le_of_ble_eq_true rfl), (Nat.le_of_ble_eq_true rfl)⟩) hS (fun q _ h => hFc q h) hFc (fun r_15 u t H locs ht hvm hw hB hz1 hk1 hS => ?_)
  obtain ⟨hP1, hD1⟩ := hB
  rw [ht] at hP1
  obtain ⟨hP, hD⟩ := bk_join hpm hP hD hk1 hFc (Cs1 := [[(h0, .inr (8, [.ref (r0 0), .int tp_8, .ref pl0, .ref sp0, .ref rd0, .ref (r0 1), .int mv_12, .ref fi0, .ref se0, .ref fa0, .ref cr0, .ref ra0, .ref pa0, .int nw0])), (r0 0, .inl (cB, 1600, .inl f_7)), (r0 1, .inl (cI, 6, .inl f_11))], w1]) hP1 hD1
  have hpm2 : List.Perm (([[(h0, .inr (8, [.ref (r0 0), .int tp_8, .ref pl0, .ref sp0, .ref rd0, .ref (r0 1), .int mv_12, .ref fi0, .ref se0, .ref fa0, .ref cr0, .ref ra0, .ref pa0, .int nw0])), (r0 0, .inl (cB, 1600, .inl f_7)), (r0 1, .inl (cI, 6, .inl f_11))], w1] : List va_W) ++ ([] : List va_W)) ([[(h0, .inr (8, [.ref (r0 0), .int tp_8, .ref pl0, .ref sp0, .ref rd0, .ref (r0 1), .int mv_12, .ref fi0, .ref se0, .ref fa0, .ref cr0, .ref ra0, .ref pa0, .int nw0])), (r0 0, .inl (cB, 1600, .inl f_7)), (r0 1, .inl (cI, 6, .inl f_11))], w1] : List va_W) := pm_n 2 [0, 1] (by decide) rfl rfl
  have hP := bk_reP hpm2 hP
  have hD := bk_reD hpm2 hD
  have hP : va_P (dC, dI) vwCl (List.flatten [[(h0, .inr (8, [.ref (r0 0), .int tp_8, .ref pl0, .ref sp0, .ref rd0, .ref (r0 1), .int mv_12, .ref fi0, .ref se0, .ref fa0, .ref cr0, .ref ra0, .ref pa0, .int nw0])), (r0 0, .inl (cB, 1600, .inl f_7)), (r0 1, .inl (cI, 6, .inl f_11))], w1]) H := hP
  have hD : va_D A (List.flatten [[(h0, .inr (8, [.ref (r0 0), .int tp_8, .ref pl0, .ref sp0, .ref rd0, .ref (r0 1), .int mv_12, .ref fi0, .ref se0, .ref fa0, .ref cr0, .ref ra0, .ref pa0, .int nw0])), (r0 0, .inl (cB, 1600, .inl f_7)), (r0 1, .inl (cI, 6, .inl f_11))], w1]) := hD
  rcases hw with ⟨rfl, c_16, c_17⟩ | ⟨rfl, c_18, c_19, c_20⟩ | ⟨rfl, c_21, c_22, c_23, c_24⟩
  · refine lv_if_eq (tgt := 19) hx hb dX10_live_5 (by decide) (fun c_25 => ?_) (fun c_25 => absurd c_25 (by decide))
    refine lv_iconst (v := 0) hx hb dX10_live_19 (by decide) ?_
    rw [hQ0]
    exact W.zret (v := 0) hx hb hr (by decide) (fun t ht hW => ⟨⟨0, (), rfl, ⟨by decide, by decide⟩, ⟨_, ⟨f_7, tp_8, f_11, mv_12, rfl, by omega, by omega, by omega, by omega⟩, by rw [ht]; exact hP, hD⟩⟩, hS.F ht⟩) hS.2.2 dX10_live_20
  · refine lv_if_eq (tgt := 19) hx hb dX10_live_5 (by decide) (fun c_26 => ?_) (fun c_26 => absurd c_26 (by decide))
    refine lv_iconst (v := 0) hx hb dX10_live_19 (by decide) ?_
    rw [hQ0]
    exact W.zret (v := 0) hx hb hr (by decide) (fun t ht hW => ⟨⟨0, (), rfl, ⟨by decide, by decide⟩, ⟨_, ⟨f_7, tp_8, f_11, mv_12, rfl, by omega, by omega, by omega, by omega⟩, by rw [ht]; exact hP, hD⟩⟩, hS.F ht⟩) hS.2.2 dX10_live_20
  · refine lv_if_eq (tgt := 19) hx hb dX10_live_5 (by decide) (fun c_27 => absurd c_27 (by decide)) (fun c_27 => ?_)
    refine lv_iload_n hx hb dX10_live_8 rfl (lv_at hl 2 rfl) ?_
    refine lv_if_lt (tgt := 19) hx hb dX10_live_9 (by decide) (fun c_28 => ?_) (fun c_28 => ?_)
    · have c_28 : p2.toInt < 0 := f_lt rfl tI_0 c_28
      refine lv_iconst (v := 0) hx hb dX10_live_19 (by decide) ?_
      rw [hQ0]
      exact W.zret (v := 0) hx hb hr (by decide) (fun t ht hW => ⟨⟨0, (), rfl, ⟨by decide, by decide⟩, ⟨_, ⟨f_7, tp_8, f_11, mv_12, rfl, by omega, by omega, by omega, by omega⟩, by rw [ht]; exact hP, hD⟩⟩, hS.F ht⟩) hS.2.2 dX10_live_20
    · have c_28 : 0 ≤ p2.toInt := f_nlt rfl tI_0 c_28
      refine lv_iload_n hx hb dX10_live_12 rfl (lv_at hl 2 rfl) ?_
      refine lv_sipush (v := 999) hx hb dX10_live_13 (by decide) ?_
      refine lv_icmp_le (tgt := 21) hx hb dX10_live_16 (by decide) (fun c_29 => ?_) (fun c_29 => ?_)
      · have c_29 : p2.toInt ≤ 999 := f_le rfl tI_999 c_29
        refine lv_aload_n hx hb dX10_live_21 rfl (lv_at hl 0 rfl) ?_
        refine va_get (D := (dC, dI)) (ci := 8) (v := .ref (r0 1)) (C := RX10) (T := TX10) (N := 14) hx hb hts iw_X10_live_X10 hown hK hP 0 rfl rfl 5 (by decide) (hts (.fieldLink RX10 34 "HungFloors" "people" "[I") (by decide +kernel)) (fun _ h9 => h9) rfl dX10_live_22 ?_
        refine lv_iload_n hx hb dX10_live_25 rfl (lv_at hl 1 rfl) ?_
        refine lv_iload_n hx hb dX10_live_26 rfl (lv_at hl 2 rfl) ?_
        refine va_iast hx hb hK hP hD hS 2 1 rfl rfl (v_in rfl (by omega) (by omega)) dX10_live_27 (fun H locs hP hD hS => ?_)
        obtain ⟨f_30, hP, hD⟩ : ∃ f_30 : Nat → Int32, va_P (dC, dI) vwCl (List.flatten [[(h0, .inr (8, [.ref (r0 0), .int tp_8, .ref pl0, .ref sp0, .ref rd0, .ref (r0 1), .int mv_12, .ref fi0, .ref se0, .ref fa0, .ref cr0, .ref ra0, .ref pa0, .int nw0])), (r0 0, .inl (cB, 1600, .inl f_7)), (r0 1, .inl (cI, 6, .inl f_30))], w1]) H ∧ va_D A (List.flatten [[(h0, .inr (8, [.ref (r0 0), .int tp_8, .ref pl0, .ref sp0, .ref rd0, .ref (r0 1), .int mv_12, .ref fi0, .ref se0, .ref fa0, .ref cr0, .ref ra0, .ref pa0, .int nw0])), (r0 0, .inl (cB, 1600, .inl f_7)), (r0 1, .inl (cI, 6, .inl f_30))], w1]) := ⟨_, hP, hD⟩
        refine lv_iconst (v := 1) hx hb dX10_live_28 (by decide) ?_
        rw [hQ0]
        exact W.zret (v := 1) hx hb hr (by decide) (fun t ht hW => ⟨⟨1, (), rfl, ⟨by decide, by decide⟩, ⟨_, ⟨f_7, tp_8, f_30, mv_12, rfl, by omega, by omega, by omega, by omega⟩, by rw [ht]; exact hP, hD⟩⟩, hS.F ht⟩) hS.2.2 dX10_live_29
      · have c_29 : 999 < p2.toInt := f_nle rfl tI_999 c_29
        refine lv_iconst (v := 0) hx hb dX10_live_19 (by decide) ?_
        rw [hQ0]
        exact W.zret (v := 0) hx hb hr (by decide) (fun t ht hW => ⟨⟨0, (), rfl, ⟨by decide, by decide⟩, ⟨_, ⟨f_7, tp_8, f_11, mv_12, rfl, by omega, by omega, by omega, by omega⟩, by rw [ht]; exact hP, hD⟩⟩, hS.F ht⟩) hS.2.2 dX10_live_20
theorem iw_X10_joints_X10 : ∀ w ∈ wsX100, w ∈ wsX10_joints := fun _ h => List.mem_cons_of_mem _ (List.mem_append_left _ (List.mem_append_right _ h))
set_option maxHeartbeats 4000000 in
set_option maxRecDepth 100000 in
theorem c_X10_joints (l : Launch) (dC : Nat → ClassId) (dI : Nat → Nat → Nat) (ad : Nat → Nat) (tN : Nat) (fN : Nat → Int64) (cB cI cJ cZ cQ : ClassId) (h0 : Nat) (p1 : Int32) (r0 : Nat → Nat) (pl0 : Nat) (sp0 : Nat) (rd0 : Nat) (fi0 : Nat) (se0 : Nat) (fa0 : Nat) (cr0 : Nat) (ra0 : Nat) (pa0 : Nat) (nw0 : Int32) (w0 : va_W) (r1 : Nat → Nat) (fc1 : Int32) (dc1 : Int32) (rk1 : Nat → Int32) (w1 : va_W) (o0 : ok_main ad cB cI cJ cZ h0 r0 pl0 sp0 rd0 fi0 se0 fa0 cr0 ra0 pa0 nw0 w0) (o1 : ok_plan ad cB cI cJ cZ pl0 r1 fc1 dc1 rk1 w1) (sz : Nat) : Met l yX10_joints wsX10_joints ({ frames := 2, cells := 0, slots := 0, locals := 44 } : Room) (va_Pc [.ref h0, .int p1] (fun U => U.heap.size = sz ∧ va_P (dC, dI) vwCl (List.flatten [w0, w1]) U.heap ∧ va_K (dC, dI) vwCl [(cB, .byte), (cI, .int), (cJ, .long), (cZ, .boolean), (cQ, .array .long)] U ∧ va_D (fun _ => True) (List.flatten [w0, w1]) ∧ ex_Y ad tN fN (va_A (List.flatten [w0, w1]) sz) U)) (va_Qi (fun (r : Int32) (_ : Unit) => -1 ≤ r.toInt ∧ r.toInt ≤ 70) (fun (_ : Unit) (t : State) => va_P (dC, dI) vwCl (List.flatten [w0, w1]) t.heap ∧ va_D (va_A (List.flatten [w0, w1]) sz) (List.flatten [w0, w1])) (va_A (List.flatten [w0, w1]) sz)) 0 0 (va_A (List.flatten [w0, w1]) sz) := by
  refine Met.ofW (cc := cX10_joints) (maxL := 2) (ret := (some .int)) (by decide) rfl ?_
  intro p e s m args below meth c s₁ B hml hv
  obtain ⟨rfl, hsz, hP, hK, hD0, hE⟩ := hv
  have hx := B.exec
  have hb := B.bytes
  have hr := B.returns
  have hts := atoms_spec (ws := wsX10_joints) B.pre
  have hown : s.vm.findClass RX10 = some m.cls := findClass_of_methodNamed B.named
  have hlocks := B.notSynchronized
  subst hsz
  have hD := hD0.self (sz := s.heap.size)
  generalize hAe : va_A (List.flatten [w0, w1]) s.heap.size = A at hD hE ⊢
  have hA : ∀ q : Nat, s.heap.size ≤ q → A q := fun q h => by rw [← hAe]; exact Or.inr h
  have hS : va_S A s.heap s.heap [] := va_S.rf
  have hl := lv_entry ([.ref h0, .int p1]) (n := 2) (Nat.le_of_ble_eq_true rfl)
  rw [lg_entry_eq]
  generalize (lg_sl ([.ref h0, .int p1]) ++ List.replicate (2 - (lg_sl ([.ref h0, .int p1])).length) Slot.unset).toArray = ls at hl ⊢
  have hl : lv_has ls 2 [(0, .ref h0), (1, .int p1)] := hl
  clear hAe
  refine W_name (fun Q0 hQ0 => ?_)
  obtain ⟨hx_1, hx_2⟩ := okx_main o0
  obtain ⟨hx_3, hx_4, hx_5, hx_6⟩ := okx_plan o1
  refine lv_aload_n hx hb dX10_joints_0 rfl (lv_at hl 0 rfl) ?_
  refine lv_iload_n hx hb dX10_joints_1 rfl (lv_at hl 1 rfl) ?_
  obtain ⟨f_7, tp_8, f_11, mv_12, rfl, hl_9, hh_10, hl_13, hh_14⟩ := o0
  have hpm : List.Perm ([[(h0, .inr (8, [.ref (r0 0), .int tp_8, .ref pl0, .ref sp0, .ref rd0, .ref (r0 1), .int mv_12, .ref fi0, .ref se0, .ref fa0, .ref cr0, .ref ra0, .ref pa0, .int nw0])), (r0 0, .inl (cB, 1600, .inl f_7)), (r0 1, .inl (cI, 6, .inl f_11))], w1] : List va_W) (([[(h0, .inr (8, [.ref (r0 0), .int tp_8, .ref pl0, .ref sp0, .ref rd0, .ref (r0 1), .int mv_12, .ref fi0, .ref se0, .ref fa0, .ref cr0, .ref ra0, .ref pa0, .int nw0])), (r0 0, .inl (cB, 1600, .inl f_7)), (r0 1, .inl (cI, 6, .inl f_11))], w1] : List va_W) ++ ([] : List va_W)) := pm_n 2 [0, 1] (by decide) rfl rfl
  have hPc := bk_P hpm hP
  have hDc := bk_D hpm hD
  have hFc := bk_F hpm hD hS hA
  refine va_calli (va_runV (As := [.int p1]) (rest := []) ⟨hx, hb, hml, hown, hts⟩ (c_X10_isDrawing l dC dI ad tN fN cB cI cJ cZ cQ h0 p1 r0 pl0 sp0 rd0 fi0 se0 fa0 cr0 ra0 pa0 nw0 _ r1 fc1 dc1 rk1 _ ⟨f_7, tp_8, f_11, mv_12, rfl, by omega, by omega, by omega, by omega⟩ o1 s.heap.size) (cwV 1 hts gX10_joints_X10_isDrawing rfl rfl rfl (by decide +kernel) ⟨(Nat.le_of_ble_eq_true rfl), (Nat.le_of_ble_eq_true rfl)⟩) ⟨fun a U g mk q => by obtain ⟨q0, q1, qP, qK, qD, qE⟩ := q; exact ⟨q0, q1, qP, va_K.moved (u := U) (U := U.calling g mk a) (Vm.Alike.refl U.vm) qK, qD, ey_blind qE⟩, va_recv hK hPc (ci := 8) (q0 := 0) rfl rfl, fun U hU hW => ⟨rfl, by rw [hU], by rw [hU]; exact hPc, va_K.moved hW.alike hK, hDc.weaken (fun _ _ _ _ => trivial), ey_call hE hS hFc hU hW⟩⟩ rfl rfl hl.1 rfl (lv_room (Nat.le_of_ble_eq_true rfl)) dX10_joints_2 ⟨(Nat.le_of_ble_eq_true rfl), (Nat.le_of_ble_eq_true rfl)⟩) hS (fun q _ h => hFc q h) hFc (fun r_15 u t H locs ht hvm hw hB hz1 hk1 hS => ?_)
  obtain ⟨hP1, hD1⟩ := hB
  rw [ht] at hP1
  obtain ⟨hP, hD⟩ := bk_join hpm hP hD hk1 hFc (Cs1 := [[(h0, .inr (8, [.ref (r0 0), .int tp_8, .ref pl0, .ref sp0, .ref rd0, .ref (r0 1), .int mv_12, .ref fi0, .ref se0, .ref fa0, .ref cr0, .ref ra0, .ref pa0, .int nw0])), (r0 0, .inl (cB, 1600, .inl f_7)), (r0 1, .inl (cI, 6, .inl f_11))], w1]) hP1 hD1
  have hpm2 : List.Perm (([[(h0, .inr (8, [.ref (r0 0), .int tp_8, .ref pl0, .ref sp0, .ref rd0, .ref (r0 1), .int mv_12, .ref fi0, .ref se0, .ref fa0, .ref cr0, .ref ra0, .ref pa0, .int nw0])), (r0 0, .inl (cB, 1600, .inl f_7)), (r0 1, .inl (cI, 6, .inl f_11))], w1] : List va_W) ++ ([] : List va_W)) ([[(h0, .inr (8, [.ref (r0 0), .int tp_8, .ref pl0, .ref sp0, .ref rd0, .ref (r0 1), .int mv_12, .ref fi0, .ref se0, .ref fa0, .ref cr0, .ref ra0, .ref pa0, .int nw0])), (r0 0, .inl (cB, 1600, .inl f_7)), (r0 1, .inl (cI, 6, .inl f_11))], w1] : List va_W) := pm_n 2 [0, 1] (by decide) rfl rfl
  have hP := bk_reP hpm2 hP
  have hD := bk_reD hpm2 hD
  have hP : va_P (dC, dI) vwCl (List.flatten [[(h0, .inr (8, [.ref (r0 0), .int tp_8, .ref pl0, .ref sp0, .ref rd0, .ref (r0 1), .int mv_12, .ref fi0, .ref se0, .ref fa0, .ref cr0, .ref ra0, .ref pa0, .int nw0])), (r0 0, .inl (cB, 1600, .inl f_7)), (r0 1, .inl (cI, 6, .inl f_11))], w1]) H := hP
  have hD : va_D A (List.flatten [[(h0, .inr (8, [.ref (r0 0), .int tp_8, .ref pl0, .ref sp0, .ref rd0, .ref (r0 1), .int mv_12, .ref fi0, .ref se0, .ref fa0, .ref cr0, .ref ra0, .ref pa0, .int nw0])), (r0 0, .inl (cB, 1600, .inl f_7)), (r0 1, .inl (cI, 6, .inl f_11))], w1]) := hD
  rcases hw with ⟨rfl, c_16, c_17⟩ | ⟨rfl, c_18, c_19, c_20⟩ | ⟨rfl, c_21, c_22, c_23, c_24⟩
  · refine lv_if_eq (tgt := 19) hx hb dX10_joints_5 (by decide) (fun c_25 => ?_) (fun c_25 => absurd c_25 (by decide))
    refine lv_iconst (v := (-1)) hx hb dX10_joints_19 (by decide) ?_
    rw [hQ0]
    exact W.iret (v := (-1)) hx hb hr (fun t ht hW => ⟨⟨(-1), (), rfl, ⟨by decide, by decide⟩, ⟨by rw [ht]; exact hP, hD⟩⟩, hS.F ht⟩) hS.2.2 dX10_joints_20
  · refine lv_if_eq (tgt := 19) hx hb dX10_joints_5 (by decide) (fun c_26 => ?_) (fun c_26 => absurd c_26 (by decide))
    refine lv_iconst (v := (-1)) hx hb dX10_joints_19 (by decide) ?_
    rw [hQ0]
    exact W.iret (v := (-1)) hx hb hr (fun t ht hW => ⟨⟨(-1), (), rfl, ⟨by decide, by decide⟩, ⟨by rw [ht]; exact hP, hD⟩⟩, hS.F ht⟩) hS.2.2 dX10_joints_20
  · refine lv_if_eq (tgt := 19) hx hb dX10_joints_5 (by decide) (fun c_27 => absurd c_27 (by decide)) (fun c_27 => ?_)
    refine lv_aload_n hx hb dX10_joints_8 rfl (lv_at hl 0 rfl) ?_
    refine va_get (D := (dC, dI)) (ci := 8) (v := .ref pl0) (C := RX10) (T := TX10) (N := 14) hx hb hts iw_X10_joints_X10 hown hK hP 0 rfl rfl 2 (by decide) (hts (.fieldLink RX10 20 "HungFloors" "plan" "LHungFloors$Plan;") (by decide +kernel)) (fun _ h9 => h9) rfl dX10_joints_9 ?_
    refine lv_iload_n hx hb dX10_joints_12 rfl (lv_at hl 1 rfl) ?_
    obtain ⟨f_30, f_31, f_32, f_33, f_36, f_38, f_39, f_41, f_43, rfl, hl_28, hh_29, hl_34, hh_35, hr_37, hr_40, hr_42⟩ := o1
    have hpm : List.Perm ([[(h0, .inr (8, [.ref (r0 0), .int tp_8, .ref pl0, .ref sp0, .ref rd0, .ref (r0 1), .int mv_12, .ref fi0, .ref se0, .ref fa0, .ref cr0, .ref ra0, .ref pa0, .int nw0])), (r0 0, .inl (cB, 1600, .inl f_7)), (r0 1, .inl (cI, 6, .inl f_11))], [(pl0, .inr (5, [.int fc1, .ref (r1 0), .ref (r1 1), .ref (r1 2), .ref (r1 3), .int dc1, .ref (r1 4), .ref (r1 5), .ref (r1 6), .ref (r1 7), .ref (r1 8), .ref (r1 9)])), (r1 0, .inl (cJ, 6, .inr (.inl f_30))), (r1 1, .inl (cI, 6, .inl f_31)), (r1 2, .inl (cI, 6, .inl f_32)), (r1 3, .inl (cI, 6, .inl f_33)), (r1 4, .inl (cJ, 4, .inr (.inl f_36))), (r1 5, .inl (cI, 4, .inl rk1)), (r1 6, .inl (cJ, 40, .inr (.inl f_38))), (r1 7, .inl (cI, 40, .inl f_39)), (r1 8, .inl (cI, 40, .inl f_41)), (r1 9, .inl (cI, 40, .inl f_43))]] : List va_W) (([[(pl0, .inr (5, [.int fc1, .ref (r1 0), .ref (r1 1), .ref (r1 2), .ref (r1 3), .int dc1, .ref (r1 4), .ref (r1 5), .ref (r1 6), .ref (r1 7), .ref (r1 8), .ref (r1 9)])), (r1 0, .inl (cJ, 6, .inr (.inl f_30))), (r1 1, .inl (cI, 6, .inl f_31)), (r1 2, .inl (cI, 6, .inl f_32)), (r1 3, .inl (cI, 6, .inl f_33)), (r1 4, .inl (cJ, 4, .inr (.inl f_36))), (r1 5, .inl (cI, 4, .inl rk1)), (r1 6, .inl (cJ, 40, .inr (.inl f_38))), (r1 7, .inl (cI, 40, .inl f_39)), (r1 8, .inl (cI, 40, .inl f_41)), (r1 9, .inl (cI, 40, .inl f_43))]] : List va_W) ++ ([[(h0, .inr (8, [.ref (r0 0), .int tp_8, .ref pl0, .ref sp0, .ref rd0, .ref (r0 1), .int mv_12, .ref fi0, .ref se0, .ref fa0, .ref cr0, .ref ra0, .ref pa0, .int nw0])), (r0 0, .inl (cB, 1600, .inl f_7)), (r0 1, .inl (cI, 6, .inl f_11))]] : List va_W)) := pm_n 2 [1, 0] (by decide) rfl rfl
    have hPc := bk_P hpm hP
    have hDc := bk_D hpm hD
    have hFc := bk_F hpm hD hS hA
    refine va_calli (va_runV (As := [.int p1]) (rest := []) ⟨hx, hb, hml, hown, hts⟩ (c_X7_jointsOf l dC dI ad tN fN cB cI cJ cZ pl0 p1 r1 fc1 dc1 rk1 _ ⟨f_30, f_31, f_32, f_33, f_36, f_38, f_39, f_41, f_43, rfl, by omega, by omega, by omega, by omega, hr_37, hr_40, hr_42⟩ H.size) (cwV 1 hts gX10_joints_X7_jointsOf rfl rfl rfl (by decide +kernel) ⟨(Nat.le_of_ble_eq_true rfl), (Nat.le_of_ble_eq_true rfl)⟩) ⟨fun a U g mk q => by obtain ⟨q0, q1, qP, qK, qD, qE⟩ := q; exact ⟨q0, q1, qP, va_K.moved (u := U) (U := U.calling g mk a) (Vm.Alike.refl U.vm) qK, qD, ey_blind qE⟩, va_recv hK hPc (ci := 5) (q0 := 0) rfl rfl, fun U hU hW => ⟨rfl, by rw [hU], by rw [hU]; exact hPc, va_K.moved hW.alike (va_K.sub hK [0, 1, 2, 3] rfl), hDc.weaken (fun _ _ _ _ => trivial), ey_call hE hS hFc hU hW⟩⟩ rfl rfl hl.1 rfl (lv_room (Nat.le_of_ble_eq_true rfl)) dX10_joints_13 ⟨(Nat.le_of_ble_eq_true rfl), (Nat.le_of_ble_eq_true rfl)⟩) hS (fun q _ h => hFc q h) hFc (fun r_44 u t H locs ht hvm hw hB hz1 hk1 hS => ?_)
    obtain ⟨hP1, hD1⟩ := hB
    rw [ht] at hP1
    obtain ⟨hP, hD⟩ := bk_join hpm hP hD hk1 hFc (Cs1 := [[(pl0, .inr (5, [.int fc1, .ref (r1 0), .ref (r1 1), .ref (r1 2), .ref (r1 3), .int dc1, .ref (r1 4), .ref (r1 5), .ref (r1 6), .ref (r1 7), .ref (r1 8), .ref (r1 9)])), (r1 0, .inl (cJ, 6, .inr (.inl f_30))), (r1 1, .inl (cI, 6, .inl f_31)), (r1 2, .inl (cI, 6, .inl f_32)), (r1 3, .inl (cI, 6, .inl f_33)), (r1 4, .inl (cJ, 4, .inr (.inl f_36))), (r1 5, .inl (cI, 4, .inl rk1)), (r1 6, .inl (cJ, 40, .inr (.inl f_38))), (r1 7, .inl (cI, 40, .inl f_39)), (r1 8, .inl (cI, 40, .inl f_41)), (r1 9, .inl (cI, 40, .inl f_43))]]) hP1 hD1
    have hpm2 : List.Perm (([[(pl0, .inr (5, [.int fc1, .ref (r1 0), .ref (r1 1), .ref (r1 2), .ref (r1 3), .int dc1, .ref (r1 4), .ref (r1 5), .ref (r1 6), .ref (r1 7), .ref (r1 8), .ref (r1 9)])), (r1 0, .inl (cJ, 6, .inr (.inl f_30))), (r1 1, .inl (cI, 6, .inl f_31)), (r1 2, .inl (cI, 6, .inl f_32)), (r1 3, .inl (cI, 6, .inl f_33)), (r1 4, .inl (cJ, 4, .inr (.inl f_36))), (r1 5, .inl (cI, 4, .inl rk1)), (r1 6, .inl (cJ, 40, .inr (.inl f_38))), (r1 7, .inl (cI, 40, .inl f_39)), (r1 8, .inl (cI, 40, .inl f_41)), (r1 9, .inl (cI, 40, .inl f_43))]] : List va_W) ++ ([[(h0, .inr (8, [.ref (r0 0), .int tp_8, .ref pl0, .ref sp0, .ref rd0, .ref (r0 1), .int mv_12, .ref fi0, .ref se0, .ref fa0, .ref cr0, .ref ra0, .ref pa0, .int nw0])), (r0 0, .inl (cB, 1600, .inl f_7)), (r0 1, .inl (cI, 6, .inl f_11))]] : List va_W)) ([[(h0, .inr (8, [.ref (r0 0), .int tp_8, .ref pl0, .ref sp0, .ref rd0, .ref (r0 1), .int mv_12, .ref fi0, .ref se0, .ref fa0, .ref cr0, .ref ra0, .ref pa0, .int nw0])), (r0 0, .inl (cB, 1600, .inl f_7)), (r0 1, .inl (cI, 6, .inl f_11))], [(pl0, .inr (5, [.int fc1, .ref (r1 0), .ref (r1 1), .ref (r1 2), .ref (r1 3), .int dc1, .ref (r1 4), .ref (r1 5), .ref (r1 6), .ref (r1 7), .ref (r1 8), .ref (r1 9)])), (r1 0, .inl (cJ, 6, .inr (.inl f_30))), (r1 1, .inl (cI, 6, .inl f_31)), (r1 2, .inl (cI, 6, .inl f_32)), (r1 3, .inl (cI, 6, .inl f_33)), (r1 4, .inl (cJ, 4, .inr (.inl f_36))), (r1 5, .inl (cI, 4, .inl rk1)), (r1 6, .inl (cJ, 40, .inr (.inl f_38))), (r1 7, .inl (cI, 40, .inl f_39)), (r1 8, .inl (cI, 40, .inl f_41)), (r1 9, .inl (cI, 40, .inl f_43))]] : List va_W) := pm_n 2 [1, 0] (by decide) rfl rfl
    have hP := bk_reP hpm2 hP
    have hD := bk_reD hpm2 hD
    have hP : va_P (dC, dI) vwCl (List.flatten [[(h0, .inr (8, [.ref (r0 0), .int tp_8, .ref pl0, .ref sp0, .ref rd0, .ref (r0 1), .int mv_12, .ref fi0, .ref se0, .ref fa0, .ref cr0, .ref ra0, .ref pa0, .int nw0])), (r0 0, .inl (cB, 1600, .inl f_7)), (r0 1, .inl (cI, 6, .inl f_11))], [(pl0, .inr (5, [.int fc1, .ref (r1 0), .ref (r1 1), .ref (r1 2), .ref (r1 3), .int dc1, .ref (r1 4), .ref (r1 5), .ref (r1 6), .ref (r1 7), .ref (r1 8), .ref (r1 9)])), (r1 0, .inl (cJ, 6, .inr (.inl f_30))), (r1 1, .inl (cI, 6, .inl f_31)), (r1 2, .inl (cI, 6, .inl f_32)), (r1 3, .inl (cI, 6, .inl f_33)), (r1 4, .inl (cJ, 4, .inr (.inl f_36))), (r1 5, .inl (cI, 4, .inl rk1)), (r1 6, .inl (cJ, 40, .inr (.inl f_38))), (r1 7, .inl (cI, 40, .inl f_39)), (r1 8, .inl (cI, 40, .inl f_41)), (r1 9, .inl (cI, 40, .inl f_43))]]) H := hP
    have hD : va_D A (List.flatten [[(h0, .inr (8, [.ref (r0 0), .int tp_8, .ref pl0, .ref sp0, .ref rd0, .ref (r0 1), .int mv_12, .ref fi0, .ref se0, .ref fa0, .ref cr0, .ref ra0, .ref pa0, .int nw0])), (r0 0, .inl (cB, 1600, .inl f_7)), (r0 1, .inl (cI, 6, .inl f_11))], [(pl0, .inr (5, [.int fc1, .ref (r1 0), .ref (r1 1), .ref (r1 2), .ref (r1 3), .int dc1, .ref (r1 4), .ref (r1 5), .ref (r1 6), .ref (r1 7), .ref (r1 8), .ref (r1 9)])), (r1 0, .inl (cJ, 6, .inr (.inl f_30))), (r1 1, .inl (cI, 6, .inl f_31)), (r1 2, .inl (cI, 6, .inl f_32)), (r1 3, .inl (cI, 6, .inl f_33)), (r1 4, .inl (cJ, 4, .inr (.inl f_36))), (r1 5, .inl (cI, 4, .inl rk1)), (r1 6, .inl (cJ, 40, .inr (.inl f_38))), (r1 7, .inl (cI, 40, .inl f_39)), (r1 8, .inl (cI, 40, .inl f_41)), (r1 9, .inl (cI, 40, .inl f_43))]]) := hD
    obtain ⟨hlr_44, hhr_44⟩ := hw
    refine lv_goto (tgt := 20) hx hb dX10_joints_16 (by decide) ?_
    rw [hQ0]
    exact W.iret (v := r_44) hx hb hr (fun t ht hW => ⟨⟨r_44, (), rfl, ⟨by omega, by omega⟩, ⟨by rw [ht]; exact hP, hD⟩⟩, hS.F ht⟩) hS.2.2 dX10_joints_20
