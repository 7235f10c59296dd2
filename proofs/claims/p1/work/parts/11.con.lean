set_option maxHeartbeats 4000000 in
set_option maxRecDepth 100000 in
theorem c_X11_feed (l : Launch) (dC : Nat → ClassId) (dI : Nat → Nat → Nat) (kE : Nat) (h0 : Nat) (rr : Nat → Nat) (k2 : ClassId) (sz : Nat) (p1 : Int32) (p2 : Int32) (p3 : Int32) (p4 : Int32) (p5 : Int32) : Met l yX11_feed wsX11_feed ({ frames := 0, cells := 0, slots := 0, locals := 0 }) (va_Pc [.ref h0, .int p1, .int p2, .int p3, .int p4, .int p5] (fun U => U.heap.size = sz ∧ va_P (dC, dI) vwCl [(h0, .inr (9, mF rr 0 0 0 (-1) 0 0 0 0 0 0 0 0 0 0 0 0 0 0 0 0 0 0 0 0 0)), ((rr 0), .inl (k2, 1620, .inl (fun _ => 0)))] U.heap ∧ va_K (dC, dI) vwCl [(k2, .byte)] U ∧ va_D (fun _ => True) [(h0, .inr (9, mF rr 0 0 0 (-1) 0 0 0 0 0 0 0 0 0 0 0 0 0 0 0 0 0 0 0 0 0)), ((rr 0), .inl (k2, 1620, .inl (fun _ => 0)))] ∧ ex_X kE (va_A [(h0, .inr (9, mF rr 0 0 0 (-1) 0 0 0 0 0 0 0 0 0 0 0 0 0 0 0 0 0 0 0 0 0)), ((rr 0), .inl (k2, 1620, .inl (fun _ => 0)))] sz) U)) (va_Qi (fun (r : Int32) (_ : Unit) => r = 20) (fun (_ : Unit) (_ : State) => True) (va_A [(h0, .inr (9, mF rr 0 0 0 (-1) 0 0 0 0 0 0 0 0 0 0 0 0 0 0 0 0 0 0 0 0 0)), ((rr 0), .inl (k2, 1620, .inl (fun _ => 0)))] sz)) 0 0 (va_A [(h0, .inr (9, mF rr 0 0 0 (-1) 0 0 0 0 0 0 0 0 0 0 0 0 0 0 0 0 0 0 0 0 0)), ((rr 0), .inl (k2, 1620, .inl (fun _ => 0)))] sz) := by
  refine Met.ofW (cc := cX11_feed) (maxL := 8) (ret := (some .int)) (by decide) rfl ?_
  intro p e s m args below meth c s₁ B hml hv
  obtain ⟨rfl, hsz, hP, hK, hD0, hE⟩ := hv
  have hx := B.exec
  have hb := B.bytes
  have hr := B.returns
  have hts := atoms_spec (ws := wsX11_feed) B.pre
  have hown : s.vm.findClass RX11 = some m.cls := findClass_of_methodNamed B.named
  have hlocks := B.notSynchronized
  subst hsz
  have hD := hD0.self (sz := s.heap.size)
  generalize hAe : va_A [(h0, .inr (9, mF rr 0 0 0 (-1) 0 0 0 0 0 0 0 0 0 0 0 0 0 0 0 0 0 0 0 0 0)), ((rr 0), .inl (k2, 1620, .inl (fun _ => 0)))] s.heap.size = A at hD hE ⊢
  have hA : ∀ q : Nat, s.heap.size ≤ q → A q := fun q h => by rw [← hAe]; exact Or.inr h
  have hS : va_S A s.heap s.heap [] := va_S.rf
  have hl := lv_entry ([.ref h0, .int p1, .int p2, .int p3, .int p4, .int p5]) (n := 8) (Nat.le_of_ble_eq_true rfl)
  rw [lg_entry_eq]
  generalize (lg_sl ([.ref h0, .int p1, .int p2, .int p3, .int p4, .int p5]) ++ List.replicate (8 - (lg_sl ([.ref h0, .int p1, .int p2, .int p3, .int p4, .int p5])).length) Slot.unset).toArray = ls at hl ⊢
  have hl : lv_has ls 8 [(0, .ref h0), (1, .int p1), (2, .int p2), (3, .int p3), (4, .int p4), (5, .int p5)] := hl
  have hP : va_P (dC, dI) vwCl [(h0, .inr (9, mF rr 0 0 0 (-1) 0 0 0 0 0 0 0 0 0 0 0 0 0 0 0 0 0 0 0 0 0)), ((rr 0), .inl (k2, 1620, .inl (fun _ => 0)))] s.heap := hP
  refine lv_aload_n hx hb dX11_feed_0 rfl (lv_at hl 0 rfl) ?_
  refine va_get (D := (dC, dI)) (ci := 9) (v := .int 0) (C := RX11) (T := TX11) (N := 69) hx hb hts iw_X11_feed_X11 hown hK hP 0 rfl rfl 2 (by decide) (hts (.fieldLink RX11 218 "HungFloorsModel" "taped" "I") (by decide +kernel)) (fun _ h9 => h9) rfl dX11_feed_1 ?_
  refine lv_bipush (v := 20) hx hb dX11_feed_4 (by decide) ?_
  refine lv_iadd hx hb dX11_feed_6 ?_
  refine lv_topi (fun z_1 ez_1 => ?_)
  obtain rfl : z_1 = (20 : Int32) := ez_1.trans (by decide)
  refine lv_sipush (v := 1600) hx hb dX11_feed_7 (by decide) ?_
  refine lv_icmp_le (tgt := 15) hx hb dX11_feed_10 (by decide) (fun c_2 => ?_) (fun c_2 => absurd c_2 (by decide))
  refine lv_iconst (v := 0) hx hb dX11_feed_15 (by decide) ?_
  refine lv_istore (lv' := [(6, .int 0), (0, .ref h0), (1, .int p1), (2, .int p2), (3, .int p3), (4, .int p4), (5, .int p5)]) hx hb dX11_feed_16 hl (by decide) rfl (fun ls hl => ?_)
  refine lv_iload hx hb dX11_feed_18 (lv_at hl 0 rfl) ?_
  refine lv_bipush (v := 20) hx hb dX11_feed_20 (by decide) ?_
  refine lv_icmp_ge (tgt := 105) hx hb dX11_feed_22 (by decide) (fun c_3 => absurd c_3 (by decide)) (fun c_3 => ?_)
  refine lv_iload hx hb dX11_feed_25 (lv_at hl 0 rfl) ?_
  refine lv_iconst (v := 4) hx hb dX11_feed_27 (by decide) ?_
  refine lv_icmp_ge (tgt := 35) hx hb dX11_feed_28 (by decide) (fun c_4 => absurd c_4 (by decide)) (fun c_4 => ?_)
  refine lv_iload_n hx hb dX11_feed_31 rfl (lv_at hl 2 rfl) ?_
  refine lv_goto (tgt := 71) hx hb dX11_feed_32 (by decide) ?_
  refine lv_istore (lv' := [(7, .int p1), (6, .int 0), (0, .ref h0), (1, .int p1), (2, .int p2), (3, .int p3), (4, .int p4), (5, .int p5)]) hx hb dX11_feed_71 hl (by decide) rfl (fun ls hl => ?_)
  refine lv_aload_n hx hb dX11_feed_73 rfl (lv_at hl 2 rfl) ?_
  refine va_get (D := (dC, dI)) (ci := 9) (v := .ref (rr 0)) (C := RX11) (T := TX11) (N := 69) hx hb hts iw_X11_feed_X11 hown hK hP 0 rfl rfl 0 (by decide) (hts (.fieldLink RX11 7 "HungFloorsModel" "tape" "[B") (by decide +kernel)) (fun _ h9 => h9) rfl dX11_feed_74 ?_
  refine lv_aload_n hx hb dX11_feed_77 rfl (lv_at hl 2 rfl) ?_
  refine va_get (D := (dC, dI)) (ci := 9) (v := .int 0) (C := RX11) (T := TX11) (N := 69) hx hb hts iw_X11_feed_X11 hown hK hP 0 rfl rfl 2 (by decide) (hts (.fieldLink RX11 218 "HungFloorsModel" "taped" "I") (by decide +kernel)) (fun _ h9 => h9) rfl dX11_feed_78 ?_
  refine lv_iload hx hb dX11_feed_81 (lv_at hl 1 rfl) ?_
  refine lv_iadd hx hb dX11_feed_83 ?_
  refine lv_topi (fun z_5 ez_5 => ?_)
  obtain rfl : z_5 = (0 : Int32) := ez_5.trans (by decide)
  refine lv_iload hx hb dX11_feed_84 (lv_at hl 0 rfl) ?_
  refine lv_bipush (v := 24) hx hb dX11_feed_86 (by decide) ?_
  refine lv_bipush (v := 8) hx hb dX11_feed_88 (by decide) ?_
  refine lv_iload hx hb dX11_feed_90 (lv_at hl 1 rfl) ?_
  refine lv_iconst (v := 3) hx hb dX11_feed_92 (by decide) ?_
  refine lv_iand hx hb dX11_feed_93 ?_
  refine lv_topi (fun z_6 ez_6 => ?_)
  obtain rfl : z_6 = (0 : Int32) := ez_6.trans (by decide)
  refine lv_imul hx hb dX11_feed_94 ?_
  refine lv_topi (fun z_7 ez_7 => ?_)
  obtain rfl : z_7 = (0 : Int32) := ez_7.trans (by decide)
  refine lv_isub hx hb dX11_feed_95 ?_
  refine lv_topi (fun z_8 ez_8 => ?_)
  obtain rfl : z_8 = (24 : Int32) := ez_8.trans (by decide)
  refine lv_ishr hx hb dX11_feed_96 ?_
  obtain ⟨b_9, eb_9⟩ : ∃ y : Int32, ((p1 >>> (24 &&& 31))).toInt8.toInt32 = y := ⟨_, rfl⟩
  refine lv_i2b (v := b_9) hx hb dX11_feed_97 eb_9 ?_
  refine va_bast hx hb hK hP hD hS 1 0 rfl rfl (by unfold vp_in; decide) dX11_feed_98 (fun H locs hP hD hS => ?_)
  obtain ⟨f_10, hP, hD⟩ : ∃ f_10 : Nat → Int32, va_P (dC, dI) vwCl [(h0, .inr (9, mF rr 0 0 0 (-1) 0 0 0 0 0 0 0 0 0 0 0 0 0 0 0 0 0 0 0 0 0)), ((rr 0), .inl (k2, 1620, .inl f_10))] H ∧ va_D A [(h0, .inr (9, mF rr 0 0 0 (-1) 0 0 0 0 0 0 0 0 0 0 0 0 0 0 0 0 0 0 0 0 0)), ((rr 0), .inl (k2, 1620, .inl f_10))] := ⟨_, hP, hD⟩
  refine lv_iinc (v := 1) (lv' := [(6, .int 1), (7, .int p1), (0, .ref h0), (1, .int p1), (2, .int p2), (3, .int p3), (4, .int p4), (5, .int p5)]) hx hb dX11_feed_99 hl (k := 1) rfl (by decide) (by decide) rfl (fun ls hl => ?_)
  refine lv_goto (tgt := 18) hx hb dX11_feed_102 (by decide) ?_
  refine lv_iload hx hb dX11_feed_18 (lv_at hl 0 rfl) ?_
  refine lv_bipush (v := 20) hx hb dX11_feed_20 (by decide) ?_
  refine lv_icmp_ge (tgt := 105) hx hb dX11_feed_22 (by decide) (fun c_11 => absurd c_11 (by decide)) (fun c_11 => ?_)
  refine lv_iload hx hb dX11_feed_25 (lv_at hl 0 rfl) ?_
  refine lv_iconst (v := 4) hx hb dX11_feed_27 (by decide) ?_
  refine lv_icmp_ge (tgt := 35) hx hb dX11_feed_28 (by decide) (fun c_12 => absurd c_12 (by decide)) (fun c_12 => ?_)
  refine lv_iload_n hx hb dX11_feed_31 rfl (lv_at hl 3 rfl) ?_
  refine lv_goto (tgt := 71) hx hb dX11_feed_32 (by decide) ?_
  refine lv_istore (lv' := [(7, .int p1), (6, .int 1), (0, .ref h0), (1, .int p1), (2, .int p2), (3, .int p3), (4, .int p4), (5, .int p5)]) hx hb dX11_feed_71 hl (by decide) rfl (fun ls hl => ?_)
  refine lv_aload_n hx hb dX11_feed_73 rfl (lv_at hl 2 rfl) ?_
  refine va_get (D := (dC, dI)) (ci := 9) (v := .ref (rr 0)) (C := RX11) (T := TX11) (N := 69) hx hb hts iw_X11_feed_X11 hown hK hP 0 rfl rfl 0 (by decide) (hts (.fieldLink RX11 7 "HungFloorsModel" "tape" "[B") (by decide +kernel)) (fun _ h9 => h9) rfl dX11_feed_74 ?_
  refine lv_aload_n hx hb dX11_feed_77 rfl (lv_at hl 2 rfl) ?_
  refine va_get (D := (dC, dI)) (ci := 9) (v := .int 0) (C := RX11) (T := TX11) (N := 69) hx hb hts iw_X11_feed_X11 hown hK hP 0 rfl rfl 2 (by decide) (hts (.fieldLink RX11 218 "HungFloorsModel" "taped" "I") (by decide +kernel)) (fun _ h9 => h9) rfl dX11_feed_78 ?_
  refine lv_iload hx hb dX11_feed_81 (lv_at hl 1 rfl) ?_
  refine lv_iadd hx hb dX11_feed_83 ?_
  refine lv_topi (fun z_13 ez_13 => ?_)
  obtain rfl : z_13 = (1 : Int32) := ez_13.trans (by decide)
  refine lv_iload hx hb dX11_feed_84 (lv_at hl 0 rfl) ?_
  refine lv_bipush (v := 24) hx hb dX11_feed_86 (by decide) ?_
  refine lv_bipush (v := 8) hx hb dX11_feed_88 (by decide) ?_
  refine lv_iload hx hb dX11_feed_90 (lv_at hl 1 rfl) ?_
  refine lv_iconst (v := 3) hx hb dX11_feed_92 (by decide) ?_
  refine lv_iand hx hb dX11_feed_93 ?_
  refine lv_topi (fun z_14 ez_14 => ?_)
  obtain rfl : z_14 = (1 : Int32) := ez_14.trans (by decide)
  refine lv_imul hx hb dX11_feed_94 ?_
  refine lv_topi (fun z_15 ez_15 => ?_)
  obtain rfl : z_15 = (8 : Int32) := ez_15.trans (by decide)
  refine lv_isub hx hb dX11_feed_95 ?_
  refine lv_topi (fun z_16 ez_16 => ?_)
  obtain rfl : z_16 = (16 : Int32) := ez_16.trans (by decide)
  refine lv_ishr hx hb dX11_feed_96 ?_
  obtain ⟨b_17, eb_17⟩ : ∃ y : Int32, ((p1 >>> (16 &&& 31))).toInt8.toInt32 = y := ⟨_, rfl⟩
  refine lv_i2b (v := b_17) hx hb dX11_feed_97 eb_17 ?_
  refine va_bast hx hb hK hP hD hS 1 0 rfl rfl (by unfold vp_in; decide) dX11_feed_98 (fun H locs hP hD hS => ?_)
  obtain ⟨f_18, hP, hD⟩ : ∃ f_18 : Nat → Int32, va_P (dC, dI) vwCl [(h0, .inr (9, mF rr 0 0 0 (-1) 0 0 0 0 0 0 0 0 0 0 0 0 0 0 0 0 0 0 0 0 0)), ((rr 0), .inl (k2, 1620, .inl f_18))] H ∧ va_D A [(h0, .inr (9, mF rr 0 0 0 (-1) 0 0 0 0 0 0 0 0 0 0 0 0 0 0 0 0 0 0 0 0 0)), ((rr 0), .inl (k2, 1620, .inl f_18))] := ⟨_, hP, hD⟩
  refine lv_iinc (v := 2) (lv' := [(6, .int 2), (7, .int p1), (0, .ref h0), (1, .int p1), (2, .int p2), (3, .int p3), (4, .int p4), (5, .int p5)]) hx hb dX11_feed_99 hl (k := 1) rfl (by decide) (by decide) rfl (fun ls hl => ?_)
  refine lv_goto (tgt := 18) hx hb dX11_feed_102 (by decide) ?_
  refine lv_iload hx hb dX11_feed_18 (lv_at hl 0 rfl) ?_
  refine lv_bipush (v := 20) hx hb dX11_feed_20 (by decide) ?_
  refine lv_icmp_ge (tgt := 105) hx hb dX11_feed_22 (by decide) (fun c_19 => absurd c_19 (by decide)) (fun c_19 => ?_)
  refine lv_iload hx hb dX11_feed_25 (lv_at hl 0 rfl) ?_
  refine lv_iconst (v := 4) hx hb dX11_feed_27 (by decide) ?_
  refine lv_icmp_ge (tgt := 35) hx hb dX11_feed_28 (by decide) (fun c_20 => absurd c_20 (by decide)) (fun c_20 => ?_)
  refine lv_iload_n hx hb dX11_feed_31 rfl (lv_at hl 3 rfl) ?_
  refine lv_goto (tgt := 71) hx hb dX11_feed_32 (by decide) ?_
  refine lv_istore (lv' := [(7, .int p1), (6, .int 2), (0, .ref h0), (1, .int p1), (2, .int p2), (3, .int p3), (4, .int p4), (5, .int p5)]) hx hb dX11_feed_71 hl (by decide) rfl (fun ls hl => ?_)
  refine lv_aload_n hx hb dX11_feed_73 rfl (lv_at hl 2 rfl) ?_
  refine va_get (D := (dC, dI)) (ci := 9) (v := .ref (rr 0)) (C := RX11) (T := TX11) (N := 69) hx hb hts iw_X11_feed_X11 hown hK hP 0 rfl rfl 0 (by decide) (hts (.fieldLink RX11 7 "HungFloorsModel" "tape" "[B") (by decide +kernel)) (fun _ h9 => h9) rfl dX11_feed_74 ?_
  refine lv_aload_n hx hb dX11_feed_77 rfl (lv_at hl 2 rfl) ?_
  refine va_get (D := (dC, dI)) (ci := 9) (v := .int 0) (C := RX11) (T := TX11) (N := 69) hx hb hts iw_X11_feed_X11 hown hK hP 0 rfl rfl 2 (by decide) (hts (.fieldLink RX11 218 "HungFloorsModel" "taped" "I") (by decide +kernel)) (fun _ h9 => h9) rfl dX11_feed_78 ?_
  refine lv_iload hx hb dX11_feed_81 (lv_at hl 1 rfl) ?_
  refine lv_iadd hx hb dX11_feed_83 ?_
  refine lv_topi (fun z_21 ez_21 => ?_)
  obtain rfl : z_21 = (2 : Int32) := ez_21.trans (by decide)
  refine lv_iload hx hb dX11_feed_84 (lv_at hl 0 rfl) ?_
  refine lv_bipush (v := 24) hx hb dX11_feed_86 (by decide) ?_
  refine lv_bipush (v := 8) hx hb dX11_feed_88 (by decide) ?_
  refine lv_iload hx hb dX11_feed_90 (lv_at hl 1 rfl) ?_
  refine lv_iconst (v := 3) hx hb dX11_feed_92 (by decide) ?_
  refine lv_iand hx hb dX11_feed_93 ?_
  refine lv_topi (fun z_22 ez_22 => ?_)
  obtain rfl : z_22 = (2 : Int32) := ez_22.trans (by decide)
  refine lv_imul hx hb dX11_feed_94 ?_
  refine lv_topi (fun z_23 ez_23 => ?_)
  obtain rfl : z_23 = (16 : Int32) := ez_23.trans (by decide)
  refine lv_isub hx hb dX11_feed_95 ?_
  refine lv_topi (fun z_24 ez_24 => ?_)
  obtain rfl : z_24 = (8 : Int32) := ez_24.trans (by decide)
  refine lv_ishr hx hb dX11_feed_96 ?_
  obtain ⟨b_25, eb_25⟩ : ∃ y : Int32, ((p1 >>> (8 &&& 31))).toInt8.toInt32 = y := ⟨_, rfl⟩
  refine lv_i2b (v := b_25) hx hb dX11_feed_97 eb_25 ?_
  refine va_bast hx hb hK hP hD hS 1 0 rfl rfl (by unfold vp_in; decide) dX11_feed_98 (fun H locs hP hD hS => ?_)
  obtain ⟨f_26, hP, hD⟩ : ∃ f_26 : Nat → Int32, va_P (dC, dI) vwCl [(h0, .inr (9, mF rr 0 0 0 (-1) 0 0 0 0 0 0 0 0 0 0 0 0 0 0 0 0 0 0 0 0 0)), ((rr 0), .inl (k2, 1620, .inl f_26))] H ∧ va_D A [(h0, .inr (9, mF rr 0 0 0 (-1) 0 0 0 0 0 0 0 0 0 0 0 0 0 0 0 0 0 0 0 0 0)), ((rr 0), .inl (k2, 1620, .inl f_26))] := ⟨_, hP, hD⟩
  refine lv_iinc (v := 3) (lv' := [(6, .int 3), (7, .int p1), (0, .ref h0), (1, .int p1), (2, .int p2), (3, .int p3), (4, .int p4), (5, .int p5)]) hx hb dX11_feed_99 hl (k := 1) rfl (by decide) (by decide) rfl (fun ls hl => ?_)
  refine lv_goto (tgt := 18) hx hb dX11_feed_102 (by decide) ?_
  refine lv_iload hx hb dX11_feed_18 (lv_at hl 0 rfl) ?_
  refine lv_bipush (v := 20) hx hb dX11_feed_20 (by decide) ?_
  refine lv_icmp_ge (tgt := 105) hx hb dX11_feed_22 (by decide) (fun c_27 => absurd c_27 (by decide)) (fun c_27 => ?_)
  refine lv_iload hx hb dX11_feed_25 (lv_at hl 0 rfl) ?_
  refine lv_iconst (v := 4) hx hb dX11_feed_27 (by decide) ?_
  refine lv_icmp_ge (tgt := 35) hx hb dX11_feed_28 (by decide) (fun c_28 => absurd c_28 (by decide)) (fun c_28 => ?_)
  refine lv_iload_n hx hb dX11_feed_31 rfl (lv_at hl 3 rfl) ?_
  refine lv_goto (tgt := 71) hx hb dX11_feed_32 (by decide) ?_
  refine lv_istore (lv' := [(7, .int p1), (6, .int 3), (0, .ref h0), (1, .int p1), (2, .int p2), (3, .int p3), (4, .int p4), (5, .int p5)]) hx hb dX11_feed_71 hl (by decide) rfl (fun ls hl => ?_)
  refine lv_aload_n hx hb dX11_feed_73 rfl (lv_at hl 2 rfl) ?_
  refine va_get (D := (dC, dI)) (ci := 9) (v := .ref (rr 0)) (C := RX11) (T := TX11) (N := 69) hx hb hts iw_X11_feed_X11 hown hK hP 0 rfl rfl 0 (by decide) (hts (.fieldLink RX11 7 "HungFloorsModel" "tape" "[B") (by decide +kernel)) (fun _ h9 => h9) rfl dX11_feed_74 ?_
  refine lv_aload_n hx hb dX11_feed_77 rfl (lv_at hl 2 rfl) ?_
  refine va_get (D := (dC, dI)) (ci := 9) (v := .int 0) (C := RX11) (T := TX11) (N := 69) hx hb hts iw_X11_feed_X11 hown hK hP 0 rfl rfl 2 (by decide) (hts (.fieldLink RX11 218 "HungFloorsModel" "taped" "I") (by decide +kernel)) (fun _ h9 => h9) rfl dX11_feed_78 ?_
  refine lv_iload hx hb dX11_feed_81 (lv_at hl 1 rfl) ?_
  refine lv_iadd hx hb dX11_feed_83 ?_
  refine lv_topi (fun z_29 ez_29 => ?_)
  obtain rfl : z_29 = (3 : Int32) := ez_29.trans (by decide)
  refine lv_iload hx hb dX11_feed_84 (lv_at hl 0 rfl) ?_
  refine lv_bipush (v := 24) hx hb dX11_feed_86 (by decide) ?_
  refine lv_bipush (v := 8) hx hb dX11_feed_88 (by decide) ?_
  refine lv_iload hx hb dX11_feed_90 (lv_at hl 1 rfl) ?_
  refine lv_iconst (v := 3) hx hb dX11_feed_92 (by decide) ?_
  refine lv_iand hx hb dX11_feed_93 ?_
  refine lv_topi (fun z_30 ez_30 => ?_)
  obtain rfl : z_30 = (3 : Int32) := ez_30.trans (by decide)
  refine lv_imul hx hb dX11_feed_94 ?_
  refine lv_topi (fun z_31 ez_31 => ?_)
  obtain rfl : z_31 = (24 : Int32) := ez_31.trans (by decide)
  refine lv_isub hx hb dX11_feed_95 ?_
  refine lv_topi (fun z_32 ez_32 => ?_)
  obtain rfl : z_32 = (0 : Int32) := ez_32.trans (by decide)
  refine lv_ishr hx hb dX11_feed_96 ?_
  obtain ⟨b_33, eb_33⟩ : ∃ y : Int32, ((p1 >>> (0 &&& 31))).toInt8.toInt32 = y := ⟨_, rfl⟩
  refine lv_i2b (v := b_33) hx hb dX11_feed_97 eb_33 ?_
  refine va_bast hx hb hK hP hD hS 1 0 rfl rfl (by unfold vp_in; decide) dX11_feed_98 (fun H locs hP hD hS => ?_)
  obtain ⟨f_34, hP, hD⟩ : ∃ f_34 : Nat → Int32, va_P (dC, dI) vwCl [(h0, .inr (9, mF rr 0 0 0 (-1) 0 0 0 0 0 0 0 0 0 0 0 0 0 0 0 0 0 0 0 0 0)), ((rr 0), .inl (k2, 1620, .inl f_34))] H ∧ va_D A [(h0, .inr (9, mF rr 0 0 0 (-1) 0 0 0 0 0 0 0 0 0 0 0 0 0 0 0 0 0 0 0 0 0)), ((rr 0), .inl (k2, 1620, .inl f_34))] := ⟨_, hP, hD⟩
  refine lv_iinc (v := 4) (lv' := [(6, .int 4), (7, .int p1), (0, .ref h0), (1, .int p1), (2, .int p2), (3, .int p3), (4, .int p4), (5, .int p5)]) hx hb dX11_feed_99 hl (k := 1) rfl (by decide) (by decide) rfl (fun ls hl => ?_)
  refine lv_goto (tgt := 18) hx hb dX11_feed_102 (by decide) ?_
  refine lv_iload hx hb dX11_feed_18 (lv_at hl 0 rfl) ?_
  refine lv_bipush (v := 20) hx hb dX11_feed_20 (by decide) ?_
  refine lv_icmp_ge (tgt := 105) hx hb dX11_feed_22 (by decide) (fun c_35 => absurd c_35 (by decide)) (fun c_35 => ?_)
  refine lv_iload hx hb dX11_feed_25 (lv_at hl 0 rfl) ?_
  refine lv_iconst (v := 4) hx hb dX11_feed_27 (by decide) ?_
  refine lv_icmp_ge (tgt := 35) hx hb dX11_feed_28 (by decide) (fun c_36 => ?_) (fun c_36 => absurd c_36 (by decide))
  refine lv_iload hx hb dX11_feed_35 (lv_at hl 0 rfl) ?_
  refine lv_bipush (v := 8) hx hb dX11_feed_37 (by decide) ?_
  refine lv_icmp_ge (tgt := 46) hx hb dX11_feed_39 (by decide) (fun c_37 => absurd c_37 (by decide)) (fun c_37 => ?_)
  refine lv_iload_n hx hb dX11_feed_42 rfl (lv_at hl 4 rfl) ?_
  refine lv_goto (tgt := 71) hx hb dX11_feed_43 (by decide) ?_
  refine lv_istore (lv' := [(7, .int p2), (6, .int 4), (0, .ref h0), (1, .int p1), (2, .int p2), (3, .int p3), (4, .int p4), (5, .int p5)]) hx hb dX11_feed_71 hl (by decide) rfl (fun ls hl => ?_)
  refine lv_aload_n hx hb dX11_feed_73 rfl (lv_at hl 2 rfl) ?_
  refine va_get (D := (dC, dI)) (ci := 9) (v := .ref (rr 0)) (C := RX11) (T := TX11) (N := 69) hx hb hts iw_X11_feed_X11 hown hK hP 0 rfl rfl 0 (by decide) (hts (.fieldLink RX11 7 "HungFloorsModel" "tape" "[B") (by decide +kernel)) (fun _ h9 => h9) rfl dX11_feed_74 ?_
  refine lv_aload_n hx hb dX11_feed_77 rfl (lv_at hl 2 rfl) ?_
  refine va_get (D := (dC, dI)) (ci := 9) (v := .int 0) (C := RX11) (T := TX11) (N := 69) hx hb hts iw_X11_feed_X11 hown hK hP 0 rfl rfl 2 (by decide) (hts (.fieldLink RX11 218 "HungFloorsModel" "taped" "I") (by decide +kernel)) (fun _ h9 => h9) rfl dX11_feed_78 ?_
  refine lv_iload hx hb dX11_feed_81 (lv_at hl 1 rfl) ?_
  refine lv_iadd hx hb dX11_feed_83 ?_
  refine lv_topi (fun z_38 ez_38 => ?_)
  obtain rfl : z_38 = (4 : Int32) := ez_38.trans (by decide)
  refine lv_iload hx hb dX11_feed_84 (lv_at hl 0 rfl) ?_
  refine lv_bipush (v := 24) hx hb dX11_feed_86 (by decide) ?_
  refine lv_bipush (v := 8) hx hb dX11_feed_88 (by decide) ?_
  refine lv_iload hx hb dX11_feed_90 (lv_at hl 1 rfl) ?_
  refine lv_iconst (v := 3) hx hb dX11_feed_92 (by decide) ?_
  refine lv_iand hx hb dX11_feed_93 ?_
  refine lv_topi (fun z_39 ez_39 => ?_)
  obtain rfl : z_39 = (0 : Int32) := ez_39.trans (by decide)
  refine lv_imul hx hb dX11_feed_94 ?_
  refine lv_topi (fun z_40 ez_40 => ?_)
  obtain rfl : z_40 = (0 : Int32) := ez_40.trans (by decide)
  refine lv_isub hx hb dX11_feed_95 ?_
  refine lv_topi (fun z_41 ez_41 => ?_)
  obtain rfl : z_41 = (24 : Int32) := ez_41.trans (by decide)
  refine lv_ishr hx hb dX11_feed_96 ?_
  obtain ⟨b_42, eb_42⟩ : ∃ y : Int32, ((p2 >>> (24 &&& 31))).toInt8.toInt32 = y := ⟨_, rfl⟩
  refine lv_i2b (v := b_42) hx hb dX11_feed_97 eb_42 ?_
  refine va_bast hx hb hK hP hD hS 1 0 rfl rfl (by unfold vp_in; decide) dX11_feed_98 (fun H locs hP hD hS => ?_)
  obtain ⟨f_43, hP, hD⟩ : ∃ f_43 : Nat → Int32, va_P (dC, dI) vwCl [(h0, .inr (9, mF rr 0 0 0 (-1) 0 0 0 0 0 0 0 0 0 0 0 0 0 0 0 0 0 0 0 0 0)), ((rr 0), .inl (k2, 1620, .inl f_43))] H ∧ va_D A [(h0, .inr (9, mF rr 0 0 0 (-1) 0 0 0 0 0 0 0 0 0 0 0 0 0 0 0 0 0 0 0 0 0)), ((rr 0), .inl (k2, 1620, .inl f_43))] := ⟨_, hP, hD⟩
  refine lv_iinc (v := 5) (lv' := [(6, .int 5), (7, .int p2), (0, .ref h0), (1, .int p1), (2, .int p2), (3, .int p3), (4, .int p4), (5, .int p5)]) hx hb dX11_feed_99 hl (k := 1) rfl (by decide) (by decide) rfl (fun ls hl => ?_)
  refine lv_goto (tgt := 18) hx hb dX11_feed_102 (by decide) ?_
  refine lv_iload hx hb dX11_feed_18 (lv_at hl 0 rfl) ?_
  refine lv_bipush (v := 20) hx hb dX11_feed_20 (by decide) ?_
  refine lv_icmp_ge (tgt := 105) hx hb dX11_feed_22 (by decide) (fun c_44 => absurd c_44 (by decide)) (fun c_44 => ?_)
  refine lv_iload hx hb dX11_feed_25 (lv_at hl 0 rfl) ?_
  refine lv_iconst (v := 4) hx hb dX11_feed_27 (by decide) ?_
  refine lv_icmp_ge (tgt := 35) hx hb dX11_feed_28 (by decide) (fun c_45 => ?_) (fun c_45 => absurd c_45 (by decide))
  refine lv_iload hx hb dX11_feed_35 (lv_at hl 0 rfl) ?_
  refine lv_bipush (v := 8) hx hb dX11_feed_37 (by decide) ?_
  refine lv_icmp_ge (tgt := 46) hx hb dX11_feed_39 (by decide) (fun c_46 => absurd c_46 (by decide)) (fun c_46 => ?_)
  refine lv_iload_n hx hb dX11_feed_42 rfl (lv_at hl 4 rfl) ?_
  refine lv_goto (tgt := 71) hx hb dX11_feed_43 (by decide) ?_
  refine lv_istore (lv' := [(7, .int p2), (6, .int 5), (0, .ref h0), (1, .int p1), (2, .int p2), (3, .int p3), (4, .int p4), (5, .int p5)]) hx hb dX11_feed_71 hl (by decide) rfl (fun ls hl => ?_)
  refine lv_aload_n hx hb dX11_feed_73 rfl (lv_at hl 2 rfl) ?_
  refine va_get (D := (dC, dI)) (ci := 9) (v := .ref (rr 0)) (C := RX11) (T := TX11) (N := 69) hx hb hts iw_X11_feed_X11 hown hK hP 0 rfl rfl 0 (by decide) (hts (.fieldLink RX11 7 "HungFloorsModel" "tape" "[B") (by decide +kernel)) (fun _ h9 => h9) rfl dX11_feed_74 ?_
  refine lv_aload_n hx hb dX11_feed_77 rfl (lv_at hl 2 rfl) ?_
  refine va_get (D := (dC, dI)) (ci := 9) (v := .int 0) (C := RX11) (T := TX11) (N := 69) hx hb hts iw_X11_feed_X11 hown hK hP 0 rfl rfl 2 (by decide) (hts (.fieldLink RX11 218 "HungFloorsModel" "taped" "I") (by decide +kernel)) (fun _ h9 => h9) rfl dX11_feed_78 ?_
  refine lv_iload hx hb dX11_feed_81 (lv_at hl 1 rfl) ?_
  refine lv_iadd hx hb dX11_feed_83 ?_
  refine lv_topi (fun z_47 ez_47 => ?_)
  obtain rfl : z_47 = (5 : Int32) := ez_47.trans (by decide)
  refine lv_iload hx hb dX11_feed_84 (lv_at hl 0 rfl) ?_
  refine lv_bipush (v := 24) hx hb dX11_feed_86 (by decide) ?_
  refine lv_bipush (v := 8) hx hb dX11_feed_88 (by decide) ?_
  refine lv_iload hx hb dX11_feed_90 (lv_at hl 1 rfl) ?_
  refine lv_iconst (v := 3) hx hb dX11_feed_92 (by decide) ?_
  refine lv_iand hx hb dX11_feed_93 ?_
  refine lv_topi (fun z_48 ez_48 => ?_)
  obtain rfl : z_48 = (1 : Int32) := ez_48.trans (by decide)
  refine lv_imul hx hb dX11_feed_94 ?_
  refine lv_topi (fun z_49 ez_49 => ?_)
  obtain rfl : z_49 = (8 : Int32) := ez_49.trans (by decide)
  refine lv_isub hx hb dX11_feed_95 ?_
  refine lv_topi (fun z_50 ez_50 => ?_)
  obtain rfl : z_50 = (16 : Int32) := ez_50.trans (by decide)
  refine lv_ishr hx hb dX11_feed_96 ?_
  obtain ⟨b_51, eb_51⟩ : ∃ y : Int32, ((p2 >>> (16 &&& 31))).toInt8.toInt32 = y := ⟨_, rfl⟩
  refine lv_i2b (v := b_51) hx hb dX11_feed_97 eb_51 ?_
  refine va_bast hx hb hK hP hD hS 1 0 rfl rfl (by unfold vp_in; decide) dX11_feed_98 (fun H locs hP hD hS => ?_)
  obtain ⟨f_52, hP, hD⟩ : ∃ f_52 : Nat → Int32, va_P (dC, dI) vwCl [(h0, .inr (9, mF rr 0 0 0 (-1) 0 0 0 0 0 0 0 0 0 0 0 0 0 0 0 0 0 0 0 0 0)), ((rr 0), .inl (k2, 1620, .inl f_52))] H ∧ va_D A [(h0, .inr (9, mF rr 0 0 0 (-1) 0 0 0 0 0 0 0 0 0 0 0 0 0 0 0 0 0 0 0 0 0)), ((rr 0), .inl (k2, 1620, .inl f_52))] := ⟨_, hP, hD⟩
  refine lv_iinc (v := 6) (lv' := [(6, .int 6), (7, .int p2), (0, .ref h0), (1, .int p1), (2, .int p2), (3, .int p3), (4, .int p4), (5, .int p5)]) hx hb dX11_feed_99 hl (k := 1) rfl (by decide) (by decide) rfl (fun ls hl => ?_)
  refine lv_goto (tgt := 18) hx hb dX11_feed_102 (by decide) ?_
  refine lv_iload hx hb dX11_feed_18 (lv_at hl 0 rfl) ?_
  refine lv_bipush (v := 20) hx hb dX11_feed_20 (by decide) ?_
  refine lv_icmp_ge (tgt := 105) hx hb dX11_feed_22 (by decide) (fun c_53 => absurd c_53 (by decide)) (fun c_53 => ?_)
  refine lv_iload hx hb dX11_feed_25 (lv_at hl 0 rfl) ?_
  refine lv_iconst (v := 4) hx hb dX11_feed_27 (by decide) ?_
  refine lv_icmp_ge (tgt := 35) hx hb dX11_feed_28 (by decide) (fun c_54 => ?_) (fun c_54 => absurd c_54 (by decide))
  refine lv_iload hx hb dX11_feed_35 (lv_at hl 0 rfl) ?_
  refine lv_bipush (v := 8) hx hb dX11_feed_37 (by decide) ?_
  refine lv_icmp_ge (tgt := 46) hx hb dX11_feed_39 (by decide) (fun c_55 => absurd c_55 (by decide)) (fun c_55 => ?_)
  refine lv_iload_n hx hb dX11_feed_42 rfl (lv_at hl 4 rfl) ?_
  refine lv_goto (tgt := 71) hx hb dX11_feed_43 (by decide) ?_
  refine lv_istore (lv' := [(7, .int p2), (6, .int 6), (0, .ref h0), (1, .int p1), (2, .int p2), (3, .int p3), (4, .int p4), (5, .int p5)]) hx hb dX11_feed_71 hl (by decide) rfl (fun ls hl => ?_)
  refine lv_aload_n hx hb dX11_feed_73 rfl (lv_at hl 2 rfl) ?_
  refine va_get (D := (dC, dI)) (ci := 9) (v := .ref (rr 0)) (C := RX11) (T := TX11) (N := 69) hx hb hts iw_X11_feed_X11 hown hK hP 0 rfl rfl 0 (by decide) (hts (.fieldLink RX11 7 "HungFloorsModel" "tape" "[B") (by decide +kernel)) (fun _ h9 => h9) rfl dX11_feed_74 ?_
  refine lv_aload_n hx hb dX11_feed_77 rfl (lv_at hl 2 rfl) ?_
  refine va_get (D := (dC, dI)) (ci := 9) (v := .int 0) (C := RX11) (T := TX11) (N := 69) hx hb hts iw_X11_feed_X11 hown hK hP 0 rfl rfl 2 (by decide) (hts (.fieldLink RX11 218 "HungFloorsModel" "taped" "I") (by decide +kernel)) (fun _ h9 => h9) rfl dX11_feed_78 ?_
  refine lv_iload hx hb dX11_feed_81 (lv_at hl 1 rfl) ?_
  refine lv_iadd hx hb dX11_feed_83 ?_
  refine lv_topi (fun z_56 ez_56 => ?_)
  obtain rfl : z_56 = (6 : Int32) := ez_56.trans (by decide)
  refine lv_iload hx hb dX11_feed_84 (lv_at hl 0 rfl) ?_
  refine lv_bipush (v := 24) hx hb dX11_feed_86 (by decide) ?_
  refine lv_bipush (v := 8) hx hb dX11_feed_88 (by decide) ?_
  refine lv_iload hx hb dX11_feed_90 (lv_at hl 1 rfl) ?_
  refine lv_iconst (v := 3) hx hb dX11_feed_92 (by decide) ?_
  refine lv_iand hx hb dX11_feed_93 ?_
  refine lv_topi (fun z_57 ez_57 => ?_)
  obtain rfl : z_57 = (2 : Int32) := ez_57.trans (by decide)
  refine lv_imul hx hb dX11_feed_94 ?_
  refine lv_topi (fun z_58 ez_58 => ?_)
  obtain rfl : z_58 = (16 : Int32) := ez_58.trans (by decide)
  refine lv_isub hx hb dX11_feed_95 ?_
  refine lv_topi (fun z_59 ez_59 => ?_)
  obtain rfl : z_59 = (8 : Int32) := ez_59.trans (by decide)
  refine lv_ishr hx hb dX11_feed_96 ?_
  obtain ⟨b_60, eb_60⟩ : ∃ y : Int32, ((p2 >>> (8 &&& 31))).toInt8.toInt32 = y := ⟨_, rfl⟩
  refine lv_i2b (v := b_60) hx hb dX11_feed_97 eb_60 ?_
  refine va_bast hx hb hK hP hD hS 1 0 rfl rfl (by unfold vp_in; decide) dX11_feed_98 (fun H locs hP hD hS => ?_)
  obtain ⟨f_61, hP, hD⟩ : ∃ f_61 : Nat → Int32, va_P (dC, dI) vwCl [(h0, .inr (9, mF rr 0 0 0 (-1) 0 0 0 0 0 0 0 0 0 0 0 0 0 0 0 0 0 0 0 0 0)), ((rr 0), .inl (k2, 1620, .inl f_61))] H ∧ va_D A [(h0, .inr (9, mF rr 0 0 0 (-1) 0 0 0 0 0 0 0 0 0 0 0 0 0 0 0 0 0 0 0 0 0)), ((rr 0), .inl (k2, 1620, .inl f_61))] := ⟨_, hP, hD⟩
  refine lv_iinc (v := 7) (lv' := [(6, .int 7), (7, .int p2), (0, .ref h0), (1, .int p1), (2, .int p2), (3, .int p3), (4, .int p4), (5, .int p5)]) hx hb dX11_feed_99 hl (k := 1) rfl (by decide) (by decide) rfl (fun ls hl => ?_)
  refine lv_goto (tgt := 18) hx hb dX11_feed_102 (by decide) ?_
  refine lv_iload hx hb dX11_feed_18 (lv_at hl 0 rfl) ?_
  refine lv_bipush (v := 20) hx hb dX11_feed_20 (by decide) ?_
  refine lv_icmp_ge (tgt := 105) hx hb dX11_feed_22 (by decide) (fun c_62 => absurd c_62 (by decide)) (fun c_62 => ?_)
  refine lv_iload hx hb dX11_feed_25 (lv_at hl 0 rfl) ?_
  refine lv_iconst (v := 4) hx hb dX11_feed_27 (by decide) ?_
  refine lv_icmp_ge (tgt := 35) hx hb dX11_feed_28 (by decide) (fun c_63 => ?_) (fun c_63 => absurd c_63 (by decide))
  refine lv_iload hx hb dX11_feed_35 (lv_at hl 0 rfl) ?_
  refine lv_bipush (v := 8) hx hb dX11_feed_37 (by decide) ?_
  refine lv_icmp_ge (tgt := 46) hx hb dX11_feed_39 (by decide) (fun c_64 => absurd c_64 (by decide)) (fun c_64 => ?_)
  refine lv_iload_n hx hb dX11_feed_42 rfl (lv_at hl 4 rfl) ?_
  refine lv_goto (tgt := 71) hx hb dX11_feed_43 (by decide) ?_
  refine lv_istore (lv' := [(7, .int p2), (6, .int 7), (0, .ref h0), (1, .int p1), (2, .int p2), (3, .int p3), (4, .int p4), (5, .int p5)]) hx hb dX11_feed_71 hl (by decide) rfl (fun ls hl => ?_)
  refine lv_aload_n hx hb dX11_feed_73 rfl (lv_at hl 2 rfl) ?_
  refine va_get (D := (dC, dI)) (ci := 9) (v := .ref (rr 0)) (C := RX11) (T := TX11) (N := 69) hx hb hts iw_X11_feed_X11 hown hK hP 0 rfl rfl 0 (by decide) (hts (.fieldLink RX11 7 "HungFloorsModel" "tape" "[B") (by decide +kernel)) (fun _ h9 => h9) rfl dX11_feed_74 ?_
  refine lv_aload_n hx hb dX11_feed_77 rfl (lv_at hl 2 rfl) ?_
  refine va_get (D := (dC, dI)) (ci := 9) (v := .int 0) (C := RX11) (T := TX11) (N := 69) hx hb hts iw_X11_feed_X11 hown hK hP 0 rfl rfl 2 (by decide) (hts (.fieldLink RX11 218 "HungFloorsModel" "taped" "I") (by decide +kernel)) (fun _ h9 => h9) rfl dX11_feed_78 ?_
  refine lv_iload hx hb dX11_feed_81 (lv_at hl 1 rfl) ?_
  refine lv_iadd hx hb dX11_feed_83 ?_
  refine lv_topi (fun z_65 ez_65 => ?_)
  obtain rfl : z_65 = (7 : Int32) := ez_65.trans (by decide)
  refine lv_iload hx hb dX11_feed_84 (lv_at hl 0 rfl) ?_
  refine lv_bipush (v := 24) hx hb dX11_feed_86 (by decide) ?_
  refine lv_bipush (v := 8) hx hb dX11_feed_88 (by decide) ?_
  refine lv_iload hx hb dX11_feed_90 (lv_at hl 1 rfl) ?_
  refine lv_iconst (v := 3) hx hb dX11_feed_92 (by decide) ?_
  refine lv_iand hx hb dX11_feed_93 ?_
  refine lv_topi (fun z_66 ez_66 => ?_)
  obtain rfl : z_66 = (3 : Int32) := ez_66.trans (by decide)
  refine lv_imul hx hb dX11_feed_94 ?_
  refine lv_topi (fun z_67 ez_67 => ?_)
  obtain rfl : z_67 = (24 : Int32) := ez_67.trans (by decide)
  refine lv_isub hx hb dX11_feed_95 ?_
  refine lv_topi (fun z_68 ez_68 => ?_)
  obtain rfl : z_68 = (0 : Int32) := ez_68.trans (by decide)
  refine lv_ishr hx hb dX11_feed_96 ?_
  obtain ⟨b_69, eb_69⟩ : ∃ y : Int32, ((p2 >>> (0 &&& 31))).toInt8.toInt32 = y := ⟨_, rfl⟩
  refine lv_i2b (v := b_69) hx hb dX11_feed_97 eb_69 ?_
  refine va_bast hx hb hK hP hD hS 1 0 rfl rfl (by unfold vp_in; decide) dX11_feed_98 (fun H locs hP hD hS => ?_)
  obtain ⟨f_70, hP, hD⟩ : ∃ f_70 : Nat → Int32, va_P (dC, dI) vwCl [(h0, .inr (9, mF rr 0 0 0 (-1) 0 0 0 0 0 0 0 0 0 0 0 0 0 0 0 0 0 0 0 0 0)), ((rr 0), .inl (k2, 1620, .inl f_70))] H ∧ va_D A [(h0, .inr (9, mF rr 0 0 0 (-1) 0 0 0 0 0 0 0 0 0 0 0 0 0 0 0 0 0 0 0 0 0)), ((rr 0), .inl (k2, 1620, .inl f_70))] := ⟨_, hP, hD⟩
  refine lv_iinc (v := 8) (lv' := [(6, .int 8), (7, .int p2), (0, .ref h0), (1, .int p1), (2, .int p2), (3, .int p3), (4, .int p4), (5, .int p5)]) hx hb dX11_feed_99 hl (k := 1) rfl (by decide) (by decide) rfl (fun ls hl => ?_)
  refine lv_goto (tgt := 18) hx hb dX11_feed_102 (by decide) ?_
  refine lv_iload hx hb dX11_feed_18 (lv_at hl 0 rfl) ?_
  refine lv_bipush (v := 20) hx hb dX11_feed_20 (by decide) ?_
  refine lv_icmp_ge (tgt := 105) hx hb dX11_feed_22 (by decide) (fun c_71 => absurd c_71 (by decide)) (fun c_71 => ?_)
  refine lv_iload hx hb dX11_feed_25 (lv_at hl 0 rfl) ?_
  refine lv_iconst (v := 4) hx hb dX11_feed_27 (by decide) ?_
  refine lv_icmp_ge (tgt := 35) hx hb dX11_feed_28 (by decide) (fun c_72 => ?_) (fun c_72 => absurd c_72 (by decide))
  refine lv_iload hx hb dX11_feed_35 (lv_at hl 0 rfl) ?_
  refine lv_bipush (v := 8) hx hb dX11_feed_37 (by decide) ?_
  refine lv_icmp_ge (tgt := 46) hx hb dX11_feed_39 (by decide) (fun c_73 => ?_) (fun c_73 => absurd c_73 (by decide))
  refine lv_iload hx hb dX11_feed_46 (lv_at hl 0 rfl) ?_
  refine lv_bipush (v := 12) hx hb dX11_feed_48 (by decide) ?_
  refine lv_icmp_ge (tgt := 57) hx hb dX11_feed_50 (by decide) (fun c_74 => absurd c_74 (by decide)) (fun c_74 => ?_)
  refine lv_iload_n hx hb dX11_feed_53 rfl (lv_at hl 5 rfl) ?_
  refine lv_goto (tgt := 71) hx hb dX11_feed_54 (by decide) ?_
  refine lv_istore (lv' := [(7, .int p3), (6, .int 8), (0, .ref h0), (1, .int p1), (2, .int p2), (3, .int p3), (4, .int p4), (5, .int p5)]) hx hb dX11_feed_71 hl (by decide) rfl (fun ls hl => ?_)
  refine lv_aload_n hx hb dX11_feed_73 rfl (lv_at hl 2 rfl) ?_
  refine va_get (D := (dC, dI)) (ci := 9) (v := .ref (rr 0)) (C := RX11) (T := TX11) (N := 69) hx hb hts iw_X11_feed_X11 hown hK hP 0 rfl rfl 0 (by decide) (hts (.fieldLink RX11 7 "HungFloorsModel" "tape" "[B") (by decide +kernel)) (fun _ h9 => h9) rfl dX11_feed_74 ?_
  refine lv_aload_n hx hb dX11_feed_77 rfl (lv_at hl 2 rfl) ?_
  refine va_get (D := (dC, dI)) (ci := 9) (v := .int 0) (C := RX11) (T := TX11) (N := 69) hx hb hts iw_X11_feed_X11 hown hK hP 0 rfl rfl 2 (by decide) (hts (.fieldLink RX11 218 "HungFloorsModel" "taped" "I") (by decide +kernel)) (fun _ h9 => h9) rfl dX11_feed_78 ?_
  refine lv_iload hx hb dX11_feed_81 (lv_at hl 1 rfl) ?_
  refine lv_iadd hx hb dX11_feed_83 ?_
  refine lv_topi (fun z_75 ez_75 => ?_)
  obtain rfl : z_75 = (8 : Int32) := ez_75.trans (by decide)
  refine lv_iload hx hb dX11_feed_84 (lv_at hl 0 rfl) ?_
  refine lv_bipush (v := 24) hx hb dX11_feed_86 (by decide) ?_
  refine lv_bipush (v := 8) hx hb dX11_feed_88 (by decide) ?_
  refine lv_iload hx hb dX11_feed_90 (lv_at hl 1 rfl) ?_
  refine lv_iconst (v := 3) hx hb dX11_feed_92 (by decide) ?_
  refine lv_iand hx hb dX11_feed_93 ?_
  refine lv_topi (fun z_76 ez_76 => ?_)
  obtain rfl : z_76 = (0 : Int32) := ez_76.trans (by decide)
  refine lv_imul hx hb dX11_feed_94 ?_
  refine lv_topi (fun z_77 ez_77 => ?_)
  obtain rfl : z_77 = (0 : Int32) := ez_77.trans (by decide)
  refine lv_isub hx hb dX11_feed_95 ?_
  refine lv_topi (fun z_78 ez_78 => ?_)
  obtain rfl : z_78 = (24 : Int32) := ez_78.trans (by decide)
  refine lv_ishr hx hb dX11_feed_96 ?_
  obtain ⟨b_79, eb_79⟩ : ∃ y : Int32, ((p3 >>> (24 &&& 31))).toInt8.toInt32 = y := ⟨_, rfl⟩
  refine lv_i2b (v := b_79) hx hb dX11_feed_97 eb_79 ?_
  refine va_bast hx hb hK hP hD hS 1 0 rfl rfl (by unfold vp_in; decide) dX11_feed_98 (fun H locs hP hD hS => ?_)
  obtain ⟨f_80, hP, hD⟩ : ∃ f_80 : Nat → Int32, va_P (dC, dI) vwCl [(h0, .inr (9, mF rr 0 0 0 (-1) 0 0 0 0 0 0 0 0 0 0 0 0 0 0 0 0 0 0 0 0 0)), ((rr 0), .inl (k2, 1620, .inl f_80))] H ∧ va_D A [(h0, .inr (9, mF rr 0 0 0 (-1) 0 0 0 0 0 0 0 0 0 0 0 0 0 0 0 0 0 0 0 0 0)), ((rr 0), .inl (k2, 1620, .inl f_80))] := ⟨_, hP, hD⟩
  refine lv_iinc (v := 9) (lv' := [(6, .int 9), (7, .int p3), (0, .ref h0), (1, .int p1), (2, .int p2), (3, .int p3), (4, .int p4), (5, .int p5)]) hx hb dX11_feed_99 hl (k := 1) rfl (by decide) (by decide) rfl (fun ls hl => ?_)
  refine lv_goto (tgt := 18) hx hb dX11_feed_102 (by decide) ?_
  refine lv_iload hx hb dX11_feed_18 (lv_at hl 0 rfl) ?_
  refine lv_bipush (v := 20) hx hb dX11_feed_20 (by decide) ?_
  refine lv_icmp_ge (tgt := 105) hx hb dX11_feed_22 (by decide) (fun c_81 => absurd c_81 (by decide)) (fun c_81 => ?_)
  refine lv_iload hx hb dX11_feed_25 (lv_at hl 0 rfl) ?_
  refine lv_iconst (v := 4) hx hb dX11_feed_27 (by decide) ?_
  refine lv_icmp_ge (tgt := 35) hx hb dX11_feed_28 (by decide) (fun c_82 => ?_) (fun c_82 => absurd c_82 (by decide))
  refine lv_iload hx hb dX11_feed_35 (lv_at hl 0 rfl) ?_
  refine lv_bipush (v := 8) hx hb dX11_feed_37 (by decide) ?_
  refine lv_icmp_ge (tgt := 46) hx hb dX11_feed_39 (by decide) (fun c_83 => ?_) (fun c_83 => absurd c_83 (by decide))
  refine lv_iload hx hb dX11_feed_46 (lv_at hl 0 rfl) ?_
  refine lv_bipush (v := 12) hx hb dX11_feed_48 (by decide) ?_
  refine lv_icmp_ge (tgt := 57) hx hb dX11_feed_50 (by decide) (fun c_84 => absurd c_84 (by decide)) (fun c_84 => ?_)
  refine lv_iload_n hx hb dX11_feed_53 rfl (lv_at hl 5 rfl) ?_
  refine lv_goto (tgt := 71) hx hb dX11_feed_54 (by decide) ?_
  refine lv_istore (lv' := [(7, .int p3), (6, .int 9), (0, .ref h0), (1, .int p1), (2, .int p2), (3, .int p3), (4, .int p4), (5, .int p5)]) hx hb dX11_feed_71 hl (by decide) rfl (fun ls hl => ?_)
  refine lv_aload_n hx hb dX11_feed_73 rfl (lv_at hl 2 rfl) ?_
  refine va_get (D := (dC, dI)) (ci := 9) (v := .ref (rr 0)) (C := RX11) (T := TX11) (N := 69) hx hb hts iw_X11_feed_X11 hown hK hP 0 rfl rfl 0 (by decide) (hts (.fieldLink RX11 7 "HungFloorsModel" "tape" "[B") (by decide +kernel)) (fun _ h9 => h9) rfl dX11_feed_74 ?_
  refine lv_aload_n hx hb dX11_feed_77 rfl (lv_at hl 2 rfl) ?_
  refine va_get (D := (dC, dI)) (ci := 9) (v := .int 0) (C := RX11) (T := TX11) (N := 69) hx hb hts iw_X11_feed_X11 hown hK hP 0 rfl rfl 2 (by decide) (hts (.fieldLink RX11 218 "HungFloorsModel" "taped" "I") (by decide +kernel)) (fun _ h9 => h9) rfl dX11_feed_78 ?_
  refine lv_iload hx hb dX11_feed_81 (lv_at hl 1 rfl) ?_
  refine lv_iadd hx hb dX11_feed_83 ?_
  refine lv_topi (fun z_85 ez_85 => ?_)
  obtain rfl : z_85 = (9 : Int32) := ez_85.trans (by decide)
  refine lv_iload hx hb dX11_feed_84 (lv_at hl 0 rfl) ?_
  refine lv_bipush (v := 24) hx hb dX11_feed_86 (by decide) ?_
  refine lv_bipush (v := 8) hx hb dX11_feed_88 (by decide) ?_
  refine lv_iload hx hb dX11_feed_90 (lv_at hl 1 rfl) ?_
  refine lv_iconst (v := 3) hx hb dX11_feed_92 (by decide) ?_
  refine lv_iand hx hb dX11_feed_93 ?_
  refine lv_topi (fun z_86 ez_86 => ?_)
  obtain rfl : z_86 = (1 : Int32) := ez_86.trans (by decide)
  refine lv_imul hx hb dX11_feed_94 ?_
  refine lv_topi (fun z_87 ez_87 => ?_)
  obtain rfl : z_87 = (8 : Int32) := ez_87.trans (by decide)
  refine lv_isub hx hb dX11_feed_95 ?_
  refine lv_topi (fun z_88 ez_88 => ?_)
  obtain rfl : z_88 = (16 : Int32) := ez_88.trans (by decide)
  refine lv_ishr hx hb dX11_feed_96 ?_
  obtain ⟨b_89, eb_89⟩ : ∃ y : Int32, ((p3 >>> (16 &&& 31))).toInt8.toInt32 = y := ⟨_, rfl⟩
  refine lv_i2b (v := b_89) hx hb dX11_feed_97 eb_89 ?_
  refine va_bast hx hb hK hP hD hS 1 0 rfl rfl (by unfold vp_in; decide) dX11_feed_98 (fun H locs hP hD hS => ?_)
  obtain ⟨f_90, hP, hD⟩ : ∃ f_90 : Nat → Int32, va_P (dC, dI) vwCl [(h0, .inr (9, mF rr 0 0 0 (-1) 0 0 0 0 0 0 0 0 0 0 0 0 0 0 0 0 0 0 0 0 0)), ((rr 0), .inl (k2, 1620, .inl f_90))] H ∧ va_D A [(h0, .inr (9, mF rr 0 0 0 (-1) 0 0 0 0 0 0 0 0 0 0 0 0 0 0 0 0 0 0 0 0 0)), ((rr 0), .inl (k2, 1620, .inl f_90))] := ⟨_, hP, hD⟩
  refine lv_iinc (v := 10) (lv' := [(6, .int 10), (7, .int p3), (0, .ref h0), (1, .int p1), (2, .int p2), (3, .int p3), (4, .int p4), (5, .int p5)]) hx hb dX11_feed_99 hl (k := 1) rfl (by decide) (by decide) rfl (fun ls hl => ?_)
  refine lv_goto (tgt := 18) hx hb dX11_feed_102 (by decide) ?_
  refine lv_iload hx hb dX11_feed_18 (lv_at hl 0 rfl) ?_
  refine lv_bipush (v := 20) hx hb dX11_feed_20 (by decide) ?_
  refine lv_icmp_ge (tgt := 105) hx hb dX11_feed_22 (by decide) (fun c_91 => absurd c_91 (by decide)) (fun c_91 => ?_)
  refine lv_iload hx hb dX11_feed_25 (lv_at hl 0 rfl) ?_
  refine lv_iconst (v := 4) hx hb dX11_feed_27 (by decide) ?_
  refine lv_icmp_ge (tgt := 35) hx hb dX11_feed_28 (by decide) (fun c_92 => ?_) (fun c_92 => absurd c_92 (by decide))
  refine lv_iload hx hb dX11_feed_35 (lv_at hl 0 rfl) ?_
  refine lv_bipush (v := 8) hx hb dX11_feed_37 (by decide) ?_
  refine lv_icmp_ge (tgt := 46) hx hb dX11_feed_39 (by decide) (fun c_93 => ?_) (fun c_93 => absurd c_93 (by decide))
  refine lv_iload hx hb dX11_feed_46 (lv_at hl 0 rfl) ?_
  refine lv_bipush (v := 12) hx hb dX11_feed_48 (by decide) ?_
  refine lv_icmp_ge (tgt := 57) hx hb dX11_feed_50 (by decide) (fun c_94 => absurd c_94 (by decide)) (fun c_94 => ?_)
  refine lv_iload_n hx hb dX11_feed_53 rfl (lv_at hl 5 rfl) ?_
  refine lv_goto (tgt := 71) hx hb dX11_feed_54 (by decide) ?_
  refine lv_istore (lv' := [(7, .int p3), (6, .int 10), (0, .ref h0), (1, .int p1), (2, .int p2), (3, .int p3), (4, .int p4), (5, .int p5)]) hx hb dX11_feed_71 hl (by decide) rfl (fun ls hl => ?_)
  refine lv_aload_n hx hb dX11_feed_73 rfl (lv_at hl 2 rfl) ?_
  refine va_get (D := (dC, dI)) (ci := 9) (v := .ref (rr 0)) (C := RX11) (T := TX11) (N := 69) hx hb hts iw_X11_feed_X11 hown hK hP 0 rfl rfl 0 (by decide) (hts (.fieldLink RX11 7 "HungFloorsModel" "tape" "[B") (by decide +kernel)) (fun _ h9 => h9) rfl dX11_feed_74 ?_
  refine lv_aload_n hx hb dX11_feed_77 rfl (lv_at hl 2 rfl) ?_
  refine va_get (D := (dC, dI)) (ci := 9) (v := .int 0) (C := RX11) (T := TX11) (N := 69) hx hb hts iw_X11_feed_X11 hown hK hP 0 rfl rfl 2 (by decide) (hts (.fieldLink RX11 218 "HungFloorsModel" "taped" "I") (by decide +kernel)) (fun _ h9 => h9) rfl dX11_feed_78 ?_
  refine lv_iload hx hb dX11_feed_81 (lv_at hl 1 rfl) ?_
  refine lv_iadd hx hb dX11_feed_83 ?_
  refine lv_topi (fun z_95 ez_95 => ?_)
  obtain rfl : z_95 = (10 : Int32) := ez_95.trans (by decide)
  refine lv_iload hx hb dX11_feed_84 (lv_at hl 0 rfl) ?_
  refine lv_bipush (v := 24) hx hb dX11_feed_86 (by decide) ?_
  refine lv_bipush (v := 8) hx hb dX11_feed_88 (by decide) ?_
  refine lv_iload hx hb dX11_feed_90 (lv_at hl 1 rfl) ?_
  refine lv_iconst (v := 3) hx hb dX11_feed_92 (by decide) ?_
  refine lv_iand hx hb dX11_feed_93 ?_
  refine lv_topi (fun z_96 ez_96 => ?_)
  obtain rfl : z_96 = (2 : Int32) := ez_96.trans (by decide)
  refine lv_imul hx hb dX11_feed_94 ?_
  refine lv_topi (fun z_97 ez_97 => ?_)
  obtain rfl : z_97 = (16 : Int32) := ez_97.trans (by decide)
  refine lv_isub hx hb dX11_feed_95 ?_
  refine lv_topi (fun z_98 ez_98 => ?_)
  obtain rfl : z_98 = (8 : Int32) := ez_98.trans (by decide)
  refine lv_ishr hx hb dX11_feed_96 ?_
  obtain ⟨b_99, eb_99⟩ : ∃ y : Int32, ((p3 >>> (8 &&& 31))).toInt8.toInt32 = y := ⟨_, rfl⟩
  refine lv_i2b (v := b_99) hx hb dX11_feed_97 eb_99 ?_
  refine va_bast hx hb hK hP hD hS 1 0 rfl rfl (by unfold vp_in; decide) dX11_feed_98 (fun H locs hP hD hS => ?_)
  obtain ⟨f_100, hP, hD⟩ : ∃ f_100 : Nat → Int32, va_P (dC, dI) vwCl [(h0, .inr (9, mF rr 0 0 0 (-1) 0 0 0 0 0 0 0 0 0 0 0 0 0 0 0 0 0 0 0 0 0)), ((rr 0), .inl (k2, 1620, .inl f_100))] H ∧ va_D A [(h0, .inr (9, mF rr 0 0 0 (-1) 0 0 0 0 0 0 0 0 0 0 0 0 0 0 0 0 0 0 0 0 0)), ((rr 0), .inl (k2, 1620, .inl f_100))] := ⟨_, hP, hD⟩
  refine lv_iinc (v := 11) (lv' := [(6, .int 11), (7, .int p3), (0, .ref h0), (1, .int p1), (2, .int p2), (3, .int p3), (4, .int p4), (5, .int p5)]) hx hb dX11_feed_99 hl (k := 1) rfl (by decide) (by decide) rfl (fun ls hl => ?_)
  refine lv_goto (tgt := 18) hx hb dX11_feed_102 (by decide) ?_
  refine lv_iload hx hb dX11_feed_18 (lv_at hl 0 rfl) ?_
  refine lv_bipush (v := 20) hx hb dX11_feed_20 (by decide) ?_
  refine lv_icmp_ge (tgt := 105) hx hb dX11_feed_22 (by decide) (fun c_101 => absurd c_101 (by decide)) (fun c_101 => ?_)
  refine lv_iload hx hb dX11_feed_25 (lv_at hl 0 rfl) ?_
  refine lv_iconst (v := 4) hx hb dX11_feed_27 (by decide) ?_
  refine lv_icmp_ge (tgt := 35) hx hb dX11_feed_28 (by decide) (fun c_102 => ?_) (fun c_102 => absurd c_102 (by decide))
  refine lv_iload hx hb dX11_feed_35 (lv_at hl 0 rfl) ?_
  refine lv_bipush (v := 8) hx hb dX11_feed_37 (by decide) ?_
  refine lv_icmp_ge (tgt := 46) hx hb dX11_feed_39 (by decide) (fun c_103 => ?_) (fun c_103 => absurd c_103 (by decide))
  refine lv_iload hx hb dX11_feed_46 (lv_at hl 0 rfl) ?_
  refine lv_bipush (v := 12) hx hb dX11_feed_48 (by decide) ?_
  refine lv_icmp_ge (tgt := 57) hx hb dX11_feed_50 (by decide) (fun c_104 => absurd c_104 (by decide)) (fun c_104 => ?_)
  refine lv_iload_n hx hb dX11_feed_53 rfl (lv_at hl 5 rfl) ?_
  refine lv_goto (tgt := 71) hx hb dX11_feed_54 (by decide) ?_
  refine lv_istore (lv' := [(7, .int p3), (6, .int 11), (0, .ref h0), (1, .int p1), (2, .int p2), (3, .int p3), (4, .int p4), (5, .int p5)]) hx hb dX11_feed_71 hl (by decide) rfl (fun ls hl => ?_)
  refine lv_aload_n hx hb dX11_feed_73 rfl (lv_at hl 2 rfl) ?_
  refine va_get (D := (dC, dI)) (ci := 9) (v := .ref (rr 0)) (C := RX11) (T := TX11) (N := 69) hx hb hts iw_X11_feed_X11 hown hK hP 0 rfl rfl 0 (by decide) (hts (.fieldLink RX11 7 "HungFloorsModel" "tape" "[B") (by decide +kernel)) (fun _ h9 => h9) rfl dX11_feed_74 ?_
  refine lv_aload_n hx hb dX11_feed_77 rfl (lv_at hl 2 rfl) ?_
  refine va_get (D := (dC, dI)) (ci := 9) (v := .int 0) (C := RX11) (T := TX11) (N := 69) hx hb hts iw_X11_feed_X11 hown hK hP 0 rfl rfl 2 (by decide) (hts (.fieldLink RX11 218 "HungFloorsModel" "taped" "I") (by decide +kernel)) (fun _ h9 => h9) rfl dX11_feed_78 ?_
  refine lv_iload hx hb dX11_feed_81 (lv_at hl 1 rfl) ?_
  refine lv_iadd hx hb dX11_feed_83 ?_
  refine lv_topi (fun z_105 ez_105 => ?_)
  obtain rfl : z_105 = (11 : Int32) := ez_105.trans (by decide)
  refine lv_iload hx hb dX11_feed_84 (lv_at hl 0 rfl) ?_
  refine lv_bipush (v := 24) hx hb dX11_feed_86 (by decide) ?_
  refine lv_bipush (v := 8) hx hb dX11_feed_88 (by decide) ?_
  refine lv_iload hx hb dX11_feed_90 (lv_at hl 1 rfl) ?_
  refine lv_iconst (v := 3) hx hb dX11_feed_92 (by decide) ?_
  refine lv_iand hx hb dX11_feed_93 ?_
  refine lv_topi (fun z_106 ez_106 => ?_)
  obtain rfl : z_106 = (3 : Int32) := ez_106.trans (by decide)
  refine lv_imul hx hb dX11_feed_94 ?_
  refine lv_topi (fun z_107 ez_107 => ?_)
  obtain rfl : z_107 = (24 : Int32) := ez_107.trans (by decide)
  refine lv_isub hx hb dX11_feed_95 ?_
  refine lv_topi (fun z_108 ez_108 => ?_)
  obtain rfl : z_108 = (0 : Int32) := ez_108.trans (by decide)
  refine lv_ishr hx hb dX11_feed_96 ?_
  obtain ⟨b_109, eb_109⟩ : ∃ y : Int32, ((p3 >>> (0 &&& 31))).toInt8.toInt32 = y := ⟨_, rfl⟩
  refine lv_i2b (v := b_109) hx hb dX11_feed_97 eb_109 ?_
  refine va_bast hx hb hK hP hD hS 1 0 rfl rfl (by unfold vp_in; decide) dX11_feed_98 (fun H locs hP hD hS => ?_)
  obtain ⟨f_110, hP, hD⟩ : ∃ f_110 : Nat → Int32, va_P (dC, dI) vwCl [(h0, .inr (9, mF rr 0 0 0 (-1) 0 0 0 0 0 0 0 0 0 0 0 0 0 0 0 0 0 0 0 0 0)), ((rr 0), .inl (k2, 1620, .inl f_110))] H ∧ va_D A [(h0, .inr (9, mF rr 0 0 0 (-1) 0 0 0 0 0 0 0 0 0 0 0 0 0 0 0 0 0 0 0 0 0)), ((rr 0), .inl (k2, 1620, .inl f_110))] := ⟨_, hP, hD⟩
  refine lv_iinc (v := 12) (lv' := [(6, .int 12), (7, .int p3), (0, .ref h0), (1, .int p1), (2, .int p2), (3, .int p3), (4, .int p4), (5, .int p5)]) hx hb dX11_feed_99 hl (k := 1) rfl (by decide) (by decide) rfl (fun ls hl => ?_)
  refine lv_goto (tgt := 18) hx hb dX11_feed_102 (by decide) ?_
  refine lv_iload hx hb dX11_feed_18 (lv_at hl 0 rfl) ?_
  refine lv_bipush (v := 20) hx hb dX11_feed_20 (by decide) ?_
  refine lv_icmp_ge (tgt := 105) hx hb dX11_feed_22 (by decide) (fun c_111 => absurd c_111 (by decide)) (fun c_111 => ?_)
  refine lv_iload hx hb dX11_feed_25 (lv_at hl 0 rfl) ?_
  refine lv_iconst (v := 4) hx hb dX11_feed_27 (by decide) ?_
  refine lv_icmp_ge (tgt := 35) hx hb dX11_feed_28 (by decide) (fun c_112 => ?_) (fun c_112 => absurd c_112 (by decide))
  refine lv_iload hx hb dX11_feed_35 (lv_at hl 0 rfl) ?_
  refine lv_bipush (v := 8) hx hb dX11_feed_37 (by decide) ?_
  refine lv_icmp_ge (tgt := 46) hx hb dX11_feed_39 (by decide) (fun c_113 => ?_) (fun c_113 => absurd c_113 (by decide))
  refine lv_iload hx hb dX11_feed_46 (lv_at hl 0 rfl) ?_
  refine lv_bipush (v := 12) hx hb dX11_feed_48 (by decide) ?_
  refine lv_icmp_ge (tgt := 57) hx hb dX11_feed_50 (by decide) (fun c_114 => ?_) (fun c_114 => absurd c_114 (by decide))
  refine lv_iload hx hb dX11_feed_57 (lv_at hl 0 rfl) ?_
  refine lv_bipush (v := 16) hx hb dX11_feed_59 (by decide) ?_
  refine lv_icmp_ge (tgt := 69) hx hb dX11_feed_61 (by decide) (fun c_115 => absurd c_115 (by decide)) (fun c_115 => ?_)
  refine lv_iload hx hb dX11_feed_64 (lv_at hl 6 rfl) ?_
  refine lv_goto (tgt := 71) hx hb dX11_feed_66 (by decide) ?_
  refine lv_istore (lv' := [(7, .int p4), (6, .int 12), (0, .ref h0), (1, .int p1), (2, .int p2), (3, .int p3), (4, .int p4), (5, .int p5)]) hx hb dX11_feed_71 hl (by decide) rfl (fun ls hl => ?_)
  refine lv_aload_n hx hb dX11_feed_73 rfl (lv_at hl 2 rfl) ?_
  refine va_get (D := (dC, dI)) (ci := 9) (v := .ref (rr 0)) (C := RX11) (T := TX11) (N := 69) hx hb hts iw_X11_feed_X11 hown hK hP 0 rfl rfl 0 (by decide) (hts (.fieldLink RX11 7 "HungFloorsModel" "tape" "[B") (by decide +kernel)) (fun _ h9 => h9) rfl dX11_feed_74 ?_
  refine lv_aload_n hx hb dX11_feed_77 rfl (lv_at hl 2 rfl) ?_
  refine va_get (D := (dC, dI)) (ci := 9) (v := .int 0) (C := RX11) (T := TX11) (N := 69) hx hb hts iw_X11_feed_X11 hown hK hP 0 rfl rfl 2 (by decide) (hts (.fieldLink RX11 218 "HungFloorsModel" "taped" "I") (by decide +kernel)) (fun _ h9 => h9) rfl dX11_feed_78 ?_
  refine lv_iload hx hb dX11_feed_81 (lv_at hl 1 rfl) ?_
  refine lv_iadd hx hb dX11_feed_83 ?_
  refine lv_topi (fun z_116 ez_116 => ?_)
  obtain rfl : z_116 = (12 : Int32) := ez_116.trans (by decide)
  refine lv_iload hx hb dX11_feed_84 (lv_at hl 0 rfl) ?_
  refine lv_bipush (v := 24) hx hb dX11_feed_86 (by decide) ?_
  refine lv_bipush (v := 8) hx hb dX11_feed_88 (by decide) ?_
  refine lv_iload hx hb dX11_feed_90 (lv_at hl 1 rfl) ?_
  refine lv_iconst (v := 3) hx hb dX11_feed_92 (by decide) ?_
  refine lv_iand hx hb dX11_feed_93 ?_
  refine lv_topi (fun z_117 ez_117 => ?_)
  obtain rfl : z_117 = (0 : Int32) := ez_117.trans (by decide)
  refine lv_imul hx hb dX11_feed_94 ?_
  refine lv_topi (fun z_118 ez_118 => ?_)
  obtain rfl : z_118 = (0 : Int32) := ez_118.trans (by decide)
  refine lv_isub hx hb dX11_feed_95 ?_
  refine lv_topi (fun z_119 ez_119 => ?_)
  obtain rfl : z_119 = (24 : Int32) := ez_119.trans (by decide)
  refine lv_ishr hx hb dX11_feed_96 ?_
  obtain ⟨b_120, eb_120⟩ : ∃ y : Int32, ((p4 >>> (24 &&& 31))).toInt8.toInt32 = y := ⟨_, rfl⟩
  refine lv_i2b (v := b_120) hx hb dX11_feed_97 eb_120 ?_
  refine va_bast hx hb hK hP hD hS 1 0 rfl rfl (by unfold vp_in; decide) dX11_feed_98 (fun H locs hP hD hS => ?_)
  obtain ⟨f_121, hP, hD⟩ : ∃ f_121 : Nat → Int32, va_P (dC, dI) vwCl [(h0, .inr (9, mF rr 0 0 0 (-1) 0 0 0 0 0 0 0 0 0 0 0 0 0 0 0 0 0 0 0 0 0)), ((rr 0), .inl (k2, 1620, .inl f_121))] H ∧ va_D A [(h0, .inr (9, mF rr 0 0 0 (-1) 0 0 0 0 0 0 0 0 0 0 0 0 0 0 0 0 0 0 0 0 0)), ((rr 0), .inl (k2, 1620, .inl f_121))] := ⟨_, hP, hD⟩
  refine lv_iinc (v := 13) (lv' := [(6, .int 13), (7, .int p4), (0, .ref h0), (1, .int p1), (2, .int p2), (3, .int p3), (4, .int p4), (5, .int p5)]) hx hb dX11_feed_99 hl (k := 1) rfl (by decide) (by decide) rfl (fun ls hl => ?_)
  refine lv_goto (tgt := 18) hx hb dX11_feed_102 (by decide) ?_
  refine lv_iload hx hb dX11_feed_18 (lv_at hl 0 rfl) ?_
  refine lv_bipush (v := 20) hx hb dX11_feed_20 (by decide) ?_
  refine lv_icmp_ge (tgt := 105) hx hb dX11_feed_22 (by decide) (fun c_122 => absurd c_122 (by decide)) (fun c_122 => ?_)
  refine lv_iload hx hb dX11_feed_25 (lv_at hl 0 rfl) ?_
  refine lv_iconst (v := 4) hx hb dX11_feed_27 (by decide) ?_
  refine lv_icmp_ge (tgt := 35) hx hb dX11_feed_28 (by decide) (fun c_123 => ?_) (fun c_123 => absurd c_123 (by decide))
  refine lv_iload hx hb dX11_feed_35 (lv_at hl 0 rfl) ?_
  refine lv_bipush (v := 8) hx hb dX11_feed_37 (by decide) ?_
  refine lv_icmp_ge (tgt := 46) hx hb dX11_feed_39 (by decide) (fun c_124 => ?_) (fun c_124 => absurd c_124 (by decide))
  refine lv_iload hx hb dX11_feed_46 (lv_at hl 0 rfl) ?_
  refine lv_bipush (v := 12) hx hb dX11_feed_48 (by decide) ?_
  refine lv_icmp_ge (tgt := 57) hx hb dX11_feed_50 (by decide) (fun c_125 => ?_) (fun c_125 => absurd c_125 (by decide))
  refine lv_iload hx hb dX11_feed_57 (lv_at hl 0 rfl) ?_
  refine lv_bipush (v := 16) hx hb dX11_feed_59 (by decide) ?_
  refine lv_icmp_ge (tgt := 69) hx hb dX11_feed_61 (by decide) (fun c_126 => absurd c_126 (by decide)) (fun c_126 => ?_)
  refine lv_iload hx hb dX11_feed_64 (lv_at hl 6 rfl) ?_
  refine lv_goto (tgt := 71) hx hb dX11_feed_66 (by decide) ?_
  refine lv_istore (lv' := [(7, .int p4), (6, .int 13), (0, .ref h0), (1, .int p1), (2, .int p2), (3, .int p3), (4, .int p4), (5, .int p5)]) hx hb dX11_feed_71 hl (by decide) rfl (fun ls hl => ?_)
  refine lv_aload_n hx hb dX11_feed_73 rfl (lv_at hl 2 rfl) ?_
  refine va_get (D := (dC, dI)) (ci := 9) (v := .ref (rr 0)) (C := RX11) (T := TX11) (N := 69) hx hb hts iw_X11_feed_X11 hown hK hP 0 rfl rfl 0 (by decide) (hts (.fieldLink RX11 7 "HungFloorsModel" "tape" "[B") (by decide +kernel)) (fun _ h9 => h9) rfl dX11_feed_74 ?_
  refine lv_aload_n hx hb dX11_feed_77 rfl (lv_at hl 2 rfl) ?_
  refine va_get (D := (dC, dI)) (ci := 9) (v := .int 0) (C := RX11) (T := TX11) (N := 69) hx hb hts iw_X11_feed_X11 hown hK hP 0 rfl rfl 2 (by decide) (hts (.fieldLink RX11 218 "HungFloorsModel" "taped" "I") (by decide +kernel)) (fun _ h9 => h9) rfl dX11_feed_78 ?_
  refine lv_iload hx hb dX11_feed_81 (lv_at hl 1 rfl) ?_
  refine lv_iadd hx hb dX11_feed_83 ?_
  refine lv_topi (fun z_127 ez_127 => ?_)
  obtain rfl : z_127 = (13 : Int32) := ez_127.trans (by decide)
  refine lv_iload hx hb dX11_feed_84 (lv_at hl 0 rfl) ?_
  refine lv_bipush (v := 24) hx hb dX11_feed_86 (by decide) ?_
  refine lv_bipush (v := 8) hx hb dX11_feed_88 (by decide) ?_
  refine lv_iload hx hb dX11_feed_90 (lv_at hl 1 rfl) ?_
  refine lv_iconst (v := 3) hx hb dX11_feed_92 (by decide) ?_
  refine lv_iand hx hb dX11_feed_93 ?_
  refine lv_topi (fun z_128 ez_128 => ?_)
  obtain rfl : z_128 = (1 : Int32) := ez_128.trans (by decide)
  refine lv_imul hx hb dX11_feed_94 ?_
  refine lv_topi (fun z_129 ez_129 => ?_)
  obtain rfl : z_129 = (8 : Int32) := ez_129.trans (by decide)
  refine lv_isub hx hb dX11_feed_95 ?_
  refine lv_topi (fun z_130 ez_130 => ?_)
  obtain rfl : z_130 = (16 : Int32) := ez_130.trans (by decide)
  refine lv_ishr hx hb dX11_feed_96 ?_
  obtain ⟨b_131, eb_131⟩ : ∃ y : Int32, ((p4 >>> (16 &&& 31))).toInt8.toInt32 = y := ⟨_, rfl⟩
  refine lv_i2b (v := b_131) hx hb dX11_feed_97 eb_131 ?_
  refine va_bast hx hb hK hP hD hS 1 0 rfl rfl (by unfold vp_in; decide) dX11_feed_98 (fun H locs hP hD hS => ?_)
  obtain ⟨f_132, hP, hD⟩ : ∃ f_132 : Nat → Int32, va_P (dC, dI) vwCl [(h0, .inr (9, mF rr 0 0 0 (-1) 0 0 0 0 0 0 0 0 0 0 0 0 0 0 0 0 0 0 0 0 0)), ((rr 0), .inl (k2, 1620, .inl f_132))] H ∧ va_D A [(h0, .inr (9, mF rr 0 0 0 (-1) 0 0 0 0 0 0 0 0 0 0 0 0 0 0 0 0 0 0 0 0 0)), ((rr 0), .inl (k2, 1620, .inl f_132))] := ⟨_, hP, hD⟩
  refine lv_iinc (v := 14) (lv' := [(6, .int 14), (7, .int p4), (0, .ref h0), (1, .int p1), (2, .int p2), (3, .int p3), (4, .int p4), (5, .int p5)]) hx hb dX11_feed_99 hl (k := 1) rfl (by decide) (by decide) rfl (fun ls hl => ?_)
  refine lv_goto (tgt := 18) hx hb dX11_feed_102 (by decide) ?_
  refine lv_iload hx hb dX11_feed_18 (lv_at hl 0 rfl) ?_
  refine lv_bipush (v := 20) hx hb dX11_feed_20 (by decide) ?_
  refine lv_icmp_ge (tgt := 105) hx hb dX11_feed_22 (by decide) (fun c_133 => absurd c_133 (by decide)) (fun c_133 => ?_)
  refine lv_iload hx hb dX11_feed_25 (lv_at hl 0 rfl) ?_
  refine lv_iconst (v := 4) hx hb dX11_feed_27 (by decide) ?_
  refine lv_icmp_ge (tgt := 35) hx hb dX11_feed_28 (by decide) (fun c_134 => ?_) (fun c_134 => absurd c_134 (by decide))
  refine lv_iload hx hb dX11_feed_35 (lv_at hl 0 rfl) ?_
  refine lv_bipush (v := 8) hx hb dX11_feed_37 (by decide) ?_
  refine lv_icmp_ge (tgt := 46) hx hb dX11_feed_39 (by decide) (fun c_135 => ?_) (fun c_135 => absurd c_135 (by decide))
  refine lv_iload hx hb dX11_feed_46 (lv_at hl 0 rfl) ?_
  refine lv_bipush (v := 12) hx hb dX11_feed_48 (by decide) ?_
  refine lv_icmp_ge (tgt := 57) hx hb dX11_feed_50 (by decide) (fun c_136 => ?_) (fun c_136 => absurd c_136 (by decide))
  refine lv_iload hx hb dX11_feed_57 (lv_at hl 0 rfl) ?_
  refine lv_bipush (v := 16) hx hb dX11_feed_59 (by decide) ?_
  refine lv_icmp_ge (tgt := 69) hx hb dX11_feed_61 (by decide) (fun c_137 => absurd c_137 (by decide)) (fun c_137 => ?_)
  refine lv_iload hx hb dX11_feed_64 (lv_at hl 6 rfl) ?_
  refine lv_goto (tgt := 71) hx hb dX11_feed_66 (by decide) ?_
  refine lv_istore (lv' := [(7, .int p4), (6, .int 14), (0, .ref h0), (1, .int p1), (2, .int p2), (3, .int p3), (4, .int p4), (5, .int p5)]) hx hb dX11_feed_71 hl (by decide) rfl (fun ls hl => ?_)
  refine lv_aload_n hx hb dX11_feed_73 rfl (lv_at hl 2 rfl) ?_
  refine va_get (D := (dC, dI)) (ci := 9) (v := .ref (rr 0)) (C := RX11) (T := TX11) (N := 69) hx hb hts iw_X11_feed_X11 hown hK hP 0 rfl rfl 0 (by decide) (hts (.fieldLink RX11 7 "HungFloorsModel" "tape" "[B") (by decide +kernel)) (fun _ h9 => h9) rfl dX11_feed_74 ?_
  refine lv_aload_n hx hb dX11_feed_77 rfl (lv_at hl 2 rfl) ?_
  refine va_get (D := (dC, dI)) (ci := 9) (v := .int 0) (C := RX11) (T := TX11) (N := 69) hx hb hts iw_X11_feed_X11 hown hK hP 0 rfl rfl 2 (by decide) (hts (.fieldLink RX11 218 "HungFloorsModel" "taped" "I") (by decide +kernel)) (fun _ h9 => h9) rfl dX11_feed_78 ?_
  refine lv_iload hx hb dX11_feed_81 (lv_at hl 1 rfl) ?_
  refine lv_iadd hx hb dX11_feed_83 ?_
  refine lv_topi (fun z_138 ez_138 => ?_)
  obtain rfl : z_138 = (14 : Int32) := ez_138.trans (by decide)
  refine lv_iload hx hb dX11_feed_84 (lv_at hl 0 rfl) ?_
  refine lv_bipush (v := 24) hx hb dX11_feed_86 (by decide) ?_
  refine lv_bipush (v := 8) hx hb dX11_feed_88 (by decide) ?_
  refine lv_iload hx hb dX11_feed_90 (lv_at hl 1 rfl) ?_
  refine lv_iconst (v := 3) hx hb dX11_feed_92 (by decide) ?_
  refine lv_iand hx hb dX11_feed_93 ?_
  refine lv_topi (fun z_139 ez_139 => ?_)
  obtain rfl : z_139 = (2 : Int32) := ez_139.trans (by decide)
  refine lv_imul hx hb dX11_feed_94 ?_
  refine lv_topi (fun z_140 ez_140 => ?_)
  obtain rfl : z_140 = (16 : Int32) := ez_140.trans (by decide)
  refine lv_isub hx hb dX11_feed_95 ?_
  refine lv_topi (fun z_141 ez_141 => ?_)
  obtain rfl : z_141 = (8 : Int32) := ez_141.trans (by decide)
  refine lv_ishr hx hb dX11_feed_96 ?_
  obtain ⟨b_142, eb_142⟩ : ∃ y : Int32, ((p4 >>> (8 &&& 31))).toInt8.toInt32 = y := ⟨_, rfl⟩
  refine lv_i2b (v := b_142) hx hb dX11_feed_97 eb_142 ?_
  refine va_bast hx hb hK hP hD hS 1 0 rfl rfl (by unfold vp_in; decide) dX11_feed_98 (fun H locs hP hD hS => ?_)
  obtain ⟨f_143, hP, hD⟩ : ∃ f_143 : Nat → Int32, va_P (dC, dI) vwCl [(h0, .inr (9, mF rr 0 0 0 (-1) 0 0 0 0 0 0 0 0 0 0 0 0 0 0 0 0 0 0 0 0 0)), ((rr 0), .inl (k2, 1620, .inl f_143))] H ∧ va_D A [(h0, .inr (9, mF rr 0 0 0 (-1) 0 0 0 0 0 0 0 0 0 0 0 0 0 0 0 0 0 0 0 0 0)), ((rr 0), .inl (k2, 1620, .inl f_143))] := ⟨_, hP, hD⟩
  refine lv_iinc (v := 15) (lv' := [(6, .int 15), (7, .int p4), (0, .ref h0), (1, .int p1), (2, .int p2), (3, .int p3), (4, .int p4), (5, .int p5)]) hx hb dX11_feed_99 hl (k := 1) rfl (by decide) (by decide) rfl (fun ls hl => ?_)
  refine lv_goto (tgt := 18) hx hb dX11_feed_102 (by decide) ?_
  refine lv_iload hx hb dX11_feed_18 (lv_at hl 0 rfl) ?_
  refine lv_bipush (v := 20) hx hb dX11_feed_20 (by decide) ?_
  refine lv_icmp_ge (tgt := 105) hx hb dX11_feed_22 (by decide) (fun c_144 => absurd c_144 (by decide)) (fun c_144 => ?_)
  refine lv_iload hx hb dX11_feed_25 (lv_at hl 0 rfl) ?_
  refine lv_iconst (v := 4) hx hb dX11_feed_27 (by decide) ?_
  refine lv_icmp_ge (tgt := 35) hx hb dX11_feed_28 (by decide) (fun c_145 => ?_) (fun c_145 => absurd c_145 (by decide))
  refine lv_iload hx hb dX11_feed_35 (lv_at hl 0 rfl) ?_
  refine lv_bipush (v := 8) hx hb dX11_feed_37 (by decide) ?_
  refine lv_icmp_ge (tgt := 46) hx hb dX11_feed_39 (by decide) (fun c_146 => ?_) (fun c_146 => absurd c_146 (by decide))
  refine lv_iload hx hb dX11_feed_46 (lv_at hl 0 rfl) ?_
  refine lv_bipush (v := 12) hx hb dX11_feed_48 (by decide) ?_
  refine lv_icmp_ge (tgt := 57) hx hb dX11_feed_50 (by decide) (fun c_147 => ?_) (fun c_147 => absurd c_147 (by decide))
  refine lv_iload hx hb dX11_feed_57 (lv_at hl 0 rfl) ?_
  refine lv_bipush (v := 16) hx hb dX11_feed_59 (by decide) ?_
  refine lv_icmp_ge (tgt := 69) hx hb dX11_feed_61 (by decide) (fun c_148 => absurd c_148 (by decide)) (fun c_148 => ?_)
  refine lv_iload hx hb dX11_feed_64 (lv_at hl 6 rfl) ?_
  refine lv_goto (tgt := 71) hx hb dX11_feed_66 (by decide) ?_
  refine lv_istore (lv' := [(7, .int p4), (6, .int 15), (0, .ref h0), (1, .int p1), (2, .int p2), (3, .int p3), (4, .int p4), (5, .int p5)]) hx hb dX11_feed_71 hl (by decide) rfl (fun ls hl => ?_)
  refine lv_aload_n hx hb dX11_feed_73 rfl (lv_at hl 2 rfl) ?_
  refine va_get (D := (dC, dI)) (ci := 9) (v := .ref (rr 0)) (C := RX11) (T := TX11) (N := 69) hx hb hts iw_X11_feed_X11 hown hK hP 0 rfl rfl 0 (by decide) (hts (.fieldLink RX11 7 "HungFloorsModel" "tape" "[B") (by decide +kernel)) (fun _ h9 => h9) rfl dX11_feed_74 ?_
  refine lv_aload_n hx hb dX11_feed_77 rfl (lv_at hl 2 rfl) ?_
  refine va_get (D := (dC, dI)) (ci := 9) (v := .int 0) (C := RX11) (T := TX11) (N := 69) hx hb hts iw_X11_feed_X11 hown hK hP 0 rfl rfl 2 (by decide) (hts (.fieldLink RX11 218 "HungFloorsModel" "taped" "I") (by decide +kernel)) (fun _ h9 => h9) rfl dX11_feed_78 ?_
  refine lv_iload hx hb dX11_feed_81 (lv_at hl 1 rfl) ?_
  refine lv_iadd hx hb dX11_feed_83 ?_
  refine lv_topi (fun z_149 ez_149 => ?_)
  obtain rfl : z_149 = (15 : Int32) := ez_149.trans (by decide)
  refine lv_iload hx hb dX11_feed_84 (lv_at hl 0 rfl) ?_
  refine lv_bipush (v := 24) hx hb dX11_feed_86 (by decide) ?_
  refine lv_bipush (v := 8) hx hb dX11_feed_88 (by decide) ?_
  refine lv_iload hx hb dX11_feed_90 (lv_at hl 1 rfl) ?_
  refine lv_iconst (v := 3) hx hb dX11_feed_92 (by decide) ?_
  refine lv_iand hx hb dX11_feed_93 ?_
  refine lv_topi (fun z_150 ez_150 => ?_)
  obtain rfl : z_150 = (3 : Int32) := ez_150.trans (by decide)
  refine lv_imul hx hb dX11_feed_94 ?_
  refine lv_topi (fun z_151 ez_151 => ?_)
  obtain rfl : z_151 = (24 : Int32) := ez_151.trans (by decide)
  refine lv_isub hx hb dX11_feed_95 ?_
  refine lv_topi (fun z_152 ez_152 => ?_)
  obtain rfl : z_152 = (0 : Int32) := ez_152.trans (by decide)
  refine lv_ishr hx hb dX11_feed_96 ?_
  obtain ⟨b_153, eb_153⟩ : ∃ y : Int32, ((p4 >>> (0 &&& 31))).toInt8.toInt32 = y := ⟨_, rfl⟩
  refine lv_i2b (v := b_153) hx hb dX11_feed_97 eb_153 ?_
  refine va_bast hx hb hK hP hD hS 1 0 rfl rfl (by unfold vp_in; decide) dX11_feed_98 (fun H locs hP hD hS => ?_)
  obtain ⟨f_154, hP, hD⟩ : ∃ f_154 : Nat → Int32, va_P (dC, dI) vwCl [(h0, .inr (9, mF rr 0 0 0 (-1) 0 0 0 0 0 0 0 0 0 0 0 0 0 0 0 0 0 0 0 0 0)), ((rr 0), .inl (k2, 1620, .inl f_154))] H ∧ va_D A [(h0, .inr (9, mF rr 0 0 0 (-1) 0 0 0 0 0 0 0 0 0 0 0 0 0 0 0 0 0 0 0 0 0)), ((rr 0), .inl (k2, 1620, .inl f_154))] := ⟨_, hP, hD⟩
  refine lv_iinc (v := 16) (lv' := [(6, .int 16), (7, .int p4), (0, .ref h0), (1, .int p1), (2, .int p2), (3, .int p3), (4, .int p4), (5, .int p5)]) hx hb dX11_feed_99 hl (k := 1) rfl (by decide) (by decide) rfl (fun ls hl => ?_)
  refine lv_goto (tgt := 18) hx hb dX11_feed_102 (by decide) ?_
  refine lv_iload hx hb dX11_feed_18 (lv_at hl 0 rfl) ?_
  refine lv_bipush (v := 20) hx hb dX11_feed_20 (by decide) ?_
  refine lv_icmp_ge (tgt := 105) hx hb dX11_feed_22 (by decide) (fun c_155 => absurd c_155 (by decide)) (fun c_155 => ?_)
  refine lv_iload hx hb dX11_feed_25 (lv_at hl 0 rfl) ?_
  refine lv_iconst (v := 4) hx hb dX11_feed_27 (by decide) ?_
  refine lv_icmp_ge (tgt := 35) hx hb dX11_feed_28 (by decide) (fun c_156 => ?_) (fun c_156 => absurd c_156 (by decide))
  refine lv_iload hx hb dX11_feed_35 (lv_at hl 0 rfl) ?_
  refine lv_bipush (v := 8) hx hb dX11_feed_37 (by decide) ?_
  refine lv_icmp_ge (tgt := 46) hx hb dX11_feed_39 (by decide) (fun c_157 => ?_) (fun c_157 => absurd c_157 (by decide))
  refine lv_iload hx hb dX11_feed_46 (lv_at hl 0 rfl) ?_
  refine lv_bipush (v := 12) hx hb dX11_feed_48 (by decide) ?_
  refine lv_icmp_ge (tgt := 57) hx hb dX11_feed_50 (by decide) (fun c_158 => ?_) (fun c_158 => absurd c_158 (by decide))
  refine lv_iload hx hb dX11_feed_57 (lv_at hl 0 rfl) ?_
  refine lv_bipush (v := 16) hx hb dX11_feed_59 (by decide) ?_
  refine lv_icmp_ge (tgt := 69) hx hb dX11_feed_61 (by decide) (fun c_159 => ?_) (fun c_159 => absurd c_159 (by decide))
  refine lv_iload hx hb dX11_feed_69 (lv_at hl 7 rfl) ?_
  refine lv_istore (lv' := [(7, .int p5), (6, .int 16), (0, .ref h0), (1, .int p1), (2, .int p2), (3, .int p3), (4, .int p4), (5, .int p5)]) hx hb dX11_feed_71 hl (by decide) rfl (fun ls hl => ?_)
  refine lv_aload_n hx hb dX11_feed_73 rfl (lv_at hl 2 rfl) ?_
  refine va_get (D := (dC, dI)) (ci := 9) (v := .ref (rr 0)) (C := RX11) (T := TX11) (N := 69) hx hb hts iw_X11_feed_X11 hown hK hP 0 rfl rfl 0 (by decide) (hts (.fieldLink RX11 7 "HungFloorsModel" "tape" "[B") (by decide +kernel)) (fun _ h9 => h9) rfl dX11_feed_74 ?_
  refine lv_aload_n hx hb dX11_feed_77 rfl (lv_at hl 2 rfl) ?_
  refine va_get (D := (dC, dI)) (ci := 9) (v := .int 0) (C := RX11) (T := TX11) (N := 69) hx hb hts iw_X11_feed_X11 hown hK hP 0 rfl rfl 2 (by decide) (hts (.fieldLink RX11 218 "HungFloorsModel" "taped" "I") (by decide +kernel)) (fun _ h9 => h9) rfl dX11_feed_78 ?_
  refine lv_iload hx hb dX11_feed_81 (lv_at hl 1 rfl) ?_
  refine lv_iadd hx hb dX11_feed_83 ?_
  refine lv_topi (fun z_160 ez_160 => ?_)
  obtain rfl : z_160 = (16 : Int32) := ez_160.trans (by decide)
  refine lv_iload hx hb dX11_feed_84 (lv_at hl 0 rfl) ?_
  refine lv_bipush (v := 24) hx hb dX11_feed_86 (by decide) ?_
  refine lv_bipush (v := 8) hx hb dX11_feed_88 (by decide) ?_
  refine lv_iload hx hb dX11_feed_90 (lv_at hl 1 rfl) ?_
  refine lv_iconst (v := 3) hx hb dX11_feed_92 (by decide) ?_
  refine lv_iand hx hb dX11_feed_93 ?_
  refine lv_topi (fun z_161 ez_161 => ?_)
  obtain rfl : z_161 = (0 : Int32) := ez_161.trans (by decide)
  refine lv_imul hx hb dX11_feed_94 ?_
  refine lv_topi (fun z_162 ez_162 => ?_)
  obtain rfl : z_162 = (0 : Int32) := ez_162.trans (by decide)
  refine lv_isub hx hb dX11_feed_95 ?_
  refine lv_topi (fun z_163 ez_163 => ?_)
  obtain rfl : z_163 = (24 : Int32) := ez_163.trans (by decide)
  refine lv_ishr hx hb dX11_feed_96 ?_
  obtain ⟨b_164, eb_164⟩ : ∃ y : Int32, ((p5 >>> (24 &&& 31))).toInt8.toInt32 = y := ⟨_, rfl⟩
  refine lv_i2b (v := b_164) hx hb dX11_feed_97 eb_164 ?_
  refine va_bast hx hb hK hP hD hS 1 0 rfl rfl (by unfold vp_in; decide) dX11_feed_98 (fun H locs hP hD hS => ?_)
  obtain ⟨f_165, hP, hD⟩ : ∃ f_165 : Nat → Int32, va_P (dC, dI) vwCl [(h0, .inr (9, mF rr 0 0 0 (-1) 0 0 0 0 0 0 0 0 0 0 0 0 0 0 0 0 0 0 0 0 0)), ((rr 0), .inl (k2, 1620, .inl f_165))] H ∧ va_D A [(h0, .inr (9, mF rr 0 0 0 (-1) 0 0 0 0 0 0 0 0 0 0 0 0 0 0 0 0 0 0 0 0 0)), ((rr 0), .inl (k2, 1620, .inl f_165))] := ⟨_, hP, hD⟩
  refine lv_iinc (v := 17) (lv' := [(6, .int 17), (7, .int p5), (0, .ref h0), (1, .int p1), (2, .int p2), (3, .int p3), (4, .int p4), (5, .int p5)]) hx hb dX11_feed_99 hl (k := 1) rfl (by decide) (by decide) rfl (fun ls hl => ?_)
  refine lv_goto (tgt := 18) hx hb dX11_feed_102 (by decide) ?_
  refine lv_iload hx hb dX11_feed_18 (lv_at hl 0 rfl) ?_
  refine lv_bipush (v := 20) hx hb dX11_feed_20 (by decide) ?_
  refine lv_icmp_ge (tgt := 105) hx hb dX11_feed_22 (by decide) (fun c_166 => absurd c_166 (by decide)) (fun c_166 => ?_)
  refine lv_iload hx hb dX11_feed_25 (lv_at hl 0 rfl) ?_
  refine lv_iconst (v := 4) hx hb dX11_feed_27 (by decide) ?_
  refine lv_icmp_ge (tgt := 35) hx hb dX11_feed_28 (by decide) (fun c_167 => ?_) (fun c_167 => absurd c_167 (by decide))
  refine lv_iload hx hb dX11_feed_35 (lv_at hl 0 rfl) ?_
  refine lv_bipush (v := 8) hx hb dX11_feed_37 (by decide) ?_
  refine lv_icmp_ge (tgt := 46) hx hb dX11_feed_39 (by decide) (fun c_168 => ?_) (fun c_168 => absurd c_168 (by decide))
  refine lv_iload hx hb dX11_feed_46 (lv_at hl 0 rfl) ?_
  refine lv_bipush (v := 12) hx hb dX11_feed_48 (by decide) ?_
  refine lv_icmp_ge (tgt := 57) hx hb dX11_feed_50 (by decide) (fun c_169 => ?_) (fun c_169 => absurd c_169 (by decide))
  refine lv_iload hx hb dX11_feed_57 (lv_at hl 0 rfl) ?_
  refine lv_bipush (v := 16) hx hb dX11_feed_59 (by decide) ?_
  refine lv_icmp_ge (tgt := 69) hx hb dX11_feed_61 (by decide) (fun c_170 => ?_) (fun c_170 => absurd c_170 (by decide))
  refine lv_iload hx hb dX11_feed_69 (lv_at hl 7 rfl) ?_
  refine lv_istore (lv' := [(7, .int p5), (6, .int 17), (0, .ref h0), (1, .int p1), (2, .int p2), (3, .int p3), (4, .int p4), (5, .int p5)]) hx hb dX11_feed_71 hl (by decide) rfl (fun ls hl => ?_)
  refine lv_aload_n hx hb dX11_feed_73 rfl (lv_at hl 2 rfl) ?_
  refine va_get (D := (dC, dI)) (ci := 9) (v := .ref (rr 0)) (C := RX11) (T := TX11) (N := 69) hx hb hts iw_X11_feed_X11 hown hK hP 0 rfl rfl 0 (by decide) (hts (.fieldLink RX11 7 "HungFloorsModel" "tape" "[B") (by decide +kernel)) (fun _ h9 => h9) rfl dX11_feed_74 ?_
  refine lv_aload_n hx hb dX11_feed_77 rfl (lv_at hl 2 rfl) ?_
  refine va_get (D := (dC, dI)) (ci := 9) (v := .int 0) (C := RX11) (T := TX11) (N := 69) hx hb hts iw_X11_feed_X11 hown hK hP 0 rfl rfl 2 (by decide) (hts (.fieldLink RX11 218 "HungFloorsModel" "taped" "I") (by decide +kernel)) (fun _ h9 => h9) rfl dX11_feed_78 ?_
  refine lv_iload hx hb dX11_feed_81 (lv_at hl 1 rfl) ?_
  refine lv_iadd hx hb dX11_feed_83 ?_
  refine lv_topi (fun z_171 ez_171 => ?_)
  obtain rfl : z_171 = (17 : Int32) := ez_171.trans (by decide)
  refine lv_iload hx hb dX11_feed_84 (lv_at hl 0 rfl) ?_
  refine lv_bipush (v := 24) hx hb dX11_feed_86 (by decide) ?_
  refine lv_bipush (v := 8) hx hb dX11_feed_88 (by decide) ?_
  refine lv_iload hx hb dX11_feed_90 (lv_at hl 1 rfl) ?_
  refine lv_iconst (v := 3) hx hb dX11_feed_92 (by decide) ?_
  refine lv_iand hx hb dX11_feed_93 ?_
  refine lv_topi (fun z_172 ez_172 => ?_)
  obtain rfl : z_172 = (1 : Int32) := ez_172.trans (by decide)
  refine lv_imul hx hb dX11_feed_94 ?_
  refine lv_topi (fun z_173 ez_173 => ?_)
  obtain rfl : z_173 = (8 : Int32) := ez_173.trans (by decide)
  refine lv_isub hx hb dX11_feed_95 ?_
  refine lv_topi (fun z_174 ez_174 => ?_)
  obtain rfl : z_174 = (16 : Int32) := ez_174.trans (by decide)
  refine lv_ishr hx hb dX11_feed_96 ?_
  obtain ⟨b_175, eb_175⟩ : ∃ y : Int32, ((p5 >>> (16 &&& 31))).toInt8.toInt32 = y := ⟨_, rfl⟩
  refine lv_i2b (v := b_175) hx hb dX11_feed_97 eb_175 ?_
  refine va_bast hx hb hK hP hD hS 1 0 rfl rfl (by unfold vp_in; decide) dX11_feed_98 (fun H locs hP hD hS => ?_)
  obtain ⟨f_176, hP, hD⟩ : ∃ f_176 : Nat → Int32, va_P (dC, dI) vwCl [(h0, .inr (9, mF rr 0 0 0 (-1) 0 0 0 0 0 0 0 0 0 0 0 0 0 0 0 0 0 0 0 0 0)), ((rr 0), .inl (k2, 1620, .inl f_176))] H ∧ va_D A [(h0, .inr (9, mF rr 0 0 0 (-1) 0 0 0 0 0 0 0 0 0 0 0 0 0 0 0 0 0 0 0 0 0)), ((rr 0), .inl (k2, 1620, .inl f_176))] := ⟨_, hP, hD⟩
  refine lv_iinc (v := 18) (lv' := [(6, .int 18), (7, .int p5), (0, .ref h0), (1, .int p1), (2, .int p2), (3, .int p3), (4, .int p4), (5, .int p5)]) hx hb dX11_feed_99 hl (k := 1) rfl (by decide) (by decide) rfl (fun ls hl => ?_)
  refine lv_goto (tgt := 18) hx hb dX11_feed_102 (by decide) ?_
  refine lv_iload hx hb dX11_feed_18 (lv_at hl 0 rfl) ?_
  refine lv_bipush (v := 20) hx hb dX11_feed_20 (by decide) ?_
  refine lv_icmp_ge (tgt := 105) hx hb dX11_feed_22 (by decide) (fun c_177 => absurd c_177 (by decide)) (fun c_177 => ?_)
  refine lv_iload hx hb dX11_feed_25 (lv_at hl 0 rfl) ?_
  refine lv_iconst (v := 4) hx hb dX11_feed_27 (by decide) ?_
  refine lv_icmp_ge (tgt := 35) hx hb dX11_feed_28 (by decide) (fun c_178 => ?_) (fun c_178 => absurd c_178 (by decide))
  refine lv_iload hx hb dX11_feed_35 (lv_at hl 0 rfl) ?_
  refine lv_bipush (v := 8) hx hb dX11_feed_37 (by decide) ?_
  refine lv_icmp_ge (tgt := 46) hx hb dX11_feed_39 (by decide) (fun c_179 => ?_) (fun c_179 => absurd c_179 (by decide))
  refine lv_iload hx hb dX11_feed_46 (lv_at hl 0 rfl) ?_
  refine lv_bipush (v := 12) hx hb dX11_feed_48 (by decide) ?_
  refine lv_icmp_ge (tgt := 57) hx hb dX11_feed_50 (by decide) (fun c_180 => ?_) (fun c_180 => absurd c_180 (by decide))
  refine lv_iload hx hb dX11_feed_57 (lv_at hl 0 rfl) ?_
  refine lv_bipush (v := 16) hx hb dX11_feed_59 (by decide) ?_
  refine lv_icmp_ge (tgt := 69) hx hb dX11_feed_61 (by decide) (fun c_181 => ?_) (fun c_181 => absurd c_181 (by decide))
  refine lv_iload hx hb dX11_feed_69 (lv_at hl 7 rfl) ?_
  refine lv_istore (lv' := [(7, .int p5), (6, .int 18), (0, .ref h0), (1, .int p1), (2, .int p2), (3, .int p3), (4, .int p4), (5, .int p5)]) hx hb dX11_feed_71 hl (by decide) rfl (fun ls hl => ?_)
  refine lv_aload_n hx hb dX11_feed_73 rfl (lv_at hl 2 rfl) ?_
  refine va_get (D := (dC, dI)) (ci := 9) (v := .ref (rr 0)) (C := RX11) (T := TX11) (N := 69) hx hb hts iw_X11_feed_X11 hown hK hP 0 rfl rfl 0 (by decide) (hts (.fieldLink RX11 7 "HungFloorsModel" "tape" "[B") (by decide +kernel)) (fun _ h9 => h9) rfl dX11_feed_74 ?_
  refine lv_aload_n hx hb dX11_feed_77 rfl (lv_at hl 2 rfl) ?_
  refine va_get (D := (dC, dI)) (ci := 9) (v := .int 0) (C := RX11) (T := TX11) (N := 69) hx hb hts iw_X11_feed_X11 hown hK hP 0 rfl rfl 2 (by decide) (hts (.fieldLink RX11 218 "HungFloorsModel" "taped" "I") (by decide +kernel)) (fun _ h9 => h9) rfl dX11_feed_78 ?_
  refine lv_iload hx hb dX11_feed_81 (lv_at hl 1 rfl) ?_
  refine lv_iadd hx hb dX11_feed_83 ?_
  refine lv_topi (fun z_182 ez_182 => ?_)
  obtain rfl : z_182 = (18 : Int32) := ez_182.trans (by decide)
  refine lv_iload hx hb dX11_feed_84 (lv_at hl 0 rfl) ?_
  refine lv_bipush (v := 24) hx hb dX11_feed_86 (by decide) ?_
  refine lv_bipush (v := 8) hx hb dX11_feed_88 (by decide) ?_
  refine lv_iload hx hb dX11_feed_90 (lv_at hl 1 rfl) ?_
  refine lv_iconst (v := 3) hx hb dX11_feed_92 (by decide) ?_
  refine lv_iand hx hb dX11_feed_93 ?_
  refine lv_topi (fun z_183 ez_183 => ?_)
  obtain rfl : z_183 = (2 : Int32) := ez_183.trans (by decide)
  refine lv_imul hx hb dX11_feed_94 ?_
  refine lv_topi (fun z_184 ez_184 => ?_)
  obtain rfl : z_184 = (16 : Int32) := ez_184.trans (by decide)
  refine lv_isub hx hb dX11_feed_95 ?_
  refine lv_topi (fun z_185 ez_185 => ?_)
  obtain rfl : z_185 = (8 : Int32) := ez_185.trans (by decide)
  refine lv_ishr hx hb dX11_feed_96 ?_
  obtain ⟨b_186, eb_186⟩ : ∃ y : Int32, ((p5 >>> (8 &&& 31))).toInt8.toInt32 = y := ⟨_, rfl⟩
  refine lv_i2b (v := b_186) hx hb dX11_feed_97 eb_186 ?_
  refine va_bast hx hb hK hP hD hS 1 0 rfl rfl (by unfold vp_in; decide) dX11_feed_98 (fun H locs hP hD hS => ?_)
  obtain ⟨f_187, hP, hD⟩ : ∃ f_187 : Nat → Int32, va_P (dC, dI) vwCl [(h0, .inr (9, mF rr 0 0 0 (-1) 0 0 0 0 0 0 0 0 0 0 0 0 0 0 0 0 0 0 0 0 0)), ((rr 0), .inl (k2, 1620, .inl f_187))] H ∧ va_D A [(h0, .inr (9, mF rr 0 0 0 (-1) 0 0 0 0 0 0 0 0 0 0 0 0 0 0 0 0 0 0 0 0 0)), ((rr 0), .inl (k2, 1620, .inl f_187))] := ⟨_, hP, hD⟩
  refine lv_iinc (v := 19) (lv' := [(6, .int 19), (7, .int p5), (0, .ref h0), (1, .int p1), (2, .int p2), (3, .int p3), (4, .int p4), (5, .int p5)]) hx hb dX11_feed_99 hl (k := 1) rfl (by decide) (by decide) rfl (fun ls hl => ?_)
  refine lv_goto (tgt := 18) hx hb dX11_feed_102 (by decide) ?_
  refine lv_iload hx hb dX11_feed_18 (lv_at hl 0 rfl) ?_
  refine lv_bipush (v := 20) hx hb dX11_feed_20 (by decide) ?_
  refine lv_icmp_ge (tgt := 105) hx hb dX11_feed_22 (by decide) (fun c_188 => absurd c_188 (by decide)) (fun c_188 => ?_)
  refine lv_iload hx hb dX11_feed_25 (lv_at hl 0 rfl) ?_
  refine lv_iconst (v := 4) hx hb dX11_feed_27 (by decide) ?_
  refine lv_icmp_ge (tgt := 35) hx hb dX11_feed_28 (by decide) (fun c_189 => ?_) (fun c_189 => absurd c_189 (by decide))
  refine lv_iload hx hb dX11_feed_35 (lv_at hl 0 rfl) ?_
  refine lv_bipush (v := 8) hx hb dX11_feed_37 (by decide) ?_
  refine lv_icmp_ge (tgt := 46) hx hb dX11_feed_39 (by decide) (fun c_190 => ?_) (fun c_190 => absurd c_190 (by decide))
  refine lv_iload hx hb dX11_feed_46 (lv_at hl 0 rfl) ?_
  refine lv_bipush (v := 12) hx hb dX11_feed_48 (by decide) ?_
  refine lv_icmp_ge (tgt := 57) hx hb dX11_feed_50 (by decide) (fun c_191 => ?_) (fun c_191 => absurd c_191 (by decide))
  refine lv_iload hx hb dX11_feed_57 (lv_at hl 0 rfl) ?_
  refine lv_bipush (v := 16) hx hb dX11_feed_59 (by decide) ?_
  refine lv_icmp_ge (tgt := 69) hx hb dX11_feed_61 (by decide) (fun c_192 => ?_) (fun c_192 => absurd c_192 (by decide))
  refine lv_iload hx hb dX11_feed_69 (lv_at hl 7 rfl) ?_
  refine lv_istore (lv' := [(7, .int p5), (6, .int 19), (0, .ref h0), (1, .int p1), (2, .int p2), (3, .int p3), (4, .int p4), (5, .int p5)]) hx hb dX11_feed_71 hl (by decide) rfl (fun ls hl => ?_)
  refine lv_aload_n hx hb dX11_feed_73 rfl (lv_at hl 2 rfl) ?_
  refine va_get (D := (dC, dI)) (ci := 9) (v := .ref (rr 0)) (C := RX11) (T := TX11) (N := 69) hx hb hts iw_X11_feed_X11 hown hK hP 0 rfl rfl 0 (by decide) (hts (.fieldLink RX11 7 "HungFloorsModel" "tape" "[B") (by decide +kernel)) (fun _ h9 => h9) rfl dX11_feed_74 ?_
  refine lv_aload_n hx hb dX11_feed_77 rfl (lv_at hl 2 rfl) ?_
  refine va_get (D := (dC, dI)) (ci := 9) (v := .int 0) (C := RX11) (T := TX11) (N := 69) hx hb hts iw_X11_feed_X11 hown hK hP 0 rfl rfl 2 (by decide) (hts (.fieldLink RX11 218 "HungFloorsModel" "taped" "I") (by decide +kernel)) (fun _ h9 => h9) rfl dX11_feed_78 ?_
  refine lv_iload hx hb dX11_feed_81 (lv_at hl 1 rfl) ?_
  refine lv_iadd hx hb dX11_feed_83 ?_
  refine lv_topi (fun z_193 ez_193 => ?_)
  obtain rfl : z_193 = (19 : Int32) := ez_193.trans (by decide)
  refine lv_iload hx hb dX11_feed_84 (lv_at hl 0 rfl) ?_
  refine lv_bipush (v := 24) hx hb dX11_feed_86 (by decide) ?_
  refine lv_bipush (v := 8) hx hb dX11_feed_88 (by decide) ?_
  refine lv_iload hx hb dX11_feed_90 (lv_at hl 1 rfl) ?_
  refine lv_iconst (v := 3) hx hb dX11_feed_92 (by decide) ?_
  refine lv_iand hx hb dX11_feed_93 ?_
  refine lv_topi (fun z_194 ez_194 => ?_)
  obtain rfl : z_194 = (3 : Int32) := ez_194.trans (by decide)
  refine lv_imul hx hb dX11_feed_94 ?_
  refine lv_topi (fun z_195 ez_195 => ?_)
  obtain rfl : z_195 = (24 : Int32) := ez_195.trans (by decide)
  refine lv_isub hx hb dX11_feed_95 ?_
  refine lv_topi (fun z_196 ez_196 => ?_)
  obtain rfl : z_196 = (0 : Int32) := ez_196.trans (by decide)
  refine lv_ishr hx hb dX11_feed_96 ?_
  obtain ⟨b_197, eb_197⟩ : ∃ y : Int32, ((p5 >>> (0 &&& 31))).toInt8.toInt32 = y := ⟨_, rfl⟩
  refine lv_i2b (v := b_197) hx hb dX11_feed_97 eb_197 ?_
  refine va_bast hx hb hK hP hD hS 1 0 rfl rfl (by unfold vp_in; decide) dX11_feed_98 (fun H locs hP hD hS => ?_)
  obtain ⟨f_198, hP, hD⟩ : ∃ f_198 : Nat → Int32, va_P (dC, dI) vwCl [(h0, .inr (9, mF rr 0 0 0 (-1) 0 0 0 0 0 0 0 0 0 0 0 0 0 0 0 0 0 0 0 0 0)), ((rr 0), .inl (k2, 1620, .inl f_198))] H ∧ va_D A [(h0, .inr (9, mF rr 0 0 0 (-1) 0 0 0 0 0 0 0 0 0 0 0 0 0 0 0 0 0 0 0 0 0)), ((rr 0), .inl (k2, 1620, .inl f_198))] := ⟨_, hP, hD⟩
  refine lv_iinc (v := 20) (lv' := [(6, .int 20), (7, .int p5), (0, .ref h0), (1, .int p1), (2, .int p2), (3, .int p3), (4, .int p4), (5, .int p5)]) hx hb dX11_feed_99 hl (k := 1) rfl (by decide) (by decide) rfl (fun ls hl => ?_)
  refine lv_goto (tgt := 18) hx hb dX11_feed_102 (by decide) ?_
  refine lv_iload hx hb dX11_feed_18 (lv_at hl 0 rfl) ?_
  refine lv_bipush (v := 20) hx hb dX11_feed_20 (by decide) ?_
  refine lv_icmp_ge (tgt := 105) hx hb dX11_feed_22 (by decide) (fun c_199 => ?_) (fun c_199 => absurd c_199 (by decide))
  refine lv_aload_n hx hb dX11_feed_105 rfl (lv_at hl 2 rfl) ?_
  refine lv_dup hx hb dX11_feed_106 rfl ?_
  refine va_get (D := (dC, dI)) (ci := 9) (v := .int 0) (C := RX11) (T := TX11) (N := 69) hx hb hts iw_X11_feed_X11 hown hK hP 0 rfl rfl 2 (by decide) (hts (.fieldLink RX11 218 "HungFloorsModel" "taped" "I") (by decide +kernel)) (fun _ h9 => h9) rfl dX11_feed_107 ?_
  refine lv_bipush (v := 20) hx hb dX11_feed_110 (by decide) ?_
  refine lv_iadd hx hb dX11_feed_112 ?_
  refine lv_topi (fun z_200 ez_200 => ?_)
  obtain rfl : z_200 = (20 : Int32) := ez_200.trans (by decide)
  refine va_put (D := (dC, dI)) (ci := 9) (v := .int 20) (ty := .int) (C := RX11) (T := TX11) (N := 69) hx hb hts iw_X11_feed_X11 tyX11 tyX11_ok nmX11 hown hK hP hD hS 0 rfl rfl 2 (by decide) (hts (.fieldLink RX11 218 "HungFloorsModel" "taped" "I") (by decide +kernel)) (fun _ h9 => h9) rfl (by decide +kernel) rfl rfl (Nat.le_of_ble_eq_true rfl) dX11_feed_113 (fun H locs hP hD hS => ?_)
  have hP : va_P (dC, dI) vwCl [(h0, .inr (9, mF rr 20 0 0 (-1) 0 0 0 0 0 0 0 0 0 0 0 0 0 0 0 0 0 0 0 0 0)), ((rr 0), .inl (k2, 1620, .inl f_198))] H := hP
  have hD : va_D A [(h0, .inr (9, mF rr 20 0 0 (-1) 0 0 0 0 0 0 0 0 0 0 0 0 0 0 0 0 0 0 0 0 0)), ((rr 0), .inl (k2, 1620, .inl f_198))] := hD
  refine lv_aload_n hx hb dX11_feed_116 rfl (lv_at hl 2 rfl) ?_
  refine va_get (D := (dC, dI)) (ci := 9) (v := .int 20) (C := RX11) (T := TX11) (N := 69) hx hb hts iw_X11_feed_X11 hown hK hP 0 rfl rfl 2 (by decide) (hts (.fieldLink RX11 218 "HungFloorsModel" "taped" "I") (by decide +kernel)) (fun _ h9 => h9) rfl dX11_feed_117 ?_
  exact W.iret (v := 20) hx hb hr (fun t ht hW => ⟨⟨20, (), rfl, rfl, trivial⟩, hS.F ht⟩) hS.2.2 dX11_feed_120
set_option maxHeartbeats 4000000 in
set_option maxRecDepth 100000 in
theorem c_X10_end (l : Launch) (dC : Nat → ClassId) (dI : Nat → Nat → Nat) (kE : Nat) (h0 : Nat) (h1 : Nat) (h2 : Nat) (h3 : Nat) (h4 : Nat) (h5 : Nat) (h6 : Nat) (h7 : Nat) (h8 : Nat) (h9 : Nat) (h10 : Nat) (h11 : Nat) (sz : Nat) (p1 : Int32) : Met l yX10_end wsX10_end ({ frames := 0, cells := 0, slots := 0, locals := 0 }) (va_Pc [.ref h0, .int p1] (fun U => U.heap.size = sz ∧ va_P (dC, dI) vwCl [(h0, .inr (8, [.ref h1, .int 0, .ref h2, .ref h3, .ref h4, .ref h5, .int 0, .ref h6, .ref h7, .ref h8, .ref h9, .ref h10, .ref h11, .int 0]))] U.heap ∧ va_K (dC, dI) vwCl [] U ∧ va_D (fun _ => True) [(h0, .inr (8, [.ref h1, .int 0, .ref h2, .ref h3, .ref h4, .ref h5, .int 0, .ref h6, .ref h7, .ref h8, .ref h9, .ref h10, .ref h11, .int 0]))] ∧ ex_X kE (va_A [(h0, .inr (8, [.ref h1, .int 0, .ref h2, .ref h3, .ref h4, .ref h5, .int 0, .ref h6, .ref h7, .ref h8, .ref h9, .ref h10, .ref h11, .int 0]))] sz) U)) (va_Qi (fun (r : Int32) (_ : Unit) => (r = (-1) ∧ p1 < 0) ∨ (r = p1 ∧ ¬ p1 < 0 ∧ p1 ≤ 0) ∨ (r = (-1) ∧ ¬ p1 < 0 ∧ ¬ p1 ≤ 0)) (fun (_ : Unit) (_ : State) => True) (va_A [(h0, .inr (8, [.ref h1, .int 0, .ref h2, .ref h3, .ref h4, .ref h5, .int 0, .ref h6, .ref h7, .ref h8, .ref h9, .ref h10, .ref h11, .int 0]))] sz)) 0 0 (va_A [(h0, .inr (8, [.ref h1, .int 0, .ref h2, .ref h3, .ref h4, .ref h5, .int 0, .ref h6, .ref h7, .ref h8, .ref h9, .ref h10, .ref h11, .int 0]))] sz) := by
  refine Met.ofW (cc := cX10_end) (maxL := 2) (ret := (some .int)) (by decide) rfl ?_
  intro p e s m args below meth c s₁ B hml hv
  obtain ⟨rfl, hsz, hP, hK, hD0, hE⟩ := hv
  have hx := B.exec
  have hb := B.bytes
  have hr := B.returns
  have hts := atoms_spec (ws := wsX10_end) B.pre
  have hown : s.vm.findClass RX10 = some m.cls := findClass_of_methodNamed B.named
  have hlocks := B.notSynchronized
  subst hsz
  have hD := hD0.self (sz := s.heap.size)
  generalize hAe : va_A [(h0, .inr (8, [.ref h1, .int 0, .ref h2, .ref h3, .ref h4, .ref h5, .int 0, .ref h6, .ref h7, .ref h8, .ref h9, .ref h10, .ref h11, .int 0]))] s.heap.size = A at hD hE ⊢
  have hA : ∀ q : Nat, s.heap.size ≤ q → A q := fun q h => by rw [← hAe]; exact Or.inr h
  have hS : va_S A s.heap s.heap [] := va_S.rf
  have hl := lv_entry ([.ref h0, .int p1]) (n := 2) (Nat.le_of_ble_eq_true rfl)
  rw [lg_entry_eq]
  generalize (lg_sl ([.ref h0, .int p1]) ++ List.replicate (2 - (lg_sl ([.ref h0, .int p1])).length) Slot.unset).toArray = ls at hl ⊢
  have hl : lv_has ls 2 [(0, .ref h0), (1, .int p1)] := hl
  have hP : va_P (dC, dI) vwCl [(h0, .inr (8, [.ref h1, .int 0, .ref h2, .ref h3, .ref h4, .ref h5, .int 0, .ref h6, .ref h7, .ref h8, .ref h9, .ref h10, .ref h11, .int 0]))] s.heap := hP
  refine lv_iload_n hx hb dX10_end_0 rfl (lv_at hl 1 rfl) ?_
  refine lv_if_lt (tgt := 12) hx hb dX10_end_1 (by decide) (fun c_1 => ?_) (fun c_1 => ?_)
  · refine lv_iconst (v := (-1)) hx hb dX10_end_12 (by decide) ?_
    exact W.iret (v := (-1)) hx hb hr (fun t ht hW => ⟨⟨(-1), (), rfl, Or.inl ⟨rfl, c_1⟩, trivial⟩, hS.F ht⟩) hS.2.2 dX10_end_13
  · refine lv_iload_n hx hb dX10_end_4 rfl (lv_at hl 1 rfl) ?_
    refine lv_aload_n hx hb dX10_end_5 rfl (lv_at hl 0 rfl) ?_
    refine va_get (D := (dC, dI)) (ci := 8) (v := .int 0) (C := RX10) (T := TX10) (N := 14) hx hb hts iw_X10_end_X10 hown hK hP 0 rfl rfl 1 (by decide) (hts (.fieldLink RX10 13 "HungFloors" "taped" "I") (by decide +kernel)) (fun _ h9 => h9) rfl dX10_end_6 ?_
    refine lv_icmp_le (tgt := 14) hx hb dX10_end_9 (by decide) (fun c_2 => ?_) (fun c_2 => ?_)
    · refine lv_aload_n hx hb dX10_end_14 rfl (lv_at hl 0 rfl) ?_
      refine lv_iload_n hx hb dX10_end_15 rfl (lv_at hl 1 rfl) ?_
      refine va_put (D := (dC, dI)) (ci := 8) (v := .int p1) (ty := .int) (C := RX10) (T := TX10) (N := 14) hx hb hts iw_X10_end_X10 tyX10 tyX10_ok nmX10 hown hK hP hD hS 0 rfl rfl 1 (by decide) (hts (.fieldLink RX10 13 "HungFloors" "taped" "I") (by decide +kernel)) (fun _ h9 => h9) rfl (by decide +kernel) rfl rfl (Nat.le_of_ble_eq_true rfl) dX10_end_16 (fun H locs hP hD hS => ?_)
      have hP : va_P (dC, dI) vwCl [(h0, .inr (8, [.ref h1, .int p1, .ref h2, .ref h3, .ref h4, .ref h5, .int 0, .ref h6, .ref h7, .ref h8, .ref h9, .ref h10, .ref h11, .int 0]))] H := hP
      have hD : va_D A [(h0, .inr (8, [.ref h1, .int p1, .ref h2, .ref h3, .ref h4, .ref h5, .int 0, .ref h6, .ref h7, .ref h8, .ref h9, .ref h10, .ref h11, .int 0]))] := hD
      refine lv_iload_n hx hb dX10_end_19 rfl (lv_at hl 1 rfl) ?_
      exact W.iret (v := p1) hx hb hr (fun t ht hW => ⟨⟨p1, (), rfl, Or.inr (Or.inl ⟨rfl, c_1, c_2⟩), trivial⟩, hS.F ht⟩) hS.2.2 dX10_end_20
    · refine lv_iconst (v := (-1)) hx hb dX10_end_12 (by decide) ?_
      exact W.iret (v := (-1)) hx hb hr (fun t ht hW => ⟨⟨(-1), (), rfl, Or.inr (Or.inr ⟨rfl, c_1, c_2⟩), trivial⟩, hS.F ht⟩) hS.2.2 dX10_end_13
set_option maxHeartbeats 4000000 in
set_option maxRecDepth 100000 in
theorem c_X11_end (l : Launch) (dC : Nat → ClassId) (dI : Nat → Nat → Nat) (kE : Nat) (h0 : Nat) (rr : Nat → Nat) (k2 : ClassId) (k3 : ClassId) (sz : Nat) (p1 : Int32) : Met l yX11_end wsX11_end ({ frames := 0, cells := 0, slots := 0, locals := 0 }) (va_Pc [.ref h0, .int p1] (fun U => U.heap.size = sz ∧ va_P (dC, dI) vwCl [(h0, .inr (9, mF rr 0 0 0 (-1) 0 0 0 0 0 0 0 0 0 0 0 0 0 0 0 0 0 0 0 0 0)), ((rr 2), .inl (k2, 2, .inl (fun _ => 0))), ((rr 3), .inl (k3, 2, .inl (fun _ => 0)))] U.heap ∧ va_K (dC, dI) vwCl [(k2, .int), (k3, .int)] U ∧ va_D (fun _ => True) [(h0, .inr (9, mF rr 0 0 0 (-1) 0 0 0 0 0 0 0 0 0 0 0 0 0 0 0 0 0 0 0 0 0)), ((rr 2), .inl (k2, 2, .inl (fun _ => 0))), ((rr 3), .inl (k3, 2, .inl (fun _ => 0)))] ∧ ex_X kE (va_A [(h0, .inr (9, mF rr 0 0 0 (-1) 0 0 0 0 0 0 0 0 0 0 0 0 0 0 0 0 0 0 0 0 0)), ((rr 2), .inl (k2, 2, .inl (fun _ => 0))), ((rr 3), .inl (k3, 2, .inl (fun _ => 0)))] sz) U)) (va_Qi (fun (r : Int32) (_ : Unit) => (r = (-1) ∧ p1 < 0) ∨ (r = p1 ∧ ¬ p1 < 0 ∧ p1 ≤ 0) ∨ (r = (-1) ∧ ¬ p1 < 0 ∧ ¬ p1 ≤ 0)) (fun (_ : Unit) (_ : State) => True) (va_A [(h0, .inr (9, mF rr 0 0 0 (-1) 0 0 0 0 0 0 0 0 0 0 0 0 0 0 0 0 0 0 0 0 0)), ((rr 2), .inl (k2, 2, .inl (fun _ => 0))), ((rr 3), .inl (k3, 2, .inl (fun _ => 0)))] sz)) 0 0 (va_A [(h0, .inr (9, mF rr 0 0 0 (-1) 0 0 0 0 0 0 0 0 0 0 0 0 0 0 0 0 0 0 0 0 0)), ((rr 2), .inl (k2, 2, .inl (fun _ => 0))), ((rr 3), .inl (k3, 2, .inl (fun _ => 0)))] sz) := by
  refine Met.ofW (cc := cX11_end) (maxL := 2) (ret := (some .int)) (by decide) rfl ?_
  intro p e s m args below meth c s₁ B hml hv
  obtain ⟨rfl, hsz, hP, hK, hD0, hE⟩ := hv
  have hx := B.exec
  have hb := B.bytes
  have hr := B.returns
  have hts := atoms_spec (ws := wsX11_end) B.pre
  have hown : s.vm.findClass RX11 = some m.cls := findClass_of_methodNamed B.named
  have hlocks := B.notSynchronized
  subst hsz
  have hD := hD0.self (sz := s.heap.size)
  generalize hAe : va_A [(h0, .inr (9, mF rr 0 0 0 (-1) 0 0 0 0 0 0 0 0 0 0 0 0 0 0 0 0 0 0 0 0 0)), ((rr 2), .inl (k2, 2, .inl (fun _ => 0))), ((rr 3), .inl (k3, 2, .inl (fun _ => 0)))] s.heap.size = A at hD hE ⊢
  have hA : ∀ q : Nat, s.heap.size ≤ q → A q := fun q h => by rw [← hAe]; exact Or.inr h
  have hS : va_S A s.heap s.heap [] := va_S.rf
  have hl := lv_entry ([.ref h0, .int p1]) (n := 2) (Nat.le_of_ble_eq_true rfl)
  rw [lg_entry_eq]
  generalize (lg_sl ([.ref h0, .int p1]) ++ List.replicate (2 - (lg_sl ([.ref h0, .int p1])).length) Slot.unset).toArray = ls at hl ⊢
  have hl : lv_has ls 2 [(0, .ref h0), (1, .int p1)] := hl
  have hP : va_P (dC, dI) vwCl [(h0, .inr (9, mF rr 0 0 0 (-1) 0 0 0 0 0 0 0 0 0 0 0 0 0 0 0 0 0 0 0 0 0)), ((rr 2), .inl (k2, 2, .inl (fun _ => 0))), ((rr 3), .inl (k3, 2, .inl (fun _ => 0)))] s.heap := hP
  refine lv_iload_n hx hb dX11_end_0 rfl (lv_at hl 1 rfl) ?_
  refine lv_if_lt (tgt := 12) hx hb dX11_end_1 (by decide) (fun c_1 => ?_) (fun c_1 => ?_)
  · refine lv_iconst (v := (-1)) hx hb dX11_end_12 (by decide) ?_
    exact W.iret (v := (-1)) hx hb hr (fun t ht hW => ⟨⟨(-1), (), rfl, Or.inl ⟨rfl, c_1⟩, trivial⟩, hS.F ht⟩) hS.2.2 dX11_end_13
  · refine lv_iload_n hx hb dX11_end_4 rfl (lv_at hl 1 rfl) ?_
    refine lv_aload_n hx hb dX11_end_5 rfl (lv_at hl 0 rfl) ?_
    refine va_get (D := (dC, dI)) (ci := 9) (v := .int 0) (C := RX11) (T := TX11) (N := 69) hx hb hts iw_X11_end_X11 hown hK hP 0 rfl rfl 2 (by decide) (hts (.fieldLink RX11 218 "HungFloorsModel" "taped" "I") (by decide +kernel)) (fun _ h9 => h9) rfl dX11_end_6 ?_
    refine lv_icmp_le (tgt := 14) hx hb dX11_end_9 (by decide) (fun c_2 => ?_) (fun c_2 => ?_)
    · refine lv_aload_n hx hb dX11_end_14 rfl (lv_at hl 0 rfl) ?_
      refine lv_iload_n hx hb dX11_end_15 rfl (lv_at hl 1 rfl) ?_
      refine va_put (D := (dC, dI)) (ci := 9) (v := .int p1) (ty := .int) (C := RX11) (T := TX11) (N := 69) hx hb hts iw_X11_end_X11 tyX11 tyX11_ok nmX11 hown hK hP hD hS 0 rfl rfl 2 (by decide) (hts (.fieldLink RX11 218 "HungFloorsModel" "taped" "I") (by decide +kernel)) (fun _ h9 => h9) rfl (by decide +kernel) rfl rfl (Nat.le_of_ble_eq_true rfl) dX11_end_16 (fun H locs hP hD hS => ?_)
      have hP : va_P (dC, dI) vwCl [(h0, .inr (9, mF rr p1 0 0 (-1) 0 0 0 0 0 0 0 0 0 0 0 0 0 0 0 0 0 0 0 0 0)), ((rr 2), .inl (k2, 2, .inl (fun _ => 0))), ((rr 3), .inl (k3, 2, .inl (fun _ => 0)))] H := hP
      have hD : va_D A [(h0, .inr (9, mF rr p1 0 0 (-1) 0 0 0 0 0 0 0 0 0 0 0 0 0 0 0 0 0 0 0 0 0)), ((rr 2), .inl (k2, 2, .inl (fun _ => 0))), ((rr 3), .inl (k3, 2, .inl (fun _ => 0)))] := hD
      refine lv_iload_n hx hb dX11_end_19 rfl (lv_at hl 1 rfl) ?_
      exact W.iret (v := p1) hx hb hr (fun t ht hW => ⟨⟨p1, (), rfl, Or.inr (Or.inl ⟨rfl, c_1, c_2⟩), trivial⟩, hS.F ht⟩) hS.2.2 dX11_end_20
    · refine lv_iconst (v := (-1)) hx hb dX11_end_12 (by decide) ?_
      exact W.iret (v := (-1)) hx hb hr (fun t ht hW => ⟨⟨(-1), (), rfl, Or.inr (Or.inr ⟨rfl, c_1, c_2⟩), trivial⟩, hS.F ht⟩) hS.2.2 dX11_end_13
set_option maxHeartbeats 4000000 in
set_option maxRecDepth 100000 in
theorem c_X7_empty (l : Launch) (dC : Nat → ClassId) (dI : Nat → Nat → Nat) (kE : Nat) (h0 : Nat) (h1 : Nat) (h2 : Nat) (h3 : Nat) (h4 : Nat) (h5 : Nat) (h6 : Nat) (h7 : Nat) (h8 : Nat) (h9 : Nat) (h10 : Nat) (sz : Nat) : Met l yX7_empty wsX7_empty ({ frames := 0, cells := 0, slots := 0, locals := 0 }) (va_Pc [.ref h0] (fun U => U.heap.size = sz ∧ va_P (dC, dI) vwCl [(h0, .inr (5, [.int 0, .ref h1, .ref h2, .ref h3, .ref h4, .int 0, .ref h5, .ref h6, .ref h7, .ref h8, .ref h9, .ref h10]))] U.heap ∧ va_K (dC, dI) vwCl [] U ∧ va_D (fun _ => True) [(h0, .inr (5, [.int 0, .ref h1, .ref h2, .ref h3, .ref h4, .int 0, .ref h5, .ref h6, .ref h7, .ref h8, .ref h9, .ref h10]))] ∧ ex_X kE (va_A [(h0, .inr (5, [.int 0, .ref h1, .ref h2, .ref h3, .ref h4, .int 0, .ref h5, .ref h6, .ref h7, .ref h8, .ref h9, .ref h10]))] sz) U)) (va_Qv (fun _ : Unit => True) (fun (_ : Unit) (t : State) => va_P (dC, dI) vwCl [(h0, .inr (5, [.int 0, .ref h1, .ref h2, .ref h3, .ref h4, .int 0, .ref h5, .ref h6, .ref h7, .ref h8, .ref h9, .ref h10]))] t.heap ∧ va_K (dC, dI) vwCl [] t ∧ va_D (va_A [(h0, .inr (5, [.int 0, .ref h1, .ref h2, .ref h3, .ref h4, .int 0, .ref h5, .ref h6, .ref h7, .ref h8, .ref h9, .ref h10]))] sz) [(h0, .inr (5, [.int 0, .ref h1, .ref h2, .ref h3, .ref h4, .int 0, .ref h5, .ref h6, .ref h7, .ref h8, .ref h9, .ref h10]))]) (va_A [(h0, .inr (5, [.int 0, .ref h1, .ref h2, .ref h3, .ref h4, .int 0, .ref h5, .ref h6, .ref h7, .ref h8, .ref h9, .ref h10]))] sz)) 0 0 (va_A [(h0, .inr (5, [.int 0, .ref h1, .ref h2, .ref h3, .ref h4, .int 0, .ref h5, .ref h6, .ref h7, .ref h8, .ref h9, .ref h10]))] sz) := by
  refine Met.ofW (cc := cX7_empty) (maxL := 1) (ret := none) (by decide) rfl ?_
  intro p e s m args below meth c s₁ B hml hv
  obtain ⟨rfl, hsz, hP, hK, hD0, hE⟩ := hv
  have hx := B.exec
  have hb := B.bytes
  have hr := B.returns
  have hts := atoms_spec (ws := wsX7_empty) B.pre
  have hown : s.vm.findClass RX7 = some m.cls := findClass_of_methodNamed B.named
  have hlocks := B.notSynchronized
  subst hsz
  have hD := hD0.self (sz := s.heap.size)
  generalize hAe : va_A [(h0, .inr (5, [.int 0, .ref h1, .ref h2, .ref h3, .ref h4, .int 0, .ref h5, .ref h6, .ref h7, .ref h8, .ref h9, .ref h10]))] s.heap.size = A at hD hE ⊢
  have hA : ∀ q : Nat, s.heap.size ≤ q → A q := fun q h => by rw [← hAe]; exact Or.inr h
  have hS : va_S A s.heap s.heap [] := va_S.rf
  have hl := lv_entry ([.ref h0]) (n := 1) (Nat.le_of_ble_eq_true rfl)
  rw [lg_entry_eq]
  generalize (lg_sl ([.ref h0]) ++ List.replicate (1 - (lg_sl ([.ref h0])).length) Slot.unset).toArray = ls at hl ⊢
  have hl : lv_has ls 1 [(0, .ref h0)] := hl
  have hP : va_P (dC, dI) vwCl [(h0, .inr (5, [.int 0, .ref h1, .ref h2, .ref h3, .ref h4, .int 0, .ref h5, .ref h6, .ref h7, .ref h8, .ref h9, .ref h10]))] s.heap := hP
  refine lv_aload_n hx hb dX7_empty_0 rfl (lv_at hl 0 rfl) ?_
  refine lv_iconst (v := 0) hx hb dX7_empty_1 (by decide) ?_
  refine va_put (D := (dC, dI)) (ci := 5) (v := .int 0) (ty := .int) (C := RX7) (T := TX7) (N := 12) hx hb hts iw_X7_empty_X7 tyX7 tyX7_ok nmX7 hown hK hP hD hS 0 rfl rfl 0 (by decide) (hts (.fieldLink RX7 9 "HungFloors$Plan" "floorCount" "I") (by decide +kernel)) (fun _ h9 => h9) rfl (by decide +kernel) rfl rfl (Nat.le_of_ble_eq_true rfl) dX7_empty_2 (fun H locs hP hD hS => ?_)
  have hP : va_P (dC, dI) vwCl [(h0, .inr (5, [.int 0, .ref h1, .ref h2, .ref h3, .ref h4, .int 0, .ref h5, .ref h6, .ref h7, .ref h8, .ref h9, .ref h10]))] H := hP
  have hD : va_D A [(h0, .inr (5, [.int 0, .ref h1, .ref h2, .ref h3, .ref h4, .int 0, .ref h5, .ref h6, .ref h7, .ref h8, .ref h9, .ref h10]))] := hD
  refine lv_aload_n hx hb dX7_empty_5 rfl (lv_at hl 0 rfl) ?_
  refine lv_iconst (v := 0) hx hb dX7_empty_6 (by decide) ?_
  refine va_put (D := (dC, dI)) (ci := 5) (v := .int 0) (ty := .int) (C := RX7) (T := TX7) (N := 12) hx hb hts iw_X7_empty_X7 tyX7 tyX7_ok nmX7 hown hK hP hD hS 0 rfl rfl 5 (by decide) (hts (.fieldLink RX7 29 "HungFloors$Plan" "drawingCount" "I") (by decide +kernel)) (fun _ h9 => h9) rfl (by decide +kernel) rfl rfl (Nat.le_of_ble_eq_true rfl) dX7_empty_7 (fun H locs hP hD hS => ?_)
  have hP : va_P (dC, dI) vwCl [(h0, .inr (5, [.int 0, .ref h1, .ref h2, .ref h3, .ref h4, .int 0, .ref h5, .ref h6, .ref h7, .ref h8, .ref h9, .ref h10]))] H := hP
  have hD : va_D A [(h0, .inr (5, [.int 0, .ref h1, .ref h2, .ref h3, .ref h4, .int 0, .ref h5, .ref h6, .ref h7, .ref h8, .ref h9, .ref h10]))] := hD
  have hP9 := hP.sub (ws' := [(h0, .inr (5, [.int 0, .ref h1, .ref h2, .ref h3, .ref h4, .int 0, .ref h5, .ref h6, .ref h7, .ref h8, .ref h9, .ref h10]))]) [0] rfl
  have hD9 := hD.sub (ws' := [(h0, .inr (5, [.int 0, .ref h1, .ref h2, .ref h3, .ref h4, .int 0, .ref h5, .ref h6, .ref h7, .ref h8, .ref h9, .ref h10]))]) [0] (by decide) rfl
  have hK9 := hK.sub (tys' := []) [] rfl
  exact W.vret hx hb hr (fun t ht hW => ⟨⟨(), rfl, trivial, ⟨by rw [ht]; exact hP9, va_K.moved hW.alike hK9, hD9⟩⟩, hS.F ht⟩) hS.2.2 dX7_empty_10
set_option maxHeartbeats 4000000 in
set_option maxRecDepth 100000 in
theorem c_X9_advance (l : Launch) (dC : Nat → ClassId) (dI : Nat → Nat → Nat) (kE : Nat) (h0 : Nat) (h1 : Nat) (sz : Nat) : Met l yX9_advance wsX9_advance ({ frames := 0, cells := 0, slots := 0, locals := 0 }) (va_Pc [.ref h0] (fun U => U.heap.size = sz ∧ va_P (dC, dI) vwCl [(h0, .inr (7, [.ref h1, .int 0, .int 0, .ref kE, .int 0, .long 0, .int 0]))] U.heap ∧ va_K (dC, dI) vwCl [] U ∧ va_D (fun _ => True) [(h0, .inr (7, [.ref h1, .int 0, .int 0, .ref kE, .int 0, .long 0, .int 0]))] ∧ ex_X kE (va_A [(h0, .inr (7, [.ref h1, .int 0, .int 0, .ref kE, .int 0, .long 0, .int 0]))] sz) U)) (va_Qv (fun _ : Unit => True) (fun (_ : Unit) (t : State) => va_P (dC, dI) vwCl [(h0, .inr (7, [.ref h1, .int 0, .int 0, .ref kE, .int 0, .long 0, .int 0]))] t.heap ∧ va_K (dC, dI) vwCl [] t ∧ va_D (va_A [(h0, .inr (7, [.ref h1, .int 0, .int 0, .ref kE, .int 0, .long 0, .int 0]))] sz) [(h0, .inr (7, [.ref h1, .int 0, .int 0, .ref kE, .int 0, .long 0, .int 0]))]) (va_A [(h0, .inr (7, [.ref h1, .int 0, .int 0, .ref kE, .int 0, .long 0, .int 0]))] sz)) 0 0 (va_A [(h0, .inr (7, [.ref h1, .int 0, .int 0, .ref kE, .int 0, .long 0, .int 0]))] sz) := by
  refine Met.ofW (cc := cX9_advance) (maxL := 1) (ret := none) (by decide) rfl ?_
  intro p e s m args below meth c s₁ B hml hv
  obtain ⟨rfl, hsz, hP, hK, hD0, hE⟩ := hv
  have hx := B.exec
  have hb := B.bytes
  have hr := B.returns
  have hts := atoms_spec (ws := wsX9_advance) B.pre
  have hown : s.vm.findClass RX9 = some m.cls := findClass_of_methodNamed B.named
  have hlocks := B.notSynchronized
  subst hsz
  have hD := hD0.self (sz := s.heap.size)
  generalize hAe : va_A [(h0, .inr (7, [.ref h1, .int 0, .int 0, .ref kE, .int 0, .long 0, .int 0]))] s.heap.size = A at hD hE ⊢
  have hA : ∀ q : Nat, s.heap.size ≤ q → A q := fun q h => by rw [← hAe]; exact Or.inr h
  have hS : va_S A s.heap s.heap [] := va_S.rf
  have hl := lv_entry ([.ref h0]) (n := 1) (Nat.le_of_ble_eq_true rfl)
  rw [lg_entry_eq]
  generalize (lg_sl ([.ref h0]) ++ List.replicate (1 - (lg_sl ([.ref h0])).length) Slot.unset).toArray = ls at hl ⊢
  have hl : lv_has ls 1 [(0, .ref h0)] := hl
  have hP : va_P (dC, dI) vwCl [(h0, .inr (7, [.ref h1, .int 0, .int 0, .ref kE, .int 0, .long 0, .int 0]))] s.heap := hP
  refine lv_aload_n hx hb dX9_advance_0 rfl (lv_at hl 0 rfl) ?_
  refine va_get (D := (dC, dI)) (ci := 7) (v := .int 0) (C := RX9) (T := TX9) (N := 7) hx hb hts iw_X9_advance_X9 hown hK hP 0 rfl rfl 2 (by decide) (hts (.fieldLink RX9 17 "HungFloors$Tokens" "at" "I") (by decide +kernel)) (fun _ h9 => h9) rfl dX9_advance_1 ?_
  refine lv_aload_n hx hb dX9_advance_4 rfl (lv_at hl 0 rfl) ?_
  refine va_get (D := (dC, dI)) (ci := 7) (v := .int 0) (C := RX9) (T := TX9) (N := 7) hx hb hts iw_X9_advance_X9 hown hK hP 0 rfl rfl 1 (by decide) (hts (.fieldLink RX9 13 "HungFloors$Tokens" "length" "I") (by decide +kernel)) (fun _ h9 => h9) rfl dX9_advance_5 ?_
  refine lv_icmp_ge (tgt := 52) hx hb dX9_advance_8 (by decide) (fun c_1 => ?_) (fun c_1 => absurd c_1 (by decide))
  refine lv_aload_n hx hb dX9_advance_52 rfl (lv_at hl 0 rfl) ?_
  refine lv_aload_n hx hb dX9_advance_53 rfl (lv_at hl 0 rfl) ?_
  refine va_get (D := (dC, dI)) (ci := 7) (v := .int 0) (C := RX9) (T := TX9) (N := 7) hx hb hts iw_X9_advance_X9 hown hK hP 0 rfl rfl 2 (by decide) (hts (.fieldLink RX9 17 "HungFloors$Tokens" "at" "I") (by decide +kernel)) (fun _ h9 => h9) rfl dX9_advance_54 ?_
  refine va_put (D := (dC, dI)) (ci := 7) (v := .int 0) (ty := .int) (C := RX9) (T := TX9) (N := 7) hx hb hts iw_X9_advance_X9 tyX9 tyX9_ok nmX9 hown hK hP hD hS 0 rfl rfl 4 (by decide) (hts (.fieldLink RX9 29 "HungFloors$Tokens" "start" "I") (by decide +kernel)) (fun _ h9 => h9) rfl (by decide +kernel) rfl rfl (Nat.le_of_ble_eq_true rfl) dX9_advance_57 (fun H locs hP hD hS => ?_)
  have hP : va_P (dC, dI) vwCl [(h0, .inr (7, [.ref h1, .int 0, .int 0, .ref kE, .int 0, .long 0, .int 0]))] H := hP
  have hD : va_D A [(h0, .inr (7, [.ref h1, .int 0, .int 0, .ref kE, .int 0, .long 0, .int 0]))] := hD
  refine lv_aload_n hx hb dX9_advance_60 rfl (lv_at hl 0 rfl) ?_
  refine va_get (D := (dC, dI)) (ci := 7) (v := .int 0) (C := RX9) (T := TX9) (N := 7) hx hb hts iw_X9_advance_X9 hown hK hP 0 rfl rfl 2 (by decide) (hts (.fieldLink RX9 17 "HungFloors$Tokens" "at" "I") (by decide +kernel)) (fun _ h9 => h9) rfl dX9_advance_61 ?_
  refine lv_aload_n hx hb dX9_advance_64 rfl (lv_at hl 0 rfl) ?_
  refine va_get (D := (dC, dI)) (ci := 7) (v := .int 0) (C := RX9) (T := TX9) (N := 7) hx hb hts iw_X9_advance_X9 hown hK hP 0 rfl rfl 1 (by decide) (hts (.fieldLink RX9 13 "HungFloors$Tokens" "length" "I") (by decide +kernel)) (fun _ h9 => h9) rfl dX9_advance_65 ?_
  refine lv_icmp_lt (tgt := 81) hx hb dX9_advance_68 (by decide) (fun c_2 => absurd c_2 (by decide)) (fun c_2 => ?_)
  refine lv_aload_n hx hb dX9_advance_71 rfl (lv_at hl 0 rfl) ?_
  refine va_gets hx hb hE.2 hS hown (hts (.fieldLink RX9 20 "HungFloors$Kind" "END" "LHungFloors$Kind;") (by decide +kernel)) (fun _ h9 => h9) dX9_advance_72 ?_
  refine va_put (D := (dC, dI)) (ci := 7) (v := .ref kE) (ty := .object "HungFloors$Kind") (C := RX9) (T := TX9) (N := 7) hx hb hts iw_X9_advance_X9 tyX9 tyX9_ok nmX9 hown hK hP hD hS 0 rfl rfl 3 (by decide) (hts (.fieldLink RX9 26 "HungFloors$Tokens" "kind" "LHungFloors$Kind;") (by decide +kernel)) (fun _ h9 => h9) rfl (by decide +kernel) rfl rfl (Nat.le_of_ble_eq_true rfl) dX9_advance_75 (fun H locs hP hD hS => ?_)
  have hP : va_P (dC, dI) vwCl [(h0, .inr (7, [.ref h1, .int 0, .int 0, .ref kE, .int 0, .long 0, .int 0]))] H := hP
  have hD : va_D A [(h0, .inr (7, [.ref h1, .int 0, .int 0, .ref kE, .int 0, .long 0, .int 0]))] := hD
  refine lv_goto (tgt := 192) hx hb dX9_advance_78 (by decide) ?_
  have hP9 := hP.sub (ws' := [(h0, .inr (7, [.ref h1, .int 0, .int 0, .ref kE, .int 0, .long 0, .int 0]))]) [0] rfl
  have hD9 := hD.sub (ws' := [(h0, .inr (7, [.ref h1, .int 0, .int 0, .ref kE, .int 0, .long 0, .int 0]))]) [0] (by decide) rfl
  have hK9 := hK.sub (tys' := []) [] rfl
  exact W.vret hx hb hr (fun t ht hW => ⟨⟨(), rfl, trivial, ⟨by rw [ht]; exact hP9, va_K.moved hW.alike hK9, hD9⟩⟩, hS.F ht⟩) hS.2.2 dX9_advance_192
set_option maxHeartbeats 4000000 in
set_option maxRecDepth 100000 in
theorem c_X9_begin (l : Launch) (dC : Nat → ClassId) (dI : Nat → Nat → Nat) (kE : Nat) (h0 : Nat) (h1 : Nat) (h2 : Nat) (k3 : ClassId) (sz : Nat) : Met l yX9_begin wsX9_begin ({ frames := 1, cells := 0, slots := 0, locals := 20 }) (va_Pc [.ref h0, .ref h1, .int 0] (fun U => U.heap.size = sz ∧ va_P (dC, dI) vwCl [(h0, .inr (7, [.ref h2, .int 0, .int 0, .ref kE, .int 0, .long 0, .int 0])), (h1, .inl (k3, 1600, .inl (fun _ => 0)))] U.heap ∧ va_K (dC, dI) vwCl [(k3, .byte)] U ∧ va_D (fun _ => True) [(h0, .inr (7, [.ref h2, .int 0, .int 0, .ref kE, .int 0, .long 0, .int 0])), (h1, .inl (k3, 1600, .inl (fun _ => 0)))] ∧ ex_X kE (va_A [(h0, .inr (7, [.ref h2, .int 0, .int 0, .ref kE, .int 0, .long 0, .int 0])), (h1, .inl (k3, 1600, .inl (fun _ => 0)))] sz) U)) (va_Qv (fun _ : Unit => True) (fun (_ : Unit) (t : State) => va_P (dC, dI) vwCl [(h0, .inr (7, [.ref h1, .int 0, .int 0, .ref kE, .int 0, .long 0, .int 0])), (h1, .inl (k3, 1600, .inl (fun _ => 0)))] t.heap ∧ va_K (dC, dI) vwCl [] t ∧ va_D (va_A [(h0, .inr (7, [.ref h2, .int 0, .int 0, .ref kE, .int 0, .long 0, .int 0])), (h1, .inl (k3, 1600, .inl (fun _ => 0)))] sz) [(h0, .inr (7, [.ref h1, .int 0, .int 0, .ref kE, .int 0, .long 0, .int 0])), (h1, .inl (k3, 1600, .inl (fun _ => 0)))]) (va_A [(h0, .inr (7, [.ref h2, .int 0, .int 0, .ref kE, .int 0, .long 0, .int 0])), (h1, .inl (k3, 1600, .inl (fun _ => 0)))] sz)) 0 0 (va_A [(h0, .inr (7, [.ref h2, .int 0, .int 0, .ref kE, .int 0, .long 0, .int 0])), (h1, .inl (k3, 1600, .inl (fun _ => 0)))] sz) := by
  refine Met.ofW (cc := cX9_begin) (maxL := 3) (ret := none) (by decide) rfl ?_
  intro p e s m args below meth c s₁ B hml hv
  obtain ⟨rfl, hsz, hP, hK, hD0, hE⟩ := hv
  have hx := B.exec
  have hb := B.bytes
  have hr := B.returns
  have hts := atoms_spec (ws := wsX9_begin) B.pre
  have hown : s.vm.findClass RX9 = some m.cls := findClass_of_methodNamed B.named
  have hlocks := B.notSynchronized
  subst hsz
  have hD := hD0.self (sz := s.heap.size)
  generalize hAe : va_A [(h0, .inr (7, [.ref h2, .int 0, .int 0, .ref kE, .int 0, .long 0, .int 0])), (h1, .inl (k3, 1600, .inl (fun _ => 0)))] s.heap.size = A at hD hE ⊢
  have hA : ∀ q : Nat, s.heap.size ≤ q → A q := fun q h => by rw [← hAe]; exact Or.inr h
  have hS : va_S A s.heap s.heap [] := va_S.rf
  have hl := lv_entry ([.ref h0, .ref h1, .int 0]) (n := 3) (Nat.le_of_ble_eq_true rfl)
  rw [lg_entry_eq]
  generalize (lg_sl ([.ref h0, .ref h1, .int 0]) ++ List.replicate (3 - (lg_sl ([.ref h0, .ref h1, .int 0])).length) Slot.unset).toArray = ls at hl ⊢
  have hl : lv_has ls 3 [(0, .ref h0), (1, .ref h1), (2, .int 0)] := hl
  have hP : va_P (dC, dI) vwCl [(h0, .inr (7, [.ref h2, .int 0, .int 0, .ref kE, .int 0, .long 0, .int 0])), (h1, .inl (k3, 1600, .inl (fun _ => 0)))] s.heap := hP
  refine lv_aload_n hx hb dX9_begin_0 rfl (lv_at hl 0 rfl) ?_
  refine lv_aload_n hx hb dX9_begin_1 rfl (lv_at hl 1 rfl) ?_
  refine va_put (D := (dC, dI)) (ci := 7) (v := .ref h1) (ty := .array .byte) (C := RX9) (T := TX9) (N := 7) hx hb hts iw_X9_begin_X9 tyX9 tyX9_ok nmX9 hown hK hP hD hS 0 rfl rfl 0 (by decide) (hts (.fieldLink RX9 7 "HungFloors$Tokens" "text" "[B") (by decide +kernel)) (fun _ h9 => h9) rfl (by decide +kernel) rfl rfl (Nat.le_of_ble_eq_true rfl) dX9_begin_2 (fun H locs hP hD hS => ?_)
  have hP : va_P (dC, dI) vwCl [(h0, .inr (7, [.ref h1, .int 0, .int 0, .ref kE, .int 0, .long 0, .int 0])), (h1, .inl (k3, 1600, .inl (fun _ => 0)))] H := hP
  have hD : va_D A [(h0, .inr (7, [.ref h1, .int 0, .int 0, .ref kE, .int 0, .long 0, .int 0])), (h1, .inl (k3, 1600, .inl (fun _ => 0)))] := hD
  refine lv_aload_n hx hb dX9_begin_5 rfl (lv_at hl 0 rfl) ?_
  refine lv_iload_n hx hb dX9_begin_6 rfl (lv_at hl 2 rfl) ?_
  refine lv_aload_n hx hb dX9_begin_7 rfl (lv_at hl 1 rfl) ?_
  refine va_alen hx hb hK hP 1 0 rfl rfl (v := 1600) (by decide) dX9_begin_8 ?_
  refine va_mmin hx hb (by rw [hml]; exact hl.1.symm) hown (hts (.methodLink RX9 39 Lib.Math.min.name) (by decide +kernel)) (hts (.static Lib.Math.min.name) (by decide +kernel)) (hts (.initialized "java/lang/Math") (by decide +kernel)) (hts (.code Lib.Math.min.name Lib.Math.min.code 2 (some .int)) (List.mem_of_getElem? (i := 5) rfl)) (Nat.le_of_ble_eq_true rfl) (Nat.le_of_ble_eq_true rfl) (Nat.le_of_ble_eq_true rfl) (Nat.le_of_ble_eq_true rfl) dX9_begin_9 ?_
  refine lv_topi (fun z_1 ez_1 => ?_)
  obtain rfl : z_1 = (0 : Int32) := ez_1.trans (by decide)
  refine va_put (D := (dC, dI)) (ci := 7) (v := .int 0) (ty := .int) (C := RX9) (T := TX9) (N := 7) hx hb hts iw_X9_begin_X9 tyX9 tyX9_ok nmX9 hown hK hP hD hS 0 rfl rfl 1 (by decide) (hts (.fieldLink RX9 13 "HungFloors$Tokens" "length" "I") (by decide +kernel)) (fun _ h9 => h9) rfl (by decide +kernel) rfl rfl (Nat.le_of_ble_eq_true rfl) dX9_begin_12 (fun H locs hP hD hS => ?_)
  have hP : va_P (dC, dI) vwCl [(h0, .inr (7, [.ref h1, .int 0, .int 0, .ref kE, .int 0, .long 0, .int 0])), (h1, .inl (k3, 1600, .inl (fun _ => 0)))] H := hP
  have hD : va_D A [(h0, .inr (7, [.ref h1, .int 0, .int 0, .ref kE, .int 0, .long 0, .int 0])), (h1, .inl (k3, 1600, .inl (fun _ => 0)))] := hD
  refine lv_aload_n hx hb dX9_begin_15 rfl (lv_at hl 0 rfl) ?_
  refine lv_iconst (v := 0) hx hb dX9_begin_16 (by decide) ?_
  refine va_put (D := (dC, dI)) (ci := 7) (v := .int 0) (ty := .int) (C := RX9) (T := TX9) (N := 7) hx hb hts iw_X9_begin_X9 tyX9 tyX9_ok nmX9 hown hK hP hD hS 0 rfl rfl 2 (by decide) (hts (.fieldLink RX9 17 "HungFloors$Tokens" "at" "I") (by decide +kernel)) (fun _ h9 => h9) rfl (by decide +kernel) rfl rfl (Nat.le_of_ble_eq_true rfl) dX9_begin_17 (fun H locs hP hD hS => ?_)
  have hP : va_P (dC, dI) vwCl [(h0, .inr (7, [.ref h1, .int 0, .int 0, .ref kE, .int 0, .long 0, .int 0])), (h1, .inl (k3, 1600, .inl (fun _ => 0)))] H := hP
  have hD : va_D A [(h0, .inr (7, [.ref h1, .int 0, .int 0, .ref kE, .int 0, .long 0, .int 0])), (h1, .inl (k3, 1600, .inl (fun _ => 0)))] := hD
  refine lv_aload_n hx hb dX9_begin_20 rfl (lv_at hl 0 rfl) ?_
  have hPc := hP.sub (ws' := [(h0, .inr (7, [.ref h1, .int 0, .int 0, .ref kE, .int 0, .long 0, .int 0]))]) [0] rfl
  have hDc := hD.sub (ws' := [(h0, .inr (7, [.ref h1, .int 0, .int 0, .ref kE, .int 0, .long 0, .int 0]))]) [0] (by decide) rfl
  have hKc := hK.sub (tys' := []) [] rfl
  have hFc := va_free (wc := [(h0, .inr (7, [.ref h1, .int 0, .int 0, .ref kE, .int 0, .long 0, .int 0]))]) hD hS hA [0] rfl
  refine va_callv (va_runV (As := []) (rest := []) ⟨hx, hb, hml, hown, hts⟩ (c_X9_advance l dC dI kE h0 h1 H.size) (cwV 0 hts gX9_begin_X9_advance rfl rfl rfl (by decide +kernel) ⟨(Nat.le_of_ble_eq_true rfl), (Nat.le_of_ble_eq_true rfl)⟩) ⟨fun a U g mk q => by obtain ⟨q0, q1, qP, qK, qD, qE⟩ := q; exact ⟨q0, q1, qP, va_K.moved (u := U) (U := U.calling g mk a) (Vm.Alike.refl U.vm) qK, qD, ex_blind qE⟩, va_recv hKc hPc (ci := 7) (q0 := 0) rfl rfl, fun U hU hW => ⟨rfl, by rw [hU], by rw [hU]; exact hPc, va_K.moved hW.alike hKc, hDc.weaken (fun _ _ _ _ => trivial), ex_call hE hS hFc hU hW⟩⟩ rfl rfl hl.1 rfl (lv_room (Nat.le_of_ble_eq_true rfl)) dX9_begin_21 ⟨(Nat.le_of_ble_eq_true rfl), (Nat.le_of_ble_eq_true rfl)⟩) hS (fun q _ h => hFc q h) hFc (fun u t H locs ht hvm hw hB hz1 hk1 hS => ?_)
  obtain ⟨hP1, hK1, hD1⟩ := hB
  rw [ht] at hP1
  have hK1 := va_K.moved hvm.symm hK1
  obtain ⟨hP, hD⟩ := va_join (wr := [(h1, .inl (k3, 1600, .inl (fun _ => 0)))]) (w1 := [(h0, .inr (7, [.ref h1, .int 0, .int 0, .ref kE, .int 0, .long 0, .int 0]))]) hP hD [0] [1] rfl rfl (by decide) (by decide) hk1 hFc hP1 hD1
  have hP : va_P (dC, dI) vwCl [(h1, .inl (k3, 1600, .inl (fun _ => 0))), (h0, .inr (7, [.ref h1, .int 0, .int 0, .ref kE, .int 0, .long 0, .int 0]))] H := hP
  have hD : va_D A [(h1, .inl (k3, 1600, .inl (fun _ => 0))), (h0, .inr (7, [.ref h1, .int 0, .int 0, .ref kE, .int 0, .long 0, .int 0]))] := hD
  refine W.widen (k := 0) (n := 0) (by omega) (by omega) ?_
  have hP9 := hP.sub (ws' := [(h0, .inr (7, [.ref h1, .int 0, .int 0, .ref kE, .int 0, .long 0, .int 0])), (h1, .inl (k3, 1600, .inl (fun _ => 0)))]) [1, 0] rfl
  have hD9 := hD.sub (ws' := [(h0, .inr (7, [.ref h1, .int 0, .int 0, .ref kE, .int 0, .long 0, .int 0])), (h1, .inl (k3, 1600, .inl (fun _ => 0)))]) [1, 0] (by decide) rfl
  have hK9 := hK.sub (tys' := []) [] rfl
  exact W.vret hx hb hr (fun t ht hW => ⟨⟨(), rfl, trivial, ⟨by rw [ht]; exact hP9, va_K.moved hW.alike hK9, hD9⟩⟩, hS.F ht⟩) hS.2.2 dX9_begin_24
set_option maxHeartbeats 4000000 in
set_option maxRecDepth 100000 in
theorem c_X4_readHouse (l : Launch) (dC : Nat → ClassId) (dI : Nat → Nat → Nat) (kE : Nat) (h0 : Nat) (h1 : Nat) (h2 : Nat) (h3 : Nat) (h4 : Nat) (h5 : Nat) (h7 : Nat) (h8 : Nat) (h9 : Nat) (h10 : Nat) (h11 : Nat) (h12 : Nat) (h13 : Nat) (h14 : Nat) (h15 : Nat) (h16 : Nat) (k6 : ClassId) (sz : Nat) : Met l yX4_readHouse wsX4_readHouse ({ frames := 2, cells := 0, slots := 0, locals := 42 }) (va_Pc [.ref h0, .ref h1, .int 0, .ref h2] (fun U => U.heap.size = sz ∧ va_P (dC, dI) vwCl [(h0, .inr (3, [.ref h3, .ref h4, .int 0, .int (-1)])), (h3, .inr (7, [.ref h5, .int 0, .int 0, .ref kE, .int 0, .long 0, .int 0])), (h1, .inl (k6, 1600, .inl (fun _ => 0))), (h2, .inr (5, [.int 0, .ref h7, .ref h8, .ref h9, .ref h10, .int 0, .ref h11, .ref h12, .ref h13, .ref h14, .ref h15, .ref h16]))] U.heap ∧ va_K (dC, dI) vwCl [(k6, .byte)] U ∧ va_D (fun _ => True) [(h0, .inr (3, [.ref h3, .ref h4, .int 0, .int (-1)])), (h3, .inr (7, [.ref h5, .int 0, .int 0, .ref kE, .int 0, .long 0, .int 0])), (h1, .inl (k6, 1600, .inl (fun _ => 0))), (h2, .inr (5, [.int 0, .ref h7, .ref h8, .ref h9, .ref h10, .int 0, .ref h11, .ref h12, .ref h13, .ref h14, .ref h15, .ref h16]))] ∧ ex_X kE (va_A [(h0, .inr (3, [.ref h3, .ref h4, .int 0, .int (-1)])), (h3, .inr (7, [.ref h5, .int 0, .int 0, .ref kE, .int 0, .long 0, .int 0])), (h1, .inl (k6, 1600, .inl (fun _ => 0))), (h2, .inr (5, [.int 0, .ref h7, .ref h8, .ref h9, .ref h10, .int 0, .ref h11, .ref h12, .ref h13, .ref h14, .ref h15, .ref h16]))] sz) U)) (va_Qi (fun (r : Int32) (_ : Unit) => r = 1) (fun (_ : Unit) (t : State) => va_P (dC, dI) vwCl [(h0, .inr (3, [.ref h3, .ref h2, .int 0, .int (-1)])), (h3, .inr (7, [.ref h1, .int 0, .int 0, .ref kE, .int 0, .long 0, .int 0])), (h1, .inl (k6, 1600, .inl (fun _ => 0))), (h2, .inr (5, [.int 0, .ref h7, .ref h8, .ref h9, .ref h10, .int 0, .ref h11, .ref h12, .ref h13, .ref h14, .ref h15, .ref h16]))] t.heap ∧ va_K (dC, dI) vwCl [] t ∧ va_D (va_A [(h0, .inr (3, [.ref h3, .ref h4, .int 0, .int (-1)])), (h3, .inr (7, [.ref h5, .int 0, .int 0, .ref kE, .int 0, .long 0, .int 0])), (h1, .inl (k6, 1600, .inl (fun _ => 0))), (h2, .inr (5, [.int 0, .ref h7, .ref h8, .ref h9, .ref h10, .int 0, .ref h11, .ref h12, .ref h13, .ref h14, .ref h15, .ref h16]))] sz) [(h0, .inr (3, [.ref h3, .ref h2, .int 0, .int (-1)])), (h3, .inr (7, [.ref h1, .int 0, .int 0, .ref kE, .int 0, .long 0, .int 0])), (h1, .inl (k6, 1600, .inl (fun _ => 0))), (h2, .inr (5, [.int 0, .ref h7, .ref h8, .ref h9, .ref h10, .int 0, .ref h11, .ref h12, .ref h13, .ref h14, .ref h15, .ref h16]))]) (va_A [(h0, .inr (3, [.ref h3, .ref h4, .int 0, .int (-1)])), (h3, .inr (7, [.ref h5, .int 0, .int 0, .ref kE, .int 0, .long 0, .int 0])), (h1, .inl (k6, 1600, .inl (fun _ => 0))), (h2, .inr (5, [.int 0, .ref h7, .ref h8, .ref h9, .ref h10, .int 0, .ref h11, .ref h12, .ref h13, .ref h14, .ref h15, .ref h16]))] sz)) 0 0 (va_A [(h0, .inr (3, [.ref h3, .ref h4, .int 0, .int (-1)])), (h3, .inr (7, [.ref h5, .int 0, .int 0, .ref kE, .int 0, .long 0, .int 0])), (h1, .inl (k6, 1600, .inl (fun _ => 0))), (h2, .inr (5, [.int 0, .ref h7, .ref h8, .ref h9, .ref h10, .int 0, .ref h11, .ref h12, .ref h13, .ref h14, .ref h15, .ref h16]))] sz) := by
  refine Met.ofW (cc := cX4_readHouse) (maxL := 5) (ret := (some .boolean)) (by decide) rfl ?_
  intro p e s m args below meth c s₁ B hml hv
  obtain ⟨rfl, hsz, hP, hK, hD0, hE⟩ := hv
  have hx := B.exec
  have hb := B.bytes
  have hr := B.returns
  have hts := atoms_spec (ws := wsX4_readHouse) B.pre
  have hown : s.vm.findClass RX4 = some m.cls := findClass_of_methodNamed B.named
  have hlocks := B.notSynchronized
  subst hsz
  have hD := hD0.self (sz := s.heap.size)
  generalize hAe : va_A [(h0, .inr (3, [.ref h3, .ref h4, .int 0, .int (-1)])), (h3, .inr (7, [.ref h5, .int 0, .int 0, .ref kE, .int 0, .long 0, .int 0])), (h1, .inl (k6, 1600, .inl (fun _ => 0))), (h2, .inr (5, [.int 0, .ref h7, .ref h8, .ref h9, .ref h10, .int 0, .ref h11, .ref h12, .ref h13, .ref h14, .ref h15, .ref h16]))] s.heap.size = A at hD hE ⊢
  have hA : ∀ q : Nat, s.heap.size ≤ q → A q := fun q h => by rw [← hAe]; exact Or.inr h
  have hS : va_S A s.heap s.heap [] := va_S.rf
  have hl := lv_entry ([.ref h0, .ref h1, .int 0, .ref h2]) (n := 5) (Nat.le_of_ble_eq_true rfl)
  rw [lg_entry_eq]
  generalize (lg_sl ([.ref h0, .ref h1, .int 0, .ref h2]) ++ List.replicate (5 - (lg_sl ([.ref h0, .ref h1, .int 0, .ref h2])).length) Slot.unset).toArray = ls at hl ⊢
  have hl : lv_has ls 5 [(0, .ref h0), (1, .ref h1), (2, .int 0), (3, .ref h2)] := hl
  have hP : va_P (dC, dI) vwCl [(h0, .inr (3, [.ref h3, .ref h4, .int 0, .int (-1)])), (h3, .inr (7, [.ref h5, .int 0, .int 0, .ref kE, .int 0, .long 0, .int 0])), (h1, .inl (k6, 1600, .inl (fun _ => 0))), (h2, .inr (5, [.int 0, .ref h7, .ref h8, .ref h9, .ref h10, .int 0, .ref h11, .ref h12, .ref h13, .ref h14, .ref h15, .ref h16]))] s.heap := hP
  refine lv_aload_n hx hb dX4_readHouse_0 rfl (lv_at hl 0 rfl) ?_
  refine lv_aload_n hx hb dX4_readHouse_1 rfl (lv_at hl 3 rfl) ?_
  refine va_put (D := (dC, dI)) (ci := 3) (v := .ref h2) (ty := .object "HungFloors$Plan") (C := RX4) (T := TX4) (N := 4) hx hb hts iw_X4_readHouse_X4 tyX4 tyX4_ok nmX4 hown hK hP hD hS 0 rfl rfl 1 (by decide) (hts (.fieldLink RX4 21 "HungFloors$HouseReader" "plan" "LHungFloors$Plan;") (by decide +kernel)) (fun _ h9 => h9) rfl (by decide +kernel) rfl rfl (Nat.le_of_ble_eq_true rfl) dX4_readHouse_2 (fun H locs hP hD hS => ?_)
  have hP : va_P (dC, dI) vwCl [(h0, .inr (3, [.ref h3, .ref h2, .int 0, .int (-1)])), (h3, .inr (7, [.ref h5, .int 0, .int 0, .ref kE, .int 0, .long 0, .int 0])), (h1, .inl (k6, 1600, .inl (fun _ => 0))), (h2, .inr (5, [.int 0, .ref h7, .ref h8, .ref h9, .ref h10, .int 0, .ref h11, .ref h12, .ref h13, .ref h14, .ref h15, .ref h16]))] H := hP
  have hD : va_D A [(h0, .inr (3, [.ref h3, .ref h2, .int 0, .int (-1)])), (h3, .inr (7, [.ref h5, .int 0, .int 0, .ref kE, .int 0, .long 0, .int 0])), (h1, .inl (k6, 1600, .inl (fun _ => 0))), (h2, .inr (5, [.int 0, .ref h7, .ref h8, .ref h9, .ref h10, .int 0, .ref h11, .ref h12, .ref h13, .ref h14, .ref h15, .ref h16]))] := hD
  refine lv_aload_n hx hb dX4_readHouse_5 rfl (lv_at hl 0 rfl) ?_
  refine va_get (D := (dC, dI)) (ci := 3) (v := .ref h2) (C := RX4) (T := TX4) (N := 4) hx hb hts iw_X4_readHouse_X4 hown hK hP 0 rfl rfl 1 (by decide) (hts (.fieldLink RX4 21 "HungFloors$HouseReader" "plan" "LHungFloors$Plan;") (by decide +kernel)) (fun _ h9 => h9) rfl dX4_readHouse_6 ?_
  have hPc := hP.sub (ws' := [(h2, .inr (5, [.int 0, .ref h7, .ref h8, .ref h9, .ref h10, .int 0, .ref h11, .ref h12, .ref h13, .ref h14, .ref h15, .ref h16]))]) [3] rfl
  have hDc := hD.sub (ws' := [(h2, .inr (5, [.int 0, .ref h7, .ref h8, .ref h9, .ref h10, .int 0, .ref h11, .ref h12, .ref h13, .ref h14, .ref h15, .ref h16]))]) [3] (by decide) rfl
  have hKc := hK.sub (tys' := []) [] rfl
  have hFc := va_free (wc := [(h2, .inr (5, [.int 0, .ref h7, .ref h8, .ref h9, .ref h10, .int 0, .ref h11, .ref h12, .ref h13, .ref h14, .ref h15, .ref h16]))]) hD hS hA [3] rfl
  refine va_callv (va_runV (As := []) (rest := []) ⟨hx, hb, hml, hown, hts⟩ (c_X7_empty l dC dI kE h2 h7 h8 h9 h10 h11 h12 h13 h14 h15 h16 H.size) (cwV 0 hts gX4_readHouse_X7_empty rfl rfl rfl (by decide +kernel) ⟨(Nat.le_of_ble_eq_true rfl), (Nat.le_of_ble_eq_true rfl)⟩) ⟨fun a U g mk q => by obtain ⟨q0, q1, qP, qK, qD, qE⟩ := q; exact ⟨q0, q1, qP, va_K.moved (u := U) (U := U.calling g mk a) (Vm.Alike.refl U.vm) qK, qD, ex_blind qE⟩, va_recv hKc hPc (ci := 5) (q0 := 0) rfl rfl, fun U hU hW => ⟨rfl, by rw [hU], by rw [hU]; exact hPc, va_K.moved hW.alike hKc, hDc.weaken (fun _ _ _ _ => trivial), ex_call hE hS hFc hU hW⟩⟩ rfl rfl hl.1 rfl (lv_room (Nat.le_of_ble_eq_true rfl)) dX4_readHouse_9 ⟨(Nat.le_of_ble_eq_true rfl), (Nat.le_of_ble_eq_true rfl)⟩) hS (fun q _ h => hFc q h) hFc (fun u t H locs ht hvm hw hB hz1 hk1 hS => ?_)
  obtain ⟨hP1, hK1, hD1⟩ := hB
  rw [ht] at hP1
  have hK1 := va_K.moved hvm.symm hK1
  obtain ⟨hP, hD⟩ := va_join (wr := [(h0, .inr (3, [.ref h3, .ref h2, .int 0, .int (-1)])), (h3, .inr (7, [.ref h5, .int 0, .int 0, .ref kE, .int 0, .long 0, .int 0])), (h1, .inl (k6, 1600, .inl (fun _ => 0)))]) (w1 := [(h2, .inr (5, [.int 0, .ref h7, .ref h8, .ref h9, .ref h10, .int 0, .ref h11, .ref h12, .ref h13, .ref h14, .ref h15, .ref h16]))]) hP hD [3] [0, 1, 2] rfl rfl (by decide) (by decide) hk1 hFc hP1 hD1
  have hP : va_P (dC, dI) vwCl [(h0, .inr (3, [.ref h3, .ref h2, .int 0, .int (-1)])), (h3, .inr (7, [.ref h5, .int 0, .int 0, .ref kE, .int 0, .long 0, .int 0])), (h1, .inl (k6, 1600, .inl (fun _ => 0))), (h2, .inr (5, [.int 0, .ref h7, .ref h8, .ref h9, .ref h10, .int 0, .ref h11, .ref h12, .ref h13, .ref h14, .ref h15, .ref h16]))] H := hP
  have hD : va_D A [(h0, .inr (3, [.ref h3, .ref h2, .int 0, .int (-1)])), (h3, .inr (7, [.ref h5, .int 0, .int 0, .ref kE, .int 0, .long 0, .int 0])), (h1, .inl (k6, 1600, .inl (fun _ => 0))), (h2, .inr (5, [.int 0, .ref h7, .ref h8, .ref h9, .ref h10, .int 0, .ref h11, .ref h12, .ref h13, .ref h14, .ref h15, .ref h16]))] := hD
  refine W.widen (k := 0) (n := 0) (by omega) (by omega) ?_
  refine lv_aload_n hx hb dX4_readHouse_12 rfl (lv_at hl 0 rfl) ?_
  refine lv_iconst (v := 0) hx hb dX4_readHouse_13 (by decide) ?_
  refine va_put (D := (dC, dI)) (ci := 3) (v := .int 0) (ty := .int) (C := RX4) (T := TX4) (N := 4) hx hb hts iw_X4_readHouse_X4 tyX4 tyX4_ok nmX4 hown hK hP hD hS 0 rfl rfl 2 (by decide) (hts (.fieldLink RX4 25 "HungFloors$HouseReader" "faultKind" "I") (by decide +kernel)) (fun _ h9 => h9) rfl (by decide +kernel) rfl rfl (Nat.le_of_ble_eq_true rfl) dX4_readHouse_14 (fun H locs hP hD hS => ?_)
  have hP : va_P (dC, dI) vwCl [(h0, .inr (3, [.ref h3, .ref h2, .int 0, .int (-1)])), (h3, .inr (7, [.ref h5, .int 0, .int 0, .ref kE, .int 0, .long 0, .int 0])), (h1, .inl (k6, 1600, .inl (fun _ => 0))), (h2, .inr (5, [.int 0, .ref h7, .ref h8, .ref h9, .ref h10, .int 0, .ref h11, .ref h12, .ref h13, .ref h14, .ref h15, .ref h16]))] H := hP
  have hD : va_D A [(h0, .inr (3, [.ref h3, .ref h2, .int 0, .int (-1)])), (h3, .inr (7, [.ref h5, .int 0, .int 0, .ref kE, .int 0, .long 0, .int 0])), (h1, .inl (k6, 1600, .inl (fun _ => 0))), (h2, .inr (5, [.int 0, .ref h7, .ref h8, .ref h9, .ref h10, .int 0, .ref h11, .ref h12, .ref h13, .ref h14, .ref h15, .ref h16]))] := hD
  refine lv_aload_n hx hb dX4_readHouse_17 rfl (lv_at hl 0 rfl) ?_
  refine lv_iconst (v := (-1)) hx hb dX4_readHouse_18 (by decide) ?_
  refine va_put (D := (dC, dI)) (ci := 3) (v := .int (-1)) (ty := .int) (C := RX4) (T := TX4) (N := 4) hx hb hts iw_X4_readHouse_X4 tyX4 tyX4_ok nmX4 hown hK hP hD hS 0 rfl rfl 3 (by decide) (hts (.fieldLink RX4 29 "HungFloors$HouseReader" "faultPlace" "I") (by decide +kernel)) (fun _ h9 => h9) rfl (by decide +kernel) rfl rfl (Nat.le_of_ble_eq_true rfl) dX4_readHouse_19 (fun H locs hP hD hS => ?_)
  have hP : va_P (dC, dI) vwCl [(h0, .inr (3, [.ref h3, .ref h2, .int 0, .int (-1)])), (h3, .inr (7, [.ref h5, .int 0, .int 0, .ref kE, .int 0, .long 0, .int 0])), (h1, .inl (k6, 1600, .inl (fun _ => 0))), (h2, .inr (5, [.int 0, .ref h7, .ref h8, .ref h9, .ref h10, .int 0, .ref h11, .ref h12, .ref h13, .ref h14, .ref h15, .ref h16]))] H := hP
  have hD : va_D A [(h0, .inr (3, [.ref h3, .ref h2, .int 0, .int (-1)])), (h3, .inr (7, [.ref h5, .int 0, .int 0, .ref kE, .int 0, .long 0, .int 0])), (h1, .inl (k6, 1600, .inl (fun _ => 0))), (h2, .inr (5, [.int 0, .ref h7, .ref h8, .ref h9, .ref h10, .int 0, .ref h11, .ref h12, .ref h13, .ref h14, .ref h15, .ref h16]))] := hD
  refine lv_aload_n hx hb dX4_readHouse_22 rfl (lv_at hl 0 rfl) ?_
  refine va_get (D := (dC, dI)) (ci := 3) (v := .ref h3) (C := RX4) (T := TX4) (N := 4) hx hb hts iw_X4_readHouse_X4 hown hK hP 0 rfl rfl 0 (by decide) (hts (.fieldLink RX4 12 "HungFloors$HouseReader" "tokens" "LHungFloors$Tokens;") (by decide +kernel)) (fun _ h9 => h9) rfl dX4_readHouse_23 ?_
  refine lv_aload_n hx hb dX4_readHouse_26 rfl (lv_at hl 1 rfl) ?_
  refine lv_iload_n hx hb dX4_readHouse_27 rfl (lv_at hl 2 rfl) ?_
  have hPc := hP.sub (ws' := [(h3, .inr (7, [.ref h5, .int 0, .int 0, .ref kE, .int 0, .long 0, .int 0])), (h1, .inl (k6, 1600, .inl (fun _ => 0)))]) [1, 2] rfl
  have hDc := hD.sub (ws' := [(h3, .inr (7, [.ref h5, .int 0, .int 0, .ref kE, .int 0, .long 0, .int 0])), (h1, .inl (k6, 1600, .inl (fun _ => 0)))]) [1, 2] (by decide) rfl
  have hKc := hK.sub (tys' := [(k6, .byte)]) [0] rfl
  have hFc := va_free (wc := [(h3, .inr (7, [.ref h5, .int 0, .int 0, .ref kE, .int 0, .long 0, .int 0])), (h1, .inl (k6, 1600, .inl (fun _ => 0)))]) hD hS hA [1, 2] rfl
  refine va_callv (va_runV (As := [.ref h1, .int 0]) (rest := []) ⟨hx, hb, hml, hown, hts⟩ (c_X9_begin l dC dI kE h3 h1 h5 k6 H.size) (cwV 2 hts gX4_readHouse_X9_begin rfl rfl rfl (by decide +kernel) ⟨(Nat.le_of_ble_eq_true rfl), (Nat.le_of_ble_eq_true rfl)⟩) ⟨fun a U g mk q => by obtain ⟨q0, q1, qP, qK, qD, qE⟩ := q; exact ⟨q0, q1, qP, va_K.moved (u := U) (U := U.calling g mk a) (Vm.Alike.refl U.vm) qK, qD, ex_blind qE⟩, va_recv hKc hPc (ci := 7) (q0 := 0) rfl rfl, fun U hU hW => ⟨rfl, by rw [hU], by rw [hU]; exact hPc, va_K.moved hW.alike hKc, hDc.weaken (fun _ _ _ _ => trivial), ex_call hE hS hFc hU hW⟩⟩ rfl rfl hl.1 rfl (lv_room (Nat.le_of_ble_eq_true rfl)) dX4_readHouse_28 ⟨(Nat.le_of_ble_eq_true rfl), (Nat.le_of_ble_eq_true rfl)⟩) hS (fun q _ h => hFc q h) hFc (fun u t H locs ht hvm hw hB hz1 hk1 hS => ?_)
  obtain ⟨hP1, hK1, hD1⟩ := hB
  rw [ht] at hP1
  have hK1 := va_K.moved hvm.symm hK1
  obtain ⟨hP, hD⟩ := va_join (wr := [(h0, .inr (3, [.ref h3, .ref h2, .int 0, .int (-1)])), (h2, .inr (5, [.int 0, .ref h7, .ref h8, .ref h9, .ref h10, .int 0, .ref h11, .ref h12, .ref h13, .ref h14, .ref h15, .ref h16]))]) (w1 := [(h3, .inr (7, [.ref h1, .int 0, .int 0, .ref kE, .int 0, .long 0, .int 0])), (h1, .inl (k6, 1600, .inl (fun _ => 0)))]) hP hD [1, 2] [0, 3] rfl rfl (by decide) (by decide) hk1 hFc hP1 hD1
  have hP : va_P (dC, dI) vwCl [(h0, .inr (3, [.ref h3, .ref h2, .int 0, .int (-1)])), (h2, .inr (5, [.int 0, .ref h7, .ref h8, .ref h9, .ref h10, .int 0, .ref h11, .ref h12, .ref h13, .ref h14, .ref h15, .ref h16])), (h3, .inr (7, [.ref h1, .int 0, .int 0, .ref kE, .int 0, .long 0, .int 0])), (h1, .inl (k6, 1600, .inl (fun _ => 0)))] H := hP
  have hD : va_D A [(h0, .inr (3, [.ref h3, .ref h2, .int 0, .int (-1)])), (h2, .inr (5, [.int 0, .ref h7, .ref h8, .ref h9, .ref h10, .int 0, .ref h11, .ref h12, .ref h13, .ref h14, .ref h15, .ref h16])), (h3, .inr (7, [.ref h1, .int 0, .int 0, .ref kE, .int 0, .long 0, .int 0])), (h1, .inl (k6, 1600, .inl (fun _ => 0)))] := hD
  refine W.widen (k := 0) (n := 0) (by omega) (by omega) ?_
  refine lv_iconst (v := 0) hx hb dX4_readHouse_31 (by decide) ?_
  refine lv_istore (lv' := [(4, .int 0), (0, .ref h0), (1, .ref h1), (2, .int 0), (3, .ref h2)]) hx hb dX4_readHouse_32 hl (by decide) rfl (fun ls hl => ?_)
  refine lv_iload hx hb dX4_readHouse_34 (lv_at hl 0 rfl) ?_
  refine lv_iload_n hx hb dX4_readHouse_36 rfl (lv_at hl 3 rfl) ?_
  refine lv_icmp_ge (tgt := 68) hx hb dX4_readHouse_37 (by decide) (fun c_3 => ?_) (fun c_3 => absurd c_3 (by decide))
  refine lv_iconst (v := 1) hx hb dX4_readHouse_68 (by decide) ?_
  have hP9 := hP.sub (ws' := [(h0, .inr (3, [.ref h3, .ref h2, .int 0, .int (-1)])), (h3, .inr (7, [.ref h1, .int 0, .int 0, .ref kE, .int 0, .long 0, .int 0])), (h1, .inl (k6, 1600, .inl (fun _ => 0))), (h2, .inr (5, [.int 0, .ref h7, .ref h8, .ref h9, .ref h10, .int 0, .ref h11, .ref h12, .ref h13, .ref h14, .ref h15, .ref h16]))]) [0, 2, 3, 1] rfl
  have hD9 := hD.sub (ws' := [(h0, .inr (3, [.ref h3, .ref h2, .int 0, .int (-1)])), (h3, .inr (7, [.ref h1, .int 0, .int 0, .ref kE, .int 0, .long 0, .int 0])), (h1, .inl (k6, 1600, .inl (fun _ => 0))), (h2, .inr (5, [.int 0, .ref h7, .ref h8, .ref h9, .ref h10, .int 0, .ref h11, .ref h12, .ref h13, .ref h14, .ref h15, .ref h16]))]) [0, 2, 3, 1] (by decide) rfl
  have hK9 := hK.sub (tys' := []) [] rfl
  exact W.zret (v := 1) hx hb hr (by decide) (fun t ht hW => ⟨⟨1, (), rfl, rfl, ⟨by rw [ht]; exact hP9, va_K.moved hW.alike hK9, hD9⟩⟩, hS.F ht⟩) hS.2.2 dX4_readHouse_69
set_option maxHeartbeats 4000000 in
set_option maxRecDepth 100000 in
theorem c_X6_forgetAll (l : Launch) (dC : Nat → ClassId) (dI : Nat → Nat → Nat) (kE : Nat) (h0 : Nat) (h1 : Nat) (h2 : Nat) (h3 : Nat) (h4 : Nat) (h5 : Nat) (h6 : Nat) (h7 : Nat) (h8 : Nat) (h9 : Nat) (h10 : Nat) (sz : Nat) : Met l yX6_forgetAll wsX6_forgetAll ({ frames := 0, cells := 0, slots := 0, locals := 0 }) (va_Pc [.ref h0] (fun U => U.heap.size = sz ∧ va_P (dC, dI) vwCl [(h0, .inr (4, [.int 0, .ref h1, .ref h2, .ref h3, .ref h4, .ref h5, .ref h6, .ref h7, .int 0, .ref h8, .ref h9, .ref h10]))] U.heap ∧ va_K (dC, dI) vwCl [] U ∧ va_D (fun _ => True) [(h0, .inr (4, [.int 0, .ref h1, .ref h2, .ref h3, .ref h4, .ref h5, .ref h6, .ref h7, .int 0, .ref h8, .ref h9, .ref h10]))] ∧ ex_X kE (va_A [(h0, .inr (4, [.int 0, .ref h1, .ref h2, .ref h3, .ref h4, .ref h5, .ref h6, .ref h7, .int 0, .ref h8, .ref h9, .ref h10]))] sz) U)) (va_Qv (fun _ : Unit => True) (fun (_ : Unit) (t : State) => va_P (dC, dI) vwCl [(h0, .inr (4, [.int 0, .ref h1, .ref h2, .ref h3, .ref h4, .ref h5, .ref h6, .ref h7, .int 0, .ref h8, .ref h9, .ref h10]))] t.heap ∧ va_K (dC, dI) vwCl [] t ∧ va_D (va_A [(h0, .inr (4, [.int 0, .ref h1, .ref h2, .ref h3, .ref h4, .ref h5, .ref h6, .ref h7, .int 0, .ref h8, .ref h9, .ref h10]))] sz) [(h0, .inr (4, [.int 0, .ref h1, .ref h2, .ref h3, .ref h4, .ref h5, .ref h6, .ref h7, .int 0, .ref h8, .ref h9, .ref h10]))]) (va_A [(h0, .inr (4, [.int 0, .ref h1, .ref h2, .ref h3, .ref h4, .ref h5, .ref h6, .ref h7, .int 0, .ref h8, .ref h9, .ref h10]))] sz)) 0 0 (va_A [(h0, .inr (4, [.int 0, .ref h1, .ref h2, .ref h3, .ref h4, .ref h5, .ref h6, .ref h7, .int 0, .ref h8, .ref h9, .ref h10]))] sz) := by
  refine Met.ofW (cc := cX6_forgetAll) (maxL := 1) (ret := none) (by decide) rfl ?_
  intro p e s m args below meth c s₁ B hml hv
  obtain ⟨rfl, hsz, hP, hK, hD0, hE⟩ := hv
  have hx := B.exec
  have hb := B.bytes
  have hr := B.returns
  have hts := atoms_spec (ws := wsX6_forgetAll) B.pre
  have hown : s.vm.findClass RX6 = some m.cls := findClass_of_methodNamed B.named
  have hlocks := B.notSynchronized
  subst hsz
  have hD := hD0.self (sz := s.heap.size)
  generalize hAe : va_A [(h0, .inr (4, [.int 0, .ref h1, .ref h2, .ref h3, .ref h4, .ref h5, .ref h6, .ref h7, .int 0, .ref h8, .ref h9, .ref h10]))] s.heap.size = A at hD hE ⊢
  have hA : ∀ q : Nat, s.heap.size ≤ q → A q := fun q h => by rw [← hAe]; exact Or.inr h
  have hS : va_S A s.heap s.heap [] := va_S.rf
  have hl := lv_entry ([.ref h0]) (n := 1) (Nat.le_of_ble_eq_true rfl)
  rw [lg_entry_eq]
  generalize (lg_sl ([.ref h0]) ++ List.replicate (1 - (lg_sl ([.ref h0])).length) Slot.unset).toArray = ls at hl ⊢
  have hl : lv_has ls 1 [(0, .ref h0)] := hl
  have hP : va_P (dC, dI) vwCl [(h0, .inr (4, [.int 0, .ref h1, .ref h2, .ref h3, .ref h4, .ref h5, .ref h6, .ref h7, .int 0, .ref h8, .ref h9, .ref h10]))] s.heap := hP
  refine lv_aload_n hx hb dX6_forgetAll_0 rfl (lv_at hl 0 rfl) ?_
  refine lv_iconst (v := 0) hx hb dX6_forgetAll_1 (by decide) ?_
  refine va_put (D := (dC, dI)) (ci := 4) (v := .int 0) (ty := .int) (C := RX6) (T := TX6) (N := 12) hx hb hts iw_X6_forgetAll_X6 tyX6 tyX6_ok nmX6 hown hK hP hD hS 0 rfl rfl 0 (by decide) (hts (.fieldLink RX6 9 "HungFloors$Papers" "count" "I") (by decide +kernel)) (fun _ h9 => h9) rfl (by decide +kernel) rfl rfl (Nat.le_of_ble_eq_true rfl) dX6_forgetAll_2 (fun H locs hP hD hS => ?_)
  have hP : va_P (dC, dI) vwCl [(h0, .inr (4, [.int 0, .ref h1, .ref h2, .ref h3, .ref h4, .ref h5, .ref h6, .ref h7, .int 0, .ref h8, .ref h9, .ref h10]))] H := hP
  have hD : va_D A [(h0, .inr (4, [.int 0, .ref h1, .ref h2, .ref h3, .ref h4, .ref h5, .ref h6, .ref h7, .int 0, .ref h8, .ref h9, .ref h10]))] := hD
  refine lv_aload_n hx hb dX6_forgetAll_5 rfl (lv_at hl 0 rfl) ?_
  refine lv_iconst (v := 0) hx hb dX6_forgetAll_6 (by decide) ?_
  refine va_put (D := (dC, dI)) (ci := 4) (v := .int 0) (ty := .int) (C := RX6) (T := TX6) (N := 12) hx hb hts iw_X6_forgetAll_X6 tyX6 tyX6_ok nmX6 hown hK hP hD hS 0 rfl rfl 8 (by decide) (hts (.fieldLink RX6 38 "HungFloors$Papers" "storyCount" "I") (by decide +kernel)) (fun _ h9 => h9) rfl (by decide +kernel) rfl rfl (Nat.le_of_ble_eq_true rfl) dX6_forgetAll_7 (fun H locs hP hD hS => ?_)
  have hP : va_P (dC, dI) vwCl [(h0, .inr (4, [.int 0, .ref h1, .ref h2, .ref h3, .ref h4, .ref h5, .ref h6, .ref h7, .int 0, .ref h8, .ref h9, .ref h10]))] H := hP
  have hD : va_D A [(h0, .inr (4, [.int 0, .ref h1, .ref h2, .ref h3, .ref h4, .ref h5, .ref h6, .ref h7, .int 0, .ref h8, .ref h9, .ref h10]))] := hD
  have hP9 := hP.sub (ws' := [(h0, .inr (4, [.int 0, .ref h1, .ref h2, .ref h3, .ref h4, .ref h5, .ref h6, .ref h7, .int 0, .ref h8, .ref h9, .ref h10]))]) [0] rfl
  have hD9 := hD.sub (ws' := [(h0, .inr (4, [.int 0, .ref h1, .ref h2, .ref h3, .ref h4, .ref h5, .ref h6, .ref h7, .int 0, .ref h8, .ref h9, .ref h10]))]) [0] (by decide) rfl
  have hK9 := hK.sub (tys' := []) [] rfl
  exact W.vret hx hb hr (fun t ht hW => ⟨⟨(), rfl, trivial, ⟨by rw [ht]; exact hP9, va_K.moved hW.alike hK9, hD9⟩⟩, hS.F ht⟩) hS.2.2 dX6_forgetAll_10
