set_option maxHeartbeats 4000000 in
set_option maxRecDepth 100000 in
theorem c_X10_putOnTape (l : Launch) (dC : Nat → ClassId) (dI : Nat → Nat → Nat) (kE : Nat) (h0 : Nat) (h1 : Nat) (h2 : Nat) (h3 : Nat) (h4 : Nat) (h5 : Nat) (h6 : Nat) (h7 : Nat) (h8 : Nat) (h9 : Nat) (h10 : Nat) (h11 : Nat) (k12 : ClassId) (sz : Nat) (p1 : Int32) : Met l yX10_putOnTape wsX10_putOnTape ({ frames := 0, cells := 0, slots := 0, locals := 0 }) (va_Pc [.ref h0, .int p1] (fun U => U.heap.size = sz ∧ va_P (dC, dI) vwCl [(h0, .inr (8, [.ref h1, .int 0, .ref h2, .ref h3, .ref h4, .ref h5, .int 0, .ref h6, .ref h7, .ref h8, .ref h9, .ref h10, .ref h11, .int 0])), (h1, .inl (k12, 1600, .inl (fun _ => 0)))] U.heap ∧ va_K (dC, dI) vwCl [(k12, .byte)] U ∧ va_D (fun _ => True) [(h0, .inr (8, [.ref h1, .int 0, .ref h2, .ref h3, .ref h4, .ref h5, .int 0, .ref h6, .ref h7, .ref h8, .ref h9, .ref h10, .ref h11, .int 0])), (h1, .inl (k12, 1600, .inl (fun _ => 0)))] ∧ ex_X kE (va_A [(h0, .inr (8, [.ref h1, .int 0, .ref h2, .ref h3, .ref h4, .ref h5, .int 0, .ref h6, .ref h7, .ref h8, .ref h9, .ref h10, .ref h11, .int 0])), (h1, .inl (k12, 1600, .inl (fun _ => 0)))] sz) U)) (va_Qv (fun _ : Unit => True) (fun (_ : Unit) (t : State) => ∃ (x0 : (Nat → Int32)), va_P (dC, dI) vwCl [(h0, .inr (8, [.ref h1, .int 4, .ref h2, .ref h3, .ref h4, .ref h5, .int 0, .ref h6, .ref h7, .ref h8, .ref h9, .ref h10, .ref h11, .int 0])), (h1, .inl (k12, 1600, .inl x0))] t.heap ∧ va_K (dC, dI) vwCl [] t ∧ va_D (va_A [(h0, .inr (8, [.ref h1, .int 0, .ref h2, .ref h3, .ref h4, .ref h5, .int 0, .ref h6, .ref h7, .ref h8, .ref h9, .ref h10, .ref h11, .int 0])), (h1, .inl (k12, 1600, .inl (fun _ => 0)))] sz) [(h0, .inr (8, [.ref h1, .int 4, .ref h2, .ref h3, .ref h4, .ref h5, .int 0, .ref h6, .ref h7, .ref h8, .ref h9, .ref h10, .ref h11, .int 0])), (h1, .inl (k12, 1600, .inl x0))]) (va_A [(h0, .inr (8, [.ref h1, .int 0, .ref h2, .ref h3, .ref h4, .ref h5, .int 0, .ref h6, .ref h7, .ref h8, .ref h9, .ref h10, .ref h11, .int 0])), (h1, .inl (k12, 1600, .inl (fun _ => 0)))] sz)) 0 0 (va_A [(h0, .inr (8, [.ref h1, .int 0, .ref h2, .ref h3, .ref h4, .ref h5, .int 0, .ref h6, .ref h7, .ref h8, .ref h9, .ref h10, .ref h11, .int 0])), (h1, .inl (k12, 1600, .inl (fun _ => 0)))] sz) := by
  refine Met.ofW (cc := cX10_putOnTape) (maxL := 3) (ret := none) (by decide) rfl ?_
  intro p e s m args below meth c s₁ B hml hv
  obtain ⟨rfl, hsz, hP, hK, hD0, hE⟩ := hv
  have hx := B.exec
  have hb := B.bytes
  have hr := B.returns
  have hts := atoms_spec (ws := wsX10_putOnTape) B.pre
  have hown : s.vm.findClass RX10 = some m.cls := findClass_of_methodNamed B.named
  have hlocks := B.notSynchronized
  subst hsz
  have hD := hD0.self (sz := s.heap.size)
  generalize hAe : va_A [(h0, .inr (8, [.ref h1, .int 0, .ref h2, .ref h3, .ref h4, .ref h5, .int 0, .ref h6, .ref h7, .ref h8, .ref h9, .ref h10, .ref h11, .int 0])), (h1, .inl (k12, 1600, .inl (fun _ => 0)))] s.heap.size = A at hD hE ⊢
  have hA : ∀ q : Nat, s.heap.size ≤ q → A q := fun q h => by rw [← hAe]; exact Or.inr h
  have hS : va_S A s.heap s.heap [] := va_S.rf
  have hl := lv_entry ([.ref h0, .int p1]) (n := 3) (Nat.le_of_ble_eq_true rfl)
  rw [lg_entry_eq]
  generalize (lg_sl ([.ref h0, .int p1]) ++ List.replicate (3 - (lg_sl ([.ref h0, .int p1])).length) Slot.unset).toArray = ls at hl ⊢
  have hl : lv_has ls 3 [(0, .ref h0), (1, .int p1)] := hl
  have hP : va_P (dC, dI) vwCl [(h0, .inr (8, [.ref h1, .int 0, .ref h2, .ref h3, .ref h4, .ref h5, .int 0, .ref h6, .ref h7, .ref h8, .ref h9, .ref h10, .ref h11, .int 0])), (h1, .inl (k12, 1600, .inl (fun _ => 0)))] s.heap := hP
  refine lv_bipush (v := 24) hx hb dX10_putOnTape_0 (by decide) ?_
  refine lv_istore_n (lv' := [(2, .int 24), (0, .ref h0), (1, .int p1)]) hx hb dX10_putOnTape_2 rfl hl (by decide) rfl (fun ls hl => ?_)
  refine lv_iload_n hx hb dX10_putOnTape_3 rfl (lv_at hl 0 rfl) ?_
  refine lv_if_lt (tgt := 46) hx hb dX10_putOnTape_4 (by decide) (fun c_1 => absurd c_1 (by decide)) (fun c_1 => ?_)
  refine lv_aload_n hx hb dX10_putOnTape_7 rfl (lv_at hl 1 rfl) ?_
  refine va_get (D := (dC, dI)) (ci := 8) (v := .int 0) (C := RX10) (T := TX10) (N := 14) hx hb hts iw_X10_putOnTape_X10 hown hK hP 0 rfl rfl 1 (by decide) (hts (.fieldLink RX10 13 "HungFloors" "taped" "I") (by decide +kernel)) (fun _ h9 => h9) rfl dX10_putOnTape_8 ?_
  refine lv_sipush (v := 1600) hx hb dX10_putOnTape_11 (by decide) ?_
  refine lv_icmp_ge (tgt := 40) hx hb dX10_putOnTape_14 (by decide) (fun c_2 => absurd c_2 (by decide)) (fun c_2 => ?_)
  refine lv_aload_n hx hb dX10_putOnTape_17 rfl (lv_at hl 1 rfl) ?_
  refine va_get (D := (dC, dI)) (ci := 8) (v := .ref h1) (C := RX10) (T := TX10) (N := 14) hx hb hts iw_X10_putOnTape_X10 hown hK hP 0 rfl rfl 0 (by decide) (hts (.fieldLink RX10 9 "HungFloors" "tape" "[B") (by decide +kernel)) (fun _ h9 => h9) rfl dX10_putOnTape_18 ?_
  refine lv_aload_n hx hb dX10_putOnTape_21 rfl (lv_at hl 1 rfl) ?_
  refine va_get (D := (dC, dI)) (ci := 8) (v := .int 0) (C := RX10) (T := TX10) (N := 14) hx hb hts iw_X10_putOnTape_X10 hown hK hP 0 rfl rfl 1 (by decide) (hts (.fieldLink RX10 13 "HungFloors" "taped" "I") (by decide +kernel)) (fun _ h9 => h9) rfl dX10_putOnTape_22 ?_
  refine lv_iload_n hx hb dX10_putOnTape_25 rfl (lv_at hl 2 rfl) ?_
  refine lv_iload_n hx hb dX10_putOnTape_26 rfl (lv_at hl 0 rfl) ?_
  refine lv_ishr hx hb dX10_putOnTape_27 ?_
  obtain ⟨b_3, eb_3⟩ : ∃ y : Int32, ((p1 >>> (24 &&& 31))).toInt8.toInt32 = y := ⟨_, rfl⟩
  refine lv_i2b (v := b_3) hx hb dX10_putOnTape_28 eb_3 ?_
  refine va_bast hx hb hK hP hD hS 1 0 rfl rfl (by unfold vp_in; decide) dX10_putOnTape_29 (fun H locs hP hD hS => ?_)
  obtain ⟨f_4, hP, hD⟩ : ∃ f_4 : Nat → Int32, va_P (dC, dI) vwCl [(h0, .inr (8, [.ref h1, .int 0, .ref h2, .ref h3, .ref h4, .ref h5, .int 0, .ref h6, .ref h7, .ref h8, .ref h9, .ref h10, .ref h11, .int 0])), (h1, .inl (k12, 1600, .inl f_4))] H ∧ va_D A [(h0, .inr (8, [.ref h1, .int 0, .ref h2, .ref h3, .ref h4, .ref h5, .int 0, .ref h6, .ref h7, .ref h8, .ref h9, .ref h10, .ref h11, .int 0])), (h1, .inl (k12, 1600, .inl f_4))] := ⟨_, hP, hD⟩
  refine lv_aload_n hx hb dX10_putOnTape_30 rfl (lv_at hl 1 rfl) ?_
  refine lv_dup hx hb dX10_putOnTape_31 rfl ?_
  refine va_get (D := (dC, dI)) (ci := 8) (v := .int 0) (C := RX10) (T := TX10) (N := 14) hx hb hts iw_X10_putOnTape_X10 hown hK hP 0 rfl rfl 1 (by decide) (hts (.fieldLink RX10 13 "HungFloors" "taped" "I") (by decide +kernel)) (fun _ h9 => h9) rfl dX10_putOnTape_32 ?_
  refine lv_iconst (v := 1) hx hb dX10_putOnTape_35 (by decide) ?_
  refine lv_iadd hx hb dX10_putOnTape_36 ?_
  refine lv_topi (fun z_5 ez_5 => ?_)
  obtain rfl : z_5 = (1 : Int32) := ez_5.trans (by decide)
  refine va_put (D := (dC, dI)) (ci := 8) (v := .int 1) (ty := .int) (C := RX10) (T := TX10) (N := 14) hx hb hts iw_X10_putOnTape_X10 tyX10 tyX10_ok nmX10 hown hK hP hD hS 0 rfl rfl 1 (by decide) (hts (.fieldLink RX10 13 "HungFloors" "taped" "I") (by decide +kernel)) (fun _ h9 => h9) rfl (by decide +kernel) rfl rfl (Nat.le_of_ble_eq_true rfl) dX10_putOnTape_37 (fun H locs hP hD hS => ?_)
  have hP : va_P (dC, dI) vwCl [(h0, .inr (8, [.ref h1, .int 1, .ref h2, .ref h3, .ref h4, .ref h5, .int 0, .ref h6, .ref h7, .ref h8, .ref h9, .ref h10, .ref h11, .int 0])), (h1, .inl (k12, 1600, .inl f_4))] H := hP
  have hD : va_D A [(h0, .inr (8, [.ref h1, .int 1, .ref h2, .ref h3, .ref h4, .ref h5, .int 0, .ref h6, .ref h7, .ref h8, .ref h9, .ref h10, .ref h11, .int 0])), (h1, .inl (k12, 1600, .inl f_4))] := hD
  refine lv_iinc (v := 16) (lv' := [(2, .int 16), (0, .ref h0), (1, .int p1)]) hx hb dX10_putOnTape_40 hl (k := 0) rfl (by decide) (by decide) rfl (fun ls hl => ?_)
  refine lv_goto (tgt := 3) hx hb dX10_putOnTape_43 (by decide) ?_
  refine lv_iload_n hx hb dX10_putOnTape_3 rfl (lv_at hl 0 rfl) ?_
  refine lv_if_lt (tgt := 46) hx hb dX10_putOnTape_4 (by decide) (fun c_6 => absurd c_6 (by decide)) (fun c_6 => ?_)
  refine lv_aload_n hx hb dX10_putOnTape_7 rfl (lv_at hl 1 rfl) ?_
  refine va_get (D := (dC, dI)) (ci := 8) (v := .int 1) (C := RX10) (T := TX10) (N := 14) hx hb hts iw_X10_putOnTape_X10 hown hK hP 0 rfl rfl 1 (by decide) (hts (.fieldLink RX10 13 "HungFloors" "taped" "I") (by decide +kernel)) (fun _ h9 => h9) rfl dX10_putOnTape_8 ?_
  refine lv_sipush (v := 1600) hx hb dX10_putOnTape_11 (by decide) ?_
  refine lv_icmp_ge (tgt := 40) hx hb dX10_putOnTape_14 (by decide) (fun c_7 => absurd c_7 (by decide)) (fun c_7 => ?_)
  refine lv_aload_n hx hb dX10_putOnTape_17 rfl (lv_at hl 1 rfl) ?_
  refine va_get (D := (dC, dI)) (ci := 8) (v := .ref h1) (C := RX10) (T := TX10) (N := 14) hx hb hts iw_X10_putOnTape_X10 hown hK hP 0 rfl rfl 0 (by decide) (hts (.fieldLink RX10 9 "HungFloors" "tape" "[B") (by decide +kernel)) (fun _ h9 => h9) rfl dX10_putOnTape_18 ?_
  refine lv_aload_n hx hb dX10_putOnTape_21 rfl (lv_at hl 1 rfl) ?_
  refine va_get (D := (dC, dI)) (ci := 8) (v := .int 1) (C := RX10) (T := TX10) (N := 14) hx hb hts iw_X10_putOnTape_X10 hown hK hP 0 rfl rfl 1 (by decide) (hts (.fieldLink RX10 13 "HungFloors" "taped" "I") (by decide +kernel)) (fun _ h9 => h9) rfl dX10_putOnTape_22 ?_
  refine lv_iload_n hx hb dX10_putOnTape_25 rfl (lv_at hl 2 rfl) ?_
  refine lv_iload_n hx hb dX10_putOnTape_26 rfl (lv_at hl 0 rfl) ?_
  refine lv_ishr hx hb dX10_putOnTape_27 ?_
  obtain ⟨b_8, eb_8⟩ : ∃ y : Int32, ((p1 >>> (16 &&& 31))).toInt8.toInt32 = y := ⟨_, rfl⟩
  refine lv_i2b (v := b_8) hx hb dX10_putOnTape_28 eb_8 ?_
  refine va_bast hx hb hK hP hD hS 1 0 rfl rfl (by unfold vp_in; decide) dX10_putOnTape_29 (fun H locs hP hD hS => ?_)
  obtain ⟨f_9, hP, hD⟩ : ∃ f_9 : Nat → Int32, va_P (dC, dI) vwCl [(h0, .inr (8, [.ref h1, .int 1, .ref h2, .ref h3, .ref h4, .ref h5, .int 0, .ref h6, .ref h7, .ref h8, .ref h9, .ref h10, .ref h11, .int 0])), (h1, .inl (k12, 1600, .inl f_9))] H ∧ va_D A [(h0, .inr (8, [.ref h1, .int 1, .ref h2, .ref h3, .ref h4, .ref h5, .int 0, .ref h6, .ref h7, .ref h8, .ref h9, .ref h10, .ref h11, .int 0])), (h1, .inl (k12, 1600, .inl f_9))] := ⟨_, hP, hD⟩
  refine lv_aload_n hx hb dX10_putOnTape_30 rfl (lv_at hl 1 rfl) ?_
  refine lv_dup hx hb dX10_putOnTape_31 rfl ?_
  refine va_get (D := (dC, dI)) (ci := 8) (v := .int 1) (C := RX10) (T := TX10) (N := 14) hx hb hts iw_X10_putOnTape_X10 hown hK hP 0 rfl rfl 1 (by decide) (hts (.fieldLink RX10 13 "HungFloors" "taped" "I") (by decide +kernel)) (fun _ h9 => h9) rfl dX10_putOnTape_32 ?_
  refine lv_iconst (v := 1) hx hb dX10_putOnTape_35 (by decide) ?_
  refine lv_iadd hx hb dX10_putOnTape_36 ?_
  refine lv_topi (fun z_10 ez_10 => ?_)
  obtain rfl : z_10 = (2 : Int32) := ez_10.trans (by decide)
  refine va_put (D := (dC, dI)) (ci := 8) (v := .int 2) (ty := .int) (C := RX10) (T := TX10) (N := 14) hx hb hts iw_X10_putOnTape_X10 tyX10 tyX10_ok nmX10 hown hK hP hD hS 0 rfl rfl 1 (by decide) (hts (.fieldLink RX10 13 "HungFloors" "taped" "I") (by decide +kernel)) (fun _ h9 => h9) rfl (by decide +kernel) rfl rfl (Nat.le_of_ble_eq_true rfl) dX10_putOnTape_37 (fun H locs hP hD hS => ?_)
  have hP : va_P (dC, dI) vwCl [(h0, .inr (8, [.ref h1, .int 2, .ref h2, .ref h3, .ref h4, .ref h5, .int 0, .ref h6, .ref h7, .ref h8, .ref h9, .ref h10, .ref h11, .int 0])), (h1, .inl (k12, 1600, .inl f_9))] H := hP
  have hD : va_D A [(h0, .inr (8, [.ref h1, .int 2, .ref h2, .ref h3, .ref h4, .ref h5, .int 0, .ref h6, .ref h7, .ref h8, .ref h9, .ref h10, .ref h11, .int 0])), (h1, .inl (k12, 1600, .inl f_9))] := hD
  refine lv_iinc (v := 8) (lv' := [(2, .int 8), (0, .ref h0), (1, .int p1)]) hx hb dX10_putOnTape_40 hl (k := 0) rfl (by decide) (by decide) rfl (fun ls hl => ?_)
  refine lv_goto (tgt := 3) hx hb dX10_putOnTape_43 (by decide) ?_
  refine lv_iload_n hx hb dX10_putOnTape_3 rfl (lv_at hl 0 rfl) ?_
  refine lv_if_lt (tgt := 46) hx hb dX10_putOnTape_4 (by decide) (fun c_11 => absurd c_11 (by decide)) (fun c_11 => ?_)
  refine lv_aload_n hx hb dX10_putOnTape_7 rfl (lv_at hl 1 rfl) ?_
  refine va_get (D := (dC, dI)) (ci := 8) (v := .int 2) (C := RX10) (T := TX10) (N := 14) hx hb hts iw_X10_putOnTape_X10 hown hK hP 0 rfl rfl 1 (by decide) (hts (.fieldLink RX10 13 "HungFloors" "taped" "I") (by decide +kernel)) (fun _ h9 => h9) rfl dX10_putOnTape_8 ?_
  refine lv_sipush (v := 1600) hx hb dX10_putOnTape_11 (by decide) ?_
  refine lv_icmp_ge (tgt := 40) hx hb dX10_putOnTape_14 (by decide) (fun c_12 => absurd c_12 (by decide)) (fun c_12 => ?_)
  refine lv_aload_n hx hb dX10_putOnTape_17 rfl (lv_at hl 1 rfl) ?_
  refine va_get (D := (dC, dI)) (ci := 8) (v := .ref h1) (C := RX10) (T := TX10) (N := 14) hx hb hts iw_X10_putOnTape_X10 hown hK hP 0 rfl rfl 0 (by decide) (hts (.fieldLink RX10 9 "HungFloors" "tape" "[B") (by decide +kernel)) (fun _ h9 => h9) rfl dX10_putOnTape_18 ?_
  refine lv_aload_n hx hb dX10_putOnTape_21 rfl (lv_at hl 1 rfl) ?_
  refine va_get (D := (dC, dI)) (ci := 8) (v := .int 2) (C := RX10) (T := TX10) (N := 14) hx hb hts iw_X10_putOnTape_X10 hown hK hP 0 rfl rfl 1 (by decide) (hts (.fieldLink RX10 13 "HungFloors" "taped" "I") (by decide +kernel)) (fun _ h9 => h9) rfl dX10_putOnTape_22 ?_
  refine lv_iload_n hx hb dX10_putOnTape_25 rfl (lv_at hl 2 rfl) ?_
  refine lv_iload_n hx hb dX10_putOnTape_26 rfl (lv_at hl 0 rfl) ?_
  refine lv_ishr hx hb dX10_putOnTape_27 ?_
  obtain ⟨b_13, eb_13⟩ : ∃ y : Int32, ((p1 >>> (8 &&& 31))).toInt8.toInt32 = y := ⟨_, rfl⟩
  refine lv_i2b (v := b_13) hx hb dX10_putOnTape_28 eb_13 ?_
  refine va_bast hx hb hK hP hD hS 1 0 rfl rfl (by unfold vp_in; decide) dX10_putOnTape_29 (fun H locs hP hD hS => ?_)
  obtain ⟨f_14, hP, hD⟩ : ∃ f_14 : Nat → Int32, va_P (dC, dI) vwCl [(h0, .inr (8, [.ref h1, .int 2, .ref h2, .ref h3, .ref h4, .ref h5, .int 0, .ref h6, .ref h7, .ref h8, .ref h9, .ref h10, .ref h11, .int 0])), (h1, .inl (k12, 1600, .inl f_14))] H ∧ va_D A [(h0, .inr (8, [.ref h1, .int 2, .ref h2, .ref h3, .ref h4, .ref h5, .int 0, .ref h6, .ref h7, .ref h8, .ref h9, .ref h10, .ref h11, .int 0])), (h1, .inl (k12, 1600, .inl f_14))] := ⟨_, hP, hD⟩
  refine lv_aload_n hx hb dX10_putOnTape_30 rfl (lv_at hl 1 rfl) ?_
  refine lv_dup hx hb dX10_putOnTape_31 rfl ?_
  refine va_get (D := (dC, dI)) (ci := 8) (v := .int 2) (C := RX10) (T := TX10) (N := 14) hx hb hts iw_X10_putOnTape_X10 hown hK hP 0 rfl rfl 1 (by decide) (hts (.fieldLink RX10 13 "HungFloors" "taped" "I") (by decide +kernel)) (fun _ h9 => h9) rfl dX10_putOnTape_32 ?_
  refine lv_iconst (v := 1) hx hb dX10_putOnTape_35 (by decide) ?_
  refine lv_iadd hx hb dX10_putOnTape_36 ?_
  refine lv_topi (fun z_15 ez_15 => ?_)
  obtain rfl : z_15 = (3 : Int32) := ez_15.trans (by decide)
  refine va_put (D := (dC, dI)) (ci := 8) (v := .int 3) (ty := .int) (C := RX10) (T := TX10) (N := 14) hx hb hts iw_X10_putOnTape_X10 tyX10 tyX10_ok nmX10 hown hK hP hD hS 0 rfl rfl 1 (by decide) (hts (.fieldLink RX10 13 "HungFloors" "taped" "I") (by decide +kernel)) (fun _ h9 => h9) rfl (by decide +kernel) rfl rfl (Nat.le_of_ble_eq_true rfl) dX10_putOnTape_37 (fun H locs hP hD hS => ?_)
  have hP : va_P (dC, dI) vwCl [(h0, .inr (8, [.ref h1, .int 3, .ref h2, .ref h3, .ref h4, .ref h5, .int 0, .ref h6, .ref h7, .ref h8, .ref h9, .ref h10, .ref h11, .int 0])), (h1, .inl (k12, 1600, .inl f_14))] H := hP
  have hD : va_D A [(h0, .inr (8, [.ref h1, .int 3, .ref h2, .ref h3, .ref h4, .ref h5, .int 0, .ref h6, .ref h7, .ref h8, .ref h9, .ref h10, .ref h11, .int 0])), (h1, .inl (k12, 1600, .inl f_14))] := hD
  refine lv_iinc (v := 0) (lv' := [(2, .int 0), (0, .ref h0), (1, .int p1)]) hx hb dX10_putOnTape_40 hl (k := 0) rfl (by decide) (by decide) rfl (fun ls hl => ?_)
  refine lv_goto (tgt := 3) hx hb dX10_putOnTape_43 (by decide) ?_
  refine lv_iload_n hx hb dX10_putOnTape_3 rfl (lv_at hl 0 rfl) ?_
  refine lv_if_lt (tgt := 46) hx hb dX10_putOnTape_4 (by decide) (fun c_16 => absurd c_16 (by decide)) (fun c_16 => ?_)
  refine lv_aload_n hx hb dX10_putOnTape_7 rfl (lv_at hl 1 rfl) ?_
  refine va_get (D := (dC, dI)) (ci := 8) (v := .int 3) (C := RX10) (T := TX10) (N := 14) hx hb hts iw_X10_putOnTape_X10 hown hK hP 0 rfl rfl 1 (by decide) (hts (.fieldLink RX10 13 "HungFloors" "taped" "I") (by decide +kernel)) (fun _ h9 => h9) rfl dX10_putOnTape_8 ?_
  refine lv_sipush (v := 1600) hx hb dX10_putOnTape_11 (by decide) ?_
  refine lv_icmp_ge (tgt := 40) hx hb dX10_putOnTape_14 (by decide) (fun c_17 => absurd c_17 (by decide)) (fun c_17 => ?_)
  refine lv_aload_n hx hb dX10_putOnTape_17 rfl (lv_at hl 1 rfl) ?_
  refine va_get (D := (dC, dI)) (ci := 8) (v := .ref h1) (C := RX10) (T := TX10) (N := 14) hx hb hts iw_X10_putOnTape_X10 hown hK hP 0 rfl rfl 0 (by decide) (hts (.fieldLink RX10 9 "HungFloors" "tape" "[B") (by decide +kernel)) (fun _ h9 => h9) rfl dX10_putOnTape_18 ?_
  refine lv_aload_n hx hb dX10_putOnTape_21 rfl (lv_at hl 1 rfl) ?_
  refine va_get (D := (dC, dI)) (ci := 8) (v := .int 3) (C := RX10) (T := TX10) (N := 14) hx hb hts iw_X10_putOnTape_X10 hown hK hP 0 rfl rfl 1 (by decide) (hts (.fieldLink RX10 13 "HungFloors" "taped" "I") (by decide +kernel)) (fun _ h9 => h9) rfl dX10_putOnTape_22 ?_
  refine lv_iload_n hx hb dX10_putOnTape_25 rfl (lv_at hl 2 rfl) ?_
  refine lv_iload_n hx hb dX10_putOnTape_26 rfl (lv_at hl 0 rfl) ?_
  refine lv_ishr hx hb dX10_putOnTape_27 ?_
  obtain ⟨b_18, eb_18⟩ : ∃ y : Int32, ((p1 >>> (0 &&& 31))).toInt8.toInt32 = y := ⟨_, rfl⟩
  refine lv_i2b (v := b_18) hx hb dX10_putOnTape_28 eb_18 ?_
  refine va_bast hx hb hK hP hD hS 1 0 rfl rfl (by unfold vp_in; decide) dX10_putOnTape_29 (fun H locs hP hD hS => ?_)
  obtain ⟨f_19, hP, hD⟩ : ∃ f_19 : Nat → Int32, va_P (dC, dI) vwCl [(h0, .inr (8, [.ref h1, .int 3, .ref h2, .ref h3, .ref h4, .ref h5, .int 0, .ref h6, .ref h7, .ref h8, .ref h9, .ref h10, .ref h11, .int 0])), (h1, .inl (k12, 1600, .inl f_19))] H ∧ va_D A [(h0, .inr (8, [.ref h1, .int 3, .ref h2, .ref h3, .ref h4, .ref h5, .int 0, .ref h6, .ref h7, .ref h8, .ref h9, .ref h10, .ref h11, .int 0])), (h1, .inl (k12, 1600, .inl f_19))] := ⟨_, hP, hD⟩
  refine lv_aload_n hx hb dX10_putOnTape_30 rfl (lv_at hl 1 rfl) ?_
  refine lv_dup hx hb dX10_putOnTape_31 rfl ?_
  refine va_get (D := (dC, dI)) (ci := 8) (v := .int 3) (C := RX10) (T := TX10) (N := 14) hx hb hts iw_X10_putOnTape_X10 hown hK hP 0 rfl rfl 1 (by decide) (hts (.fieldLink RX10 13 "HungFloors" "taped" "I") (by decide +kernel)) (fun _ h9 => h9) rfl dX10_putOnTape_32 ?_
  refine lv_iconst (v := 1) hx hb dX10_putOnTape_35 (by decide) ?_
  refine lv_iadd hx hb dX10_putOnTape_36 ?_
  refine lv_topi (fun z_20 ez_20 => ?_)
  obtain rfl : z_20 = (4 : Int32) := ez_20.trans (by decide)
  refine va_put (D := (dC, dI)) (ci := 8) (v := .int 4) (ty := .int) (C := RX10) (T := TX10) (N := 14) hx hb hts iw_X10_putOnTape_X10 tyX10 tyX10_ok nmX10 hown hK hP hD hS 0 rfl rfl 1 (by decide) (hts (.fieldLink RX10 13 "HungFloors" "taped" "I") (by decide +kernel)) (fun _ h9 => h9) rfl (by decide +kernel) rfl rfl (Nat.le_of_ble_eq_true rfl) dX10_putOnTape_37 (fun H locs hP hD hS => ?_)
  have hP : va_P (dC, dI) vwCl [(h0, .inr (8, [.ref h1, .int 4, .ref h2, .ref h3, .ref h4, .ref h5, .int 0, .ref h6, .ref h7, .ref h8, .ref h9, .ref h10, .ref h11, .int 0])), (h1, .inl (k12, 1600, .inl f_19))] H := hP
  have hD : va_D A [(h0, .inr (8, [.ref h1, .int 4, .ref h2, .ref h3, .ref h4, .ref h5, .int 0, .ref h6, .ref h7, .ref h8, .ref h9, .ref h10, .ref h11, .int 0])), (h1, .inl (k12, 1600, .inl f_19))] := hD
  refine lv_iinc (v := (-8)) (lv' := [(2, .int (-8)), (0, .ref h0), (1, .int p1)]) hx hb dX10_putOnTape_40 hl (k := 0) rfl (by decide) (by decide) rfl (fun ls hl => ?_)
  refine lv_goto (tgt := 3) hx hb dX10_putOnTape_43 (by decide) ?_
  refine lv_iload_n hx hb dX10_putOnTape_3 rfl (lv_at hl 0 rfl) ?_
  refine lv_if_lt (tgt := 46) hx hb dX10_putOnTape_4 (by decide) (fun c_21 => ?_) (fun c_21 => absurd c_21 (by decide))
  have hP9 := hP.sub (ws' := [(h0, .inr (8, [.ref h1, .int 4, .ref h2, .ref h3, .ref h4, .ref h5, .int 0, .ref h6, .ref h7, .ref h8, .ref h9, .ref h10, .ref h11, .int 0])), (h1, .inl (k12, 1600, .inl f_19))]) [0, 1] rfl
  have hD9 := hD.sub (ws' := [(h0, .inr (8, [.ref h1, .int 4, .ref h2, .ref h3, .ref h4, .ref h5, .int 0, .ref h6, .ref h7, .ref h8, .ref h9, .ref h10, .ref h11, .int 0])), (h1, .inl (k12, 1600, .inl f_19))]) [0, 1] (by decide) rfl
  have hK9 := hK.sub (tys' := []) [] rfl
  exact W.vret hx hb hr (fun t ht hW => ⟨⟨(), rfl, trivial, ⟨f_19, by rw [ht]; exact hP9, va_K.moved hW.alike hK9, hD9⟩⟩, hS.F ht⟩) hS.2.2 dX10_putOnTape_46
set_option maxHeartbeats 4000000 in
set_option maxRecDepth 100000 in
theorem c_X10_putOnTape_2 (l : Launch) (dC : Nat → ClassId) (dI : Nat → Nat → Nat) (kE : Nat) (h0 : Nat) (h1 : Nat) (h2 : Nat) (h3 : Nat) (h4 : Nat) (h5 : Nat) (h6 : Nat) (h7 : Nat) (h8 : Nat) (h9 : Nat) (h10 : Nat) (h11 : Nat) (k12 : ClassId) (f13 : Nat → Int32) (sz : Nat) (p1 : Int32) : Met l yX10_putOnTape wsX10_putOnTape ({ frames := 0, cells := 0, slots := 0, locals := 0 }) (va_Pc [.ref h0, .int p1] (fun U => U.heap.size = sz ∧ va_P (dC, dI) vwCl [(h0, .inr (8, [.ref h1, .int 4, .ref h2, .ref h3, .ref h4, .ref h5, .int 0, .ref h6, .ref h7, .ref h8, .ref h9, .ref h10, .ref h11, .int 0])), (h1, .inl (k12, 1600, .inl f13))] U.heap ∧ va_K (dC, dI) vwCl [(k12, .byte)] U ∧ va_D (fun _ => True) [(h0, .inr (8, [.ref h1, .int 4, .ref h2, .ref h3, .ref h4, .ref h5, .int 0, .ref h6, .ref h7, .ref h8, .ref h9, .ref h10, .ref h11, .int 0])), (h1, .inl (k12, 1600, .inl f13))] ∧ ex_X kE (va_A [(h0, .inr (8, [.ref h1, .int 4, .ref h2, .ref h3, .ref h4, .ref h5, .int 0, .ref h6, .ref h7, .ref h8, .ref h9, .ref h10, .ref h11, .int 0])), (h1, .inl (k12, 1600, .inl f13))] sz) U)) (va_Qv (fun _ : Unit => True) (fun (_ : Unit) (t : State) => ∃ (x0 : (Nat → Int32)), va_P (dC, dI) vwCl [(h0, .inr (8, [.ref h1, .int 8, .ref h2, .ref h3, .ref h4, .ref h5, .int 0, .ref h6, .ref h7, .ref h8, .ref h9, .ref h10, .ref h11, .int 0])), (h1, .inl (k12, 1600, .inl x0))] t.heap ∧ va_K (dC, dI) vwCl [] t ∧ va_D (va_A [(h0, .inr (8, [.ref h1, .int 4, .ref h2, .ref h3, .ref h4, .ref h5, .int 0, .ref h6, .ref h7, .ref h8, .ref h9, .ref h10, .ref h11, .int 0])), (h1, .inl (k12, 1600, .inl f13))] sz) [(h0, .inr (8, [.ref h1, .int 8, .ref h2, .ref h3, .ref h4, .ref h5, .int 0, .ref h6, .ref h7, .ref h8, .ref h9, .ref h10, .ref h11, .int 0])), (h1, .inl (k12, 1600, .inl x0))]) (va_A [(h0, .inr (8, [.ref h1, .int 4, .ref h2, .ref h3, .ref h4, .ref h5, .int 0, .ref h6, .ref h7, .ref h8, .ref h9, .ref h10, .ref h11, .int 0])), (h1, .inl (k12, 1600, .inl f13))] sz)) 0 0 (va_A [(h0, .inr (8, [.ref h1, .int 4, .ref h2, .ref h3, .ref h4, .ref h5, .int 0, .ref h6, .ref h7, .ref h8, .ref h9, .ref h10, .ref h11, .int 0])), (h1, .inl (k12, 1600, .inl f13))] sz) := by
  refine Met.ofW (cc := cX10_putOnTape) (maxL := 3) (ret := none) (by decide) rfl ?_
  intro p e s m args below meth c s₁ B hml hv
  obtain ⟨rfl, hsz, hP, hK, hD0, hE⟩ := hv
  have hx := B.exec
  have hb := B.bytes
  have hr := B.returns
  have hts := atoms_spec (ws := wsX10_putOnTape) B.pre
  have hown : s.vm.findClass RX10 = some m.cls := findClass_of_methodNamed B.named
  have hlocks := B.notSynchronized
  subst hsz
  have hD := hD0.self (sz := s.heap.size)
  generalize hAe : va_A [(h0, .inr (8, [.ref h1, .int 4, .ref h2, .ref h3, .ref h4, .ref h5, .int 0, .ref h6, .ref h7, .ref h8, .ref h9, .ref h10, .ref h11, .int 0])), (h1, .inl (k12, 1600, .inl f13))] s.heap.size = A at hD hE ⊢
  have hA : ∀ q : Nat, s.heap.size ≤ q → A q := fun q h => by rw [← hAe]; exact Or.inr h
  have hS : va_S A s.heap s.heap [] := va_S.rf
  have hl := lv_entry ([.ref h0, .int p1]) (n := 3) (Nat.le_of_ble_eq_true rfl)
  rw [lg_entry_eq]
  generalize (lg_sl ([.ref h0, .int p1]) ++ List.replicate (3 - (lg_sl ([.ref h0, .int p1])).length) Slot.unset).toArray = ls at hl ⊢
  have hl : lv_has ls 3 [(0, .ref h0), (1, .int p1)] := hl
  have hP : va_P (dC, dI) vwCl [(h0, .inr (8, [.ref h1, .int 4, .ref h2, .ref h3, .ref h4, .ref h5, .int 0, .ref h6, .ref h7, .ref h8, .ref h9, .ref h10, .ref h11, .int 0])), (h1, .inl (k12, 1600, .inl f13))] s.heap := hP
  refine lv_bipush (v := 24) hx hb dX10_putOnTape_0 (by decide) ?_
  refine lv_istore_n (lv' := [(2, .int 24), (0, .ref h0), (1, .int p1)]) hx hb dX10_putOnTape_2 rfl hl (by decide) rfl (fun ls hl => ?_)
  refine lv_iload_n hx hb dX10_putOnTape_3 rfl (lv_at hl 0 rfl) ?_
  refine lv_if_lt (tgt := 46) hx hb dX10_putOnTape_4 (by decide) (fun c_1 => absurd c_1 (by decide)) (fun c_1 => ?_)
  refine lv_aload_n hx hb dX10_putOnTape_7 rfl (lv_at hl 1 rfl) ?_
  refine va_get (D := (dC, dI)) (ci := 8) (v := .int 4) (C := RX10) (T := TX10) (N := 14) hx hb hts iw_X10_putOnTape_X10 hown hK hP 0 rfl rfl 1 (by decide) (hts (.fieldLink RX10 13 "HungFloors" "taped" "I") (by decide +kernel)) (fun _ h9 => h9) rfl dX10_putOnTape_8 ?_
  refine lv_sipush (v := 1600) hx hb dX10_putOnTape_11 (by decide) ?_
  refine lv_icmp_ge (tgt := 40) hx hb dX10_putOnTape_14 (by decide) (fun c_2 => absurd c_2 (by decide)) (fun c_2 => ?_)
  refine lv_aload_n hx hb dX10_putOnTape_17 rfl (lv_at hl 1 rfl) ?_
  refine va_get (D := (dC, dI)) (ci := 8) (v := .ref h1) (C := RX10) (T := TX10) (N := 14) hx hb hts iw_X10_putOnTape_X10 hown hK hP 0 rfl rfl 0 (by decide) (hts (.fieldLink RX10 9 "HungFloors" "tape" "[B") (by decide +kernel)) (fun _ h9 => h9) rfl dX10_putOnTape_18 ?_
  refine lv_aload_n hx hb dX10_putOnTape_21 rfl (lv_at hl 1 rfl) ?_
  refine va_get (D := (dC, dI)) (ci := 8) (v := .int 4) (C := RX10) (T := TX10) (N := 14) hx hb hts iw_X10_putOnTape_X10 hown hK hP 0 rfl rfl 1 (by decide) (hts (.fieldLink RX10 13 "HungFloors" "taped" "I") (by decide +kernel)) (fun _ h9 => h9) rfl dX10_putOnTape_22 ?_
  refine lv_iload_n hx hb dX10_putOnTape_25 rfl (lv_at hl 2 rfl) ?_
  refine lv_iload_n hx hb dX10_putOnTape_26 rfl (lv_at hl 0 rfl) ?_
  refine lv_ishr hx hb dX10_putOnTape_27 ?_
  obtain ⟨b_3, eb_3⟩ : ∃ y : Int32, ((p1 >>> (24 &&& 31))).toInt8.toInt32 = y := ⟨_, rfl⟩
  refine lv_i2b (v := b_3) hx hb dX10_putOnTape_28 eb_3 ?_
  refine va_bast hx hb hK hP hD hS 1 0 rfl rfl (by unfold vp_in; decide) dX10_putOnTape_29 (fun H locs hP hD hS => ?_)
  obtain ⟨f_4, hP, hD⟩ : ∃ f_4 : Nat → Int32, va_P (dC, dI) vwCl [(h0, .inr (8, [.ref h1, .int 4, .ref h2, .ref h3, .ref h4, .ref h5, .int 0, .ref h6, .ref h7, .ref h8, .ref h9, .ref h10, .ref h11, .int 0])), (h1, .inl (k12, 1600, .inl f_4))] H ∧ va_D A [(h0, .inr (8, [.ref h1, .int 4, .ref h2, .ref h3, .ref h4, .ref h5, .int 0, .ref h6, .ref h7, .ref h8, .ref h9, .ref h10, .ref h11, .int 0])), (h1, .inl (k12, 1600, .inl f_4))] := ⟨_, hP, hD⟩
  refine lv_aload_n hx hb dX10_putOnTape_30 rfl (lv_at hl 1 rfl) ?_
  refine lv_dup hx hb dX10_putOnTape_31 rfl ?_
  refine va_get (D := (dC, dI)) (ci := 8) (v := .int 4) (C := RX10) (T := TX10) (N := 14) hx hb hts iw_X10_putOnTape_X10 hown hK hP 0 rfl rfl 1 (by decide) (hts (.fieldLink RX10 13 "HungFloors" "taped" "I") (by decide +kernel)) (fun _ h9 => h9) rfl dX10_putOnTape_32 ?_
  refine lv_iconst (v := 1) hx hb dX10_putOnTape_35 (by decide) ?_
  refine lv_iadd hx hb dX10_putOnTape_36 ?_
  refine lv_topi (fun z_5 ez_5 => ?_)
  obtain rfl : z_5 = (5 : Int32) := ez_5.trans (by decide)
  refine va_put (D := (dC, dI)) (ci := 8) (v := .int 5) (ty := .int) (C := RX10) (T := TX10) (N := 14) hx hb hts iw_X10_putOnTape_X10 tyX10 tyX10_ok nmX10 hown hK hP hD hS 0 rfl rfl 1 (by decide) (hts (.fieldLink RX10 13 "HungFloors" "taped" "I") (by decide +kernel)) (fun _ h9 => h9) rfl (by decide +kernel) rfl rfl (Nat.le_of_ble_eq_true rfl) dX10_putOnTape_37 (fun H locs hP hD hS => ?_)
  have hP : va_P (dC, dI) vwCl [(h0, .inr (8, [.ref h1, .int 5, .ref h2, .ref h3, .ref h4, .ref h5, .int 0, .ref h6, .ref h7, .ref h8, .ref h9, .ref h10, .ref h11, .int 0])), (h1, .inl (k12, 1600, .inl f_4))] H := hP
  have hD : va_D A [(h0, .inr (8, [.ref h1, .int 5, .ref h2, .ref h3, .ref h4, .ref h5, .int 0, .ref h6, .ref h7, .ref h8, .ref h9, .ref h10, .ref h11, .int 0])), (h1, .inl (k12, 1600, .inl f_4))] := hD
  refine lv_iinc (v := 16) (lv' := [(2, .int 16), (0, .ref h0), (1, .int p1)]) hx hb dX10_putOnTape_40 hl (k := 0) rfl (by decide) (by decide) rfl (fun ls hl => ?_)
  refine lv_goto (tgt := 3) hx hb dX10_putOnTape_43 (by decide) ?_
  refine lv_iload_n hx hb dX10_putOnTape_3 rfl (lv_at hl 0 rfl) ?_
  refine lv_if_lt (tgt := 46) hx hb dX10_putOnTape_4 (by decide) (fun c_6 => absurd c_6 (by decide)) (fun c_6 => ?_)
  refine lv_aload_n hx hb dX10_putOnTape_7 rfl (lv_at hl 1 rfl) ?_
  refine va_get (D := (dC, dI)) (ci := 8) (v := .int 5) (C := RX10) (T := TX10) (N := 14) hx hb hts iw_X10_putOnTape_X10 hown hK hP 0 rfl rfl 1 (by decide) (hts (.fieldLink RX10 13 "HungFloors" "taped" "I") (by decide +kernel)) (fun _ h9 => h9) rfl dX10_putOnTape_8 ?_
  refine lv_sipush (v := 1600) hx hb dX10_putOnTape_11 (by decide) ?_
  refine lv_icmp_ge (tgt := 40) hx hb dX10_putOnTape_14 (by decide) (fun c_7 => absurd c_7 (by decide)) (fun c_7 => ?_)
  refine lv_aload_n hx hb dX10_putOnTape_17 rfl (lv_at hl 1 rfl) ?_
  refine va_get (D := (dC, dI)) (ci := 8) (v := .ref h1) (C := RX10) (T := TX10) (N := 14) hx hb hts iw_X10_putOnTape_X10 hown hK hP 0 rfl rfl 0 (by decide) (hts (.fieldLink RX10 9 "HungFloors" "tape" "[B") (by decide +kernel)) (fun _ h9 => h9) rfl dX10_putOnTape_18 ?_
  refine lv_aload_n hx hb dX10_putOnTape_21 rfl (lv_at hl 1 rfl) ?_
  refine va_get (D := (dC, dI)) (ci := 8) (v := .int 5) (C := RX10) (T := TX10) (N := 14) hx hb hts iw_X10_putOnTape_X10 hown hK hP 0 rfl rfl 1 (by decide) (hts (.fieldLink RX10 13 "HungFloors" "taped" "I") (by decide +kernel)) (fun _ h9 => h9) rfl dX10_putOnTape_22 ?_
  refine lv_iload_n hx hb dX10_putOnTape_25 rfl (lv_at hl 2 rfl) ?_
  refine lv_iload_n hx hb dX10_putOnTape_26 rfl (lv_at hl 0 rfl) ?_
  refine lv_ishr hx hb dX10_putOnTape_27 ?_
  obtain ⟨b_8, eb_8⟩ : ∃ y : Int32, ((p1 >>> (16 &&& 31))).toInt8.toInt32 = y := ⟨_, rfl⟩
  refine lv_i2b (v := b_8) hx hb dX10_putOnTape_28 eb_8 ?_
  refine va_bast hx hb hK hP hD hS 1 0 rfl rfl (by unfold vp_in; decide) dX10_putOnTape_29 (fun H locs hP hD hS => ?_)
  obtain ⟨f_9, hP, hD⟩ : ∃ f_9 : Nat → Int32, va_P (dC, dI) vwCl [(h0, .inr (8, [.ref h1, .int 5, .ref h2, .ref h3, .ref h4, .ref h5, .int 0, .ref h6, .ref h7, .ref h8, .ref h9, .ref h10, .ref h11, .int 0])), (h1, .inl (k12, 1600, .inl f_9))] H ∧ va_D A [(h0, .inr (8, [.ref h1, .int 5, .ref h2, .ref h3, .ref h4, .ref h5, .int 0, .ref h6, .ref h7, .ref h8, .ref h9, .ref h10, .ref h11, .int 0])), (h1, .inl (k12, 1600, .inl f_9))] := ⟨_, hP, hD⟩
  refine lv_aload_n hx hb dX10_putOnTape_30 rfl (lv_at hl 1 rfl) ?_
  refine lv_dup hx hb dX10_putOnTape_31 rfl ?_
  refine va_get (D := (dC, dI)) (ci := 8) (v := .int 5) (C := RX10) (T := TX10) (N := 14) hx hb hts iw_X10_putOnTape_X10 hown hK hP 0 rfl rfl 1 (by decide) (hts (.fieldLink RX10 13 "HungFloors" "taped" "I") (by decide +kernel)) (fun _ h9 => h9) rfl dX10_putOnTape_32 ?_
  refine lv_iconst (v := 1) hx hb dX10_putOnTape_35 (by decide) ?_
  refine lv_iadd hx hb dX10_putOnTape_36 ?_
  refine lv_topi (fun z_10 ez_10 => ?_)
  obtain rfl : z_10 = (6 : Int32) := ez_10.trans (by decide)
  refine va_put (D := (dC, dI)) (ci := 8) (v := .int 6) (ty := .int) (C := RX10) (T := TX10) (N := 14) hx hb hts iw_X10_putOnTape_X10 tyX10 tyX10_ok nmX10 hown hK hP hD hS 0 rfl rfl 1 (by decide) (hts (.fieldLink RX10 13 "HungFloors" "taped" "I") (by decide +kernel)) (fun _ h9 => h9) rfl (by decide +kernel) rfl rfl (Nat.le_of_ble_eq_true rfl) dX10_putOnTape_37 (fun H locs hP hD hS => ?_)
  have hP : va_P (dC, dI) vwCl [(h0, .inr (8, [.ref h1, .int 6, .ref h2, .ref h3, .ref h4, .ref h5, .int 0, .ref h6, .ref h7, .ref h8, .ref h9, .ref h10, .ref h11, .int 0])), (h1, .inl (k12, 1600, .inl f_9))] H := hP
  have hD : va_D A [(h0, .inr (8, [.ref h1, .int 6, .ref h2, .ref h3, .ref h4, .ref h5, .int 0, .ref h6, .ref h7, .ref h8, .ref h9, .ref h10, .ref h11, .int 0])), (h1, .inl (k12, 1600, .inl f_9))] := hD
  refine lv_iinc (v := 8) (lv' := [(2, .int 8), (0, .ref h0), (1, .int p1)]) hx hb dX10_putOnTape_40 hl (k := 0) rfl (by decide) (by decide) rfl (fun ls hl => ?_)
  refine lv_goto (tgt := 3) hx hb dX10_putOnTape_43 (by decide) ?_
  refine lv_iload_n hx hb dX10_putOnTape_3 rfl (lv_at hl 0 rfl) ?_
  refine lv_if_lt (tgt := 46) hx hb dX10_putOnTape_4 (by decide) (fun c_11 => absurd c_11 (by decide)) (fun c_11 => ?_)
  refine lv_aload_n hx hb dX10_putOnTape_7 rfl (lv_at hl 1 rfl) ?_
  refine va_get (D := (dC, dI)) (ci := 8) (v := .int 6) (C := RX10) (T := TX10) (N := 14) hx hb hts iw_X10_putOnTape_X10 hown hK hP 0 rfl rfl 1 (by decide) (hts (.fieldLink RX10 13 "HungFloors" "taped" "I") (by decide +kernel)) (fun _ h9 => h9) rfl dX10_putOnTape_8 ?_
  refine lv_sipush (v := 1600) hx hb dX10_putOnTape_11 (by decide) ?_
  refine lv_icmp_ge (tgt := 40) hx hb dX10_putOnTape_14 (by decide) (fun c_12 => absurd c_12 (by decide)) (fun c_12 => ?_)
  refine lv_aload_n hx hb dX10_putOnTape_17 rfl (lv_at hl 1 rfl) ?_
  refine va_get (D := (dC, dI)) (ci := 8) (v := .ref h1) (C := RX10) (T := TX10) (N := 14) hx hb hts iw_X10_putOnTape_X10 hown hK hP 0 rfl rfl 0 (by decide) (hts (.fieldLink RX10 9 "HungFloors" "tape" "[B") (by decide +kernel)) (fun _ h9 => h9) rfl dX10_putOnTape_18 ?_
  refine lv_aload_n hx hb dX10_putOnTape_21 rfl (lv_at hl 1 rfl) ?_
  refine va_get (D := (dC, dI)) (ci := 8) (v := .int 6) (C := RX10) (T := TX10) (N := 14) hx hb hts iw_X10_putOnTape_X10 hown hK hP 0 rfl rfl 1 (by decide) (hts (.fieldLink RX10 13 "HungFloors" "taped" "I") (by decide +kernel)) (fun _ h9 => h9) rfl dX10_putOnTape_22 ?_
  refine lv_iload_n hx hb dX10_putOnTape_25 rfl (lv_at hl 2 rfl) ?_
  refine lv_iload_n hx hb dX10_putOnTape_26 rfl (lv_at hl 0 rfl) ?_
  refine lv_ishr hx hb dX10_putOnTape_27 ?_
  obtain ⟨b_13, eb_13⟩ : ∃ y : Int32, ((p1 >>> (8 &&& 31))).toInt8.toInt32 = y := ⟨_, rfl⟩
  refine lv_i2b (v := b_13) hx hb dX10_putOnTape_28 eb_13 ?_
  refine va_bast hx hb hK hP hD hS 1 0 rfl rfl (by unfold vp_in; decide) dX10_putOnTape_29 (fun H locs hP hD hS => ?_)
  obtain ⟨f_14, hP, hD⟩ : ∃ f_14 : Nat → Int32, va_P (dC, dI) vwCl [(h0, .inr (8, [.ref h1, .int 6, .ref h2, .ref h3, .ref h4, .ref h5, .int 0, .ref h6, .ref h7, .ref h8, .ref h9, .ref h10, .ref h11, .int 0])), (h1, .inl (k12, 1600, .inl f_14))] H ∧ va_D A [(h0, .inr (8, [.ref h1, .int 6, .ref h2, .ref h3, .ref h4, .ref h5, .int 0, .ref h6, .ref h7, .ref h8, .ref h9, .ref h10, .ref h11, .int 0])), (h1, .inl (k12, 1600, .inl f_14))] := ⟨_, hP, hD⟩
  refine lv_aload_n hx hb dX10_putOnTape_30 rfl (lv_at hl 1 rfl) ?_
  refine lv_dup hx hb dX10_putOnTape_31 rfl ?_
  refine va_get (D := (dC, dI)) (ci := 8) (v := .int 6) (C := RX10) (T := TX10) (N := 14) hx hb hts iw_X10_putOnTape_X10 hown hK hP 0 rfl rfl 1 (by decide) (hts (.fieldLink RX10 13 "HungFloors" "taped" "I") (by decide +kernel)) (fun _ h9 => h9) rfl dX10_putOnTape_32 ?_
  refine lv_iconst (v := 1) hx hb dX10_putOnTape_35 (by decide) ?_
  refine lv_iadd hx hb dX10_putOnTape_36 ?_
  refine lv_topi (fun z_15 ez_15 => ?_)
  obtain rfl : z_15 = (7 : Int32) := ez_15.trans (by decide)
  refine va_put (D := (dC, dI)) (ci := 8) (v := .int 7) (ty := .int) (C := RX10) (T := TX10) (N := 14) hx hb hts iw_X10_putOnTape_X10 tyX10 tyX10_ok nmX10 hown hK hP hD hS 0 rfl rfl 1 (by decide) (hts (.fieldLink RX10 13 "HungFloors" "taped" "I") (by decide +kernel)) (fun _ h9 => h9) rfl (by decide +kernel) rfl rfl (Nat.le_of_ble_eq_true rfl) dX10_putOnTape_37 (fun H locs hP hD hS => ?_)
  have hP : va_P (dC, dI) vwCl [(h0, .inr (8, [.ref h1, .int 7, .ref h2, .ref h3, .ref h4, .ref h5, .int 0, .ref h6, .ref h7, .ref h8, .ref h9, .ref h10, .ref h11, .int 0])), (h1, .inl (k12, 1600, .inl f_14))] H := hP
  have hD : va_D A [(h0, .inr (8, [.ref h1, .int 7, .ref h2, .ref h3, .ref h4, .ref h5, .int 0, .ref h6, .ref h7, .ref h8, .ref h9, .ref h10, .ref h11, .int 0])), (h1, .inl (k12, 1600, .inl f_14))] := hD
  refine lv_iinc (v := 0) (lv' := [(2, .int 0), (0, .ref h0), (1, .int p1)]) hx hb dX10_putOnTape_40 hl (k := 0) rfl (by decide) (by decide) rfl (fun ls hl => ?_)
  refine lv_goto (tgt := 3) hx hb dX10_putOnTape_43 (by decide) ?_
  refine lv_iload_n hx hb dX10_putOnTape_3 rfl (lv_at hl 0 rfl) ?_
  refine lv_if_lt (tgt := 46) hx hb dX10_putOnTape_4 (by decide) (fun c_16 => absurd c_16 (by decide)) (fun c_16 => ?_)
  refine lv_aload_n hx hb dX10_putOnTape_7 rfl (lv_at hl 1 rfl) ?_
  refine va_get (D := (dC, dI)) (ci := 8) (v := .int 7) (C := RX10) (T := TX10) (N := 14) hx hb hts iw_X10_putOnTape_X10 hown hK hP 0 rfl rfl 1 (by decide) (hts (.fieldLink RX10 13 "HungFloors" "taped" "I") (by decide +kernel)) (fun _ h9 => h9) rfl dX10_putOnTape_8 ?_
  refine lv_sipush (v := 1600) hx hb dX10_putOnTape_11 (by decide) ?_
  refine lv_icmp_ge (tgt := 40) hx hb dX10_putOnTape_14 (by decide) (fun c_17 => absurd c_17 (by decide)) (fun c_17 => ?_)
  refine lv_aload_n hx hb dX10_putOnTape_17 rfl (lv_at hl 1 rfl) ?_
  refine va_get (D := (dC, dI)) (ci := 8) (v := .ref h1) (C := RX10) (T := TX10) (N := 14) hx hb hts iw_X10_putOnTape_X10 hown hK hP 0 rfl rfl 0 (by decide) (hts (.fieldLink RX10 9 "HungFloors" "tape" "[B") (by decide +kernel)) (fun _ h9 => h9) rfl dX10_putOnTape_18 ?_
  refine lv_aload_n hx hb dX10_putOnTape_21 rfl (lv_at hl 1 rfl) ?_
  refine va_get (D := (dC, dI)) (ci := 8) (v := .int 7) (C := RX10) (T := TX10) (N := 14) hx hb hts iw_X10_putOnTape_X10 hown hK hP 0 rfl rfl 1 (by decide) (hts (.fieldLink RX10 13 "HungFloors" "taped" "I") (by decide +kernel)) (fun _ h9 => h9) rfl dX10_putOnTape_22 ?_
  refine lv_iload_n hx hb dX10_putOnTape_25 rfl (lv_at hl 2 rfl) ?_
  refine lv_iload_n hx hb dX10_putOnTape_26 rfl (lv_at hl 0 rfl) ?_
  refine lv_ishr hx hb dX10_putOnTape_27 ?_
  obtain ⟨b_18, eb_18⟩ : ∃ y : Int32, ((p1 >>> (0 &&& 31))).toInt8.toInt32 = y := ⟨_, rfl⟩
  refine lv_i2b (v := b_18) hx hb dX10_putOnTape_28 eb_18 ?_
  refine va_bast hx hb hK hP hD hS 1 0 rfl rfl (by unfold vp_in; decide) dX10_putOnTape_29 (fun H locs hP hD hS => ?_)
  obtain ⟨f_19, hP, hD⟩ : ∃ f_19 : Nat → Int32, va_P (dC, dI) vwCl [(h0, .inr (8, [.ref h1, .int 7, .ref h2, .ref h3, .ref h4, .ref h5, .int 0, .ref h6, .ref h7, .ref h8, .ref h9, .ref h10, .ref h11, .int 0])), (h1, .inl (k12, 1600, .inl f_19))] H ∧ va_D A [(h0, .inr (8, [.ref h1, .int 7, .ref h2, .ref h3, .ref h4, .ref h5, .int 0, .ref h6, .ref h7, .ref h8, .ref h9, .ref h10, .ref h11, .int 0])), (h1, .inl (k12, 1600, .inl f_19))] := ⟨_, hP, hD⟩
  refine lv_aload_n hx hb dX10_putOnTape_30 rfl (lv_at hl 1 rfl) ?_
  refine lv_dup hx hb dX10_putOnTape_31 rfl ?_
  refine va_get (D := (dC, dI)) (ci := 8) (v := .int 7) (C := RX10) (T := TX10) (N := 14) hx hb hts iw_X10_putOnTape_X10 hown hK hP 0 rfl rfl 1 (by decide) (hts (.fieldLink RX10 13 "HungFloors" "taped" "I") (by decide +kernel)) (fun _ h9 => h9) rfl dX10_putOnTape_32 ?_
  refine lv_iconst (v := 1) hx hb dX10_putOnTape_35 (by decide) ?_
  refine lv_iadd hx hb dX10_putOnTape_36 ?_
  refine lv_topi (fun z_20 ez_20 => ?_)
  obtain rfl : z_20 = (8 : Int32) := ez_20.trans (by decide)
  refine va_put (D := (dC, dI)) (ci := 8) (v := .int 8) (ty := .int) (C := RX10) (T := TX10) (N := 14) hx hb hts iw_X10_putOnTape_X10 tyX10 tyX10_ok nmX10 hown hK hP hD hS 0 rfl rfl 1 (by decide) (hts (.fieldLink RX10 13 "HungFloors" "taped" "I") (by decide +kernel)) (fun _ h9 => h9) rfl (by decide +kernel) rfl rfl (Nat.le_of_ble_eq_true rfl) dX10_putOnTape_37 (fun H locs hP hD hS => ?_)
  have hP : va_P (dC, dI) vwCl [(h0, .inr (8, [.ref h1, .int 8, .ref h2, .ref h3, .ref h4, .ref h5, .int 0, .ref h6, .ref h7, .ref h8, .ref h9, .ref h10, .ref h11, .int 0])), (h1, .inl (k12, 1600, .inl f_19))] H := hP
  have hD : va_D A [(h0, .inr (8, [.ref h1, .int 8, .ref h2, .ref h3, .ref h4, .ref h5, .int 0, .ref h6, .ref h7, .ref h8, .ref h9, .ref h10, .ref h11, .int 0])), (h1, .inl (k12, 1600, .inl f_19))] := hD
  refine lv_iinc (v := (-8)) (lv' := [(2, .int (-8)), (0, .ref h0), (1, .int p1)]) hx hb dX10_putOnTape_40 hl (k := 0) rfl (by decide) (by decide) rfl (fun ls hl => ?_)
  refine lv_goto (tgt := 3) hx hb dX10_putOnTape_43 (by decide) ?_
  refine lv_iload_n hx hb dX10_putOnTape_3 rfl (lv_at hl 0 rfl) ?_
  refine lv_if_lt (tgt := 46) hx hb dX10_putOnTape_4 (by decide) (fun c_21 => ?_) (fun c_21 => absurd c_21 (by decide))
  have hP9 := hP.sub (ws' := [(h0, .inr (8, [.ref h1, .int 8, .ref h2, .ref h3, .ref h4, .ref h5, .int 0, .ref h6, .ref h7, .ref h8, .ref h9, .ref h10, .ref h11, .int 0])), (h1, .inl (k12, 1600, .inl f_19))]) [0, 1] rfl
  have hD9 := hD.sub (ws' := [(h0, .inr (8, [.ref h1, .int 8, .ref h2, .ref h3, .ref h4, .ref h5, .int 0, .ref h6, .ref h7, .ref h8, .ref h9, .ref h10, .ref h11, .int 0])), (h1, .inl (k12, 1600, .inl f_19))]) [0, 1] (by decide) rfl
  have hK9 := hK.sub (tys' := []) [] rfl
  exact W.vret hx hb hr (fun t ht hW => ⟨⟨(), rfl, trivial, ⟨f_19, by rw [ht]; exact hP9, va_K.moved hW.alike hK9, hD9⟩⟩, hS.F ht⟩) hS.2.2 dX10_putOnTape_46
set_option maxHeartbeats 4000000 in
set_option maxRecDepth 100000 in
theorem c_X10_putOnTape_3 (l : Launch) (dC : Nat → ClassId) (dI : Nat → Nat → Nat) (kE : Nat) (h0 : Nat) (h1 : Nat) (h2 : Nat) (h3 : Nat) (h4 : Nat) (h5 : Nat) (h6 : Nat) (h7 : Nat) (h8 : Nat) (h9 : Nat) (h10 : Nat) (h11 : Nat) (k12 : ClassId) (f13 : Nat → Int32) (sz : Nat) (p1 : Int32) : Met l yX10_putOnTape wsX10_putOnTape ({ frames := 0, cells := 0, slots := 0, locals := 0 }) (va_Pc [.ref h0, .int p1] (fun U => U.heap.size = sz ∧ va_P (dC, dI) vwCl [(h0, .inr (8, [.ref h1, .int 8, .ref h2, .ref h3, .ref h4, .ref h5, .int 0, .ref h6, .ref h7, .ref h8, .ref h9, .ref h10, .ref h11, .int 0])), (h1, .inl (k12, 1600, .inl f13))] U.heap ∧ va_K (dC, dI) vwCl [(k12, .byte)] U ∧ va_D (fun _ => True) [(h0, .inr (8, [.ref h1, .int 8, .ref h2, .ref h3, .ref h4, .ref h5, .int 0, .ref h6, .ref h7, .ref h8, .ref h9, .ref h10, .ref h11, .int 0])), (h1, .inl (k12, 1600, .inl f13))] ∧ ex_X kE (va_A [(h0, .inr (8, [.ref h1, .int 8, .ref h2, .ref h3, .ref h4, .ref h5, .int 0, .ref h6, .ref h7, .ref h8, .ref h9, .ref h10, .ref h11, .int 0])), (h1, .inl (k12, 1600, .inl f13))] sz) U)) (va_Qv (fun _ : Unit => True) (fun (_ : Unit) (t : State) => ∃ (x0 : (Nat → Int32)), va_P (dC, dI) vwCl [(h0, .inr (8, [.ref h1, .int 12, .ref h2, .ref h3, .ref h4, .ref h5, .int 0, .ref h6, .ref h7, .ref h8, .ref h9, .ref h10, .ref h11, .int 0])), (h1, .inl (k12, 1600, .inl x0))] t.heap ∧ va_K (dC, dI) vwCl [] t ∧ va_D (va_A [(h0, .inr (8, [.ref h1, .int 8, .ref h2, .ref h3, .ref h4, .ref h5, .int 0, .ref h6, .ref h7, .ref h8, .ref h9, .ref h10, .ref h11, .int 0])), (h1, .inl (k12, 1600, .inl f13))] sz) [(h0, .inr (8, [.ref h1, .int 12, .ref h2, .ref h3, .ref h4, .ref h5, .int 0, .ref h6, .ref h7, .ref h8, .ref h9, .ref h10, .ref h11, .int 0])), (h1, .inl (k12, 1600, .inl x0))]) (va_A [(h0, .inr (8, [.ref h1, .int 8, .ref h2, .ref h3, .ref h4, .ref h5, .int 0, .ref h6, .ref h7, .ref h8, .ref h9, .ref h10, .ref h11, .int 0])), (h1, .inl (k12, 1600, .inl f13))] sz)) 0 0 (va_A [(h0, .inr (8, [.ref h1, .int 8, .ref h2, .ref h3, .ref h4, .ref h5, .int 0, .ref h6, .ref h7, .ref h8, .ref h9, .ref h10, .ref h11, .int 0])), (h1, .inl (k12, 1600, .inl f13))] sz) := by
  refine Met.ofW (cc := cX10_putOnTape) (maxL := 3) (ret := none) (by decide) rfl ?_
  intro p e s m args below meth c s₁ B hml hv
  obtain ⟨rfl, hsz, hP, hK, hD0, hE⟩ := hv
  have hx := B.exec
  have hb := B.bytes
  have hr := B.returns
  have hts := atoms_spec (ws := wsX10_putOnTape) B.pre
  have hown : s.vm.findClass RX10 = some m.cls := findClass_of_methodNamed B.named
  have hlocks := B.notSynchronized
  subst hsz
  have hD := hD0.self (sz := s.heap.size)
  generalize hAe : va_A [(h0, .inr (8, [.ref h1, .int 8, .ref h2, .ref h3, .ref h4, .ref h5, .int 0, .ref h6, .ref h7, .ref h8, .ref h9, .ref h10, .ref h11, .int 0])), (h1, .inl (k12, 1600, .inl f13))] s.heap.size = A at hD hE ⊢
  have hA : ∀ q : Nat, s.heap.size ≤ q → A q := fun q h => by rw [← hAe]; exact Or.inr h
  have hS : va_S A s.heap s.heap [] := va_S.rf
  have hl := lv_entry ([.ref h0, .int p1]) (n := 3) (Nat.le_of_ble_eq_true rfl)
  rw [lg_entry_eq]
  generalize (lg_sl ([.ref h0, .int p1]) ++ List.replicate (3 - (lg_sl ([.ref h0, .int p1])).length) Slot.unset).toArray = ls at hl ⊢
  have hl : lv_has ls 3 [(0, .ref h0), (1, .int p1)] := hl
  have hP : va_P (dC, dI) vwCl [(h0, .inr (8, [.ref h1, .int 8, .ref h2, .ref h3, .ref h4, .ref h5, .int 0, .ref h6, .ref h7, .ref h8, .ref h9, .ref h10, .ref h11, .int 0])), (h1, .inl (k12, 1600, .inl f13))] s.heap := hP
  refine lv_bipush (v := 24) hx hb dX10_putOnTape_0 (by decide) ?_
  refine lv_istore_n (lv' := [(2, .int 24), (0, .ref h0), (1, .int p1)]) hx hb dX10_putOnTape_2 rfl hl (by decide) rfl (fun ls hl => ?_)
  refine lv_iload_n hx hb dX10_putOnTape_3 rfl (lv_at hl 0 rfl) ?_
  refine lv_if_lt (tgt := 46) hx hb dX10_putOnTape_4 (by decide) (fun c_1 => absurd c_1 (by decide)) (fun c_1 => ?_)
  refine lv_aload_n hx hb dX10_putOnTape_7 rfl (lv_at hl 1 rfl) ?_
  refine va_get (D := (dC, dI)) (ci := 8) (v := .int 8) (C := RX10) (T := TX10) (N := 14) hx hb hts iw_X10_putOnTape_X10 hown hK hP 0 rfl rfl 1 (by decide) (hts (.fieldLink RX10 13 "HungFloors" "taped" "I") (by decide +kernel)) (fun _ h9 => h9) rfl dX10_putOnTape_8 ?_
  refine lv_sipush (v := 1600) hx hb dX10_putOnTape_11 (by decide) ?_
  refine lv_icmp_ge (tgt := 40) hx hb dX10_putOnTape_14 (by decide) (fun c_2 => absurd c_2 (by decide)) (fun c_2 => ?_)
  refine lv_aload_n hx hb dX10_putOnTape_17 rfl (lv_at hl 1 rfl) ?_
  refine va_get (D := (dC, dI)) (ci := 8) (v := .ref h1) (C := RX10) (T := TX10) (N := 14) hx hb hts iw_X10_putOnTape_X10 hown hK hP 0 rfl rfl 0 (by decide) (hts (.fieldLink RX10 9 "HungFloors" "tape" "[B") (by decide +kernel)) (fun _ h9 => h9) rfl dX10_putOnTape_18 ?_
  refine lv_aload_n hx hb dX10_putOnTape_21 rfl (lv_at hl 1 rfl) ?_
  refine va_get (D := (dC, dI)) (ci := 8) (v := .int 8) (C := RX10) (T := TX10) (N := 14) hx hb hts iw_X10_putOnTape_X10 hown hK hP 0 rfl rfl 1 (by decide) (hts (.fieldLink RX10 13 "HungFloors" "taped" "I") (by decide +kernel)) (fun _ h9 => h9) rfl dX10_putOnTape_22 ?_
  refine lv_iload_n hx hb dX10_putOnTape_25 rfl (lv_at hl 2 rfl) ?_
  refine lv_iload_n hx hb dX10_putOnTape_26 rfl (lv_at hl 0 rfl) ?_
  refine lv_ishr hx hb dX10_putOnTape_27 ?_
  obtain ⟨b_3, eb_3⟩ : ∃ y : Int32, ((p1 >>> (24 &&& 31))).toInt8.toInt32 = y := ⟨_, rfl⟩
  refine lv_i2b (v := b_3) hx hb dX10_putOnTape_28 eb_3 ?_
  refine va_bast hx hb hK hP hD hS 1 0 rfl rfl (by unfold vp_in; decide) dX10_putOnTape_29 (fun H locs hP hD hS => ?_)
  obtain ⟨f_4, hP, hD⟩ : ∃ f_4 : Nat → Int32, va_P (dC, dI) vwCl [(h0, .inr (8, [.ref h1, .int 8, .ref h2, .ref h3, .ref h4, .ref h5, .int 0, .ref h6, .ref h7, .ref h8, .ref h9, .ref h10, .ref h11, .int 0])), (h1, .inl (k12, 1600, .inl f_4))] H ∧ va_D A [(h0, .inr (8, [.ref h1, .int 8, .ref h2, .ref h3, .ref h4, .ref h5, .int 0, .ref h6, .ref h7, .ref h8, .ref h9, .ref h10, .ref h11, .int 0])), (h1, .inl (k12, 1600, .inl f_4))] := ⟨_, hP, hD⟩
  refine lv_aload_n hx hb dX10_putOnTape_30 rfl (lv_at hl 1 rfl) ?_
  refine lv_dup hx hb dX10_putOnTape_31 rfl ?_
  refine va_get (D := (dC, dI)) (ci := 8) (v := .int 8) (C := RX10) (T := TX10) (N := 14) hx hb hts iw_X10_putOnTape_X10 hown hK hP 0 rfl rfl 1 (by decide) (hts (.fieldLink RX10 13 "HungFloors" "taped" "I") (by decide +kernel)) (fun _ h9 => h9) rfl dX10_putOnTape_32 ?_
  refine lv_iconst (v := 1) hx hb dX10_putOnTape_35 (by decide) ?_
  refine lv_iadd hx hb dX10_putOnTape_36 ?_
  refine lv_topi (fun z_5 ez_5 => ?_)
  obtain rfl : z_5 = (9 : Int32) := ez_5.trans (by decide)
  refine va_put (D := (dC, dI)) (ci := 8) (v := .int 9) (ty := .int) (C := RX10) (T := TX10) (N := 14) hx hb hts iw_X10_putOnTape_X10 tyX10 tyX10_ok nmX10 hown hK hP hD hS 0 rfl rfl 1 (by decide) (hts (.fieldLink RX10 13 "HungFloors" "taped" "I") (by decide +kernel)) (fun _ h9 => h9) rfl (by decide +kernel) rfl rfl (Nat.le_of_ble_eq_true rfl) dX10_putOnTape_37 (fun H locs hP hD hS => ?_)
  have hP : va_P (dC, dI) vwCl [(h0, .inr (8, [.ref h1, .int 9, .ref h2, .ref h3, .ref h4, .ref h5, .int 0, .ref h6, .ref h7, .ref h8, .ref h9, .ref h10, .ref h11, .int 0])), (h1, .inl (k12, 1600, .inl f_4))] H := hP
  have hD : va_D A [(h0, .inr (8, [.ref h1, .int 9, .ref h2, .ref h3, .ref h4, .ref h5, .int 0, .ref h6, .ref h7, .ref h8, .ref h9, .ref h10, .ref h11, .int 0])), (h1, .inl (k12, 1600, .inl f_4))] := hD
  refine lv_iinc (v := 16) (lv' := [(2, .int 16), (0, .ref h0), (1, .int p1)]) hx hb dX10_putOnTape_40 hl (k := 0) rfl (by decide) (by decide) rfl (fun ls hl => ?_)
  refine lv_goto (tgt := 3) hx hb dX10_putOnTape_43 (by decide) ?_
  refine lv_iload_n hx hb dX10_putOnTape_3 rfl (lv_at hl 0 rfl) ?_
  refine lv_if_lt (tgt := 46) hx hb dX10_putOnTape_4 (by decide) (fun c_6 => absurd c_6 (by decide)) (fun c_6 => ?_)
  refine lv_aload_n hx hb dX10_putOnTape_7 rfl (lv_at hl 1 rfl) ?_
  refine va_get (D := (dC, dI)) (ci := 8) (v := .int 9) (C := RX10) (T := TX10) (N := 14) hx hb hts iw_X10_putOnTape_X10 hown hK hP 0 rfl rfl 1 (by decide) (hts (.fieldLink RX10 13 "HungFloors" "taped" "I") (by decide +kernel)) (fun _ h9 => h9) rfl dX10_putOnTape_8 ?_
  refine lv_sipush (v := 1600) hx hb dX10_putOnTape_11 (by decide) ?_
  refine lv_icmp_ge (tgt := 40) hx hb dX10_putOnTape_14 (by decide) (fun c_7 => absurd c_7 (by decide)) (fun c_7 => ?_)
  refine lv_aload_n hx hb dX10_putOnTape_17 rfl (lv_at hl 1 rfl) ?_
  refine va_get (D := (dC, dI)) (ci := 8) (v := .ref h1) (C := RX10) (T := TX10) (N := 14) hx hb hts iw_X10_putOnTape_X10 hown hK hP 0 rfl rfl 0 (by decide) (hts (.fieldLink RX10 9 "HungFloors" "tape" "[B") (by decide +kernel)) (fun _ h9 => h9) rfl dX10_putOnTape_18 ?_
  refine lv_aload_n hx hb dX10_putOnTape_21 rfl (lv_at hl 1 rfl) ?_
  refine va_get (D := (dC, dI)) (ci := 8) (v := .int 9) (C := RX10) (T := TX10) (N := 14) hx hb hts iw_X10_putOnTape_X10 hown hK hP 0 rfl rfl 1 (by decide) (hts (.fieldLink RX10 13 "HungFloors" "taped" "I") (by decide +kernel)) (fun _ h9 => h9) rfl dX10_putOnTape_22 ?_
  refine lv_iload_n hx hb dX10_putOnTape_25 rfl (lv_at hl 2 rfl) ?_
  refine lv_iload_n hx hb dX10_putOnTape_26 rfl (lv_at hl 0 rfl) ?_
  refine lv_ishr hx hb dX10_putOnTape_27 ?_
  obtain ⟨b_8, eb_8⟩ : ∃ y : Int32, ((p1 >>> (16 &&& 31))).toInt8.toInt32 = y := ⟨_, rfl⟩
  refine lv_i2b (v := b_8) hx hb dX10_putOnTape_28 eb_8 ?_
  refine va_bast hx hb hK hP hD hS 1 0 rfl rfl (by unfold vp_in; decide) dX10_putOnTape_29 (fun H locs hP hD hS => ?_)
  obtain ⟨f_9, hP, hD⟩ : ∃ f_9 : Nat → Int32, va_P (dC, dI) vwCl [(h0, .inr (8, [.ref h1, .int 9, .ref h2, .ref h3, .ref h4, .ref h5, .int 0, .ref h6, .ref h7, .ref h8, .ref h9, .ref h10, .ref h11, .int 0])), (h1, .inl (k12, 1600, .inl f_9))] H ∧ va_D A [(h0, .inr (8, [.ref h1, .int 9, .ref h2, .ref h3, .ref h4, .ref h5, .int 0, .ref h6, .ref h7, .ref h8, .ref h9, .ref h10, .ref h11, .int 0])), (h1, .inl (k12, 1600, .inl f_9))] := ⟨_, hP, hD⟩
  refine lv_aload_n hx hb dX10_putOnTape_30 rfl (lv_at hl 1 rfl) ?_
  refine lv_dup hx hb dX10_putOnTape_31 rfl ?_
  refine va_get (D := (dC, dI)) (ci := 8) (v := .int 9) (C := RX10) (T := TX10) (N := 14) hx hb hts iw_X10_putOnTape_X10 hown hK hP 0 rfl rfl 1 (by decide) (hts (.fieldLink RX10 13 "HungFloors" "taped" "I") (by decide +kernel)) (fun _ h9 => h9) rfl dX10_putOnTape_32 ?_
  refine lv_iconst (v := 1) hx hb dX10_putOnTape_35 (by decide) ?_
  refine lv_iadd hx hb dX10_putOnTape_36 ?_
  refine lv_topi (fun z_10 ez_10 => ?_)
  obtain rfl : z_10 = (10 : Int32) := ez_10.trans (by decide)
  refine va_put (D := (dC, dI)) (ci := 8) (v := .int 10) (ty := .int) (C := RX10) (T := TX10) (N := 14) hx hb hts iw_X10_putOnTape_X10 tyX10 tyX10_ok nmX10 hown hK hP hD hS 0 rfl rfl 1 (by decide) (hts (.fieldLink RX10 13 "HungFloors" "taped" "I") (by decide +kernel)) (fun _ h9 => h9) rfl (by decide +kernel) rfl rfl (Nat.le_of_ble_eq_true rfl) dX10_putOnTape_37 (fun H locs hP hD hS => ?_)
  have hP : va_P (dC, dI) vwCl [(h0, .inr (8, [.ref h1, .int 10, .ref h2, .ref h3, .ref h4, .ref h5, .int 0, .ref h6, .ref h7, .ref h8, .ref h9, .ref h10, .ref h11, .int 0])), (h1, .inl (k12, 1600, .inl f_9))] H := hP
  have hD : va_D A [(h0, .inr (8, [.ref h1, .int 10, .ref h2, .ref h3, .ref h4, .ref h5, .int 0, .ref h6, .ref h7, .ref h8, .ref h9, .ref h10, .ref h11, .int 0])), (h1, .inl (k12, 1600, .inl f_9))] := hD
  refine lv_iinc (v := 8) (lv' := [(2, .int 8), (0, .ref h0), (1, .int p1)]) hx hb dX10_putOnTape_40 hl (k := 0) rfl (by decide) (by decide) rfl (fun ls hl => ?_)
  refine lv_goto (tgt := 3) hx hb dX10_putOnTape_43 (by decide) ?_
  refine lv_iload_n hx hb dX10_putOnTape_3 rfl (lv_at hl 0 rfl) ?_
  refine lv_if_lt (tgt := 46) hx hb dX10_putOnTape_4 (by decide) (fun c_11 => absurd c_11 (by decide)) (fun c_11 => ?_)
  refine lv_aload_n hx hb dX10_putOnTape_7 rfl (lv_at hl 1 rfl) ?_
  refine va_get (D := (dC, dI)) (ci := 8) (v := .int 10) (C := RX10) (T := TX10) (N := 14) hx hb hts iw_X10_putOnTape_X10 hown hK hP 0 rfl rfl 1 (by decide) (hts (.fieldLink RX10 13 "HungFloors" "taped" "I") (by decide +kernel)) (fun _ h9 => h9) rfl dX10_putOnTape_8 ?_
  refine lv_sipush (v := 1600) hx hb dX10_putOnTape_11 (by decide) ?_
  refine lv_icmp_ge (tgt := 40) hx hb dX10_putOnTape_14 (by decide) (fun c_12 => absurd c_12 (by decide)) (fun c_12 => ?_)
  refine lv_aload_n hx hb dX10_putOnTape_17 rfl (lv_at hl 1 rfl) ?_
  refine va_get (D := (dC, dI)) (ci := 8) (v := .ref h1) (C := RX10) (T := TX10) (N := 14) hx hb hts iw_X10_putOnTape_X10 hown hK hP 0 rfl rfl 0 (by decide) (hts (.fieldLink RX10 9 "HungFloors" "tape" "[B") (by decide +kernel)) (fun _ h9 => h9) rfl dX10_putOnTape_18 ?_
  refine lv_aload_n hx hb dX10_putOnTape_21 rfl (lv_at hl 1 rfl) ?_
  refine va_get (D := (dC, dI)) (ci := 8) (v := .int 10) (C := RX10) (T := TX10) (N := 14) hx hb hts iw_X10_putOnTape_X10 hown hK hP 0 rfl rfl 1 (by decide) (hts (.fieldLink RX10 13 "HungFloors" "taped" "I") (by decide +kernel)) (fun _ h9 => h9) rfl dX10_putOnTape_22 ?_
  refine lv_iload_n hx hb dX10_putOnTape_25 rfl (lv_at hl 2 rfl) ?_
  refine lv_iload_n hx hb dX10_putOnTape_26 rfl (lv_at hl 0 rfl) ?_
  refine lv_ishr hx hb dX10_putOnTape_27 ?_
  obtain ⟨b_13, eb_13⟩ : ∃ y : Int32, ((p1 >>> (8 &&& 31))).toInt8.toInt32 = y := ⟨_, rfl⟩
  refine lv_i2b (v := b_13) hx hb dX10_putOnTape_28 eb_13 ?_
  refine va_bast hx hb hK hP hD hS 1 0 rfl rfl (by unfold vp_in; decide) dX10_putOnTape_29 (fun H locs hP hD hS => ?_)
  obtain ⟨f_14, hP, hD⟩ : ∃ f_14 : Nat → Int32, va_P (dC, dI) vwCl [(h0, .inr (8, [.ref h1, .int 10, .ref h2, .ref h3, .ref h4, .ref h5, .int 0, .ref h6, .ref h7, .ref h8, .ref h9, .ref h10, .ref h11, .int 0])), (h1, .inl (k12, 1600, .inl f_14))] H ∧ va_D A [(h0, .inr (8, [.ref h1, .int 10, .ref h2, .ref h3, .ref h4, .ref h5, .int 0, .ref h6, .ref h7, .ref h8, .ref h9, .ref h10, .ref h11, .int 0])), (h1, .inl (k12, 1600, .inl f_14))] := ⟨_, hP, hD⟩
  refine lv_aload_n hx hb dX10_putOnTape_30 rfl (lv_at hl 1 rfl) ?_
  refine lv_dup hx hb dX10_putOnTape_31 rfl ?_
  refine va_get (D := (dC, dI)) (ci := 8) (v := .int 10) (C := RX10) (T := TX10) (N := 14) hx hb hts iw_X10_putOnTape_X10 hown hK hP 0 rfl rfl 1 (by decide) (hts (.fieldLink RX10 13 "HungFloors" "taped" "I") (by decide +kernel)) (fun _ h9 => h9) rfl dX10_putOnTape_32 ?_
  refine lv_iconst (v := 1) hx hb dX10_putOnTape_35 (by decide) ?_
  refine lv_iadd hx hb dX10_putOnTape_36 ?_
  refine lv_topi (fun z_15 ez_15 => ?_)
  obtain rfl : z_15 = (11 : Int32) := ez_15.trans (by decide)
  refine va_put (D := (dC, dI)) (ci := 8) (v := .int 11) (ty := .int) (C := RX10) (T := TX10) (N := 14) hx hb hts iw_X10_putOnTape_X10 tyX10 tyX10_ok nmX10 hown hK hP hD hS 0 rfl rfl 1 (by decide) (hts (.fieldLink RX10 13 "HungFloors" "taped" "I") (by decide +kernel)) (fun _ h9 => h9) rfl (by decide +kernel) rfl rfl (Nat.le_of_ble_eq_true rfl) dX10_putOnTape_37 (fun H locs hP hD hS => ?_)
  have hP : va_P (dC, dI) vwCl [(h0, .inr (8, [.ref h1, .int 11, .ref h2, .ref h3, .ref h4, .ref h5, .int 0, .ref h6, .ref h7, .ref h8, .ref h9, .ref h10, .ref h11, .int 0])), (h1, .inl (k12, 1600, .inl f_14))] H := hP
  have hD : va_D A [(h0, .inr (8, [.ref h1, .int 11, .ref h2, .ref h3, .ref h4, .ref h5, .int 0, .ref h6, .ref h7, .ref h8, .ref h9, .ref h10, .ref h11, .int 0])), (h1, .inl (k12, 1600, .inl f_14))] := hD
  refine lv_iinc (v := 0) (lv' := [(2, .int 0), (0, .ref h0), (1, .int p1)]) hx hb dX10_putOnTape_40 hl (k := 0) rfl (by decide) (by decide) rfl (fun ls hl => ?_)
  refine lv_goto (tgt := 3) hx hb dX10_putOnTape_43 (by decide) ?_
  refine lv_iload_n hx hb dX10_putOnTape_3 rfl (lv_at hl 0 rfl) ?_
  refine lv_if_lt (tgt := 46) hx hb dX10_putOnTape_4 (by decide) (fun c_16 => absurd c_16 (by decide)) (fun c_16 => ?_)
  refine lv_aload_n hx hb dX10_putOnTape_7 rfl (lv_at hl 1 rfl) ?_
  refine va_get (D := (dC, dI)) (ci := 8) (v := .int 11) (C := RX10) (T := TX10) (N := 14) hx hb hts iw_X10_putOnTape_X10 hown hK hP 0 rfl rfl 1 (by decide) (hts (.fieldLink RX10 13 "HungFloors" "taped" "I") (by decide +kernel)) (fun _ h9 => h9) rfl dX10_putOnTape_8 ?_
  refine lv_sipush (v := 1600) hx hb dX10_putOnTape_11 (by decide) ?_
  refine lv_icmp_ge (tgt := 40) hx hb dX10_putOnTape_14 (by decide) (fun c_17 => absurd c_17 (by decide)) (fun c_17 => ?_)
  refine lv_aload_n hx hb dX10_putOnTape_17 rfl (lv_at hl 1 rfl) ?_
  refine va_get (D := (dC, dI)) (ci := 8) (v := .ref h1) (C := RX10) (T := TX10) (N := 14) hx hb hts iw_X10_putOnTape_X10 hown hK hP 0 rfl rfl 0 (by decide) (hts (.fieldLink RX10 9 "HungFloors" "tape" "[B") (by decide +kernel)) (fun _ h9 => h9) rfl dX10_putOnTape_18 ?_
  refine lv_aload_n hx hb dX10_putOnTape_21 rfl (lv_at hl 1 rfl) ?_
  refine va_get (D := (dC, dI)) (ci := 8) (v := .int 11) (C := RX10) (T := TX10) (N := 14) hx hb hts iw_X10_putOnTape_X10 hown hK hP 0 rfl rfl 1 (by decide) (hts (.fieldLink RX10 13 "HungFloors" "taped" "I") (by decide +kernel)) (fun _ h9 => h9) rfl dX10_putOnTape_22 ?_
  refine lv_iload_n hx hb dX10_putOnTape_25 rfl (lv_at hl 2 rfl) ?_
  refine lv_iload_n hx hb dX10_putOnTape_26 rfl (lv_at hl 0 rfl) ?_
  refine lv_ishr hx hb dX10_putOnTape_27 ?_
  obtain ⟨b_18, eb_18⟩ : ∃ y : Int32, ((p1 >>> (0 &&& 31))).toInt8.toInt32 = y := ⟨_, rfl⟩
  refine lv_i2b (v := b_18) hx hb dX10_putOnTape_28 eb_18 ?_
  refine va_bast hx hb hK hP hD hS 1 0 rfl rfl (by unfold vp_in; decide) dX10_putOnTape_29 (fun H locs hP hD hS => ?_)
  obtain ⟨f_19, hP, hD⟩ : ∃ f_19 : Nat → Int32, va_P (dC, dI) vwCl [(h0, .inr (8, [.ref h1, .int 11, .ref h2, .ref h3, .ref h4, .ref h5, .int 0, .ref h6, .ref h7, .ref h8, .ref h9, .ref h10, .ref h11, .int 0])), (h1, .inl (k12, 1600, .inl f_19))] H ∧ va_D A [(h0, .inr (8, [.ref h1, .int 11, .ref h2, .ref h3, .ref h4, .ref h5, .int 0, .ref h6, .ref h7, .ref h8, .ref h9, .ref h10, .ref h11, .int 0])), (h1, .inl (k12, 1600, .inl f_19))] := ⟨_, hP, hD⟩
  refine lv_aload_n hx hb dX10_putOnTape_30 rfl (lv_at hl 1 rfl) ?_
  refine lv_dup hx hb dX10_putOnTape_31 rfl ?_
  refine va_get (D := (dC, dI)) (ci := 8) (v := .int 11) (C := RX10) (T := TX10) (N := 14) hx hb hts iw_X10_putOnTape_X10 hown hK hP 0 rfl rfl 1 (by decide) (hts (.fieldLink RX10 13 "HungFloors" "taped" "I") (by decide +kernel)) (fun _ h9 => h9) rfl dX10_putOnTape_32 ?_
  refine lv_iconst (v := 1) hx hb dX10_putOnTape_35 (by decide) ?_
  refine lv_iadd hx hb dX10_putOnTape_36 ?_
  refine lv_topi (fun z_20 ez_20 => ?_)
  obtain rfl : z_20 = (12 : Int32) := ez_20.trans (by decide)
  refine va_put (D := (dC, dI)) (ci := 8) (v := .int 12) (ty := .int) (C := RX10) (T := TX10) (N := 14) hx hb hts iw_X10_putOnTape_X10 tyX10 tyX10_ok nmX10 hown hK hP hD hS 0 rfl rfl 1 (by decide) (hts (.fieldLink RX10 13 "HungFloors" "taped" "I") (by decide +kernel)) (fun _ h9 => h9) rfl (by decide +kernel) rfl rfl (Nat.le_of_ble_eq_true rfl) dX10_putOnTape_37 (fun H locs hP hD hS => ?_)
  have hP : va_P (dC, dI) vwCl [(h0, .inr (8, [.ref h1, .int 12, .ref h2, .ref h3, .ref h4, .ref h5, .int 0, .ref h6, .ref h7, .ref h8, .ref h9, .ref h10, .ref h11, .int 0])), (h1, .inl (k12, 1600, .inl f_19))] H := hP
  have hD : va_D A [(h0, .inr (8, [.ref h1, .int 12, .ref h2, .ref h3, .ref h4, .ref h5, .int 0, .ref h6, .ref h7, .ref h8, .ref h9, .ref h10, .ref h11, .int 0])), (h1, .inl (k12, 1600, .inl f_19))] := hD
  refine lv_iinc (v := (-8)) (lv' := [(2, .int (-8)), (0, .ref h0), (1, .int p1)]) hx hb dX10_putOnTape_40 hl (k := 0) rfl (by decide) (by decide) rfl (fun ls hl => ?_)
  refine lv_goto (tgt := 3) hx hb dX10_putOnTape_43 (by decide) ?_
  refine lv_iload_n hx hb dX10_putOnTape_3 rfl (lv_at hl 0 rfl) ?_
  refine lv_if_lt (tgt := 46) hx hb dX10_putOnTape_4 (by decide) (fun c_21 => ?_) (fun c_21 => absurd c_21 (by decide))
  have hP9 := hP.sub (ws' := [(h0, .inr (8, [.ref h1, .int 12, .ref h2, .ref h3, .ref h4, .ref h5, .int 0, .ref h6, .ref h7, .ref h8, .ref h9, .ref h10, .ref h11, .int 0])), (h1, .inl (k12, 1600, .inl f_19))]) [0, 1] rfl
  have hD9 := hD.sub (ws' := [(h0, .inr (8, [.ref h1, .int 12, .ref h2, .ref h3, .ref h4, .ref h5, .int 0, .ref h6, .ref h7, .ref h8, .ref h9, .ref h10, .ref h11, .int 0])), (h1, .inl (k12, 1600, .inl f_19))]) [0, 1] (by decide) rfl
  have hK9 := hK.sub (tys' := []) [] rfl
  exact W.vret hx hb hr (fun t ht hW => ⟨⟨(), rfl, trivial, ⟨f_19, by rw [ht]; exact hP9, va_K.moved hW.alike hK9, hD9⟩⟩, hS.F ht⟩) hS.2.2 dX10_putOnTape_46
set_option maxHeartbeats 4000000 in
set_option maxRecDepth 100000 in
theorem c_X10_putOnTape_4 (l : Launch) (dC : Nat → ClassId) (dI : Nat → Nat → Nat) (kE : Nat) (h0 : Nat) (h1 : Nat) (h2 : Nat) (h3 : Nat) (h4 : Nat) (h5 : Nat) (h6 : Nat) (h7 : Nat) (h8 : Nat) (h9 : Nat) (h10 : Nat) (h11 : Nat) (k12 : ClassId) (f13 : Nat → Int32) (sz : Nat) (p1 : Int32) : Met l yX10_putOnTape wsX10_putOnTape ({ frames := 0, cells := 0, slots := 0, locals := 0 }) (va_Pc [.ref h0, .int p1] (fun U => U.heap.size = sz ∧ va_P (dC, dI) vwCl [(h0, .inr (8, [.ref h1, .int 12, .ref h2, .ref h3, .ref h4, .ref h5, .int 0, .ref h6, .ref h7, .ref h8, .ref h9, .ref h10, .ref h11, .int 0])), (h1, .inl (k12, 1600, .inl f13))] U.heap ∧ va_K (dC, dI) vwCl [(k12, .byte)] U ∧ va_D (fun _ => True) [(h0, .inr (8, [.ref h1, .int 12, .ref h2, .ref h3, .ref h4, .ref h5, .int 0, .ref h6, .ref h7, .ref h8, .ref h9, .ref h10, .ref h11, .int 0])), (h1, .inl (k12, 1600, .inl f13))] ∧ ex_X kE (va_A [(h0, .inr (8, [.ref h1, .int 12, .ref h2, .ref h3, .ref h4, .ref h5, .int 0, .ref h6, .ref h7, .ref h8, .ref h9, .ref h10, .ref h11, .int 0])), (h1, .inl (k12, 1600, .inl f13))] sz) U)) (va_Qv (fun _ : Unit => True) (fun (_ : Unit) (t : State) => ∃ (x0 : (Nat → Int32)), va_P (dC, dI) vwCl [(h0, .inr (8, [.ref h1, .int 16, .ref h2, .ref h3, .ref h4, .ref h5, .int 0, .ref h6, .ref h7, .ref h8, .ref h9, .ref h10, .ref h11, .int 0])), (h1, .inl (k12, 1600, .inl x0))] t.heap ∧ va_K (dC, dI) vwCl [] t ∧ va_D (va_A [(h0, .inr (8, [.ref h1, .int 12, .ref h2, .ref h3, .ref h4, .ref h5, .int 0, .ref h6, .ref h7, .ref h8, .ref h9, .ref h10, .ref h11, .int 0])), (h1, .inl (k12, 1600, .inl f13))] sz) [(h0, .inr (8, [.ref h1, .int 16, .ref h2, .ref h3, .ref h4, .ref h5, .int 0, .ref h6, .ref h7, .ref h8, .ref h9, .ref h10, .ref h11, .int 0])), (h1, .inl (k12, 1600, .inl x0))]) (va_A [(h0, .inr (8, [.ref h1, .int 12, .ref h2, .ref h3, .ref h4, .ref h5, .int 0, .ref h6, .ref h7, .ref h8, .ref h9, .ref h10, .ref h11, .int 0])), (h1, .inl (k12, 1600, .inl f13))] sz)) 0 0 (va_A [(h0, .inr (8, [.ref h1, .int 12, .ref h2, .ref h3, .ref h4, .ref h5, .int 0, .ref h6, .ref h7, .ref h8, .ref h9, .ref h10, .ref h11, .int 0])), (h1, .inl (k12, 1600, .inl f13))] sz) := by
  refine Met.ofW (cc := cX10_putOnTape) (maxL := 3) (ret := none) (by decide) rfl ?_
  intro p e s m args below meth c s₁ B hml hv
  obtain ⟨rfl, hsz, hP, hK, hD0, hE⟩ := hv
  have hx := B.exec
  have hb := B.bytes
  have hr := B.returns
  have hts := atoms_spec (ws := wsX10_putOnTape) B.pre
  have hown : s.vm.findClass RX10 = some m.cls := findClass_of_methodNamed B.named
  have hlocks := B.notSynchronized
  subst hsz
  have hD := hD0.self (sz := s.heap.size)
  generalize hAe : va_A [(h0, .inr (8, [.ref h1, .int 12, .ref h2, .ref h3, .ref h4, .ref h5, .int 0, .ref h6, .ref h7, .ref h8, .ref h9, .ref h10, .ref h11, .int 0])), (h1, .inl (k12, 1600, .inl f13))] s.heap.size = A at hD hE ⊢
  have hA : ∀ q : Nat, s.heap.size ≤ q → A q := fun q h => by rw [← hAe]; exact Or.inr h
  have hS : va_S A s.heap s.heap [] := va_S.rf
  have hl := lv_entry ([.ref h0, .int p1]) (n := 3) (Nat.le_of_ble_eq_true rfl)
  rw [lg_entry_eq]
  generalize (lg_sl ([.ref h0, .int p1]) ++ List.replicate (3 - (lg_sl ([.ref h0, .int p1])).length) Slot.unset).toArray = ls at hl ⊢
  have hl : lv_has ls 3 [(0, .ref h0), (1, .int p1)] := hl
  have hP : va_P (dC, dI) vwCl [(h0, .inr (8, [.ref h1, .int 12, .ref h2, .ref h3, .ref h4, .ref h5, .int 0, .ref h6, .ref h7, .ref h8, .ref h9, .ref h10, .ref h11, .int 0])), (h1, .inl (k12, 1600, .inl f13))] s.heap := hP
  refine lv_bipush (v := 24) hx hb dX10_putOnTape_0 (by decide) ?_
  refine lv_istore_n (lv' := [(2, .int 24), (0, .ref h0), (1, .int p1)]) hx hb dX10_putOnTape_2 rfl hl (by decide) rfl (fun ls hl => ?_)
  refine lv_iload_n hx hb dX10_putOnTape_3 rfl (lv_at hl 0 rfl) ?_
  refine lv_if_lt (tgt := 46) hx hb dX10_putOnTape_4 (by decide) (fun c_1 => absurd c_1 (by decide)) (fun c_1 => ?_)
  refine lv_aload_n hx hb dX10_putOnTape_7 rfl (lv_at hl 1 rfl) ?_
  refine va_get (D := (dC, dI)) (ci := 8) (v := .int 12) (C := RX10) (T := TX10) (N := 14) hx hb hts iw_X10_putOnTape_X10 hown hK hP 0 rfl rfl 1 (by decide) (hts (.fieldLink RX10 13 "HungFloors" "taped" "I") (by decide +kernel)) (fun _ h9 => h9) rfl dX10_putOnTape_8 ?_
  refine lv_sipush (v := 1600) hx hb dX10_putOnTape_11 (by decide) ?_
  refine lv_icmp_ge (tgt := 40) hx hb dX10_putOnTape_14 (by decide) (fun c_2 => absurd c_2 (by decide)) (fun c_2 => ?_)
  refine lv_aload_n hx hb dX10_putOnTape_17 rfl (lv_at hl 1 rfl) ?_
  refine va_get (D := (dC, dI)) (ci := 8) (v := .ref h1) (C := RX10) (T := TX10) (N := 14) hx hb hts iw_X10_putOnTape_X10 hown hK hP 0 rfl rfl 0 (by decide) (hts (.fieldLink RX10 9 "HungFloors" "tape" "[B") (by decide +kernel)) (fun _ h9 => h9) rfl dX10_putOnTape_18 ?_
  refine lv_aload_n hx hb dX10_putOnTape_21 rfl (lv_at hl 1 rfl) ?_
  refine va_get (D := (dC, dI)) (ci := 8) (v := .int 12) (C := RX10) (T := TX10) (N := 14) hx hb hts iw_X10_putOnTape_X10 hown hK hP 0 rfl rfl 1 (by decide) (hts (.fieldLink RX10 13 "HungFloors" "taped" "I") (by decide +kernel)) (fun _ h9 => h9) rfl dX10_putOnTape_22 ?_
  refine lv_iload_n hx hb dX10_putOnTape_25 rfl (lv_at hl 2 rfl) ?_
  refine lv_iload_n hx hb dX10_putOnTape_26 rfl (lv_at hl 0 rfl) ?_
  refine lv_ishr hx hb dX10_putOnTape_27 ?_
  obtain ⟨b_3, eb_3⟩ : ∃ y : Int32, ((p1 >>> (24 &&& 31))).toInt8.toInt32 = y := ⟨_, rfl⟩
  refine lv_i2b (v := b_3) hx hb dX10_putOnTape_28 eb_3 ?_
  refine va_bast hx hb hK hP hD hS 1 0 rfl rfl (by unfold vp_in; decide) dX10_putOnTape_29 (fun H locs hP hD hS => ?_)
  obtain ⟨f_4, hP, hD⟩ : ∃ f_4 : Nat → Int32, va_P (dC, dI) vwCl [(h0, .inr (8, [.ref h1, .int 12, .ref h2, .ref h3, .ref h4, .ref h5, .int 0, .ref h6, .ref h7, .ref h8, .ref h9, .ref h10, .ref h11, .int 0])), (h1, .inl (k12, 1600, .inl f_4))] H ∧ va_D A [(h0, .inr (8, [.ref h1, .int 12, .ref h2, .ref h3, .ref h4, .ref h5, .int 0, .ref h6, .ref h7, .ref h8, .ref h9, .ref h10, .ref h11, .int 0])), (h1, .inl (k12, 1600, .inl f_4))] := ⟨_, hP, hD⟩
  refine lv_aload_n hx hb dX10_putOnTape_30 rfl (lv_at hl 1 rfl) ?_
  refine lv_dup hx hb dX10_putOnTape_31 rfl ?_
  refine va_get (D := (dC, dI)) (ci := 8) (v := .int 12) (C := RX10) (T := TX10) (N := 14) hx hb hts iw_X10_putOnTape_X10 hown hK hP 0 rfl rfl 1 (by decide) (hts (.fieldLink RX10 13 "HungFloors" "taped" "I") (by decide +kernel)) (fun _ h9 => h9) rfl dX10_putOnTape_32 ?_
  refine lv_iconst (v := 1) hx hb dX10_putOnTape_35 (by decide) ?_
  refine lv_iadd hx hb dX10_putOnTape_36 ?_
  refine lv_topi (fun z_5 ez_5 => ?_)
  obtain rfl : z_5 = (13 : Int32) := ez_5.trans (by decide)
  refine va_put (D := (dC, dI)) (ci := 8) (v := .int 13) (ty := .int) (C := RX10) (T := TX10) (N := 14) hx hb hts iw_X10_putOnTape_X10 tyX10 tyX10_ok nmX10 hown hK hP hD hS 0 rfl rfl 1 (by decide) (hts (.fieldLink RX10 13 "HungFloors" "taped" "I") (by decide +kernel)) (fun _ h9 => h9) rfl (by decide +kernel) rfl rfl (Nat.le_of_ble_eq_true rfl) dX10_putOnTape_37 (fun H locs hP hD hS => ?_)
  have hP : va_P (dC, dI) vwCl [(h0, .inr (8, [.ref h1, .int 13, .ref h2, .ref h3, .ref h4, .ref h5, .int 0, .ref h6, .ref h7, .ref h8, .ref h9, .ref h10, .ref h11, .int 0])), (h1, .inl (k12, 1600, .inl f_4))] H := hP
  have hD : va_D A [(h0, .inr (8, [.ref h1, .int 13, .ref h2, .ref h3, .ref h4, .ref h5, .int 0, .ref h6, .ref h7, .ref h8, .ref h9, .ref h10, .ref h11, .int 0])), (h1, .inl (k12, 1600, .inl f_4))] := hD
  refine lv_iinc (v := 16) (lv' := [(2, .int 16), (0, .ref h0), (1, .int p1)]) hx hb dX10_putOnTape_40 hl (k := 0) rfl (by decide) (by decide) rfl (fun ls hl => ?_)
  refine lv_goto (tgt := 3) hx hb dX10_putOnTape_43 (by decide) ?_
  refine lv_iload_n hx hb dX10_putOnTape_3 rfl (lv_at hl 0 rfl) ?_
  refine lv_if_lt (tgt := 46) hx hb dX10_putOnTape_4 (by decide) (fun c_6 => absurd c_6 (by decide)) (fun c_6 => ?_)
  refine lv_aload_n hx hb dX10_putOnTape_7 rfl (lv_at hl 1 rfl) ?_
  refine va_get (D := (dC, dI)) (ci := 8) (v := .int 13) (C := RX10) (T := TX10) (N := 14) hx hb hts iw_X10_putOnTape_X10 hown hK hP 0 rfl rfl 1 (by decide) (hts (.fieldLink RX10 13 "HungFloors" "taped" "I") (by decide +kernel)) (fun _ h9 => h9) rfl dX10_putOnTape_8 ?_
  refine lv_sipush (v := 1600) hx hb dX10_putOnTape_11 (by decide) ?_
  refine lv_icmp_ge (tgt := 40) hx hb dX10_putOnTape_14 (by decide) (fun c_7 => absurd c_7 (by decide)) (fun c_7 => ?_)
  refine lv_aload_n hx hb dX10_putOnTape_17 rfl (lv_at hl 1 rfl) ?_
  refine va_get (D := (dC, dI)) (ci := 8) (v := .ref h1) (C := RX10) (T := TX10) (N := 14) hx hb hts iw_X10_putOnTape_X10 hown hK hP 0 rfl rfl 0 (by decide) (hts (.fieldLink RX10 9 "HungFloors" "tape" "[B") (by decide +kernel)) (fun _ h9 => h9) rfl dX10_putOnTape_18 ?_
  refine lv_aload_n hx hb dX10_putOnTape_21 rfl (lv_at hl 1 rfl) ?_
  refine va_get (D := (dC, dI)) (ci := 8) (v := .int 13) (C := RX10) (T := TX10) (N := 14) hx hb hts iw_X10_putOnTape_X10 hown hK hP 0 rfl rfl 1 (by decide) (hts (.fieldLink RX10 13 "HungFloors" "taped" "I") (by decide +kernel)) (fun _ h9 => h9) rfl dX10_putOnTape_22 ?_
  refine lv_iload_n hx hb dX10_putOnTape_25 rfl (lv_at hl 2 rfl) ?_
  refine lv_iload_n hx hb dX10_putOnTape_26 rfl (lv_at hl 0 rfl) ?_
  refine lv_ishr hx hb dX10_putOnTape_27 ?_
  obtain ⟨b_8, eb_8⟩ : ∃ y : Int32, ((p1 >>> (16 &&& 31))).toInt8.toInt32 = y := ⟨_, rfl⟩
  refine lv_i2b (v := b_8) hx hb dX10_putOnTape_28 eb_8 ?_
  refine va_bast hx hb hK hP hD hS 1 0 rfl rfl (by unfold vp_in; decide) dX10_putOnTape_29 (fun H locs hP hD hS => ?_)
  obtain ⟨f_9, hP, hD⟩ : ∃ f_9 : Nat → Int32, va_P (dC, dI) vwCl [(h0, .inr (8, [.ref h1, .int 13, .ref h2, .ref h3, .ref h4, .ref h5, .int 0, .ref h6, .ref h7, .ref h8, .ref h9, .ref h10, .ref h11, .int 0])), (h1, .inl (k12, 1600, .inl f_9))] H ∧ va_D A [(h0, .inr (8, [.ref h1, .int 13, .ref h2, .ref h3, .ref h4, .ref h5, .int 0, .ref h6, .ref h7, .ref h8, .ref h9, .ref h10, .ref h11, .int 0])), (h1, .inl (k12, 1600, .inl f_9))] := ⟨_, hP, hD⟩
  refine lv_aload_n hx hb dX10_putOnTape_30 rfl (lv_at hl 1 rfl) ?_
  refine lv_dup hx hb dX10_putOnTape_31 rfl ?_
  refine va_get (D := (dC, dI)) (ci := 8) (v := .int 13) (C := RX10) (T := TX10) (N := 14) hx hb hts iw_X10_putOnTape_X10 hown hK hP 0 rfl rfl 1 (by decide) (hts (.fieldLink RX10 13 "HungFloors" "taped" "I") (by decide +kernel)) (fun _ h9 => h9) rfl dX10_putOnTape_32 ?_
  refine lv_iconst (v := 1) hx hb dX10_putOnTape_35 (by decide) ?_
  refine lv_iadd hx hb dX10_putOnTape_36 ?_
  refine lv_topi (fun z_10 ez_10 => ?_)
  obtain rfl : z_10 = (14 : Int32) := ez_10.trans (by decide)
  refine va_put (D := (dC, dI)) (ci := 8) (v := .int 14) (ty := .int) (C := RX10) (T := TX10) (N := 14) hx hb hts iw_X10_putOnTape_X10 tyX10 tyX10_ok nmX10 hown hK hP hD hS 0 rfl rfl 1 (by decide) (hts (.fieldLink RX10 13 "HungFloors" "taped" "I") (by decide +kernel)) (fun _ h9 => h9) rfl (by decide +kernel) rfl rfl (Nat.le_of_ble_eq_true rfl) dX10_putOnTape_37 (fun H locs hP hD hS => ?_)
  have hP : va_P (dC, dI) vwCl [(h0, .inr (8, [.ref h1, .int 14, .ref h2, .ref h3, .ref h4, .ref h5, .int 0, .ref h6, .ref h7, .ref h8, .ref h9, .ref h10, .ref h11, .int 0])), (h1, .inl (k12, 1600, .inl f_9))] H := hP
  have hD : va_D A [(h0, .inr (8, [.ref h1, .int 14, .ref h2, .ref h3, .ref h4, .ref h5, .int 0, .ref h6, .ref h7, .ref h8, .ref h9, .ref h10, .ref h11, .int 0])), (h1, .inl (k12, 1600, .inl f_9))] := hD
  refine lv_iinc (v := 8) (lv' := [(2, .int 8), (0, .ref h0), (1, .int p1)]) hx hb dX10_putOnTape_40 hl (k := 0) rfl (by decide) (by decide) rfl (fun ls hl => ?_)
  refine lv_goto (tgt := 3) hx hb dX10_putOnTape_43 (by decide) ?_
  refine lv_iload_n hx hb dX10_putOnTape_3 rfl (lv_at hl 0 rfl) ?_
  refine lv_if_lt (tgt := 46) hx hb dX10_putOnTape_4 (by decide) (fun c_11 => absurd c_11 (by decide)) (fun c_11 => ?_)
  refine lv_aload_n hx hb dX10_putOnTape_7 rfl (lv_at hl 1 rfl) ?_
  refine va_get (D := (dC, dI)) (ci := 8) (v := .int 14) (C := RX10) (T := TX10) (N := 14) hx hb hts iw_X10_putOnTape_X10 hown hK hP 0 rfl rfl 1 (by decide) (hts (.fieldLink RX10 13 "HungFloors" "taped" "I") (by decide +kernel)) (fun _ h9 => h9) rfl dX10_putOnTape_8 ?_
  refine lv_sipush (v := 1600) hx hb dX10_putOnTape_11 (by decide) ?_
  refine lv_icmp_ge (tgt := 40) hx hb dX10_putOnTape_14 (by decide) (fun c_12 => absurd c_12 (by decide)) (fun c_12 => ?_)
  refine lv_aload_n hx hb dX10_putOnTape_17 rfl (lv_at hl 1 rfl) ?_
  refine va_get (D := (dC, dI)) (ci := 8) (v := .ref h1) (C := RX10) (T := TX10) (N := 14) hx hb hts iw_X10_putOnTape_X10 hown hK hP 0 rfl rfl 0 (by decide) (hts (.fieldLink RX10 9 "HungFloors" "tape" "[B") (by decide +kernel)) (fun _ h9 => h9) rfl dX10_putOnTape_18 ?_
  refine lv_aload_n hx hb dX10_putOnTape_21 rfl (lv_at hl 1 rfl) ?_
  refine va_get (D := (dC, dI)) (ci := 8) (v := .int 14) (C := RX10) (T := TX10) (N := 14) hx hb hts iw_X10_putOnTape_X10 hown hK hP 0 rfl rfl 1 (by decide) (hts (.fieldLink RX10 13 "HungFloors" "taped" "I") (by decide +kernel)) (fun _ h9 => h9) rfl dX10_putOnTape_22 ?_
  refine lv_iload_n hx hb dX10_putOnTape_25 rfl (lv_at hl 2 rfl) ?_
  refine lv_iload_n hx hb dX10_putOnTape_26 rfl (lv_at hl 0 rfl) ?_
  refine lv_ishr hx hb dX10_putOnTape_27 ?_
  obtain ⟨b_13, eb_13⟩ : ∃ y : Int32, ((p1 >>> (8 &&& 31))).toInt8.toInt32 = y := ⟨_, rfl⟩
  refine lv_i2b (v := b_13) hx hb dX10_putOnTape_28 eb_13 ?_
  refine va_bast hx hb hK hP hD hS 1 0 rfl rfl (by unfold vp_in; decide) dX10_putOnTape_29 (fun H locs hP hD hS => ?_)
  obtain ⟨f_14, hP, hD⟩ : ∃ f_14 : Nat → Int32, va_P (dC, dI) vwCl [(h0, .inr (8, [.ref h1, .int 14, .ref h2, .ref h3, .ref h4, .ref h5, .int 0, .ref h6, .ref h7, .ref h8, .ref h9, .ref h10, .ref h11, .int 0])), (h1, .inl (k12, 1600, .inl f_14))] H ∧ va_D A [(h0, .inr (8, [.ref h1, .int 14, .ref h2, .ref h3, .ref h4, .ref h5, .int 0, .ref h6, .ref h7, .ref h8, .ref h9, .ref h10, .ref h11, .int 0])), (h1, .inl (k12, 1600, .inl f_14))] := ⟨_, hP, hD⟩
  refine lv_aload_n hx hb dX10_putOnTape_30 rfl (lv_at hl 1 rfl) ?_
  refine lv_dup hx hb dX10_putOnTape_31 rfl ?_
  refine va_get (D := (dC, dI)) (ci := 8) (v := .int 14) (C := RX10) (T := TX10) (N := 14) hx hb hts iw_X10_putOnTape_X10 hown hK hP 0 rfl rfl 1 (by decide) (hts (.fieldLink RX10 13 "HungFloors" "taped" "I") (by decide +kernel)) (fun _ h9 => h9) rfl dX10_putOnTape_32 ?_
  refine lv_iconst (v := 1) hx hb dX10_putOnTape_35 (by decide) ?_
  refine lv_iadd hx hb dX10_putOnTape_36 ?_
  refine lv_topi (fun z_15 ez_15 => ?_)
  obtain rfl : z_15 = (15 : Int32) := ez_15.trans (by decide)
  refine va_put (D := (dC, dI)) (ci := 8) (v := .int 15) (ty := .int) (C := RX10) (T := TX10) (N := 14) hx hb hts iw_X10_putOnTape_X10 tyX10 tyX10_ok nmX10 hown hK hP hD hS 0 rfl rfl 1 (by decide) (hts (.fieldLink RX10 13 "HungFloors" "taped" "I") (by decide +kernel)) (fun _ h9 => h9) rfl (by decide +kernel) rfl rfl (Nat.le_of_ble_eq_true rfl) dX10_putOnTape_37 (fun H locs hP hD hS => ?_)
  have hP : va_P (dC, dI) vwCl [(h0, .inr (8, [.ref h1, .int 15, .ref h2, .ref h3, .ref h4, .ref h5, .int 0, .ref h6, .ref h7, .ref h8, .ref h9, .ref h10, .ref h11, .int 0])), (h1, .inl (k12, 1600, .inl f_14))] H := hP
  have hD : va_D A [(h0, .inr (8, [.ref h1, .int 15, .ref h2, .ref h3, .ref h4, .ref h5, .int 0, .ref h6, .ref h7, .ref h8, .ref h9, .ref h10, .ref h11, .int 0])), (h1, .inl (k12, 1600, .inl f_14))] := hD
  refine lv_iinc (v := 0) (lv' := [(2, .int 0), (0, .ref h0), (1, .int p1)]) hx hb dX10_putOnTape_40 hl (k := 0) rfl (by decide) (by decide) rfl (fun ls hl => ?_)
  refine lv_goto (tgt := 3) hx hb dX10_putOnTape_43 (by decide) ?_
  refine lv_iload_n hx hb dX10_putOnTape_3 rfl (lv_at hl 0 rfl) ?_
  refine lv_if_lt (tgt := 46) hx hb dX10_putOnTape_4 (by decide) (fun c_16 => absurd c_16 (by decide)) (fun c_16 => ?_)
  refine lv_aload_n hx hb dX10_putOnTape_7 rfl (lv_at hl 1 rfl) ?_
  refine va_get (D := (dC, dI)) (ci := 8) (v := .int 15) (C := RX10) (T := TX10) (N := 14) hx hb hts iw_X10_putOnTape_X10 hown hK hP 0 rfl rfl 1 (by decide) (hts (.fieldLink RX10 13 "HungFloors" "taped" "I") (by decide +kernel)) (fun _ h9 => h9) rfl dX10_putOnTape_8 ?_
  refine lv_sipush (v := 1600) hx hb dX10_putOnTape_11 (by decide) ?_
  refine lv_icmp_ge (tgt := 40) hx hb dX10_putOnTape_14 (by decide) (fun c_17 => absurd c_17 (by decide)) (fun c_17 => ?_)
  refine lv_aload_n hx hb dX10_putOnTape_17 rfl (lv_at hl 1 rfl) ?_
  refine va_get (D := (dC, dI)) (ci := 8) (v := .ref h1) (C := RX10) (T := TX10) (N := 14) hx hb hts iw_X10_putOnTape_X10 hown hK hP 0 rfl rfl 0 (by decide) (hts (.fieldLink RX10 9 "HungFloors" "tape" "[B") (by decide +kernel)) (fun _ h9 => h9) rfl dX10_putOnTape_18 ?_
  refine lv_aload_n hx hb dX10_putOnTape_21 rfl (lv_at hl 1 rfl) ?_
  refine va_get (D := (dC, dI)) (ci := 8) (v := .int 15) (C := RX10) (T := TX10) (N := 14) hx hb hts iw_X10_putOnTape_X10 hown hK hP 0 rfl rfl 1 (by decide) (hts (.fieldLink RX10 13 "HungFloors" "taped" "I") (by decide +kernel)) (fun _ h9 => h9) rfl dX10_putOnTape_22 ?_
  refine lv_iload_n hx hb dX10_putOnTape_25 rfl (lv_at hl 2 rfl) ?_
  refine lv_iload_n hx hb dX10_putOnTape_26 rfl (lv_at hl 0 rfl) ?_
  refine lv_ishr hx hb dX10_putOnTape_27 ?_
  obtain ⟨b_18, eb_18⟩ : ∃ y : Int32, ((p1 >>> (0 &&& 31))).toInt8.toInt32 = y := ⟨_, rfl⟩
  refine lv_i2b (v := b_18) hx hb dX10_putOnTape_28 eb_18 ?_
  refine va_bast hx hb hK hP hD hS 1 0 rfl rfl (by unfold vp_in; decide) dX10_putOnTape_29 (fun H locs hP hD hS => ?_)
  obtain ⟨f_19, hP, hD⟩ : ∃ f_19 : Nat → Int32, va_P (dC, dI) vwCl [(h0, .inr (8, [.ref h1, .int 15, .ref h2, .ref h3, .ref h4, .ref h5, .int 0, .ref h6, .ref h7, .ref h8, .ref h9, .ref h10, .ref h11, .int 0])), (h1, .inl (k12, 1600, .inl f_19))] H ∧ va_D A [(h0, .inr (8, [.ref h1, .int 15, .ref h2, .ref h3, .ref h4, .ref h5, .int 0, .ref h6, .ref h7, .ref h8, .ref h9, .ref h10, .ref h11, .int 0])), (h1, .inl (k12, 1600, .inl f_19))] := ⟨_, hP, hD⟩
  refine lv_aload_n hx hb dX10_putOnTape_30 rfl (lv_at hl 1 rfl) ?_
  refine lv_dup hx hb dX10_putOnTape_31 rfl ?_
  refine va_get (D := (dC, dI)) (ci := 8) (v := .int 15) (C := RX10) (T := TX10) (N := 14) hx hb hts iw_X10_putOnTape_X10 hown hK hP 0 rfl rfl 1 (by decide) (hts (.fieldLink RX10 13 "HungFloors" "taped" "I") (by decide +kernel)) (fun _ h9 => h9) rfl dX10_putOnTape_32 ?_
  refine lv_iconst (v := 1) hx hb dX10_putOnTape_35 (by decide) ?_
  refine lv_iadd hx hb dX10_putOnTape_36 ?_
  refine lv_topi (fun z_20 ez_20 => ?_)
  obtain rfl : z_20 = (16 : Int32) := ez_20.trans (by decide)
  refine va_put (D := (dC, dI)) (ci := 8) (v := .int 16) (ty := .int) (C := RX10) (T := TX10) (N := 14) hx hb hts iw_X10_putOnTape_X10 tyX10 tyX10_ok nmX10 hown hK hP hD hS 0 rfl rfl 1 (by decide) (hts (.fieldLink RX10 13 "HungFloors" "taped" "I") (by decide +kernel)) (fun _ h9 => h9) rfl (by decide +kernel) rfl rfl (Nat.le_of_ble_eq_true rfl) dX10_putOnTape_37 (fun H locs hP hD hS => ?_)
  have hP : va_P (dC, dI) vwCl [(h0, .inr (8, [.ref h1, .int 16, .ref h2, .ref h3, .ref h4, .ref h5, .int 0, .ref h6, .ref h7, .ref h8, .ref h9, .ref h10, .ref h11, .int 0])), (h1, .inl (k12, 1600, .inl f_19))] H := hP
  have hD : va_D A [(h0, .inr (8, [.ref h1, .int 16, .ref h2, .ref h3, .ref h4, .ref h5, .int 0, .ref h6, .ref h7, .ref h8, .ref h9, .ref h10, .ref h11, .int 0])), (h1, .inl (k12, 1600, .inl f_19))] := hD
  refine lv_iinc (v := (-8)) (lv' := [(2, .int (-8)), (0, .ref h0), (1, .int p1)]) hx hb dX10_putOnTape_40 hl (k := 0) rfl (by decide) (by decide) rfl (fun ls hl => ?_)
  refine lv_goto (tgt := 3) hx hb dX10_putOnTape_43 (by decide) ?_
  refine lv_iload_n hx hb dX10_putOnTape_3 rfl (lv_at hl 0 rfl) ?_
  refine lv_if_lt (tgt := 46) hx hb dX10_putOnTape_4 (by decide) (fun c_21 => ?_) (fun c_21 => absurd c_21 (by decide))
  have hP9 := hP.sub (ws' := [(h0, .inr (8, [.ref h1, .int 16, .ref h2, .ref h3, .ref h4, .ref h5, .int 0, .ref h6, .ref h7, .ref h8, .ref h9, .ref h10, .ref h11, .int 0])), (h1, .inl (k12, 1600, .inl f_19))]) [0, 1] rfl
  have hD9 := hD.sub (ws' := [(h0, .inr (8, [.ref h1, .int 16, .ref h2, .ref h3, .ref h4, .ref h5, .int 0, .ref h6, .ref h7, .ref h8, .ref h9, .ref h10, .ref h11, .int 0])), (h1, .inl (k12, 1600, .inl f_19))]) [0, 1] (by decide) rfl
  have hK9 := hK.sub (tys' := []) [] rfl
  exact W.vret hx hb hr (fun t ht hW => ⟨⟨(), rfl, trivial, ⟨f_19, by rw [ht]; exact hP9, va_K.moved hW.alike hK9, hD9⟩⟩, hS.F ht⟩) hS.2.2 dX10_putOnTape_46
set_option maxHeartbeats 4000000 in
set_option maxRecDepth 100000 in
theorem c_X10_putOnTape_5 (l : Launch) (dC : Nat → ClassId) (dI : Nat → Nat → Nat) (kE : Nat) (h0 : Nat) (h1 : Nat) (h2 : Nat) (h3 : Nat) (h4 : Nat) (h5 : Nat) (h6 : Nat) (h7 : Nat) (h8 : Nat) (h9 : Nat) (h10 : Nat) (h11 : Nat) (k12 : ClassId) (f13 : Nat → Int32) (sz : Nat) (p1 : Int32) : Met l yX10_putOnTape wsX10_putOnTape ({ frames := 0, cells := 0, slots := 0, locals := 0 }) (va_Pc [.ref h0, .int p1] (fun U => U.heap.size = sz ∧ va_P (dC, dI) vwCl [(h0, .inr (8, [.ref h1, .int 16, .ref h2, .ref h3, .ref h4, .ref h5, .int 0, .ref h6, .ref h7, .ref h8, .ref h9, .ref h10, .ref h11, .int 0])), (h1, .inl (k12, 1600, .inl f13))] U.heap ∧ va_K (dC, dI) vwCl [(k12, .byte)] U ∧ va_D (fun _ => True) [(h0, .inr (8, [.ref h1, .int 16, .ref h2, .ref h3, .ref h4, .ref h5, .int 0, .ref h6, .ref h7, .ref h8, .ref h9, .ref h10, .ref h11, .int 0])), (h1, .inl (k12, 1600, .inl f13))] ∧ ex_X kE (va_A [(h0, .inr (8, [.ref h1, .int 16, .ref h2, .ref h3, .ref h4, .ref h5, .int 0, .ref h6, .ref h7, .ref h8, .ref h9, .ref h10, .ref h11, .int 0])), (h1, .inl (k12, 1600, .inl f13))] sz) U)) (va_Qv (fun _ : Unit => True) (fun (_ : Unit) (t : State) => ∃ (x0 : (Nat → Int32)), va_P (dC, dI) vwCl [(h0, .inr (8, [.ref h1, .int 20, .ref h2, .ref h3, .ref h4, .ref h5, .int 0, .ref h6, .ref h7, .ref h8, .ref h9, .ref h10, .ref h11, .int 0])), (h1, .inl (k12, 1600, .inl x0))] t.heap ∧ va_K (dC, dI) vwCl [] t ∧ va_D (va_A [(h0, .inr (8, [.ref h1, .int 16, .ref h2, .ref h3, .ref h4, .ref h5, .int 0, .ref h6, .ref h7, .ref h8, .ref h9, .ref h10, .ref h11, .int 0])), (h1, .inl (k12, 1600, .inl f13))] sz) [(h0, .inr (8, [.ref h1, .int 20, .ref h2, .ref h3, .ref h4, .ref h5, .int 0, .ref h6, .ref h7, .ref h8, .ref h9, .ref h10, .ref h11, .int 0])), (h1, .inl (k12, 1600, .inl x0))]) (va_A [(h0, .inr (8, [.ref h1, .int 16, .ref h2, .ref h3, .ref h4, .ref h5, .int 0, .ref h6, .ref h7, .ref h8, .ref h9, .ref h10, .ref h11, .int 0])), (h1, .inl (k12, 1600, .inl f13))] sz)) 0 0 (va_A [(h0, .inr (8, [.ref h1, .int 16, .ref h2, .ref h3, .ref h4, .ref h5, .int 0, .ref h6, .ref h7, .ref h8, .ref h9, .ref h10, .ref h11, .int 0])), (h1, .inl (k12, 1600, .inl f13))] sz) := by
  refine Met.ofW (cc := cX10_putOnTape) (maxL := 3) (ret := none) (by decide) rfl ?_
  intro p e s m args below meth c s₁ B hml hv
  obtain ⟨rfl, hsz, hP, hK, hD0, hE⟩ := hv
  have hx := B.exec
  have hb := B.bytes
  have hr := B.returns
  have hts := atoms_spec (ws := wsX10_putOnTape) B.pre
  have hown : s.vm.findClass RX10 = some m.cls := findClass_of_methodNamed B.named
  have hlocks := B.notSynchronized
  subst hsz
  have hD := hD0.self (sz := s.heap.size)
  generalize hAe : va_A [(h0, .inr (8, [.ref h1, .int 16, .ref h2, .ref h3, .ref h4, .ref h5, .int 0, .ref h6, .ref h7, .ref h8, .ref h9, .ref h10, .ref h11, .int 0])), (h1, .inl (k12, 1600, .inl f13))] s.heap.size = A at hD hE ⊢
  have hA : ∀ q : Nat, s.heap.size ≤ q → A q := fun q h => by rw [← hAe]; exact Or.inr h
  have hS : va_S A s.heap s.heap [] := va_S.rf
  have hl := lv_entry ([.ref h0, .int p1]) (n := 3) (Nat.le_of_ble_eq_true rfl)
  rw [lg_entry_eq]
  generalize (lg_sl ([.ref h0, .int p1]) ++ List.replicate (3 - (lg_sl ([.ref h0, .int p1])).length) Slot.unset).toArray = ls at hl ⊢
  have hl : lv_has ls 3 [(0, .ref h0), (1, .int p1)] := hl
  have hP : va_P (dC, dI) vwCl [(h0, .inr (8, [.ref h1, .int 16, .ref h2, .ref h3, .ref h4, .ref h5, .int 0, .ref h6, .ref h7, .ref h8, .ref h9, .ref h10, .ref h11, .int 0])), (h1, .inl (k12, 1600, .inl f13))] s.heap := hP
  refine lv_bipush (v := 24) hx hb dX10_putOnTape_0 (by decide) ?_
  refine lv_istore_n (lv' := [(2, .int 24), (0, .ref h0), (1, .int p1)]) hx hb dX10_putOnTape_2 rfl hl (by decide) rfl (fun ls hl => ?_)
  refine lv_iload_n hx hb dX10_putOnTape_3 rfl (lv_at hl 0 rfl) ?_
  refine lv_if_lt (tgt := 46) hx hb dX10_putOnTape_4 (by decide) (fun c_1 => absurd c_1 (by decide)) (fun c_1 => ?_)
  refine lv_aload_n hx hb dX10_putOnTape_7 rfl (lv_at hl 1 rfl) ?_
  refine va_get (D := (dC, dI)) (ci := 8) (v := .int 16) (C := RX10) (T := TX10) (N := 14) hx hb hts iw_X10_putOnTape_X10 hown hK hP 0 rfl rfl 1 (by decide) (hts (.fieldLink RX10 13 "HungFloors" "taped" "I") (by decide +kernel)) (fun _ h9 => h9) rfl dX10_putOnTape_8 ?_
  refine lv_sipush (v := 1600) hx hb dX10_putOnTape_11 (by decide) ?_
  refine lv_icmp_ge (tgt := 40) hx hb dX10_putOnTape_14 (by decide) (fun c_2 => absurd c_2 (by decide)) (fun c_2 => ?_)
  refine lv_aload_n hx hb dX10_putOnTape_17 rfl (lv_at hl 1 rfl) ?_
  refine va_get (D := (dC, dI)) (ci := 8) (v := .ref h1) (C := RX10) (T := TX10) (N := 14) hx hb hts iw_X10_putOnTape_X10 hown hK hP 0 rfl rfl 0 (by decide) (hts (.fieldLink RX10 9 "HungFloors" "tape" "[B") (by decide +kernel)) (fun _ h9 => h9) rfl dX10_putOnTape_18 ?_
  refine lv_aload_n hx hb dX10_putOnTape_21 rfl (lv_at hl 1 rfl) ?_
  refine va_get (D := (dC, dI)) (ci := 8) (v := .int 16) (C := RX10) (T := TX10) (N := 14) hx hb hts iw_X10_putOnTape_X10 hown hK hP 0 rfl rfl 1 (by decide) (hts (.fieldLink RX10 13 "HungFloors" "taped" "I") (by decide +kernel)) (fun _ h9 => h9) rfl dX10_putOnTape_22 ?_
  refine lv_iload_n hx hb dX10_putOnTape_25 rfl (lv_at hl 2 rfl) ?_
  refine lv_iload_n hx hb dX10_putOnTape_26 rfl (lv_at hl 0 rfl) ?_
  refine lv_ishr hx hb dX10_putOnTape_27 ?_
  obtain ⟨b_3, eb_3⟩ : ∃ y : Int32, ((p1 >>> (24 &&& 31))).toInt8.toInt32 = y := ⟨_, rfl⟩
  refine lv_i2b (v := b_3) hx hb dX10_putOnTape_28 eb_3 ?_
  refine va_bast hx hb hK hP hD hS 1 0 rfl rfl (by unfold vp_in; decide) dX10_putOnTape_29 (fun H locs hP hD hS => ?_)
  obtain ⟨f_4, hP, hD⟩ : ∃ f_4 : Nat → Int32, va_P (dC, dI) vwCl [(h0, .inr (8, [.ref h1, .int 16, .ref h2, .ref h3, .ref h4, .ref h5, .int 0, .ref h6, .ref h7, .ref h8, .ref h9, .ref h10, .ref h11, .int 0])), (h1, .inl (k12, 1600, .inl f_4))] H ∧ va_D A [(h0, .inr (8, [.ref h1, .int 16, .ref h2, .ref h3, .ref h4, .ref h5, .int 0, .ref h6, .ref h7, .ref h8, .ref h9, .ref h10, .ref h11, .int 0])), (h1, .inl (k12, 1600, .inl f_4))] := ⟨_, hP, hD⟩
  refine lv_aload_n hx hb dX10_putOnTape_30 rfl (lv_at hl 1 rfl) ?_
  refine lv_dup hx hb dX10_putOnTape_31 rfl ?_
  refine va_get (D := (dC, dI)) (ci := 8) (v := .int 16) (C := RX10) (T := TX10) (N := 14) hx hb hts iw_X10_putOnTape_X10 hown hK hP 0 rfl rfl 1 (by decide) (hts (.fieldLink RX10 13 "HungFloors" "taped" "I") (by decide +kernel)) (fun _ h9 => h9) rfl dX10_putOnTape_32 ?_
  refine lv_iconst (v := 1) hx hb dX10_putOnTape_35 (by decide) ?_
  refine lv_iadd hx hb dX10_putOnTape_36 ?_
  refine lv_topi (fun z_5 ez_5 => ?_)
  obtain rfl : z_5 = (17 : Int32) := ez_5.trans (by decide)
  refine va_put (D := (dC, dI)) (ci := 8) (v := .int 17) (ty := .int) (C := RX10) (T := TX10) (N := 14) hx hb hts iw_X10_putOnTape_X10 tyX10 tyX10_ok nmX10 hown hK hP hD hS 0 rfl rfl 1 (by decide) (hts (.fieldLink RX10 13 "HungFloors" "taped" "I") (by decide +kernel)) (fun _ h9 => h9) rfl (by decide +kernel) rfl rfl (Nat.le_of_ble_eq_true rfl) dX10_putOnTape_37 (fun H locs hP hD hS => ?_)
  have hP : va_P (dC, dI) vwCl [(h0, .inr (8, [.ref h1, .int 17, .ref h2, .ref h3, .ref h4, .ref h5, .int 0, .ref h6, .ref h7, .ref h8, .ref h9, .ref h10, .ref h11, .int 0])), (h1, .inl (k12, 1600, .inl f_4))] H := hP
  have hD : va_D A [(h0, .inr (8, [.ref h1, .int 17, .ref h2, .ref h3, .ref h4, .ref h5, .int 0, .ref h6, .ref h7, .ref h8, .ref h9, .ref h10, .ref h11, .int 0])), (h1, .inl (k12, 1600, .inl f_4))] := hD
  refine lv_iinc (v := 16) (lv' := [(2, .int 16), (0, .ref h0), (1, .int p1)]) hx hb dX10_putOnTape_40 hl (k := 0) rfl (by decide) (by decide) rfl (fun ls hl => ?_)
  refine lv_goto (tgt := 3) hx hb dX10_putOnTape_43 (by decide) ?_
  refine lv_iload_n hx hb dX10_putOnTape_3 rfl (lv_at hl 0 rfl) ?_
  refine lv_if_lt (tgt := 46) hx hb dX10_putOnTape_4 (by decide) (fun c_6 => absurd c_6 (by decide)) (fun c_6 => ?_)
  refine lv_aload_n hx hb dX10_putOnTape_7 rfl (lv_at hl 1 rfl) ?_
  refine va_get (D := (dC, dI)) (ci := 8) (v := .int 17) (C := RX10) (T := TX10) (N := 14) hx hb hts iw_X10_putOnTape_X10 hown hK hP 0 rfl rfl 1 (by decide) (hts (.fieldLink RX10 13 "HungFloors" "taped" "I") (by decide +kernel)) (fun _ h9 => h9) rfl dX10_putOnTape_8 ?_
  refine lv_sipush (v := 1600) hx hb dX10_putOnTape_11 (by decide) ?_
  refine lv_icmp_ge (tgt := 40) hx hb dX10_putOnTape_14 (by decide) (fun c_7 => absurd c_7 (by decide)) (fun c_7 => ?_)
  refine lv_aload_n hx hb dX10_putOnTape_17 rfl (lv_at hl 1 rfl) ?_
  refine va_get (D := (dC, dI)) (ci := 8) (v := .ref h1) (C := RX10) (T := TX10) (N := 14) hx hb hts iw_X10_putOnTape_X10 hown hK hP 0 rfl rfl 0 (by decide) (hts (.fieldLink RX10 9 "HungFloors" "tape" "[B") (by decide +kernel)) (fun _ h9 => h9) rfl dX10_putOnTape_18 ?_
  refine lv_aload_n hx hb dX10_putOnTape_21 rfl (lv_at hl 1 rfl) ?_
  refine va_get (D := (dC, dI)) (ci := 8) (v := .int 17) (C := RX10) (T := TX10) (N := 14) hx hb hts iw_X10_putOnTape_X10 hown hK hP 0 rfl rfl 1 (by decide) (hts (.fieldLink RX10 13 "HungFloors" "taped" "I") (by decide +kernel)) (fun _ h9 => h9) rfl dX10_putOnTape_22 ?_
  refine lv_iload_n hx hb dX10_putOnTape_25 rfl (lv_at hl 2 rfl) ?_
  refine lv_iload_n hx hb dX10_putOnTape_26 rfl (lv_at hl 0 rfl) ?_
  refine lv_ishr hx hb dX10_putOnTape_27 ?_
  obtain ⟨b_8, eb_8⟩ : ∃ y : Int32, ((p1 >>> (16 &&& 31))).toInt8.toInt32 = y := ⟨_, rfl⟩
  refine lv_i2b (v := b_8) hx hb dX10_putOnTape_28 eb_8 ?_
  refine va_bast hx hb hK hP hD hS 1 0 rfl rfl (by unfold vp_in; decide) dX10_putOnTape_29 (fun H locs hP hD hS => ?_)
  obtain ⟨f_9, hP, hD⟩ : ∃ f_9 : Nat → Int32, va_P (dC, dI) vwCl [(h0, .inr (8, [.ref h1, .int 17, .ref h2, .ref h3, .ref h4, .ref h5, .int 0, .ref h6, .ref h7, .ref h8, .ref h9, .ref h10, .ref h11, .int 0])), (h1, .inl (k12, 1600, .inl f_9))] H ∧ va_D A [(h0, .inr (8, [.ref h1, .int 17, .ref h2, .ref h3, .ref h4, .ref h5, .int 0, .ref h6, .ref h7, .ref h8, .ref h9, .ref h10, .ref h11, .int 0])), (h1, .inl (k12, 1600, .inl f_9))] := ⟨_, hP, hD⟩
  refine lv_aload_n hx hb dX10_putOnTape_30 rfl (lv_at hl 1 rfl) ?_
  refine lv_dup hx hb dX10_putOnTape_31 rfl ?_
  refine va_get (D := (dC, dI)) (ci := 8) (v := .int 17) (C := RX10) (T := TX10) (N := 14) hx hb hts iw_X10_putOnTape_X10 hown hK hP 0 rfl rfl 1 (by decide) (hts (.fieldLink RX10 13 "HungFloors" "taped" "I") (by decide +kernel)) (fun _ h9 => h9) rfl dX10_putOnTape_32 ?_
  refine lv_iconst (v := 1) hx hb dX10_putOnTape_35 (by decide) ?_
  refine lv_iadd hx hb dX10_putOnTape_36 ?_
  refine lv_topi (fun z_10 ez_10 => ?_)
  obtain rfl : z_10 = (18 : Int32) := ez_10.trans (by decide)
  refine va_put (D := (dC, dI)) (ci := 8) (v := .int 18) (ty := .int) (C := RX10) (T := TX10) (N := 14) hx hb hts iw_X10_putOnTape_X10 tyX10 tyX10_ok nmX10 hown hK hP hD hS 0 rfl rfl 1 (by decide) (hts (.fieldLink RX10 13 "HungFloors" "taped" "I") (by decide +kernel)) (fun _ h9 => h9) rfl (by decide +kernel) rfl rfl (Nat.le_of_ble_eq_true rfl) dX10_putOnTape_37 (fun H locs hP hD hS => ?_)
  have hP : va_P (dC, dI) vwCl [(h0, .inr (8, [.ref h1, .int 18, .ref h2, .ref h3, .ref h4, .ref h5, .int 0, .ref h6, .ref h7, .ref h8, .ref h9, .ref h10, .ref h11, .int 0])), (h1, .inl (k12, 1600, .inl f_9))] H := hP
  have hD : va_D A [(h0, .inr (8, [.ref h1, .int 18, .ref h2, .ref h3, .ref h4, .ref h5, .int 0, .ref h6, .ref h7, .ref h8, .ref h9, .ref h10, .ref h11, .int 0])), (h1, .inl (k12, 1600, .inl f_9))] := hD
  refine lv_iinc (v := 8) (lv' := [(2, .int 8), (0, .ref h0), (1, .int p1)]) hx hb dX10_putOnTape_40 hl (k := 0) rfl (by decide) (by decide) rfl (fun ls hl => ?_)
  refine lv_goto (tgt := 3) hx hb dX10_putOnTape_43 (by decide) ?_
  refine lv_iload_n hx hb dX10_putOnTape_3 rfl (lv_at hl 0 rfl) ?_
  refine lv_if_lt (tgt := 46) hx hb dX10_putOnTape_4 (by decide) (fun c_11 => absurd c_11 (by decide)) (fun c_11 => ?_)
  refine lv_aload_n hx hb dX10_putOnTape_7 rfl (lv_at hl 1 rfl) ?_
  refine va_get (D := (dC, dI)) (ci := 8) (v := .int 18) (C := RX10) (T := TX10) (N := 14) hx hb hts iw_X10_putOnTape_X10 hown hK hP 0 rfl rfl 1 (by decide) (hts (.fieldLink RX10 13 "HungFloors" "taped" "I") (by decide +kernel)) (fun _ h9 => h9) rfl dX10_putOnTape_8 ?_
  refine lv_sipush (v := 1600) hx hb dX10_putOnTape_11 (by decide) ?_
  refine lv_icmp_ge (tgt := 40) hx hb dX10_putOnTape_14 (by decide) (fun c_12 => absurd c_12 (by decide)) (fun c_12 => ?_)
  refine lv_aload_n hx hb dX10_putOnTape_17 rfl (lv_at hl 1 rfl) ?_
  refine va_get (D := (dC, dI)) (ci := 8) (v := .ref h1) (C := RX10) (T := TX10) (N := 14) hx hb hts iw_X10_putOnTape_X10 hown hK hP 0 rfl rfl 0 (by decide) (hts (.fieldLink RX10 9 "HungFloors" "tape" "[B") (by decide +kernel)) (fun _ h9 => h9) rfl dX10_putOnTape_18 ?_
  refine lv_aload_n hx hb dX10_putOnTape_21 rfl (lv_at hl 1 rfl) ?_
  refine va_get (D := (dC, dI)) (ci := 8) (v := .int 18) (C := RX10) (T := TX10) (N := 14) hx hb hts iw_X10_putOnTape_X10 hown hK hP 0 rfl rfl 1 (by decide) (hts (.fieldLink RX10 13 "HungFloors" "taped" "I") (by decide +kernel)) (fun _ h9 => h9) rfl dX10_putOnTape_22 ?_
  refine lv_iload_n hx hb dX10_putOnTape_25 rfl (lv_at hl 2 rfl) ?_
  refine lv_iload_n hx hb dX10_putOnTape_26 rfl (lv_at hl 0 rfl) ?_
  refine lv_ishr hx hb dX10_putOnTape_27 ?_
  obtain ⟨b_13, eb_13⟩ : ∃ y : Int32, ((p1 >>> (8 &&& 31))).toInt8.toInt32 = y := ⟨_, rfl⟩
  refine lv_i2b (v := b_13) hx hb dX10_putOnTape_28 eb_13 ?_
  refine va_bast hx hb hK hP hD hS 1 0 rfl rfl (by unfold vp_in; decide) dX10_putOnTape_29 (fun H locs hP hD hS => ?_)
  obtain ⟨f_14, hP, hD⟩ : ∃ f_14 : Nat → Int32, va_P (dC, dI) vwCl [(h0, .inr (8, [.ref h1, .int 18, .ref h2, .ref h3, .ref h4, .ref h5, .int 0, .ref h6, .ref h7, .ref h8, .ref h9, .ref h10, .ref h11, .int 0])), (h1, .inl (k12, 1600, .inl f_14))] H ∧ va_D A [(h0, .inr (8, [.ref h1, .int 18, .ref h2, .ref h3, .ref h4, .ref h5, .int 0, .ref h6, .ref h7, .ref h8, .ref h9, .ref h10, .ref h11, .int 0])), (h1, .inl (k12, 1600, .inl f_14))] := ⟨_, hP, hD⟩
  refine lv_aload_n hx hb dX10_putOnTape_30 rfl (lv_at hl 1 rfl) ?_
  refine lv_dup hx hb dX10_putOnTape_31 rfl ?_
  refine va_get (D := (dC, dI)) (ci := 8) (v := .int 18) (C := RX10) (T := TX10) (N := 14) hx hb hts iw_X10_putOnTape_X10 hown hK hP 0 rfl rfl 1 (by decide) (hts (.fieldLink RX10 13 "HungFloors" "taped" "I") (by decide +kernel)) (fun _ h9 => h9) rfl dX10_putOnTape_32 ?_
  refine lv_iconst (v := 1) hx hb dX10_putOnTape_35 (by decide) ?_
  refine lv_iadd hx hb dX10_putOnTape_36 ?_
  refine lv_topi (fun z_15 ez_15 => ?_)
  obtain rfl : z_15 = (19 : Int32) := ez_15.trans (by decide)
  refine va_put (D := (dC, dI)) (ci := 8) (v := .int 19) (ty := .int) (C := RX10) (T := TX10) (N := 14) hx hb hts iw_X10_putOnTape_X10 tyX10 tyX10_ok nmX10 hown hK hP hD hS 0 rfl rfl 1 (by decide) (hts (.fieldLink RX10 13 "HungFloors" "taped" "I") (by decide +kernel)) (fun _ h9 => h9) rfl (by decide +kernel) rfl rfl (Nat.le_of_ble_eq_true rfl) dX10_putOnTape_37 (fun H locs hP hD hS => ?_)
  have hP : va_P (dC, dI) vwCl [(h0, .inr (8, [.ref h1, .int 19, .ref h2, .ref h3, .ref h4, .ref h5, .int 0, .ref h6, .ref h7, .ref h8, .ref h9, .ref h10, .ref h11, .int 0])), (h1, .inl (k12, 1600, .inl f_14))] H := hP
  have hD : va_D A [(h0, .inr (8, [.ref h1, .int 19, .ref h2, .ref h3, .ref h4, .ref h5, .int 0, .ref h6, .ref h7, .ref h8, .ref h9, .ref h10, .ref h11, .int 0])), (h1, .inl (k12, 1600, .inl f_14))] := hD
  refine lv_iinc (v := 0) (lv' := [(2, .int 0), (0, .ref h0), (1, .int p1)]) hx hb dX10_putOnTape_40 hl (k := 0) rfl (by decide) (by decide) rfl (fun ls hl => ?_)
  refine lv_goto (tgt := 3) hx hb dX10_putOnTape_43 (by decide) ?_
  refine lv_iload_n hx hb dX10_putOnTape_3 rfl (lv_at hl 0 rfl) ?_
  refine lv_if_lt (tgt := 46) hx hb dX10_putOnTape_4 (by decide) (fun c_16 => absurd c_16 (by decide)) (fun c_16 => ?_)
  refine lv_aload_n hx hb dX10_putOnTape_7 rfl (lv_at hl 1 rfl) ?_
  refine va_get (D := (dC, dI)) (ci := 8) (v := .int 19) (C := RX10) (T := TX10) (N := 14) hx hb hts iw_X10_putOnTape_X10 hown hK hP 0 rfl rfl 1 (by decide) (hts (.fieldLink RX10 13 "HungFloors" "taped" "I") (by decide +kernel)) (fun _ h9 => h9) rfl dX10_putOnTape_8 ?_
  refine lv_sipush (v := 1600) hx hb dX10_putOnTape_11 (by decide) ?_
  refine lv_icmp_ge (tgt := 40) hx hb dX10_putOnTape_14 (by decide) (fun c_17 => absurd c_17 (by decide)) (fun c_17 => ?_)
  refine lv_aload_n hx hb dX10_putOnTape_17 rfl (lv_at hl 1 rfl) ?_
  refine va_get (D := (dC, dI)) (ci := 8) (v := .ref h1) (C := RX10) (T := TX10) (N := 14) hx hb hts iw_X10_putOnTape_X10 hown hK hP 0 rfl rfl 0 (by decide) (hts (.fieldLink RX10 9 "HungFloors" "tape" "[B") (by decide +kernel)) (fun _ h9 => h9) rfl dX10_putOnTape_18 ?_
  refine lv_aload_n hx hb dX10_putOnTape_21 rfl (lv_at hl 1 rfl) ?_
  refine va_get (D := (dC, dI)) (ci := 8) (v := .int 19) (C := RX10) (T := TX10) (N := 14) hx hb hts iw_X10_putOnTape_X10 hown hK hP 0 rfl rfl 1 (by decide) (hts (.fieldLink RX10 13 "HungFloors" "taped" "I") (by decide +kernel)) (fun _ h9 => h9) rfl dX10_putOnTape_22 ?_
  refine lv_iload_n hx hb dX10_putOnTape_25 rfl (lv_at hl 2 rfl) ?_
  refine lv_iload_n hx hb dX10_putOnTape_26 rfl (lv_at hl 0 rfl) ?_
  refine lv_ishr hx hb dX10_putOnTape_27 ?_
  obtain ⟨b_18, eb_18⟩ : ∃ y : Int32, ((p1 >>> (0 &&& 31))).toInt8.toInt32 = y := ⟨_, rfl⟩
  refine lv_i2b (v := b_18) hx hb dX10_putOnTape_28 eb_18 ?_
  refine va_bast hx hb hK hP hD hS 1 0 rfl rfl (by unfold vp_in; decide) dX10_putOnTape_29 (fun H locs hP hD hS => ?_)
  obtain ⟨f_19, hP, hD⟩ : ∃ f_19 : Nat → Int32, va_P (dC, dI) vwCl [(h0, .inr (8, [.ref h1, .int 19, .ref h2, .ref h3, .ref h4, .ref h5, .int 0, .ref h6, .ref h7, .ref h8, .ref h9, .ref h10, .ref h11, .int 0])), (h1, .inl (k12, 1600, .inl f_19))] H ∧ va_D A [(h0, .inr (8, [.ref h1, .int 19, .ref h2, .ref h3, .ref h4, .ref h5, .int 0, .ref h6, .ref h7, .ref h8, .ref h9, .ref h10, .ref h11, .int 0])), (h1, .inl (k12, 1600, .inl f_19))] := ⟨_, hP, hD⟩
  refine lv_aload_n hx hb dX10_putOnTape_30 rfl (lv_at hl 1 rfl) ?_
  refine lv_dup hx hb dX10_putOnTape_31 rfl ?_
  refine va_get (D := (dC, dI)) (ci := 8) (v := .int 19) (C := RX10) (T := TX10) (N := 14) hx hb hts iw_X10_putOnTape_X10 hown hK hP 0 rfl rfl 1 (by decide) (hts (.fieldLink RX10 13 "HungFloors" "taped" "I") (by decide +kernel)) (fun _ h9 => h9) rfl dX10_putOnTape_32 ?_
  refine lv_iconst (v := 1) hx hb dX10_putOnTape_35 (by decide) ?_
  refine lv_iadd hx hb dX10_putOnTape_36 ?_
  refine lv_topi (fun z_20 ez_20 => ?_)
  obtain rfl : z_20 = (20 : Int32) := ez_20.trans (by decide)
  refine va_put (D := (dC, dI)) (ci := 8) (v := .int 20) (ty := .int) (C := RX10) (T := TX10) (N := 14) hx hb hts iw_X10_putOnTape_X10 tyX10 tyX10_ok nmX10 hown hK hP hD hS 0 rfl rfl 1 (by decide) (hts (.fieldLink RX10 13 "HungFloors" "taped" "I") (by decide +kernel)) (fun _ h9 => h9) rfl (by decide +kernel) rfl rfl (Nat.le_of_ble_eq_true rfl) dX10_putOnTape_37 (fun H locs hP hD hS => ?_)
  have hP : va_P (dC, dI) vwCl [(h0, .inr (8, [.ref h1, .int 20, .ref h2, .ref h3, .ref h4, .ref h5, .int 0, .ref h6, .ref h7, .ref h8, .ref h9, .ref h10, .ref h11, .int 0])), (h1, .inl (k12, 1600, .inl f_19))] H := hP
  have hD : va_D A [(h0, .inr (8, [.ref h1, .int 20, .ref h2, .ref h3, .ref h4, .ref h5, .int 0, .ref h6, .ref h7, .ref h8, .ref h9, .ref h10, .ref h11, .int 0])), (h1, .inl (k12, 1600, .inl f_19))] := hD
  refine lv_iinc (v := (-8)) (lv' := [(2, .int (-8)), (0, .ref h0), (1, .int p1)]) hx hb dX10_putOnTape_40 hl (k := 0) rfl (by decide) (by decide) rfl (fun ls hl => ?_)
  refine lv_goto (tgt := 3) hx hb dX10_putOnTape_43 (by decide) ?_
  refine lv_iload_n hx hb dX10_putOnTape_3 rfl (lv_at hl 0 rfl) ?_
  refine lv_if_lt (tgt := 46) hx hb dX10_putOnTape_4 (by decide) (fun c_21 => ?_) (fun c_21 => absurd c_21 (by decide))
  have hP9 := hP.sub (ws' := [(h0, .inr (8, [.ref h1, .int 20, .ref h2, .ref h3, .ref h4, .ref h5, .int 0, .ref h6, .ref h7, .ref h8, .ref h9, .ref h10, .ref h11, .int 0])), (h1, .inl (k12, 1600, .inl f_19))]) [0, 1] rfl
  have hD9 := hD.sub (ws' := [(h0, .inr (8, [.ref h1, .int 20, .ref h2, .ref h3, .ref h4, .ref h5, .int 0, .ref h6, .ref h7, .ref h8, .ref h9, .ref h10, .ref h11, .int 0])), (h1, .inl (k12, 1600, .inl f_19))]) [0, 1] (by decide) rfl
  have hK9 := hK.sub (tys' := []) [] rfl
  exact W.vret hx hb hr (fun t ht hW => ⟨⟨(), rfl, trivial, ⟨f_19, by rw [ht]; exact hP9, va_K.moved hW.alike hK9, hD9⟩⟩, hS.F ht⟩) hS.2.2 dX10_putOnTape_46
set_option maxHeartbeats 4000000 in
set_option maxRecDepth 100000 in
theorem c_X10_feed (l : Launch) (dC : Nat → ClassId) (dI : Nat → Nat → Nat) (kE : Nat) (h0 : Nat) (h1 : Nat) (h2 : Nat) (h3 : Nat) (h4 : Nat) (h5 : Nat) (h6 : Nat) (h7 : Nat) (h8 : Nat) (h9 : Nat) (h10 : Nat) (h11 : Nat) (k12 : ClassId) (sz : Nat) (p1 : Int32) (p2 : Int32) (p3 : Int32) (p4 : Int32) (p5 : Int32) : Met l yX10_feed wsX10_feed ({ frames := 1, cells := 0, slots := 0, locals := 22 }) (va_Pc [.ref h0, .int p1, .int p2, .int p3, .int p4, .int p5] (fun U => U.heap.size = sz ∧ va_P (dC, dI) vwCl [(h0, .inr (8, [.ref h1, .int 0, .ref h2, .ref h3, .ref h4, .ref h5, .int 0, .ref h6, .ref h7, .ref h8, .ref h9, .ref h10, .ref h11, .int 0])), (h1, .inl (k12, 1600, .inl (fun _ => 0)))] U.heap ∧ va_K (dC, dI) vwCl [(k12, .byte)] U ∧ va_D (fun _ => True) [(h0, .inr (8, [.ref h1, .int 0, .ref h2, .ref h3, .ref h4, .ref h5, .int 0, .ref h6, .ref h7, .ref h8, .ref h9, .ref h10, .ref h11, .int 0])), (h1, .inl (k12, 1600, .inl (fun _ => 0)))] ∧ ex_X kE (va_A [(h0, .inr (8, [.ref h1, .int 0, .ref h2, .ref h3, .ref h4, .ref h5, .int 0, .ref h6, .ref h7, .ref h8, .ref h9, .ref h10, .ref h11, .int 0])), (h1, .inl (k12, 1600, .inl (fun _ => 0)))] sz) U)) (va_Qi (fun (r : Int32) (_ : Unit) => r = 20) (fun (_ : Unit) (_ : State) => True) (va_A [(h0, .inr (8, [.ref h1, .int 0, .ref h2, .ref h3, .ref h4, .ref h5, .int 0, .ref h6, .ref h7, .ref h8, .ref h9, .ref h10, .ref h11, .int 0])), (h1, .inl (k12, 1600, .inl (fun _ => 0)))] sz)) 0 0 (va_A [(h0, .inr (8, [.ref h1, .int 0, .ref h2, .ref h3, .ref h4, .ref h5, .int 0, .ref h6, .ref h7, .ref h8, .ref h9, .ref h10, .ref h11, .int 0])), (h1, .inl (k12, 1600, .inl (fun _ => 0)))] sz) := by
  refine Met.ofW (cc := cX10_feed) (maxL := 6) (ret := (some .int)) (by decide) rfl ?_
  intro p e s m args below meth c s₁ B hml hv
  obtain ⟨rfl, hsz, hP, hK, hD0, hE⟩ := hv
  have hx := B.exec
  have hb := B.bytes
  have hr := B.returns
  have hts := atoms_spec (ws := wsX10_feed) B.pre
  have hown : s.vm.findClass RX10 = some m.cls := findClass_of_methodNamed B.named
  have hlocks := B.notSynchronized
  subst hsz
  have hD := hD0.self (sz := s.heap.size)
  generalize hAe : va_A [(h0, .inr (8, [.ref h1, .int 0, .ref h2, .ref h3, .ref h4, .ref h5, .int 0, .ref h6, .ref h7, .ref h8, .ref h9, .ref h10, .ref h11, .int 0])), (h1, .inl (k12, 1600, .inl (fun _ => 0)))] s.heap.size = A at hD hE ⊢
  have hA : ∀ q : Nat, s.heap.size ≤ q → A q := fun q h => by rw [← hAe]; exact Or.inr h
  have hS : va_S A s.heap s.heap [] := va_S.rf
  have hl := lv_entry ([.ref h0, .int p1, .int p2, .int p3, .int p4, .int p5]) (n := 6) (Nat.le_of_ble_eq_true rfl)
  rw [lg_entry_eq]
  generalize (lg_sl ([.ref h0, .int p1, .int p2, .int p3, .int p4, .int p5]) ++ List.replicate (6 - (lg_sl ([.ref h0, .int p1, .int p2, .int p3, .int p4, .int p5])).length) Slot.unset).toArray = ls at hl ⊢
  have hl : lv_has ls 6 [(0, .ref h0), (1, .int p1), (2, .int p2), (3, .int p3), (4, .int p4), (5, .int p5)] := hl
  have hP : va_P (dC, dI) vwCl [(h0, .inr (8, [.ref h1, .int 0, .ref h2, .ref h3, .ref h4, .ref h5, .int 0, .ref h6, .ref h7, .ref h8, .ref h9, .ref h10, .ref h11, .int 0])), (h1, .inl (k12, 1600, .inl (fun _ => 0)))] s.heap := hP
  refine lv_aload_n hx hb dX10_feed_0 rfl (lv_at hl 0 rfl) ?_
  refine va_get (D := (dC, dI)) (ci := 8) (v := .int 0) (C := RX10) (T := TX10) (N := 14) hx hb hts iw_X10_feed_X10 hown hK hP 0 rfl rfl 1 (by decide) (hts (.fieldLink RX10 13 "HungFloors" "taped" "I") (by decide +kernel)) (fun _ h9 => h9) rfl dX10_feed_1 ?_
  refine lv_bipush (v := 20) hx hb dX10_feed_4 (by decide) ?_
  refine lv_iadd hx hb dX10_feed_6 ?_
  refine lv_topi (fun z_1 ez_1 => ?_)
  obtain rfl : z_1 = (20 : Int32) := ez_1.trans (by decide)
  refine lv_sipush (v := 1600) hx hb dX10_feed_7 (by decide) ?_
  refine lv_icmp_le (tgt := 15) hx hb dX10_feed_10 (by decide) (fun c_2 => ?_) (fun c_2 => absurd c_2 (by decide))
  refine lv_aload_n hx hb dX10_feed_15 rfl (lv_at hl 0 rfl) ?_
  refine lv_iload_n hx hb dX10_feed_16 rfl (lv_at hl 1 rfl) ?_
  have hPc := hP.sub (ws' := [(h0, .inr (8, [.ref h1, .int 0, .ref h2, .ref h3, .ref h4, .ref h5, .int 0, .ref h6, .ref h7, .ref h8, .ref h9, .ref h10, .ref h11, .int 0])), (h1, .inl (k12, 1600, .inl (fun _ => 0)))]) [0, 1] rfl
  have hDc := hD.sub (ws' := [(h0, .inr (8, [.ref h1, .int 0, .ref h2, .ref h3, .ref h4, .ref h5, .int 0, .ref h6, .ref h7, .ref h8, .ref h9, .ref h10, .ref h11, .int 0])), (h1, .inl (k12, 1600, .inl (fun _ => 0)))]) [0, 1] (by decide) rfl
  have hKc := hK.sub (tys' := [(k12, .byte)]) [0] rfl
  have hFc := va_free (wc := [(h0, .inr (8, [.ref h1, .int 0, .ref h2, .ref h3, .ref h4, .ref h5, .int 0, .ref h6, .ref h7, .ref h8, .ref h9, .ref h10, .ref h11, .int 0])), (h1, .inl (k12, 1600, .inl (fun _ => 0)))]) hD hS hA [0, 1] rfl
  refine va_callv (va_runV (As := [.int p1]) (rest := []) ⟨hx, hb, hml, hown, hts⟩ (c_X10_putOnTape l dC dI kE h0 h1 h2 h3 h4 h5 h6 h7 h8 h9 h10 h11 k12 s.heap.size p1) (cwV 1 hts gX10_feed_X10_putOnTape rfl rfl rfl (by decide +kernel) ⟨(Nat.le_of_ble_eq_true rfl), (Nat.le_of_ble_eq_true rfl)⟩) ⟨fun a U g mk q => by obtain ⟨q0, q1, qP, qK, qD, qE⟩ := q; exact ⟨q0, q1, qP, va_K.moved (u := U) (U := U.calling g mk a) (Vm.Alike.refl U.vm) qK, qD, ex_blind qE⟩, va_recv hKc hPc (ci := 8) (q0 := 0) rfl rfl, fun U hU hW => ⟨rfl, by rw [hU], by rw [hU]; exact hPc, va_K.moved hW.alike hKc, hDc.weaken (fun _ _ _ _ => trivial), ex_call hE hS hFc hU hW⟩⟩ rfl rfl hl.1 rfl (lv_room (Nat.le_of_ble_eq_true rfl)) dX10_feed_17 ⟨(Nat.le_of_ble_eq_true rfl), (Nat.le_of_ble_eq_true rfl)⟩) hS (fun q _ h => hFc q h) hFc (fun u t H locs ht hvm hw hB hz1 hk1 hS => ?_)
  obtain ⟨o_4, hP1, hK1, hD1⟩ := hB
  rw [ht] at hP1
  have hK1 := va_K.moved hvm.symm hK1
  obtain ⟨hP, hD⟩ := va_join (wr := []) (w1 := [(h0, .inr (8, [.ref h1, .int 4, .ref h2, .ref h3, .ref h4, .ref h5, .int 0, .ref h6, .ref h7, .ref h8, .ref h9, .ref h10, .ref h11, .int 0])), (h1, .inl (k12, 1600, .inl o_4))]) hP hD [0, 1] [] rfl rfl (by decide) (by decide) hk1 hFc hP1 hD1
  have hP : va_P (dC, dI) vwCl [(h0, .inr (8, [.ref h1, .int 4, .ref h2, .ref h3, .ref h4, .ref h5, .int 0, .ref h6, .ref h7, .ref h8, .ref h9, .ref h10, .ref h11, .int 0])), (h1, .inl (k12, 1600, .inl o_4))] H := hP
  have hD : va_D A [(h0, .inr (8, [.ref h1, .int 4, .ref h2, .ref h3, .ref h4, .ref h5, .int 0, .ref h6, .ref h7, .ref h8, .ref h9, .ref h10, .ref h11, .int 0])), (h1, .inl (k12, 1600, .inl o_4))] := hD
  refine W.widen (k := 0) (n := 0) (by omega) (by omega) ?_
  refine lv_aload_n hx hb dX10_feed_20 rfl (lv_at hl 0 rfl) ?_
  refine lv_iload_n hx hb dX10_feed_21 rfl (lv_at hl 2 rfl) ?_
  have hPc := hP.sub (ws' := [(h0, .inr (8, [.ref h1, .int 4, .ref h2, .ref h3, .ref h4, .ref h5, .int 0, .ref h6, .ref h7, .ref h8, .ref h9, .ref h10, .ref h11, .int 0])), (h1, .inl (k12, 1600, .inl o_4))]) [0, 1] rfl
  have hDc := hD.sub (ws' := [(h0, .inr (8, [.ref h1, .int 4, .ref h2, .ref h3, .ref h4, .ref h5, .int 0, .ref h6, .ref h7, .ref h8, .ref h9, .ref h10, .ref h11, .int 0])), (h1, .inl (k12, 1600, .inl o_4))]) [0, 1] (by decide) rfl
  have hKc := hK.sub (tys' := [(k12, .byte)]) [0] rfl
  have hFc := va_free (wc := [(h0, .inr (8, [.ref h1, .int 4, .ref h2, .ref h3, .ref h4, .ref h5, .int 0, .ref h6, .ref h7, .ref h8, .ref h9, .ref h10, .ref h11, .int 0])), (h1, .inl (k12, 1600, .inl o_4))]) hD hS hA [0, 1] rfl
  refine va_callv (va_runV (As := [.int p2]) (rest := []) ⟨hx, hb, hml, hown, hts⟩ (c_X10_putOnTape_2 l dC dI kE h0 h1 h2 h3 h4 h5 h6 h7 h8 h9 h10 h11 k12 o_4 H.size p2) (cwV 1 hts gX10_feed_X10_putOnTape rfl rfl rfl (by decide +kernel) ⟨(Nat.le_of_ble_eq_true rfl), (Nat.le_of_ble_eq_true rfl)⟩) ⟨fun a U g mk q => by obtain ⟨q0, q1, qP, qK, qD, qE⟩ := q; exact ⟨q0, q1, qP, va_K.moved (u := U) (U := U.calling g mk a) (Vm.Alike.refl U.vm) qK, qD, ex_blind qE⟩, va_recv hKc hPc (ci := 8) (q0 := 0) rfl rfl, fun U hU hW => ⟨rfl, by rw [hU], by rw [hU]; exact hPc, va_K.moved hW.alike hKc, hDc.weaken (fun _ _ _ _ => trivial), ex_call hE hS hFc hU hW⟩⟩ rfl rfl hl.1 rfl (lv_room (Nat.le_of_ble_eq_true rfl)) dX10_feed_22 ⟨(Nat.le_of_ble_eq_true rfl), (Nat.le_of_ble_eq_true rfl)⟩) hS (fun q _ h => hFc q h) hFc (fun u t H locs ht hvm hw hB hz1 hk1 hS => ?_)
  obtain ⟨o_6, hP1, hK1, hD1⟩ := hB
  rw [ht] at hP1
  have hK1 := va_K.moved hvm.symm hK1
  obtain ⟨hP, hD⟩ := va_join (wr := []) (w1 := [(h0, .inr (8, [.ref h1, .int 8, .ref h2, .ref h3, .ref h4, .ref h5, .int 0, .ref h6, .ref h7, .ref h8, .ref h9, .ref h10, .ref h11, .int 0])), (h1, .inl (k12, 1600, .inl o_6))]) hP hD [0, 1] [] rfl rfl (by decide) (by decide) hk1 hFc hP1 hD1
  have hP : va_P (dC, dI) vwCl [(h0, .inr (8, [.ref h1, .int 8, .ref h2, .ref h3, .ref h4, .ref h5, .int 0, .ref h6, .ref h7, .ref h8, .ref h9, .ref h10, .ref h11, .int 0])), (h1, .inl (k12, 1600, .inl o_6))] H := hP
  have hD : va_D A [(h0, .inr (8, [.ref h1, .int 8, .ref h2, .ref h3, .ref h4, .ref h5, .int 0, .ref h6, .ref h7, .ref h8, .ref h9, .ref h10, .ref h11, .int 0])), (h1, .inl (k12, 1600, .inl o_6))] := hD
  refine W.widen (k := 0) (n := 0) (by omega) (by omega) ?_
  refine lv_aload_n hx hb dX10_feed_25 rfl (lv_at hl 0 rfl) ?_
  refine lv_iload_n hx hb dX10_feed_26 rfl (lv_at hl 3 rfl) ?_
  have hPc := hP.sub (ws' := [(h0, .inr (8, [.ref h1, .int 8, .ref h2, .ref h3, .ref h4, .ref h5, .int 0, .ref h6, .ref h7, .ref h8, .ref h9, .ref h10, .ref h11, .int 0])), (h1, .inl (k12, 1600, .inl o_6))]) [0, 1] rfl
  have hDc := hD.sub (ws' := [(h0, .inr (8, [.ref h1, .int 8, .ref h2, .ref h3, .ref h4, .ref h5, .int 0, .ref h6, .ref h7, .ref h8, .ref h9, .ref h10, .ref h11, .int 0])), (h1, .inl (k12, 1600, .inl o_6))]) [0, 1] (by decide) rfl
  have hKc := hK.sub (tys' := [(k12, .byte)]) [0] rfl
  have hFc := va_free (wc := [(h0, .inr (8, [.ref h1, .int 8, .ref h2, .ref h3, .ref h4, .ref h5, .int 0, .ref h6, .ref h7, .ref h8, .ref h9, .ref h10, .ref h11, .int 0])), (h1, .inl (k12, 1600, .inl o_6))]) hD hS hA [0, 1] rfl
  refine va_callv (va_runV (As := [.int p3]) (rest := []) ⟨hx, hb, hml, hown, hts⟩ (c_X10_putOnTape_3 l dC dI kE h0 h1 h2 h3 h4 h5 h6 h7 h8 h9 h10 h11 k12 o_6 H.size p3) (cwV 1 hts gX10_feed_X10_putOnTape rfl rfl rfl (by decide +kernel) ⟨(Nat.le_of_ble_eq_true rfl), (Nat.le_of_ble_eq_true rfl)⟩) ⟨fun a U g mk q => by obtain ⟨q0, q1, qP, qK, qD, qE⟩ := q; exact ⟨q0, q1, qP, va_K.moved (u := U) (U := U.calling g mk a) (Vm.Alike.refl U.vm) qK, qD, ex_blind qE⟩, va_recv hKc hPc (ci := 8) (q0 := 0) rfl rfl, fun U hU hW => ⟨rfl, by rw [hU], by rw [hU]; exact hPc, va_K.moved hW.alike hKc, hDc.weaken (fun _ _ _ _ => trivial), ex_call hE hS hFc hU hW⟩⟩ rfl rfl hl.1 rfl (lv_room (Nat.le_of_ble_eq_true rfl)) dX10_feed_27 ⟨(Nat.le_of_ble_eq_true rfl), (Nat.le_of_ble_eq_true rfl)⟩) hS (fun q _ h => hFc q h) hFc (fun u t H locs ht hvm hw hB hz1 hk1 hS => ?_)
  obtain ⟨o_8, hP1, hK1, hD1⟩ := hB
  rw [ht] at hP1
  have hK1 := va_K.moved hvm.symm hK1
  obtain ⟨hP, hD⟩ := va_join (wr := []) (w1 := [(h0, .inr (8, [.ref h1, .int 12, .ref h2, .ref h3, .ref h4, .ref h5, .int 0, .ref h6, .ref h7, .ref h8, .ref h9, .ref h10, .ref h11, .int 0])), (h1, .inl (k12, 1600, .inl o_8))]) hP hD [0, 1] [] rfl rfl (by decide) (by decide) hk1 hFc hP1 hD1
  have hP : va_P (dC, dI) vwCl [(h0, .inr (8, [.ref h1, .int 12, .ref h2, .ref h3, .ref h4, .ref h5, .int 0, .ref h6, .ref h7, .ref h8, .ref h9, .ref h10, .ref h11, .int 0])), (h1, .inl (k12, 1600, .inl o_8))] H := hP
  have hD : va_D A [(h0, .inr (8, [.ref h1, .int 12, .ref h2, .ref h3, .ref h4, .ref h5, .int 0, .ref h6, .ref h7, .ref h8, .ref h9, .ref h10, .ref h11, .int 0])), (h1, .inl (k12, 1600, .inl o_8))] := hD
  refine W.widen (k := 0) (n := 0) (by omega) (by omega) ?_
  refine lv_aload_n hx hb dX10_feed_30 rfl (lv_at hl 0 rfl) ?_
  refine lv_iload hx hb dX10_feed_31 (lv_at hl 4 rfl) ?_
  have hPc := hP.sub (ws' := [(h0, .inr (8, [.ref h1, .int 12, .ref h2, .ref h3, .ref h4, .ref h5, .int 0, .ref h6, .ref h7, .ref h8, .ref h9, .ref h10, .ref h11, .int 0])), (h1, .inl (k12, 1600, .inl o_8))]) [0, 1] rfl
  have hDc := hD.sub (ws' := [(h0, .inr (8, [.ref h1, .int 12, .ref h2, .ref h3, .ref h4, .ref h5, .int 0, .ref h6, .ref h7, .ref h8, .ref h9, .ref h10, .ref h11, .int 0])), (h1, .inl (k12, 1600, .inl o_8))]) [0, 1] (by decide) rfl
  have hKc := hK.sub (tys' := [(k12, .byte)]) [0] rfl
  have hFc := va_free (wc := [(h0, .inr (8, [.ref h1, .int 12, .ref h2, .ref h3, .ref h4, .ref h5, .int 0, .ref h6, .ref h7, .ref h8, .ref h9, .ref h10, .ref h11, .int 0])), (h1, .inl (k12, 1600, .inl o_8))]) hD hS hA [0, 1] rfl
  refine va_callv (va_runV (As := [.int p4]) (rest := []) ⟨hx, hb, hml, hown, hts⟩ (c_X10_putOnTape_4 l dC dI kE h0 h1 h2 h3 h4 h5 h6 h7 h8 h9 h10 h11 k12 o_8 H.size p4) (cwV 1 hts gX10_feed_X10_putOnTape rfl rfl rfl (by decide +kernel) ⟨(Nat.le_of_ble_eq_true rfl), (Nat.le_of_ble_eq_true rfl)⟩) ⟨fun a U g mk q => by obtain ⟨q0, q1, qP, qK, qD, qE⟩ := q; exact ⟨q0, q1, qP, va_K.moved (u := U) (U := U.calling g mk a) (Vm.Alike.refl U.vm) qK, qD, ex_blind qE⟩, va_recv hKc hPc (ci := 8) (q0 := 0) rfl rfl, fun U hU hW => ⟨rfl, by rw [hU], by rw [hU]; exact hPc, va_K.moved hW.alike hKc, hDc.weaken (fun _ _ _ _ => trivial), ex_call hE hS hFc hU hW⟩⟩ rfl rfl hl.1 rfl (lv_room (Nat.le_of_ble_eq_true rfl)) dX10_feed_33 ⟨(Nat.le_of_ble_eq_true rfl), (Nat.le_of_ble_eq_true rfl)⟩) hS (fun q _ h => hFc q h) hFc (fun u t H locs ht hvm hw hB hz1 hk1 hS => ?_)
  obtain ⟨o_10, hP1, hK1, hD1⟩ := hB
  rw [ht] at hP1
  have hK1 := va_K.moved hvm.symm hK1
  obtain ⟨hP, hD⟩ := va_join (wr := []) (w1 := [(h0, .inr (8, [.ref h1, .int 16, .ref h2, .ref h3, .ref h4, .ref h5, .int 0, .ref h6, .ref h7, .ref h8, .ref h9, .ref h10, .ref h11, .int 0])), (h1, .inl (k12, 1600, .inl o_10))]) hP hD [0, 1] [] rfl rfl (by decide) (by decide) hk1 hFc hP1 hD1
  have hP : va_P (dC, dI) vwCl [(h0, .inr (8, [.ref h1, .int 16, .ref h2, .ref h3, .ref h4, .ref h5, .int 0, .ref h6, .ref h7, .ref h8, .ref h9, .ref h10, .ref h11, .int 0])), (h1, .inl (k12, 1600, .inl o_10))] H := hP
  have hD : va_D A [(h0, .inr (8, [.ref h1, .int 16, .ref h2, .ref h3, .ref h4, .ref h5, .int 0, .ref h6, .ref h7, .ref h8, .ref h9, .ref h10, .ref h11, .int 0])), (h1, .inl (k12, 1600, .inl o_10))] := hD
  refine W.widen (k := 0) (n := 0) (by omega) (by omega) ?_
  refine lv_aload_n hx hb dX10_feed_36 rfl (lv_at hl 0 rfl) ?_
  refine lv_iload hx hb dX10_feed_37 (lv_at hl 5 rfl) ?_
  have hPc := hP.sub (ws' := [(h0, .inr (8, [.ref h1, .int 16, .ref h2, .ref h3, .ref h4, .ref h5, .int 0, .ref h6, .ref h7, .ref h8, .ref h9, .ref h10, .ref h11, .int 0])), (h1, .inl (k12, 1600, .inl o_10))]) [0, 1] rfl
  have hDc := hD.sub (ws' := [(h0, .inr (8, [.ref h1, .int 16, .ref h2, .ref h3, .ref h4, .ref h5, .int 0, .ref h6, .ref h7, .ref h8, .ref h9, .ref h10, .ref h11, .int 0])), (h1, .inl (k12, 1600, .inl o_10))]) [0, 1] (by decide) rfl
  have hKc := hK.sub (tys' := [(k12, .byte)]) [0] rfl
  have hFc := va_free (wc := [(h0, .inr (8, [.ref h1, .int 16, .ref h2, .ref h3, .ref h4, .ref h5, .int 0, .ref h6, .ref h7, .ref h8, .ref h9, .ref h10, .ref h11, .int 0])), (h1, .inl (k12, 1600, .inl o_10))]) hD hS hA [0, 1] rfl
  refine va_callv (va_runV (As := [.int p5]) (rest := []) ⟨hx, hb, hml, hown, hts⟩ (c_X10_putOnTape_5 l dC dI kE h0 h1 h2 h3 h4 h5 h6 h7 h8 h9 h10 h11 k12 o_10 H.size p5) (cwV 1 hts gX10_feed_X10_putOnTape rfl rfl rfl (by decide +kernel) ⟨(Nat.le_of_ble_eq_true rfl), (Nat.le_of_ble_eq_true rfl)⟩) ⟨fun a U g mk q => by obtain ⟨q0, q1, qP, qK, qD, qE⟩ := q; exact ⟨q0, q1, qP, va_K.moved (u := U) (U := U.calling g mk a) (Vm.Alike.refl U.vm) qK, qD, ex_blind qE⟩, va_recv hKc hPc (ci := 8) (q0 := 0) rfl rfl, fun U hU hW => ⟨rfl, by rw [hU], by rw [hU]; exact hPc, va_K.moved hW.alike hKc, hDc.weaken (fun _ _ _ _ => trivial), ex_call hE hS hFc hU hW⟩⟩ rfl rfl hl.1 rfl (lv_room (Nat.le_of_ble_eq_true rfl)) dX10_feed_39 ⟨(Nat.le_of_ble_eq_true rfl), (Nat.le_of_ble_eq_true rfl)⟩) hS (fun q _ h => hFc q h) hFc (fun u t H locs ht hvm hw hB hz1 hk1 hS => ?_)
  obtain ⟨o_12, hP1, hK1, hD1⟩ := hB
  rw [ht] at hP1
  have hK1 := va_K.moved hvm.symm hK1
  obtain ⟨hP, hD⟩ := va_join (wr := []) (w1 := [(h0, .inr (8, [.ref h1, .int 20, .ref h2, .ref h3, .ref h4, .ref h5, .int 0, .ref h6, .ref h7, .ref h8, .ref h9, .ref h10, .ref h11, .int 0])), (h1, .inl (k12, 1600, .inl o_12))]) hP hD [0, 1] [] rfl rfl (by decide) (by decide) hk1 hFc hP1 hD1
  have hP : va_P (dC, dI) vwCl [(h0, .inr (8, [.ref h1, .int 20, .ref h2, .ref h3, .ref h4, .ref h5, .int 0, .ref h6, .ref h7, .ref h8, .ref h9, .ref h10, .ref h11, .int 0])), (h1, .inl (k12, 1600, .inl o_12))] H := hP
  have hD : va_D A [(h0, .inr (8, [.ref h1, .int 20, .ref h2, .ref h3, .ref h4, .ref h5, .int 0, .ref h6, .ref h7, .ref h8, .ref h9, .ref h10, .ref h11, .int 0])), (h1, .inl (k12, 1600, .inl o_12))] := hD
  refine W.widen (k := 0) (n := 0) (by omega) (by omega) ?_
  refine lv_aload_n hx hb dX10_feed_42 rfl (lv_at hl 0 rfl) ?_
  refine va_get (D := (dC, dI)) (ci := 8) (v := .int 20) (C := RX10) (T := TX10) (N := 14) hx hb hts iw_X10_feed_X10 hown hK hP 0 rfl rfl 1 (by decide) (hts (.fieldLink RX10 13 "HungFloors" "taped" "I") (by decide +kernel)) (fun _ h9 => h9) rfl dX10_feed_43 ?_
  exact W.iret (v := 20) hx hb hr (fun t ht hW => ⟨⟨20, (), rfl, rfl, trivial⟩, hS.F ht⟩) hS.2.2 dX10_feed_46
