theorem iw_X11_end_X11 : ∀ w ∈ wsX110, w ∈ wsX11_end := fun _ h => List.mem_cons_of_mem _ (List.mem_append_right _ h)
set_option maxHeartbeats 4000000 in
set_option maxRecDepth 100000 in
theorem c_X11_end (l : Launch) (dC : Nat → ClassId) (dI : Nat → Nat → Nat) (ad : Nat → Nat) (tN : Nat) (fN : Nat → Int64) (cB cI cJ cZ : ClassId) (h0 : Nat) (p1 : Int32) (r0 : Nat → Nat) (sz0 : Int32) (fk0 : Int32) (en0 : Int32) (tk0 : Int32) (nm0 : Int64) (bk0 : Int32) (rb0 : Int32) (dw0 : Int32) (rl0 : Int32) (sd0 : Int64) (jm0 : Int32) (bd0 : Int64) (gm0 : Int32) (ti0 : Int32) (w0 : va_W) (o0 : ok_mo ad cB cI cJ cZ h0 r0 sz0 fk0 en0 tk0 nm0 bk0 rb0 dw0 rl0 sd0 jm0 bd0 gm0 ti0 w0) (sz : Nat) : Met l yX11_end wsX11_end ({ frames := 0, cells := 0, slots := 0, locals := 0 } : Room) (va_Pc [.ref h0, .int p1] (fun U => U.heap.size = sz ∧ va_P (dC, dI) vwCl (List.flatten [w0]) U.heap ∧ va_K (dC, dI) vwCl [(cB, .byte), (cI, .int), (cJ, .long), (cZ, .boolean)] U ∧ va_D (fun _ => True) (List.flatten [w0]) ∧ ex_Y ad tN fN (va_A (List.flatten [w0]) sz) U)) (va_Qi (fun (r : Int32) (_ : Unit) => -1 ≤ r.toInt ∧ r.toInt ≤ 1600) (fun (_ : Unit) (t : State) => ∃ (w09 : va_W), ok_mo ad cB cI cJ cZ h0 r0 sz0 fk0 en0 tk0 nm0 bk0 rb0 dw0 rl0 sd0 jm0 bd0 gm0 ti0 w09 ∧ va_P (dC, dI) vwCl (List.flatten [w09]) t.heap ∧ va_D (va_A (List.flatten [w0]) sz) (List.flatten [w09])) (va_A (List.flatten [w0]) sz)) 0 0 (va_A (List.flatten [w0]) sz) := by
  refine Met.ofW (cc := cX11_end) (maxL := 2) (ret := (some .int)) (by decide) rfl ?_
  intro p e s m args below meth c s₁ B hml hv
  obtain ⟨rfl, hsz, hP, hK, hD0, hE⟩ := hv
  have hx := B.exec
  have hb := B.bytes
  have hr := B.returns
  have hts := atoms_spec (ws := wsX11_end) B.pre
  have hown : s.vm.findClass RX11 = some m.cls := findClass_of_methodNamed B.named
  have hlocks := B.notSynchronized
  subst hsz
  have hD := hD0.self (sz := s.heap.size)
  generalize hAe : va_A (List.flatten [w0]) s.heap.size = A at hD hE ⊢
  have hA : ∀ q : Nat, s.heap.size ≤ q → A q := fun q h => by rw [← hAe]; exact Or.inr h
  have hS : va_S A s.heap s.heap [] := va_S.rf
  have hl := lv_entry ([.ref h0, .int p1]) (n := 2) (Nat.le_of_ble_eq_true rfl)
  rw [lg_entry_eq]
  generalize (lg_sl ([.ref h0, .int p1]) ++ List.replicate (2 - (lg_sl ([.ref h0, .int p1])).length) Slot.unset).toArray = ls at hl ⊢
  have hl : lv_has ls 2 [(0, .ref h0), (1, .int p1)] := hl
  clear hAe
  refine W_name (fun Q0 hQ0 => ?_)
  obtain ⟨hx_1, hx_2, hx_3, hx_4, hx_5, hx_6, hx_7, hx_8, hx_9, hx_10, hx_11, hx_12, hx_13, hx_14, hx_15, hx_16, hx_17, hx_18, hx_19, hx_20, hx_21, hx_22⟩ := okx_mo o0
  refine lv_iload_n hx hb dX11_end_0 rfl (lv_at hl 1 rfl) ?_
  refine lv_if_lt (tgt := 12) hx hb dX11_end_1 (by decide) (fun c_23 => ?_) (fun c_23 => ?_)
  · have c_23 : p1.toInt < 0 := f_lt rfl tI_0 c_23
    refine lv_iconst (v := (-1)) hx hb dX11_end_12 (by decide) ?_
    rw [hQ0]
    exact W.iret (v := (-1)) hx hb hr (fun t ht hW => ⟨⟨(-1), (), rfl, ⟨by decide, by decide⟩, ⟨_, o0, by rw [ht]; exact hP, hD⟩⟩, hS.F ht⟩) hS.2.2 dX11_end_13
  · have c_23 : 0 ≤ p1.toInt := f_nlt rfl tI_0 c_23
    refine lv_iload_n hx hb dX11_end_4 rfl (lv_at hl 1 rfl) ?_
    refine lv_aload_n hx hb dX11_end_5 rfl (lv_at hl 0 rfl) ?_
    obtain ⟨tp_24, fp_31, aq_32, nu_39, mv_44, mg_49, su_50, bu_53, fa_56, pp_57, so_62, rfl, hl_25, hh_26, hl_27, hh_28, hl_29, hh_30, hl_33, hh_34, hl_35, hh_36, hl_37, hh_38, hl_40, hh_41, hl_42, hh_43, hl_45, hh_46, hl_47, hh_48, hl_51, hh_52, hl_54, hh_55, hl_58, hh_59, hl_60, hh_61, hl_63, hh_64⟩ := o0
    refine va_get (D := (dC, dI)) (ci := 9) (v := .int tp_24) (C := RX11) (T := TX11) (N := 69) hx hb hts iw_X11_end_X11 hown hK hP 0 rfl rfl 2 (by decide) (hts (.fieldLink RX11 218 "HungFloorsModel" "taped" "I") (by decide +kernel)) (fun _ h9 => h9) rfl dX11_end_6 ?_
    refine lv_icmp_le (tgt := 14) hx hb dX11_end_9 (by decide) (fun c_65 => ?_) (fun c_65 => ?_)
    · have c_65 : p1.toInt ≤ tp_24.toInt := f_le rfl rfl c_65
      refine lv_aload_n hx hb dX11_end_14 rfl (lv_at hl 0 rfl) ?_
      refine lv_iload_n hx hb dX11_end_15 rfl (lv_at hl 1 rfl) ?_
      refine va_put (D := (dC, dI)) (ci := 9) (v := .int p1) (ty := .int) (C := RX11) (T := TX11) (N := 69) hx hb hts iw_X11_end_X11 tyX11 tyX11_ok nmX11 hown hK hP hD hS 0 rfl rfl 2 (by decide) (hts (.fieldLink RX11 218 "HungFloorsModel" "taped" "I") (by decide +kernel)) (fun _ h9 => h9) rfl (by decide +kernel) rfl rfl (Nat.le_of_ble_eq_true rfl) dX11_end_16 (fun H locs hP hD hS => ?_)
      have hP : va_P (dC, dI) vwCl (List.flatten [[(h0, .inr (9, (.ref (r0 0) :: .ref (r0 1) :: .int p1 :: .int sz0 :: .int fk0 :: .int fp_31 :: .int aq_32 :: .int en0 :: .int tk0 :: .int nu_39 :: .long nm0 :: .ref (r0 2) :: .ref (r0 3) :: .ref (r0 4) :: .ref (r0 5) :: .ref (r0 6) :: .ref (r0 7) :: .ref (r0 8) :: .ref (r0 9) :: .ref (r0 10) :: .ref (r0 11) :: .ref (r0 12) :: .ref (r0 13) :: .int bk0 :: .int rb0 :: .ref (r0 14) :: .int mv_44 :: .ref (r0 15) :: .ref (r0 16) :: .ref (r0 17) :: .ref (r0 18) :: .ref (r0 19) :: .ref (r0 20) :: .ref (r0 21) :: .ref (r0 22) :: .ref (r0 23) :: .int dw0 :: .int rl0 :: .int mg_49 :: .long su_50 :: .long sd0 :: .ref (r0 24) :: .ref (r0 25) :: .int jm0 :: .long bu_53 :: .long bd0 :: .ref (r0 26) :: .int gm0 :: .int fa_56 :: .ref (r0 27) :: .ref (r0 28) :: .ref (r0 29) :: .ref (r0 30) :: .ref (r0 31) :: .ref (r0 32) :: .ref (r0 33) :: .ref (r0 34) :: .ref (r0 35) :: .ref (r0 36) :: .ref (r0 37) :: .int pp_57 :: .int ti0 :: .ref (r0 38) :: .ref (r0 39) :: .ref (r0 40) :: .int so_62 :: .ref (r0 41) :: .ref (r0 42) :: .ref (r0 43) :: [])))]]) H := hP
      have hD : va_D A (List.flatten [[(h0, .inr (9, (.ref (r0 0) :: .ref (r0 1) :: .int p1 :: .int sz0 :: .int fk0 :: .int fp_31 :: .int aq_32 :: .int en0 :: .int tk0 :: .int nu_39 :: .long nm0 :: .ref (r0 2) :: .ref (r0 3) :: .ref (r0 4) :: .ref (r0 5) :: .ref (r0 6) :: .ref (r0 7) :: .ref (r0 8) :: .ref (r0 9) :: .ref (r0 10) :: .ref (r0 11) :: .ref (r0 12) :: .ref (r0 13) :: .int bk0 :: .int rb0 :: .ref (r0 14) :: .int mv_44 :: .ref (r0 15) :: .ref (r0 16) :: .ref (r0 17) :: .ref (r0 18) :: .ref (r0 19) :: .ref (r0 20) :: .ref (r0 21) :: .ref (r0 22) :: .ref (r0 23) :: .int dw0 :: .int rl0 :: .int mg_49 :: .long su_50 :: .long sd0 :: .ref (r0 24) :: .ref (r0 25) :: .int jm0 :: .long bu_53 :: .long bd0 :: .ref (r0 26) :: .int gm0 :: .int fa_56 :: .ref (r0 27) :: .ref (r0 28) :: .ref (r0 29) :: .ref (r0 30) :: .ref (r0 31) :: .ref (r0 32) :: .ref (r0 33) :: .ref (r0 34) :: .ref (r0 35) :: .ref (r0 36) :: .ref (r0 37) :: .int pp_57 :: .int ti0 :: .ref (r0 38) :: .ref (r0 39) :: .ref (r0 40) :: .int so_62 :: .ref (r0 41) :: .ref (r0 42) :: .ref (r0 43) :: [])))]]) := hD
      refine lv_iload_n hx hb dX11_end_19 rfl (lv_at hl 1 rfl) ?_
      rw [hQ0]
      exact W.iret (v := p1) hx hb hr (fun t ht hW => ⟨⟨p1, (), rfl, ⟨by omega, by omega⟩, ⟨_, ⟨p1, fp_31, aq_32, nu_39, mv_44, mg_49, su_50, bu_53, fa_56, pp_57, so_62, rfl, by omega, by omega, by omega, by omega, by omega, by omega, by omega, by omega, by omega, by omega, by omega, by omega, by omega, by omega, by omega, by omega, by omega, by omega, by omega, by omega, by omega, by omega, by omega, by omega, by omega, by omega, by omega, by omega, by omega, by omega⟩, by rw [ht]; exact hP, hD⟩⟩, hS.F ht⟩) hS.2.2 dX11_end_20
    · have c_65 : tp_24.toInt < p1.toInt := f_nle rfl rfl c_65
      refine lv_iconst (v := (-1)) hx hb dX11_end_12 (by decide) ?_
      rw [hQ0]
      exact W.iret (v := (-1)) hx hb hr (fun t ht hW => ⟨⟨(-1), (), rfl, ⟨by decide, by decide⟩, ⟨_, ⟨tp_24, fp_31, aq_32, nu_39, mv_44, mg_49, su_50, bu_53, fa_56, pp_57, so_62, rfl, by omega, by omega, by omega, by omega, by omega, by omega, by omega, by omega, by omega, by omega, by omega, by omega, by omega, by omega, by omega, by omega, by omega, by omega, by omega, by omega, by omega, by omega, by omega, by omega, by omega, by omega, by omega, by omega, by omega, by omega⟩, by rw [ht]; exact hP, hD⟩⟩, hS.F ht⟩) hS.2.2 dX11_end_13
theorem iw_X11_fails_X11 : ∀ w ∈ wsX110, w ∈ wsX11_fails := fun _ h => List.mem_cons_of_mem _ (List.mem_append_right _ h)
set_option maxHeartbeats 4000000 in
set_option maxRecDepth 100000 in
theorem c_X11_fails (l : Launch) (dC : Nat → ClassId) (dI : Nat → Nat → Nat) (ad : Nat → Nat) (tN : Nat) (fN : Nat → Int64) (cB cI cJ cZ : ClassId) (h0 : Nat) (p1 : Int32) (p2 : Int32) (r0 : Nat → Nat) (sz0 : Int32) (fk0 : Int32) (en0 : Int32) (tk0 : Int32) (nm0 : Int64) (bk0 : Int32) (rb0 : Int32) (dw0 : Int32) (rl0 : Int32) (sd0 : Int64) (jm0 : Int32) (bd0 : Int64) (gm0 : Int32) (ti0 : Int32) (w0 : va_W) (o0 : ok_mo ad cB cI cJ cZ h0 r0 sz0 fk0 en0 tk0 nm0 bk0 rb0 dw0 rl0 sd0 jm0 bd0 gm0 ti0 w0) (sz : Nat) (up11 : 1 ≤ p1.toInt) (up12 : p1.toInt ≤ 6) : Met l yX11_fails wsX11_fails ({ frames := 0, cells := 0, slots := 0, locals := 0 } : Room) (va_Pc [.ref h0, .int p1, .int p2] (fun U => U.heap.size = sz ∧ va_P (dC, dI) vwCl (List.flatten [w0]) U.heap ∧ va_K (dC, dI) vwCl [(cB, .byte), (cI, .int), (cJ, .long), (cZ, .boolean)] U ∧ va_D (fun _ => True) (List.flatten [w0]) ∧ ex_Y ad tN fN (va_A (List.flatten [w0]) sz) U)) (va_Qv (fun _ : Unit => True) (fun (_ : Unit) (t : State) => ∃ (fk09 : Int32) (w09 : va_W), ok_mo ad cB cI cJ cZ h0 r0 sz0 fk09 en0 tk0 nm0 bk0 rb0 dw0 rl0 sd0 jm0 bd0 gm0 ti0 w09 ∧ (1 ≤ fk09.toInt) ∧ va_P (dC, dI) vwCl (List.flatten [w09]) t.heap ∧ va_D (va_A (List.flatten [w0]) sz) (List.flatten [w09])) (va_A (List.flatten [w0]) sz)) 0 0 (va_A (List.flatten [w0]) sz) := by
  refine Met.ofW (cc := cX11_fails) (maxL := 3) (ret := none) (by decide) rfl ?_
  intro p e s m args below meth c s₁ B hml hv
  obtain ⟨rfl, hsz, hP, hK, hD0, hE⟩ := hv
  have hx := B.exec
  have hb := B.bytes
  have hr := B.returns
  have hts := atoms_spec (ws := wsX11_fails) B.pre
  have hown : s.vm.findClass RX11 = some m.cls := findClass_of_methodNamed B.named
  have hlocks := B.notSynchronized
  subst hsz
  have hD := hD0.self (sz := s.heap.size)
  generalize hAe : va_A (List.flatten [w0]) s.heap.size = A at hD hE ⊢
  have hA : ∀ q : Nat, s.heap.size ≤ q → A q := fun q h => by rw [← hAe]; exact Or.inr h
  have hS : va_S A s.heap s.heap [] := va_S.rf
  have hl := lv_entry ([.ref h0, .int p1, .int p2]) (n := 3) (Nat.le_of_ble_eq_true rfl)
  rw [lg_entry_eq]
  generalize (lg_sl ([.ref h0, .int p1, .int p2]) ++ List.replicate (3 - (lg_sl ([.ref h0, .int p1, .int p2])).length) Slot.unset).toArray = ls at hl ⊢
  have hl : lv_has ls 3 [(0, .ref h0), (1, .int p1), (2, .int p2)] := hl
  clear hAe
  refine W_name (fun Q0 hQ0 => ?_)
  obtain ⟨hx_1, hx_2, hx_3, hx_4, hx_5, hx_6, hx_7, hx_8, hx_9, hx_10, hx_11, hx_12, hx_13, hx_14, hx_15, hx_16, hx_17, hx_18, hx_19, hx_20, hx_21, hx_22⟩ := okx_mo o0
  refine lv_aload_n hx hb dX11_fails_0 rfl (lv_at hl 0 rfl) ?_
  obtain ⟨tp_23, fp_30, aq_31, nu_38, mv_43, mg_48, su_49, bu_52, fa_55, pp_56, so_61, rfl, hl_24, hh_25, hl_26, hh_27, hl_28, hh_29, hl_32, hh_33, hl_34, hh_35, hl_36, hh_37, hl_39, hh_40, hl_41, hh_42, hl_44, hh_45, hl_46, hh_47, hl_50, hh_51, hl_53, hh_54, hl_57, hh_58, hl_59, hh_60, hl_62, hh_63⟩ := o0
  refine va_get (D := (dC, dI)) (ci := 9) (v := .int fk0) (C := RX11) (T := TX11) (N := 69) hx hb hts iw_X11_fails_X11 hown hK hP 0 rfl rfl 4 (by decide) (hts (.fieldLink RX11 152 "HungFloorsModel" "faultKind" "I") (by decide +kernel)) (fun _ h9 => h9) rfl dX11_fails_1 ?_
  refine lv_if_le (tgt := 8) hx hb dX11_fails_4 (by decide) (fun c_64 => ?_) (fun c_64 => ?_)
  · have c_64 : fk0.toInt ≤ 0 := f_le rfl tI_0 c_64
    refine lv_aload_n hx hb dX11_fails_8 rfl (lv_at hl 0 rfl) ?_
    refine lv_iload_n hx hb dX11_fails_9 rfl (lv_at hl 1 rfl) ?_
    refine va_put (D := (dC, dI)) (ci := 9) (v := .int p1) (ty := .int) (C := RX11) (T := TX11) (N := 69) hx hb hts iw_X11_fails_X11 tyX11 tyX11_ok nmX11 hown hK hP hD hS 0 rfl rfl 4 (by decide) (hts (.fieldLink RX11 152 "HungFloorsModel" "faultKind" "I") (by decide +kernel)) (fun _ h9 => h9) rfl (by decide +kernel) rfl rfl (Nat.le_of_ble_eq_true rfl) dX11_fails_10 (fun H locs hP hD hS => ?_)
    have hP : va_P (dC, dI) vwCl (List.flatten [[(h0, .inr (9, (.ref (r0 0) :: .ref (r0 1) :: .int tp_23 :: .int sz0 :: .int p1 :: .int fp_30 :: .int aq_31 :: .int en0 :: .int tk0 :: .int nu_38 :: .long nm0 :: .ref (r0 2) :: .ref (r0 3) :: .ref (r0 4) :: .ref (r0 5) :: .ref (r0 6) :: .ref (r0 7) :: .ref (r0 8) :: .ref (r0 9) :: .ref (r0 10) :: .ref (r0 11) :: .ref (r0 12) :: .ref (r0 13) :: .int bk0 :: .int rb0 :: .ref (r0 14) :: .int mv_43 :: .ref (r0 15) :: .ref (r0 16) :: .ref (r0 17) :: .ref (r0 18) :: .ref (r0 19) :: .ref (r0 20) :: .ref (r0 21) :: .ref (r0 22) :: .ref (r0 23) :: .int dw0 :: .int rl0 :: .int mg_48 :: .long su_49 :: .long sd0 :: .ref (r0 24) :: .ref (r0 25) :: .int jm0 :: .long bu_52 :: .long bd0 :: .ref (r0 26) :: .int gm0 :: .int fa_55 :: .ref (r0 27) :: .ref (r0 28) :: .ref (r0 29) :: .ref (r0 30) :: .ref (r0 31) :: .ref (r0 32) :: .ref (r0 33) :: .ref (r0 34) :: .ref (r0 35) :: .ref (r0 36) :: .ref (r0 37) :: .int pp_56 :: .int ti0 :: .ref (r0 38) :: .ref (r0 39) :: .ref (r0 40) :: .int so_61 :: .ref (r0 41) :: .ref (r0 42) :: .ref (r0 43) :: [])))]]) H := hP
    have hD : va_D A (List.flatten [[(h0, .inr (9, (.ref (r0 0) :: .ref (r0 1) :: .int tp_23 :: .int sz0 :: .int p1 :: .int fp_30 :: .int aq_31 :: .int en0 :: .int tk0 :: .int nu_38 :: .long nm0 :: .ref (r0 2) :: .ref (r0 3) :: .ref (r0 4) :: .ref (r0 5) :: .ref (r0 6) :: .ref (r0 7) :: .ref (r0 8) :: .ref (r0 9) :: .ref (r0 10) :: .ref (r0 11) :: .ref (r0 12) :: .ref (r0 13) :: .int bk0 :: .int rb0 :: .ref (r0 14) :: .int mv_43 :: .ref (r0 15) :: .ref (r0 16) :: .ref (r0 17) :: .ref (r0 18) :: .ref (r0 19) :: .ref (r0 20) :: .ref (r0 21) :: .ref (r0 22) :: .ref (r0 23) :: .int dw0 :: .int rl0 :: .int mg_48 :: .long su_49 :: .long sd0 :: .ref (r0 24) :: .ref (r0 25) :: .int jm0 :: .long bu_52 :: .long bd0 :: .ref (r0 26) :: .int gm0 :: .int fa_55 :: .ref (r0 27) :: .ref (r0 28) :: .ref (r0 29) :: .ref (r0 30) :: .ref (r0 31) :: .ref (r0 32) :: .ref (r0 33) :: .ref (r0 34) :: .ref (r0 35) :: .ref (r0 36) :: .ref (r0 37) :: .int pp_56 :: .int ti0 :: .ref (r0 38) :: .ref (r0 39) :: .ref (r0 40) :: .int so_61 :: .ref (r0 41) :: .ref (r0 42) :: .ref (r0 43) :: [])))]]) := hD
    refine lv_aload_n hx hb dX11_fails_13 rfl (lv_at hl 0 rfl) ?_
    refine lv_iload_n hx hb dX11_fails_14 rfl (lv_at hl 2 rfl) ?_
    refine va_put (D := (dC, dI)) (ci := 9) (v := .int p2) (ty := .int) (C := RX11) (T := TX11) (N := 69) hx hb hts iw_X11_fails_X11 tyX11 tyX11_ok nmX11 hown hK hP hD hS 0 rfl rfl 5 (by decide) (hts (.fieldLink RX11 16 "HungFloorsModel" "faultPlace" "I") (by decide +kernel)) (fun _ h9 => h9) rfl (by decide +kernel) rfl rfl (Nat.le_of_ble_eq_true rfl) dX11_fails_15 (fun H locs hP hD hS => ?_)
    have hP : va_P (dC, dI) vwCl (List.flatten [[(h0, .inr (9, (.ref (r0 0) :: .ref (r0 1) :: .int tp_23 :: .int sz0 :: .int p1 :: .int p2 :: .int aq_31 :: .int en0 :: .int tk0 :: .int nu_38 :: .long nm0 :: .ref (r0 2) :: .ref (r0 3) :: .ref (r0 4) :: .ref (r0 5) :: .ref (r0 6) :: .ref (r0 7) :: .ref (r0 8) :: .ref (r0 9) :: .ref (r0 10) :: .ref (r0 11) :: .ref (r0 12) :: .ref (r0 13) :: .int bk0 :: .int rb0 :: .ref (r0 14) :: .int mv_43 :: .ref (r0 15) :: .ref (r0 16) :: .ref (r0 17) :: .ref (r0 18) :: .ref (r0 19) :: .ref (r0 20) :: .ref (r0 21) :: .ref (r0 22) :: .ref (r0 23) :: .int dw0 :: .int rl0 :: .int mg_48 :: .long su_49 :: .long sd0 :: .ref (r0 24) :: .ref (r0 25) :: .int jm0 :: .long bu_52 :: .long bd0 :: .ref (r0 26) :: .int gm0 :: .int fa_55 :: .ref (r0 27) :: .ref (r0 28) :: .ref (r0 29) :: .ref (r0 30) :: .ref (r0 31) :: .ref (r0 32) :: .ref (r0 33) :: .ref (r0 34) :: .ref (r0 35) :: .ref (r0 36) :: .ref (r0 37) :: .int pp_56 :: .int ti0 :: .ref (r0 38) :: .ref (r0 39) :: .ref (r0 40) :: .int so_61 :: .ref (r0 41) :: .ref (r0 42) :: .ref (r0 43) :: [])))]]) H := hP
    have hD : va_D A (List.flatten [[(h0, .inr (9, (.ref (r0 0) :: .ref (r0 1) :: .int tp_23 :: .int sz0 :: .int p1 :: .int p2 :: .int aq_31 :: .int en0 :: .int tk0 :: .int nu_38 :: .long nm0 :: .ref (r0 2) :: .ref (r0 3) :: .ref (r0 4) :: .ref (r0 5) :: .ref (r0 6) :: .ref (r0 7) :: .ref (r0 8) :: .ref (r0 9) :: .ref (r0 10) :: .ref (r0 11) :: .ref (r0 12) :: .ref (r0 13) :: .int bk0 :: .int rb0 :: .ref (r0 14) :: .int mv_43 :: .ref (r0 15) :: .ref (r0 16) :: .ref (r0 17) :: .ref (r0 18) :: .ref (r0 19) :: .ref (r0 20) :: .ref (r0 21) :: .ref (r0 22) :: .ref (r0 23) :: .int dw0 :: .int rl0 :: .int mg_48 :: .long su_49 :: .long sd0 :: .ref (r0 24) :: .ref (r0 25) :: .int jm0 :: .long bu_52 :: .long bd0 :: .ref (r0 26) :: .int gm0 :: .int fa_55 :: .ref (r0 27) :: .ref (r0 28) :: .ref (r0 29) :: .ref (r0 30) :: .ref (r0 31) :: .ref (r0 32) :: .ref (r0 33) :: .ref (r0 34) :: .ref (r0 35) :: .ref (r0 36) :: .ref (r0 37) :: .int pp_56 :: .int ti0 :: .ref (r0 38) :: .ref (r0 39) :: .ref (r0 40) :: .int so_61 :: .ref (r0 41) :: .ref (r0 42) :: .ref (r0 43) :: [])))]]) := hD
    rw [hQ0]
    exact W.vret hx hb hr (fun t ht hW => ⟨⟨(), rfl, trivial, ⟨p1, _, ⟨tp_23, p2, aq_31, nu_38, mv_43, mg_48, su_49, bu_52, fa_55, pp_56, so_61, rfl, by omega, by omega, by omega, by omega, by omega, by omega, by omega, by omega, by omega, by omega, by omega, by omega, by omega, by omega, by omega, by omega, by omega, by omega, by omega, by omega, by omega, by omega, by omega, by omega, by omega, by omega, by omega, by omega, by omega, by omega⟩, (by omega), by rw [ht]; exact hP, hD⟩⟩, hS.F ht⟩) hS.2.2 dX11_fails_18
  · have c_64 : 0 < fk0.toInt := f_nle rfl tI_0 c_64
    rw [hQ0]
    exact W.vret hx hb hr (fun t ht hW => ⟨⟨(), rfl, trivial, ⟨fk0, _, ⟨tp_23, fp_30, aq_31, nu_38, mv_43, mg_48, su_49, bu_52, fa_55, pp_56, so_61, rfl, by omega, by omega, by omega, by omega, by omega, by omega, by omega, by omega, by omega, by omega, by omega, by omega, by omega, by omega, by omega, by omega, by omega, by omega, by omega, by omega, by omega, by omega, by omega, by omega, by omega, by omega, by omega, by omega, by omega, by omega⟩, (by omega), by rw [ht]; exact hP, hD⟩⟩, hS.F ht⟩) hS.2.2 dX11_fails_7
