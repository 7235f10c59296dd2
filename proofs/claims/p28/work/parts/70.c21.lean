theorem iw_X4_isName_X4 : ∀ w ∈ wsX40, w ∈ wsX4_isName := fun _ h => List.mem_cons_of_mem _ (List.mem_append_left _ (List.mem_append_right _ h))
theorem iw_X4_isName_X9 : ∀ w ∈ wsX90, w ∈ wsX4_isName := fun _ h => List.mem_cons_of_mem _ (List.mem_append_right _ h)
set_option maxHeartbeats 4000000 in
set_option maxRecDepth 100000 in
theorem c_X4_isName (l : Launch) (dC : Nat → ClassId) (dI : Nat → Nat → Nat) (ad : Nat → Nat) (tN : Nat) (fN : Nat → Int64) (cB cI cJ cZ : ClassId) (h0 : Nat) (r0 : Nat → Nat) (tk0 : Nat) (rp0 : Nat) (w0 : va_W) (r1 : Nat → Nat) (tx1 : Nat) (w1 : va_W) (f2 : Nat → Int32) (r3 : Nat → Nat) (fc3 : Int32) (dc3 : Int32) (rk3 : Nat → Int32) (w3 : va_W) (o0 : ok_read ad cB cI cJ cZ h0 r0 tk0 rp0 w0) (o1 : ok_tok ad cB cI cJ cZ tk0 r1 tx1 w1) (o3 : ok_plan ad cB cI cJ cZ rp0 r3 fc3 dc3 rk3 w3) (sz : Nat) : Met l yX4_isName wsX4_isName ({ frames := 0, cells := 0, slots := 0, locals := 0 } : Room) (va_Pc [.ref h0] (fun U => U.heap.size = sz ∧ va_P (dC, dI) vwCl (List.flatten [w0, w1, [(tx1, .inl (cB, 1600, .inl f2))], w3]) U.heap ∧ va_K (dC, dI) vwCl [(cB, .byte), (cI, .int), (cJ, .long), (cZ, .boolean)] U ∧ va_D (fun _ => True) (List.flatten [w0, w1, [(tx1, .inl (cB, 1600, .inl f2))], w3]) ∧ ex_Y ad tN fN (va_A (List.flatten [w0, w1, [(tx1, .inl (cB, 1600, .inl f2))], w3]) sz) U)) (va_Qi (fun (r : Int32) (_ : Unit) => 0 ≤ r.toInt ∧ r.toInt ≤ 1) (fun (_ : Unit) (t : State) => va_P (dC, dI) vwCl (List.flatten [w0, w1, [(tx1, .inl (cB, 1600, .inl f2))], w3]) t.heap ∧ va_D (va_A (List.flatten [w0, w1, [(tx1, .inl (cB, 1600, .inl f2))], w3]) sz) (List.flatten [w0, w1, [(tx1, .inl (cB, 1600, .inl f2))], w3])) (va_A (List.flatten [w0, w1, [(tx1, .inl (cB, 1600, .inl f2))], w3]) sz)) 0 0 (va_A (List.flatten [w0, w1, [(tx1, .inl (cB, 1600, .inl f2))], w3]) sz) := by
  refine Met.ofW (cc := cX4_isName) (maxL := 2) (ret := (some .boolean)) (by decide) rfl ?_
  intro p e s m args below meth c s₁ B hml hv
  obtain ⟨rfl, hsz, hP, hK, hD0, hE⟩ := hv
  have hx := B.exec
  have hb := B.bytes
  have hr := B.returns
  have hts := atoms_spec (ws := wsX4_isName) B.pre
  have hown : s.vm.findClass RX4 = some m.cls := findClass_of_methodNamed B.named
  have hlocks := B.notSynchronized
  subst hsz
  have hD := hD0.self (sz := s.heap.size)
  generalize hAe : va_A (List.flatten [w0, w1, [(tx1, .inl (cB, 1600, .inl f2))], w3]) s.heap.size = A at hD hE ⊢
  have hA : ∀ q : Nat, s.heap.size ≤ q → A q := fun q h => by rw [← hAe]; exact Or.inr h
  have hS : va_S A s.heap s.heap [] := va_S.rf
  have hl := lv_entry ([.ref h0]) (n := 2) (Nat.le_of_ble_eq_true rfl)
  rw [lg_entry_eq]
  generalize (lg_sl ([.ref h0]) ++ List.replicate (2 - (lg_sl ([.ref h0])).length) Slot.unset).toArray = ls at hl ⊢
  have hl : lv_has ls 2 [(0, .ref h0)] := hl
  clear hAe
  refine W_name (fun Q0 hQ0 => ?_)
  refine lv_aload_n hx hb dX4_isName_0 rfl (lv_at hl 0 rfl) ?_
  obtain ⟨fk_1, fp_2, rfl⟩ := o0
  refine va_get (D := (dC, dI)) (ci := 3) (v := .ref tk0) (C := RX4) (T := TX4) (N := 4) hx hb hts iw_X4_isName_X4 hown hK hP 0 rfl rfl 0 (by decide) (hts (.fieldLink RX4 12 "HungFloors$HouseReader" "tokens" "LHungFloors$Tokens;") (by decide +kernel)) (fun _ h9 => h9) rfl dX4_isName_1 ?_
  obtain ⟨ln_3, ap_6, kd_9, sa_10, wd_11, nu_12, rfl, hl_4, hh_5, hl_7, hh_8⟩ := o1
  refine va_get (D := (dC, dI)) (ci := 7) (v := .ref (ad kd_9)) (C := RX9) (T := TX9) (N := 7) hx hb hts iw_X4_isName_X9 hown hK hP 1 rfl rfl 3 (by decide) (hts (.fieldLink RX4 39 "HungFloors$Tokens" "kind" "LHungFloors$Kind;") (by decide +kernel)) (fun _ h9 => h9) rfl dX4_isName_4 ?_
  refine va_gets hx hb (hE.2.1.1 0 (by decide)).1 hS hown (hts (.fieldLink RX4 164 "HungFloors$Kind" "WORD" "LHungFloors$Kind;") (by decide +kernel)) (fun _ h9 => h9) dX4_isName_7 ?_
  refine lv_acmp_eq (rx := some (ad kd_9)) (ry := some (ad 0)) (tgt := 15) hx hb dX4_isName_10 (by decide) (fun c_13 => ?_) (fun c_13 => ?_)
  · refine lv_iconst (v := 0) hx hb dX4_isName_15 (by decide) ?_
    refine lv_istore_n (lv' := [(1, .int 0), (0, .ref h0)]) hx hb dX4_isName_16 rfl hl (by decide) rfl (fun ls hl => ?_)
    have lp_67 : ∀ (n : Nat) (g_14 : Int32), 0 ≤ g_14.toInt → g_14.toInt ≤ 9 → (9 - g_14.toInt).toNat < n → ∀ (H : Heap) (locs : List Loc), va_P (dC, dI) vwCl (List.flatten [[(h0, .inr (3, [.ref tk0, .ref rp0, .int fk_1, .int fp_2]))], [(tk0, .inr (7, [.ref tx1, .int ln_3, .int ap_6, .ref (ad kd_9), .int sa_10, .long wd_11, .int nu_12]))], [(tx1, .inl (cB, 1600, .inl f2))], w3]) H → va_D A (List.flatten [[(h0, .inr (3, [.ref tk0, .ref rp0, .int fk_1, .int fp_2]))], [(tk0, .inr (7, [.ref tx1, .int ln_3, .int ap_6, .ref (ad kd_9), .int sa_10, .long wd_11, .int nu_12]))], [(tx1, .inl (cB, 1600, .inl f2))], w3]) → va_S A s.heap H locs → ∀ (ls : Array Slot), lv_has ls 2 [(1, .int g_14), (0, .ref h0)] → W p l e (headSpec wsX4_isName ({ frames := 0, cells := 0, slots := 0, locals := 0 } : Room)).room s m ([.ref h0] : List Value).toArray below meth c H locs 0 0 Q0 (F0 m 17 ls []) := by
      intro n
      induction n with
      | zero => intro g_14 iv_65 iv_66 hm; exact absurd hm (Nat.not_lt_zero _)
      | succ n ih_68 =>
        intro g_14 iv_65 iv_66 hm H locs hP hD hS ls hl
        refine lv_iload_n hx hb dX4_isName_17 rfl (lv_at hl 0 rfl) ?_
        refine va_gets hx hb hE.2.2.1 hS hown (hts (.fieldLink RX4 167 "HungFloors$HouseReader" "NO_NAMES" "[J") (by decide +kernel)) (fun _ h9 => h9) dX4_isName_18 ?_
        refine va_tlen hx hb hE.2.2.2 hS (v := 9) (by decide) dX4_isName_21 ?_
        refine lv_icmp_ge (tgt := 49) hx hb dX4_isName_22 (by decide) (fun c_69 => ?_) (fun c_69 => ?_)
        · have c_69 : 9 ≤ g_14.toInt := f_le tI_9 rfl c_69
          refine lv_iconst (v := 1) hx hb dX4_isName_49 (by decide) ?_
          rw [hQ0]
          exact W.zret (v := 1) hx hb hr (by decide) (fun t ht hW => ⟨⟨1, (), rfl, ⟨by decide, by decide⟩, ⟨by rw [ht]; exact hP, hD⟩⟩, hS.F ht⟩) hS.2.2 dX4_isName_50
        · have c_69 : g_14.toInt < 9 := f_nle tI_9 rfl c_69
          refine lv_aload_n hx hb dX4_isName_25 rfl (lv_at hl 1 rfl) ?_
          refine va_get (D := (dC, dI)) (ci := 3) (v := .ref tk0) (C := RX4) (T := TX4) (N := 4) hx hb hts iw_X4_isName_X4 hown hK hP 0 rfl rfl 0 (by decide) (hts (.fieldLink RX4 12 "HungFloors$HouseReader" "tokens" "LHungFloors$Tokens;") (by decide +kernel)) (fun _ h9 => h9) rfl dX4_isName_26 ?_
          refine va_get (D := (dC, dI)) (ci := 7) (v := .long wd_11) (C := RX9) (T := TX9) (N := 7) hx hb hts iw_X4_isName_X9 hown hK hP 1 rfl rfl 5 (by decide) (hts (.fieldLink RX4 90 "HungFloors$Tokens" "word" "J") (by decide +kernel)) (fun _ h9 => h9) rfl dX4_isName_29 ?_
          refine va_gets hx hb hE.2.2.1 hS hown (hts (.fieldLink RX4 167 "HungFloors$HouseReader" "NO_NAMES" "[J") (by decide +kernel)) (fun _ h9 => h9) dX4_isName_32 ?_
          refine lv_iload_n hx hb dX4_isName_35 rfl (lv_at hl 0 rfl) ?_
          refine va_tl hx hb hE.2.2.2 hS (v_in rfl (by omega) (by omega)) rfl dX4_isName_36 ?_
          refine lv_topl (fun z_70 ez_70 => ?_)
          refine W.lcmp hx hb dX4_isName_37 ?_
          refine lv_topi (fun z_71 ez_71 => ?_)
          refine lv_if_ne (tgt := 43) hx hb dX4_isName_38 (by decide) (fun c_72 => ?_) (fun c_72 => ?_)
          · have c_72 : ¬ z_71.toInt = 0 := f_ne rfl tI_0 c_72
            obtain ⟨z_73, ez_73⟩ : ∃ y : Int32, y = g_14 + 1 := ⟨_, rfl⟩
            have hz_73 : z_73.toInt = g_14.toInt + 1 := by rw [ez_73]; exact t_add rfl tI_1 (by omega) (by omega)
            refine lv_iinc (v := z_73) (lv' := [(1, .int z_73), (0, .ref h0)]) hx hb dX4_isName_43 hl (k := 0) rfl (by rw [ez_73]; rfl) (by decide) rfl (fun ls hl => ?_)
            refine lv_goto (tgt := 17) hx hb dX4_isName_46 (by decide) ?_
            exact ih_68 z_73 (by omega) (by omega) (by omega) _ _ hP hD hS ls (lv_sub hl [0, 1] rfl)
          · have c_72 : z_71.toInt = 0 := f_eq rfl tI_0 c_72
            refine lv_iconst (v := 0) hx hb dX4_isName_41 (by decide) ?_
            rw [hQ0]
            exact W.zret (v := 0) hx hb hr (by decide) (fun t ht hW => ⟨⟨0, (), rfl, ⟨by decide, by decide⟩, ⟨by rw [ht]; exact hP, hD⟩⟩, hS.F ht⟩) hS.2.2 dX4_isName_42
    exact lp_67 _ 0 (by have := tI_0; omega) (by have := tI_0; omega) (Nat.lt_succ_self _) _ _ hP hD hS ls (lv_sub hl [0, 1] rfl)
  · refine lv_iconst (v := 0) hx hb dX4_isName_13 (by decide) ?_
    rw [hQ0]
    exact W.zret (v := 0) hx hb hr (by decide) (fun t ht hW => ⟨⟨0, (), rfl, ⟨by decide, by decide⟩, ⟨by rw [ht]; exact hP, hD⟩⟩, hS.F ht⟩) hS.2.2 dX4_isName_14
set_option maxHeartbeats 4000000 in
set_option maxRecDepth 100000 in
theorem c_X4_isNewName (l : Launch) (dC : Nat → ClassId) (dI : Nat → Nat → Nat) (ad : Nat → Nat) (tN : Nat) (fN : Nat → Int64) (cB cI cJ cZ : ClassId) (h0 : Nat) (p1 : Int32) (r0 : Nat → Nat) (tk0 : Nat) (rp0 : Nat) (w0 : va_W) (r1 : Nat → Nat) (tx1 : Nat) (w1 : va_W) (f2 : Nat → Int32) (r3 : Nat → Nat) (fc3 : Int32) (dc3 : Int32) (rk3 : Nat → Int32) (w3 : va_W) (o0 : ok_read ad cB cI cJ cZ h0 r0 tk0 rp0 w0) (o1 : ok_tok ad cB cI cJ cZ tk0 r1 tx1 w1) (o3 : ok_plan ad cB cI cJ cZ rp0 r3 fc3 dc3 rk3 w3) (sz : Nat) : Met l yX4_isNewName wsX4_isNewName ({ frames := 1, cells := 0, slots := 0, locals := 21 } : Room) (va_Pc [.ref h0, .int p1] (fun U => U.heap.size = sz ∧ va_P (dC, dI) vwCl (List.flatten [w0, w1, [(tx1, .inl (cB, 1600, .inl f2))], w3]) U.heap ∧ va_K (dC, dI) vwCl [(cB, .byte), (cI, .int), (cJ, .long), (cZ, .boolean)] U ∧ va_D (fun _ => True) (List.flatten [w0, w1, [(tx1, .inl (cB, 1600, .inl f2))], w3]) ∧ ex_Y ad tN fN (va_A (List.flatten [w0, w1, [(tx1, .inl (cB, 1600, .inl f2))], w3]) sz) U)) (va_Qi (fun (r : Int32) (_ : Unit) => 0 ≤ r.toInt ∧ r.toInt ≤ 1) (fun (_ : Unit) (t : State) => ∃ (w09 : va_W), ok_read ad cB cI cJ cZ h0 r0 tk0 rp0 w09 ∧ va_P (dC, dI) vwCl (List.flatten [w09, w1, [(tx1, .inl (cB, 1600, .inl f2))], w3]) t.heap ∧ va_D (va_A (List.flatten [w0, w1, [(tx1, .inl (cB, 1600, .inl f2))], w3]) sz) (List.flatten [w09, w1, [(tx1, .inl (cB, 1600, .inl f2))], w3])) (va_A (List.flatten [w0, w1, [(tx1, .inl (cB, 1600, .inl f2))], w3]) sz)) 0 0 (va_A (List.flatten [w0, w1, [(tx1, .inl (cB, 1600, .inl f2))], w3]) sz) := by
  refine Met.ofW (cc := cX4_isNewName) (maxL := 2) (ret := (some .boolean)) (by decide) rfl ?_
  intro p e s m args below meth c s₁ B hml hv
  obtain ⟨rfl, hsz, hP, hK, hD0, hE⟩ := hv
  have hx := B.exec
  have hb := B.bytes
  have hr := B.returns
  have hts := atoms_spec (ws := wsX4_isNewName) B.pre
  have hown : s.vm.findClass RX4 = some m.cls := findClass_of_methodNamed B.named
  have hlocks := B.notSynchronized
  subst hsz
  have hD := hD0.self (sz := s.heap.size)
  generalize hAe : va_A (List.flatten [w0, w1, [(tx1, .inl (cB, 1600, .inl f2))], w3]) s.heap.size = A at hD hE ⊢
  have hA : ∀ q : Nat, s.heap.size ≤ q → A q := fun q h => by rw [← hAe]; exact Or.inr h
  have hS : va_S A s.heap s.heap [] := va_S.rf
  have hl := lv_entry ([.ref h0, .int p1]) (n := 2) (Nat.le_of_ble_eq_true rfl)
  rw [lg_entry_eq]
  generalize (lg_sl ([.ref h0, .int p1]) ++ List.replicate (2 - (lg_sl ([.ref h0, .int p1])).length) Slot.unset).toArray = ls at hl ⊢
  have hl : lv_has ls 2 [(0, .ref h0), (1, .int p1)] := hl
  clear hAe
  refine W_name (fun Q0 hQ0 => ?_)
  refine lv_aload_n hx hb dX4_isNewName_0 rfl (lv_at hl 0 rfl) ?_
  obtain ⟨fk_1, fp_2, rfl⟩ := o0
  have hpm : List.Perm ([[(h0, .inr (3, [.ref tk0, .ref rp0, .int fk_1, .int fp_2]))], w1, [(tx1, .inl (cB, 1600, .inl f2))], w3] : List va_W) (([[(h0, .inr (3, [.ref tk0, .ref rp0, .int fk_1, .int fp_2]))], w1, [(tx1, .inl (cB, 1600, .inl f2))], w3] : List va_W) ++ ([] : List va_W)) := pm_n 4 [0, 1, 2, 3] (by decide) rfl rfl
  have hPc := bk_P hpm hP
  have hDc := bk_D hpm hD
  have hFc := bk_F hpm hD hS hA
  refine va_calli (va_runV (As := []) (rest := []) ⟨hx, hb, hml, hown, hts⟩ (c_X4_isName l dC dI ad tN fN cB cI cJ cZ h0 r0 tk0 rp0 _ r1 tx1 _ _ r3 fc3 dc3 rk3 _ ⟨fk_1, fp_2, rfl⟩ o1 o3 s.heap.size) (cwV 0 hts gX4_isNewName_X4_isName rfl rfl rfl (by decide +kernel) ⟨(Nat.le_of_ble_eq_true rfl), (Nat.le_of_ble_eq_true rfl)⟩) ⟨fun a U g mk q => by obtain ⟨q0, q1, qP, qK, qD, qE⟩ := q; exact ⟨q0, q1, qP, va_K.moved (u := U) (U := U.calling g mk a) (Vm.Alike.refl U.vm) qK, qD, ey_blind qE⟩, va_recv hK hPc (ci := 3) (q0 := 0) rfl rfl, fun U hU hW => ⟨rfl, by rw [hU], by rw [hU]; exact hPc, va_K.moved hW.alike hK, hDc.weaken (fun _ _ _ _ => trivial), ey_call hE hS hFc hU hW⟩⟩ rfl rfl hl.1 rfl (lv_room (Nat.le_of_ble_eq_true rfl)) dX4_isNewName_1 ⟨(Nat.le_of_ble_eq_true rfl), (Nat.le_of_ble_eq_true rfl)⟩) hS (fun q _ h => hFc q h) hFc (fun r_3 u t H locs ht hvm hw hB hz1 hk1 hS => ?_)
  obtain ⟨hP1, hD1⟩ := hB
  rw [ht] at hP1
  obtain ⟨hP, hD⟩ := bk_join hpm hP hD hk1 hFc (Cs1 := [[(h0, .inr (3, [.ref tk0, .ref rp0, .int fk_1, .int fp_2]))], w1, [(tx1, .inl (cB, 1600, .inl f2))], w3]) hP1 hD1
  have hpm2 : List.Perm (([[(h0, .inr (3, [.ref tk0, .ref rp0, .int fk_1, .int fp_2]))], w1, [(tx1, .inl (cB, 1600, .inl f2))], w3] : List va_W) ++ ([] : List va_W)) ([[(h0, .inr (3, [.ref tk0, .ref rp0, .int fk_1, .int fp_2]))], w1, [(tx1, .inl (cB, 1600, .inl f2))], w3] : List va_W) := pm_n 4 [0, 1, 2, 3] (by decide) rfl rfl
  have hP := bk_reP hpm2 hP
  have hD := bk_reD hpm2 hD
  have hP : va_P (dC, dI) vwCl (List.flatten [[(h0, .inr (3, [.ref tk0, .ref rp0, .int fk_1, .int fp_2]))], w1, [(tx1, .inl (cB, 1600, .inl f2))], w3]) H := hP
  have hD : va_D A (List.flatten [[(h0, .inr (3, [.ref tk0, .ref rp0, .int fk_1, .int fp_2]))], w1, [(tx1, .inl (cB, 1600, .inl f2))], w3]) := hD
  obtain ⟨hlr_3, hhr_3⟩ := hw
  refine lv_if_ne (tgt := 13) hx hb dX4_isNewName_4 (by decide) (fun c_4 => ?_) (fun c_4 => ?_)
  · have c_4 : ¬ r_3.toInt = 0 := f_ne rfl tI_0 c_4
    refine lv_iload_n hx hb dX4_isNewName_13 rfl (lv_at hl 1 rfl) ?_
    refine lv_if_lt (tgt := 25) hx hb dX4_isNewName_14 (by decide) (fun c_5 => ?_) (fun c_5 => ?_)
    · have c_5 : p1.toInt < 0 := f_lt rfl tI_0 c_5
      refine lv_iconst (v := 1) hx hb dX4_isNewName_25 (by decide) ?_
      refine lv_goto (tgt := 30) hx hb dX4_isNewName_26 (by decide) ?_
      rw [hQ0]
      exact W.zret (v := 1) hx hb hr (by decide) (fun t ht hW => ⟨⟨1, (), rfl, ⟨by decide, by decide⟩, ⟨_, ⟨fk_1, fp_2, rfl⟩, by rw [ht]; exact hP, hD⟩⟩, hS.F ht⟩) hS.2.2 dX4_isNewName_30
    · have c_5 : 0 ≤ p1.toInt := f_nlt rfl tI_0 c_5
      refine lv_aload_n hx hb dX4_isNewName_17 rfl (lv_at hl 0 rfl) ?_
      refine lv_iconst (v := 3) hx hb dX4_isNewName_18 (by decide) ?_
      have hpm : List.Perm ([[(h0, .inr (3, [.ref tk0, .ref rp0, .int fk_1, .int fp_2]))], w1, [(tx1, .inl (cB, 1600, .inl f2))], w3] : List va_W) (([[(h0, .inr (3, [.ref tk0, .ref rp0, .int fk_1, .int fp_2]))], w1, [(tx1, .inl (cB, 1600, .inl f2))], w3] : List va_W) ++ ([] : List va_W)) := pm_n 4 [0, 1, 2, 3] (by decide) rfl rfl
      have hPc := bk_P hpm hP
      have hDc := bk_D hpm hD
      have hFc := bk_F hpm hD hS hA
      refine va_calli (va_runV (As := [.int 3]) (rest := []) ⟨hx, hb, hml, hown, hts⟩ (c_X4_refuse l dC dI ad tN fN cB cI cJ cZ h0 3 r0 tk0 rp0 _ r1 tx1 _ _ r3 fc3 dc3 rk3 _ ⟨fk_1, fp_2, rfl⟩ o1 o3 H.size) (cwV 1 hts gX4_isNewName_X4_refuse rfl rfl rfl (by decide +kernel) ⟨(Nat.le_of_ble_eq_true rfl), (Nat.le_of_ble_eq_true rfl)⟩) ⟨fun a U g mk q => by obtain ⟨q0, q1, qP, qK, qD, qE⟩ := q; exact ⟨q0, q1, qP, va_K.moved (u := U) (U := U.calling g mk a) (Vm.Alike.refl U.vm) qK, qD, ey_blind qE⟩, va_recv hK hPc (ci := 3) (q0 := 0) rfl rfl, fun U hU hW => ⟨rfl, by rw [hU], by rw [hU]; exact hPc, va_K.moved hW.alike hK, hDc.weaken (fun _ _ _ _ => trivial), ey_call hE hS hFc hU hW⟩⟩ rfl rfl hl.1 rfl (lv_room (Nat.le_of_ble_eq_true rfl)) dX4_isNewName_19 ⟨(Nat.le_of_ble_eq_true rfl), (Nat.le_of_ble_eq_true rfl)⟩) hS (fun q _ h => hFc q h) hFc (fun r_6 u t H locs ht hvm hw hB hz1 hk1 hS => ?_)
      obtain ⟨w_7, o_8, hP1, hD1⟩ := hB
      rw [ht] at hP1
      obtain ⟨hP, hD⟩ := bk_join hpm hP hD hk1 hFc (Cs1 := [w_7, w1, [(tx1, .inl (cB, 1600, .inl f2))], w3]) hP1 hD1
      have hpm2 : List.Perm (([w_7, w1, [(tx1, .inl (cB, 1600, .inl f2))], w3] : List va_W) ++ ([] : List va_W)) ([w_7, w1, [(tx1, .inl (cB, 1600, .inl f2))], w3] : List va_W) := pm_n 4 [0, 1, 2, 3] (by decide) rfl rfl
      have hP := bk_reP hpm2 hP
      have hD := bk_reD hpm2 hD
      have hP : va_P (dC, dI) vwCl (List.flatten [w_7, w1, [(tx1, .inl (cB, 1600, .inl f2))], w3]) H := hP
      have hD : va_D A (List.flatten [w_7, w1, [(tx1, .inl (cB, 1600, .inl f2))], w3]) := hD
      obtain rfl : r_6 = (0 : Int32) := hw
      refine lv_if_eq (tgt := 29) hx hb dX4_isNewName_22 (by decide) (fun c_9 => ?_) (fun c_9 => absurd c_9 (by decide))
      refine lv_iconst (v := 0) hx hb dX4_isNewName_29 (by decide) ?_
      rw [hQ0]
      exact W.zret (v := 0) hx hb hr (by decide) (fun t ht hW => ⟨⟨0, (), rfl, ⟨by decide, by decide⟩, ⟨_, o_8, by rw [ht]; exact hP, hD⟩⟩, hS.F ht⟩) hS.2.2 dX4_isNewName_30
  · have c_4 : r_3.toInt = 0 := f_eq rfl tI_0 c_4
    refine lv_aload_n hx hb dX4_isNewName_7 rfl (lv_at hl 0 rfl) ?_
    refine lv_iconst (v := 2) hx hb dX4_isNewName_8 (by decide) ?_
    have hpm : List.Perm ([[(h0, .inr (3, [.ref tk0, .ref rp0, .int fk_1, .int fp_2]))], w1, [(tx1, .inl (cB, 1600, .inl f2))], w3] : List va_W) (([[(h0, .inr (3, [.ref tk0, .ref rp0, .int fk_1, .int fp_2]))], w1, [(tx1, .inl (cB, 1600, .inl f2))], w3] : List va_W) ++ ([] : List va_W)) := pm_n 4 [0, 1, 2, 3] (by decide) rfl rfl
    have hPc := bk_P hpm hP
    have hDc := bk_D hpm hD
    have hFc := bk_F hpm hD hS hA
    refine va_calli (va_runV (As := [.int 2]) (rest := []) ⟨hx, hb, hml, hown, hts⟩ (c_X4_refuse l dC dI ad tN fN cB cI cJ cZ h0 2 r0 tk0 rp0 _ r1 tx1 _ _ r3 fc3 dc3 rk3 _ ⟨fk_1, fp_2, rfl⟩ o1 o3 H.size) (cwV 1 hts gX4_isNewName_X4_refuse rfl rfl rfl (by decide +kernel) ⟨(Nat.le_of_ble_eq_true rfl), (Nat.le_of_ble_eq_true rfl)⟩) ⟨fun a U g mk q => by obtain ⟨q0, q1, qP, qK, qD, qE⟩ := q; exact ⟨q0, q1, qP, va_K.moved (u := U) (U := U.calling g mk a) (Vm.Alike.refl U.vm) qK, qD, ey_blind qE⟩, va_recv hK hPc (ci := 3) (q0 := 0) rfl rfl, fun U hU hW => ⟨rfl, by rw [hU], by rw [hU]; exact hPc, va_K.moved hW.alike hK, hDc.weaken (fun _ _ _ _ => trivial), ey_call hE hS hFc hU hW⟩⟩ rfl rfl hl.1 rfl (lv_room (Nat.le_of_ble_eq_true rfl)) dX4_isNewName_9 ⟨(Nat.le_of_ble_eq_true rfl), (Nat.le_of_ble_eq_true rfl)⟩) hS (fun q _ h => hFc q h) hFc (fun r_10 u t H locs ht hvm hw hB hz1 hk1 hS => ?_)
    obtain ⟨w_11, o_12, hP1, hD1⟩ := hB
    rw [ht] at hP1
    obtain ⟨hP, hD⟩ := bk_join hpm hP hD hk1 hFc (Cs1 := [w_11, w1, [(tx1, .inl (cB, 1600, .inl f2))], w3]) hP1 hD1
    have hpm2 : List.Perm (([w_11, w1, [(tx1, .inl (cB, 1600, .inl f2))], w3] : List va_W) ++ ([] : List va_W)) ([w_11, w1, [(tx1, .inl (cB, 1600, .inl f2))], w3] : List va_W) := pm_n 4 [0, 1, 2, 3] (by decide) rfl rfl
    have hP := bk_reP hpm2 hP
    have hD := bk_reD hpm2 hD
    have hP : va_P (dC, dI) vwCl (List.flatten [w_11, w1, [(tx1, .inl (cB, 1600, .inl f2))], w3]) H := hP
    have hD : va_D A (List.flatten [w_11, w1, [(tx1, .inl (cB, 1600, .inl f2))], w3]) := hD
    obtain rfl : r_10 = (0 : Int32) := hw
    rw [hQ0]
    exact W.zret (v := 0) hx hb hr (by decide) (fun t ht hW => ⟨⟨0, (), rfl, ⟨by decide, by decide⟩, ⟨_, o_12, by rw [ht]; exact hP, hD⟩⟩, hS.F ht⟩) hS.2.2 dX4_isNewName_12
theorem iw_X4_takeSign_X4 : ∀ w ∈ wsX40, w ∈ wsX4_takeSign := fun _ h => List.mem_cons_of_mem _ (List.mem_append_left _ (List.mem_append_right _ h))
theorem iw_X4_takeSign_X9 : ∀ w ∈ wsX90, w ∈ wsX4_takeSign := fun _ h => List.mem_cons_of_mem _ (List.mem_append_right _ h)
set_option maxHeartbeats 4000000 in
set_option maxRecDepth 100000 in
theorem c_X4_takeSign (l : Launch) (dC : Nat → ClassId) (dI : Nat → Nat → Nat) (ad : Nat → Nat) (tN : Nat) (fN : Nat → Int64) (cB cI cJ cZ : ClassId) (h0 : Nat) (r0 : Nat → Nat) (tk0 : Nat) (rp0 : Nat) (w0 : va_W) (r1 : Nat → Nat) (tx1 : Nat) (w1 : va_W) (f2 : Nat → Int32) (r3 : Nat → Nat) (fc3 : Int32) (dc3 : Int32) (rk3 : Nat → Int32) (w3 : va_W) (o0 : ok_read ad cB cI cJ cZ h0 r0 tk0 rp0 w0) (o1 : ok_tok ad cB cI cJ cZ tk0 r1 tx1 w1) (o3 : ok_plan ad cB cI cJ cZ rp0 r3 fc3 dc3 rk3 w3) (sz : Nat) : Met l yX4_takeSign wsX4_takeSign ({ frames := 2, cells := 0, slots := 0, locals := 41 } : Room) (va_Pc [.ref h0] (fun U => U.heap.size = sz ∧ va_P (dC, dI) vwCl (List.flatten [w0, w1, [(tx1, .inl (cB, 1600, .inl f2))], w3]) U.heap ∧ va_K (dC, dI) vwCl [(cB, .byte), (cI, .int), (cJ, .long), (cZ, .boolean)] U ∧ va_D (fun _ => True) (List.flatten [w0, w1, [(tx1, .inl (cB, 1600, .inl f2))], w3]) ∧ ex_Y ad tN fN (va_A (List.flatten [w0, w1, [(tx1, .inl (cB, 1600, .inl f2))], w3]) sz) U)) (va_Qi (fun (r : Int32) (_ : Unit) => 0 ≤ r.toInt ∧ r.toInt ≤ 1) (fun (_ : Unit) (t : State) => ∃ (w09 : va_W) (w19 : va_W), ok_read ad cB cI cJ cZ h0 r0 tk0 rp0 w09 ∧ ok_tok ad cB cI cJ cZ tk0 r1 tx1 w19 ∧ va_P (dC, dI) vwCl (List.flatten [w09, w19, [(tx1, .inl (cB, 1600, .inl f2))], w3]) t.heap ∧ va_D (va_A (List.flatten [w0, w1, [(tx1, .inl (cB, 1600, .inl f2))], w3]) sz) (List.flatten [w09, w19, [(tx1, .inl (cB, 1600, .inl f2))], w3])) (va_A (List.flatten [w0, w1, [(tx1, .inl (cB, 1600, .inl f2))], w3]) sz)) 0 0 (va_A (List.flatten [w0, w1, [(tx1, .inl (cB, 1600, .inl f2))], w3]) sz) := by
  refine Met.ofW (cc := cX4_takeSign) (maxL := 1) (ret := (some .boolean)) (by decide) rfl ?_
  intro p e s m args below meth c s₁ B hml hv
  obtain ⟨rfl, hsz, hP, hK, hD0, hE⟩ := hv
  have hx := B.exec
  have hb := B.bytes
  have hr := B.returns
  have hts := atoms_spec (ws := wsX4_takeSign) B.pre
  have hown : s.vm.findClass RX4 = some m.cls := findClass_of_methodNamed B.named
  have hlocks := B.notSynchronized
  subst hsz
  have hD := hD0.self (sz := s.heap.size)
  generalize hAe : va_A (List.flatten [w0, w1, [(tx1, .inl (cB, 1600, .inl f2))], w3]) s.heap.size = A at hD hE ⊢
  have hA : ∀ q : Nat, s.heap.size ≤ q → A q := fun q h => by rw [← hAe]; exact Or.inr h
  have hS : va_S A s.heap s.heap [] := va_S.rf
  have hl := lv_entry ([.ref h0]) (n := 1) (Nat.le_of_ble_eq_true rfl)
  rw [lg_entry_eq]
  generalize (lg_sl ([.ref h0]) ++ List.replicate (1 - (lg_sl ([.ref h0])).length) Slot.unset).toArray = ls at hl ⊢
  have hl : lv_has ls 1 [(0, .ref h0)] := hl
  clear hAe
  refine W_name (fun Q0 hQ0 => ?_)
  refine lv_aload_n hx hb dX4_takeSign_0 rfl (lv_at hl 0 rfl) ?_
  obtain ⟨fk_1, fp_2, rfl⟩ := o0
  refine va_get (D := (dC, dI)) (ci := 3) (v := .ref tk0) (C := RX4) (T := TX4) (N := 4) hx hb hts iw_X4_takeSign_X4 hown hK hP 0 rfl rfl 0 (by decide) (hts (.fieldLink RX4 12 "HungFloors$HouseReader" "tokens" "LHungFloors$Tokens;") (by decide +kernel)) (fun _ h9 => h9) rfl dX4_takeSign_1 ?_
  obtain ⟨ln_3, ap_6, kd_9, sa_10, wd_11, nu_12, rfl, hl_4, hh_5, hl_7, hh_8⟩ := o1
  refine va_get (D := (dC, dI)) (ci := 7) (v := .ref (ad kd_9)) (C := RX9) (T := TX9) (N := 7) hx hb hts iw_X4_takeSign_X9 hown hK hP 1 rfl rfl 3 (by decide) (hts (.fieldLink RX4 39 "HungFloors$Tokens" "kind" "LHungFloors$Kind;") (by decide +kernel)) (fun _ h9 => h9) rfl dX4_takeSign_4 ?_
  refine va_gets hx hb (hE.2.1.1 2 (by decide)).1 hS hown (hts (.fieldLink RX4 161 "HungFloors$Kind" "SIGN" "LHungFloors$Kind;") (by decide +kernel)) (fun _ h9 => h9) dX4_takeSign_7 ?_
  refine lv_acmp_eq (rx := some (ad kd_9)) (ry := some (ad 2)) (tgt := 19) hx hb dX4_takeSign_10 (by decide) (fun c_13 => ?_) (fun c_13 => ?_)
  · refine lv_aload_n hx hb dX4_takeSign_19 rfl (lv_at hl 0 rfl) ?_
    refine va_get (D := (dC, dI)) (ci := 3) (v := .ref tk0) (C := RX4) (T := TX4) (N := 4) hx hb hts iw_X4_takeSign_X4 hown hK hP 0 rfl rfl 0 (by decide) (hts (.fieldLink RX4 12 "HungFloors$HouseReader" "tokens" "LHungFloors$Tokens;") (by decide +kernel)) (fun _ h9 => h9) rfl dX4_takeSign_20 ?_
    have hpm : List.Perm ([[(h0, .inr (3, [.ref tk0, .ref rp0, .int fk_1, .int fp_2]))], [(tk0, .inr (7, [.ref tx1, .int ln_3, .int ap_6, .ref (ad kd_9), .int sa_10, .long wd_11, .int nu_12]))], [(tx1, .inl (cB, 1600, .inl f2))], w3] : List va_W) (([[(tk0, .inr (7, [.ref tx1, .int ln_3, .int ap_6, .ref (ad kd_9), .int sa_10, .long wd_11, .int nu_12]))], [(tx1, .inl (cB, 1600, .inl f2))]] : List va_W) ++ ([[(h0, .inr (3, [.ref tk0, .ref rp0, .int fk_1, .int fp_2]))], w3] : List va_W)) := pm_n 4 [1, 2, 0, 3] (by decide) rfl rfl
    have hPc := bk_P hpm hP
    have hDc := bk_D hpm hD
    have hFc := bk_F hpm hD hS hA
    refine va_callv (va_runV (As := []) (rest := []) ⟨hx, hb, hml, hown, hts⟩ (c_X9_advance l dC dI ad tN fN cB cI cJ cZ tk0 r1 tx1 _ _ ⟨ln_3, ap_6, kd_9, sa_10, wd_11, nu_12, rfl, by omega, by omega, by omega, by omega⟩ s.heap.size) (cwV 0 hts gX4_takeSign_X9_advance rfl rfl rfl (by decide +kernel) ⟨(Nat.le_of_ble_eq_true rfl), (Nat.le_of_ble_eq_true rfl)⟩) ⟨fun a U g mk q => by obtain ⟨q0, q1, qP, qK, qD, qE⟩ := q; exact ⟨q0, q1, qP, va_K.moved (u := U) (U := U.calling g mk a) (Vm.Alike.refl U.vm) qK, qD, ey_blind qE⟩, va_recv hK hPc (ci := 7) (q0 := 0) rfl rfl, fun U hU hW => ⟨rfl, by rw [hU], by rw [hU]; exact hPc, va_K.moved hW.alike hK, hDc.weaken (fun _ _ _ _ => trivial), ey_call hE hS hFc hU hW⟩⟩ rfl rfl hl.1 rfl (lv_room (Nat.le_of_ble_eq_true rfl)) dX4_takeSign_23 ⟨(Nat.le_of_ble_eq_true rfl), (Nat.le_of_ble_eq_true rfl)⟩) hS (fun q _ h => hFc q h) hFc (fun u t H locs ht hvm hw hB hz1 hk1 hS => ?_)
    obtain ⟨w_15, o_16, hP1, hD1⟩ := hB
    rw [ht] at hP1
    obtain ⟨hP, hD⟩ := bk_join hpm hP hD hk1 hFc (Cs1 := [w_15, [(tx1, .inl (cB, 1600, .inl f2))]]) hP1 hD1
    have hpm2 : List.Perm (([w_15, [(tx1, .inl (cB, 1600, .inl f2))]] : List va_W) ++ ([[(h0, .inr (3, [.ref tk0, .ref rp0, .int fk_1, .int fp_2]))], w3] : List va_W)) ([[(h0, .inr (3, [.ref tk0, .ref rp0, .int fk_1, .int fp_2]))], w_15, [(tx1, .inl (cB, 1600, .inl f2))], w3] : List va_W) := pm_n 4 [2, 0, 1, 3] (by decide) rfl rfl
    have hP := bk_reP hpm2 hP
    have hD := bk_reD hpm2 hD
    have hP : va_P (dC, dI) vwCl (List.flatten [[(h0, .inr (3, [.ref tk0, .ref rp0, .int fk_1, .int fp_2]))], w_15, [(tx1, .inl (cB, 1600, .inl f2))], w3]) H := hP
    have hD : va_D A (List.flatten [[(h0, .inr (3, [.ref tk0, .ref rp0, .int fk_1, .int fp_2]))], w_15, [(tx1, .inl (cB, 1600, .inl f2))], w3]) := hD
    refine lv_iconst (v := 1) hx hb dX4_takeSign_26 (by decide) ?_
    rw [hQ0]
    exact W.zret (v := 1) hx hb hr (by decide) (fun t ht hW => ⟨⟨1, (), rfl, ⟨by decide, by decide⟩, ⟨_, _, ⟨fk_1, fp_2, rfl⟩, o_16, by rw [ht]; exact hP, hD⟩⟩, hS.F ht⟩) hS.2.2 dX4_takeSign_27
  · refine lv_aload_n hx hb dX4_takeSign_13 rfl (lv_at hl 0 rfl) ?_
    refine lv_iconst (v := 2) hx hb dX4_takeSign_14 (by decide) ?_
    have hpm : List.Perm ([[(h0, .inr (3, [.ref tk0, .ref rp0, .int fk_1, .int fp_2]))], [(tk0, .inr (7, [.ref tx1, .int ln_3, .int ap_6, .ref (ad kd_9), .int sa_10, .long wd_11, .int nu_12]))], [(tx1, .inl (cB, 1600, .inl f2))], w3] : List va_W) (([[(h0, .inr (3, [.ref tk0, .ref rp0, .int fk_1, .int fp_2]))], [(tk0, .inr (7, [.ref tx1, .int ln_3, .int ap_6, .ref (ad kd_9), .int sa_10, .long wd_11, .int nu_12]))], [(tx1, .inl (cB, 1600, .inl f2))], w3] : List va_W) ++ ([] : List va_W)) := pm_n 4 [0, 1, 2, 3] (by decide) rfl rfl
    have hPc := bk_P hpm hP
    have hDc := bk_D hpm hD
    have hFc := bk_F hpm hD hS hA
    refine va_calli (va_runV (As := [.int 2]) (rest := []) ⟨hx, hb, hml, hown, hts⟩ (c_X4_refuse l dC dI ad tN fN cB cI cJ cZ h0 2 r0 tk0 rp0 _ r1 tx1 _ _ r3 fc3 dc3 rk3 _ ⟨fk_1, fp_2, rfl⟩ ⟨ln_3, ap_6, kd_9, sa_10, wd_11, nu_12, rfl, by omega, by omega, by omega, by omega⟩ o3 s.heap.size) (cwV 1 hts gX4_takeSign_X4_refuse rfl rfl rfl (by decide +kernel) ⟨(Nat.le_of_ble_eq_true rfl), (Nat.le_of_ble_eq_true rfl)⟩) ⟨fun a U g mk q => by obtain ⟨q0, q1, qP, qK, qD, qE⟩ := q; exact ⟨q0, q1, qP, va_K.moved (u := U) (U := U.calling g mk a) (Vm.Alike.refl U.vm) qK, qD, ey_blind qE⟩, va_recv hK hPc (ci := 3) (q0 := 0) rfl rfl, fun U hU hW => ⟨rfl, by rw [hU], by rw [hU]; exact hPc, va_K.moved hW.alike hK, hDc.weaken (fun _ _ _ _ => trivial), ey_call hE hS hFc hU hW⟩⟩ rfl rfl hl.1 rfl (lv_room (Nat.le_of_ble_eq_true rfl)) dX4_takeSign_15 ⟨(Nat.le_of_ble_eq_true rfl), (Nat.le_of_ble_eq_true rfl)⟩) hS (fun q _ h => hFc q h) hFc (fun r_17 u t H locs ht hvm hw hB hz1 hk1 hS => ?_)
    obtain ⟨w_18, o_19, hP1, hD1⟩ := hB
    rw [ht] at hP1
    obtain ⟨hP, hD⟩ := bk_join hpm hP hD hk1 hFc (Cs1 := [w_18, [(tk0, .inr (7, [.ref tx1, .int ln_3, .int ap_6, .ref (ad kd_9), .int sa_10, .long wd_11, .int nu_12]))], [(tx1, .inl (cB, 1600, .inl f2))], w3]) hP1 hD1
    have hpm2 : List.Perm (([w_18, [(tk0, .inr (7, [.ref tx1, .int ln_3, .int ap_6, .ref (ad kd_9), .int sa_10, .long wd_11, .int nu_12]))], [(tx1, .inl (cB, 1600, .inl f2))], w3] : List va_W) ++ ([] : List va_W)) ([w_18, [(tk0, .inr (7, [.ref tx1, .int ln_3, .int ap_6, .ref (ad kd_9), .int sa_10, .long wd_11, .int nu_12]))], [(tx1, .inl (cB, 1600, .inl f2))], w3] : List va_W) := pm_n 4 [0, 1, 2, 3] (by decide) rfl rfl
    have hP := bk_reP hpm2 hP
    have hD := bk_reD hpm2 hD
    have hP : va_P (dC, dI) vwCl (List.flatten [w_18, [(tk0, .inr (7, [.ref tx1, .int ln_3, .int ap_6, .ref (ad kd_9), .int sa_10, .long wd_11, .int nu_12]))], [(tx1, .inl (cB, 1600, .inl f2))], w3]) H := hP
    have hD : va_D A (List.flatten [w_18, [(tk0, .inr (7, [.ref tx1, .int ln_3, .int ap_6, .ref (ad kd_9), .int sa_10, .long wd_11, .int nu_12]))], [(tx1, .inl (cB, 1600, .inl f2))], w3]) := hD
    obtain rfl : r_17 = (0 : Int32) := hw
    rw [hQ0]
    exact W.zret (v := 0) hx hb hr (by decide) (fun t ht hW => ⟨⟨0, (), rfl, ⟨by decide, by decide⟩, ⟨_, _, o_19, ⟨ln_3, ap_6, kd_9, sa_10, wd_11, nu_12, rfl, by omega, by omega, by omega, by omega⟩, by rw [ht]; exact hP, hD⟩⟩, hS.F ht⟩) hS.2.2 dX4_takeSign_18
theorem iw_X4_takeWord_X4 : ∀ w ∈ wsX40, w ∈ wsX4_takeWord := fun _ h => List.mem_cons_of_mem _ (List.mem_append_left _ (List.mem_append_right _ h))
set_option maxHeartbeats 4000000 in
set_option maxRecDepth 100000 in
theorem c_X4_takeWord (l : Launch) (dC : Nat → ClassId) (dI : Nat → Nat → Nat) (ad : Nat → Nat) (tN : Nat) (fN : Nat → Int64) (cB cI cJ cZ : ClassId) (h0 : Nat) (q1 : Int64) (r0 : Nat → Nat) (tk0 : Nat) (rp0 : Nat) (w0 : va_W) (r1 : Nat → Nat) (tx1 : Nat) (w1 : va_W) (f2 : Nat → Int32) (r3 : Nat → Nat) (fc3 : Int32) (dc3 : Int32) (rk3 : Nat → Int32) (w3 : va_W) (o0 : ok_read ad cB cI cJ cZ h0 r0 tk0 rp0 w0) (o1 : ok_tok ad cB cI cJ cZ tk0 r1 tx1 w1) (o3 : ok_plan ad cB cI cJ cZ rp0 r3 fc3 dc3 rk3 w3) (sz : Nat) : Met l yX4_takeWord wsX4_takeWord ({ frames := 2, cells := 0, slots := 0, locals := 41 } : Room) (va_Pc [.ref h0, .long q1] (fun U => U.heap.size = sz ∧ va_P (dC, dI) vwCl (List.flatten [w0, w1, [(tx1, .inl (cB, 1600, .inl f2))], w3]) U.heap ∧ va_K (dC, dI) vwCl [(cB, .byte), (cI, .int), (cJ, .long), (cZ, .boolean)] U ∧ va_D (fun _ => True) (List.flatten [w0, w1, [(tx1, .inl (cB, 1600, .inl f2))], w3]) ∧ ex_Y ad tN fN (va_A (List.flatten [w0, w1, [(tx1, .inl (cB, 1600, .inl f2))], w3]) sz) U)) (va_Qi (fun (r : Int32) (_ : Unit) => 0 ≤ r.toInt ∧ r.toInt ≤ 1) (fun (_ : Unit) (t : State) => ∃ (w09 : va_W) (w19 : va_W), ok_read ad cB cI cJ cZ h0 r0 tk0 rp0 w09 ∧ ok_tok ad cB cI cJ cZ tk0 r1 tx1 w19 ∧ va_P (dC, dI) vwCl (List.flatten [w09, w19, [(tx1, .inl (cB, 1600, .inl f2))], w3]) t.heap ∧ va_D (va_A (List.flatten [w0, w1, [(tx1, .inl (cB, 1600, .inl f2))], w3]) sz) (List.flatten [w09, w19, [(tx1, .inl (cB, 1600, .inl f2))], w3])) (va_A (List.flatten [w0, w1, [(tx1, .inl (cB, 1600, .inl f2))], w3]) sz)) 0 0 (va_A (List.flatten [w0, w1, [(tx1, .inl (cB, 1600, .inl f2))], w3]) sz) := by
  refine Met.ofW (cc := cX4_takeWord) (maxL := 3) (ret := (some .boolean)) (by decide) rfl ?_
  intro p e s m args below meth c s₁ B hml hv
  obtain ⟨rfl, hsz, hP, hK, hD0, hE⟩ := hv
  have hx := B.exec
  have hb := B.bytes
  have hr := B.returns
  have hts := atoms_spec (ws := wsX4_takeWord) B.pre
  have hown : s.vm.findClass RX4 = some m.cls := findClass_of_methodNamed B.named
  have hlocks := B.notSynchronized
  subst hsz
  have hD := hD0.self (sz := s.heap.size)
  generalize hAe : va_A (List.flatten [w0, w1, [(tx1, .inl (cB, 1600, .inl f2))], w3]) s.heap.size = A at hD hE ⊢
  have hA : ∀ q : Nat, s.heap.size ≤ q → A q := fun q h => by rw [← hAe]; exact Or.inr h
  have hS : va_S A s.heap s.heap [] := va_S.rf
  have hl := lv_entry ([.ref h0, .long q1]) (n := 3) (Nat.le_of_ble_eq_true rfl)
  rw [lg_entry_eq]
  generalize (lg_sl ([.ref h0, .long q1]) ++ List.replicate (3 - (lg_sl ([.ref h0, .long q1])).length) Slot.unset).toArray = ls at hl ⊢
  have hl : lv_has ls 3 [(0, .ref h0), (1, .long q1)] := hl
  clear hAe
  refine W_name (fun Q0 hQ0 => ?_)
  refine lv_aload_n hx hb dX4_takeWord_0 rfl (lv_at hl 0 rfl) ?_
  obtain ⟨fk_1, fp_2, rfl⟩ := o0
  refine va_get (D := (dC, dI)) (ci := 3) (v := .ref tk0) (C := RX4) (T := TX4) (N := 4) hx hb hts iw_X4_takeWord_X4 hown hK hP 0 rfl rfl 0 (by decide) (hts (.fieldLink RX4 12 "HungFloors$HouseReader" "tokens" "LHungFloors$Tokens;") (by decide +kernel)) (fun _ h9 => h9) rfl dX4_takeWord_1 ?_
  refine lv_lload_n hx hb dX4_takeWord_4 rfl (lv_at hl 1 rfl) ?_
  obtain ⟨ln_3, ap_6, kd_9, sa_10, wd_11, nu_12, rfl, hl_4, hh_5, hl_7, hh_8⟩ := o1
  have hpm : List.Perm ([[(h0, .inr (3, [.ref tk0, .ref rp0, .int fk_1, .int fp_2]))], [(tk0, .inr (7, [.ref tx1, .int ln_3, .int ap_6, .ref (ad kd_9), .int sa_10, .long wd_11, .int nu_12]))], [(tx1, .inl (cB, 1600, .inl f2))], w3] : List va_W) (([[(tk0, .inr (7, [.ref tx1, .int ln_3, .int ap_6, .ref (ad kd_9), .int sa_10, .long wd_11, .int nu_12]))]] : List va_W) ++ ([[(h0, .inr (3, [.ref tk0, .ref rp0, .int fk_1, .int fp_2]))], [(tx1, .inl (cB, 1600, .inl f2))], w3] : List va_W)) := pm_n 4 [1, 0, 2, 3] (by decide) rfl rfl
  have hPc := bk_P hpm hP
  have hDc := bk_D hpm hD
  have hFc := bk_F hpm hD hS hA
  refine va_calli (va_runV (As := [.long q1]) (rest := []) ⟨hx, hb, hml, hown, hts⟩ (c_X9_isWord l dC dI ad tN fN cB cI cJ cZ tk0 q1 r1 tx1 _ ⟨ln_3, ap_6, kd_9, sa_10, wd_11, nu_12, rfl, by omega, by omega, by omega, by omega⟩ s.heap.size) (cwV 1 hts gX4_takeWord_X9_isWord rfl rfl rfl (by decide +kernel) ⟨(Nat.le_of_ble_eq_true rfl), (Nat.le_of_ble_eq_true rfl)⟩) ⟨fun a U g mk q => by obtain ⟨q0, q1, qP, qK, qD, qE⟩ := q; exact ⟨q0, q1, qP, va_K.moved (u := U) (U := U.calling g mk a) (Vm.Alike.refl U.vm) qK, qD, ey_blind qE⟩, va_recv hK hPc (ci := 7) (q0 := 0) rfl rfl, fun U hU hW => ⟨rfl, by rw [hU], by rw [hU]; exact hPc, va_K.moved hW.alike hK, hDc.weaken (fun _ _ _ _ => trivial), ey_call hE hS hFc hU hW⟩⟩ rfl rfl hl.1 rfl (lv_room (Nat.le_of_ble_eq_true rfl)) dX4_takeWord_5 ⟨(Nat.le_of_ble_eq_true rfl), (Nat.le_of_ble_eq_true rfl)⟩) hS (fun q _ h => hFc q h) hFc (fun r_13 u t H locs ht hvm hw hB hz1 hk1 hS => ?_)
  obtain ⟨hP1, hD1⟩ := hB
  rw [ht] at hP1
  obtain ⟨hP, hD⟩ := bk_join hpm hP hD hk1 hFc (Cs1 := [[(tk0, .inr (7, [.ref tx1, .int ln_3, .int ap_6, .ref (ad kd_9), .int sa_10, .long wd_11, .int nu_12]))]]) hP1 hD1
  have hpm2 : List.Perm (([[(tk0, .inr (7, [.ref tx1, .int ln_3, .int ap_6, .ref (ad kd_9), .int sa_10, .long wd_11, .int nu_12]))]] : List va_W) ++ ([[(h0, .inr (3, [.ref tk0, .ref rp0, .int fk_1, .int fp_2]))], [(tx1, .inl (cB, 1600, .inl f2))], w3] : List va_W)) ([[(h0, .inr (3, [.ref tk0, .ref rp0, .int fk_1, .int fp_2]))], [(tk0, .inr (7, [.ref tx1, .int ln_3, .int ap_6, .ref (ad kd_9), .int sa_10, .long wd_11, .int nu_12]))], [(tx1, .inl (cB, 1600, .inl f2))], w3] : List va_W) := pm_n 4 [1, 0, 2, 3] (by decide) rfl rfl
  have hP := bk_reP hpm2 hP
  have hD := bk_reD hpm2 hD
  have hP : va_P (dC, dI) vwCl (List.flatten [[(h0, .inr (3, [.ref tk0, .ref rp0, .int fk_1, .int fp_2]))], [(tk0, .inr (7, [.ref tx1, .int ln_3, .int ap_6, .ref (ad kd_9), .int sa_10, .long wd_11, .int nu_12]))], [(tx1, .inl (cB, 1600, .inl f2))], w3]) H := hP
  have hD : va_D A (List.flatten [[(h0, .inr (3, [.ref tk0, .ref rp0, .int fk_1, .int fp_2]))], [(tk0, .inr (7, [.ref tx1, .int ln_3, .int ap_6, .ref (ad kd_9), .int sa_10, .long wd_11, .int nu_12]))], [(tx1, .inl (cB, 1600, .inl f2))], w3]) := hD
  obtain ⟨hlr_13, hhr_13⟩ := hw
  refine lv_if_ne (tgt := 17) hx hb dX4_takeWord_8 (by decide) (fun c_14 => ?_) (fun c_14 => ?_)
  · have c_14 : ¬ r_13.toInt = 0 := f_ne rfl tI_0 c_14
    refine lv_aload_n hx hb dX4_takeWord_17 rfl (lv_at hl 0 rfl) ?_
    refine va_get (D := (dC, dI)) (ci := 3) (v := .ref tk0) (C := RX4) (T := TX4) (N := 4) hx hb hts iw_X4_takeWord_X4 hown hK hP 0 rfl rfl 0 (by decide) (hts (.fieldLink RX4 12 "HungFloors$HouseReader" "tokens" "LHungFloors$Tokens;") (by decide +kernel)) (fun _ h9 => h9) rfl dX4_takeWord_18 ?_
    have hpm : List.Perm ([[(h0, .inr (3, [.ref tk0, .ref rp0, .int fk_1, .int fp_2]))], [(tk0, .inr (7, [.ref tx1, .int ln_3, .int ap_6, .ref (ad kd_9), .int sa_10, .long wd_11, .int nu_12]))], [(tx1, .inl (cB, 1600, .inl f2))], w3] : List va_W) (([[(tk0, .inr (7, [.ref tx1, .int ln_3, .int ap_6, .ref (ad kd_9), .int sa_10, .long wd_11, .int nu_12]))], [(tx1, .inl (cB, 1600, .inl f2))]] : List va_W) ++ ([[(h0, .inr (3, [.ref tk0, .ref rp0, .int fk_1, .int fp_2]))], w3] : List va_W)) := pm_n 4 [1, 2, 0, 3] (by decide) rfl rfl
    have hPc := bk_P hpm hP
    have hDc := bk_D hpm hD
    have hFc := bk_F hpm hD hS hA
    refine va_callv (va_runV (As := []) (rest := []) ⟨hx, hb, hml, hown, hts⟩ (c_X9_advance l dC dI ad tN fN cB cI cJ cZ tk0 r1 tx1 _ _ ⟨ln_3, ap_6, kd_9, sa_10, wd_11, nu_12, rfl, by omega, by omega, by omega, by omega⟩ H.size) (cwV 0 hts gX4_takeWord_X9_advance rfl rfl rfl (by decide +kernel) ⟨(Nat.le_of_ble_eq_true rfl), (Nat.le_of_ble_eq_true rfl)⟩) ⟨fun a U g mk q => by obtain ⟨q0, q1, qP, qK, qD, qE⟩ := q; exact ⟨q0, q1, qP, va_K.moved (u := U) (U := U.calling g mk a) (Vm.Alike.refl U.vm) qK, qD, ey_blind qE⟩, va_recv hK hPc (ci := 7) (q0 := 0) rfl rfl, fun U hU hW => ⟨rfl, by rw [hU], by rw [hU]; exact hPc, va_K.moved hW.alike hK, hDc.weaken (fun _ _ _ _ => trivial), ey_call hE hS hFc hU hW⟩⟩ rfl rfl hl.1 rfl (lv_room (Nat.le_of_ble_eq_true rfl)) dX4_takeWord_21 ⟨(Nat.le_of_ble_eq_true rfl), (Nat.le_of_ble_eq_true rfl)⟩) hS (fun q _ h => hFc q h) hFc (fun u t H locs ht hvm hw hB hz1 hk1 hS => ?_)
    obtain ⟨w_16, o_17, hP1, hD1⟩ := hB
    rw [ht] at hP1
    obtain ⟨hP, hD⟩ := bk_join hpm hP hD hk1 hFc (Cs1 := [w_16, [(tx1, .inl (cB, 1600, .inl f2))]]) hP1 hD1
    have hpm2 : List.Perm (([w_16, [(tx1, .inl (cB, 1600, .inl f2))]] : List va_W) ++ ([[(h0, .inr (3, [.ref tk0, .ref rp0, .int fk_1, .int fp_2]))], w3] : List va_W)) ([[(h0, .inr (3, [.ref tk0, .ref rp0, .int fk_1, .int fp_2]))], w_16, [(tx1, .inl (cB, 1600, .inl f2))], w3] : List va_W) := pm_n 4 [2, 0, 1, 3] (by decide) rfl rfl
    have hP := bk_reP hpm2 hP
    have hD := bk_reD hpm2 hD
    have hP : va_P (dC, dI) vwCl (List.flatten [[(h0, .inr (3, [.ref tk0, .ref rp0, .int fk_1, .int fp_2]))], w_16, [(tx1, .inl (cB, 1600, .inl f2))], w3]) H := hP
    have hD : va_D A (List.flatten [[(h0, .inr (3, [.ref tk0, .ref rp0, .int fk_1, .int fp_2]))], w_16, [(tx1, .inl (cB, 1600, .inl f2))], w3]) := hD
    refine lv_iconst (v := 1) hx hb dX4_takeWord_24 (by decide) ?_
    rw [hQ0]
    exact W.zret (v := 1) hx hb hr (by decide) (fun t ht hW => ⟨⟨1, (), rfl, ⟨by decide, by decide⟩, ⟨_, _, ⟨fk_1, fp_2, rfl⟩, o_17, by rw [ht]; exact hP, hD⟩⟩, hS.F ht⟩) hS.2.2 dX4_takeWord_25
  · have c_14 : r_13.toInt = 0 := f_eq rfl tI_0 c_14
    refine lv_aload_n hx hb dX4_takeWord_11 rfl (lv_at hl 0 rfl) ?_
    refine lv_iconst (v := 2) hx hb dX4_takeWord_12 (by decide) ?_
    have hpm : List.Perm ([[(h0, .inr (3, [.ref tk0, .ref rp0, .int fk_1, .int fp_2]))], [(tk0, .inr (7, [.ref tx1, .int ln_3, .int ap_6, .ref (ad kd_9), .int sa_10, .long wd_11, .int nu_12]))], [(tx1, .inl (cB, 1600, .inl f2))], w3] : List va_W) (([[(h0, .inr (3, [.ref tk0, .ref rp0, .int fk_1, .int fp_2]))], [(tk0, .inr (7, [.ref tx1, .int ln_3, .int ap_6, .ref (ad kd_9), .int sa_10, .long wd_11, .int nu_12]))], [(tx1, .inl (cB, 1600, .inl f2))], w3] : List va_W) ++ ([] : List va_W)) := pm_n 4 [0, 1, 2, 3] (by decide) rfl rfl
    have hPc := bk_P hpm hP
    have hDc := bk_D hpm hD
    have hFc := bk_F hpm hD hS hA
    refine va_calli (va_runV (As := [.int 2]) (rest := []) ⟨hx, hb, hml, hown, hts⟩ (c_X4_refuse l dC dI ad tN fN cB cI cJ cZ h0 2 r0 tk0 rp0 _ r1 tx1 _ _ r3 fc3 dc3 rk3 _ ⟨fk_1, fp_2, rfl⟩ ⟨ln_3, ap_6, kd_9, sa_10, wd_11, nu_12, rfl, by omega, by omega, by omega, by omega⟩ o3 H.size) (cwV 1 hts gX4_takeWord_X4_refuse rfl rfl rfl (by decide +kernel) ⟨(Nat.le_of_ble_eq_true rfl), (Nat.le_of_ble_eq_true rfl)⟩) ⟨fun a U g mk q => by obtain ⟨q0, q1, qP, qK, qD, qE⟩ := q; exact ⟨q0, q1, qP, va_K.moved (u := U) (U := U.calling g mk a) (Vm.Alike.refl U.vm) qK, qD, ey_blind qE⟩, va_recv hK hPc (ci := 3) (q0 := 0) rfl rfl, fun U hU hW => ⟨rfl, by rw [hU], by rw [hU]; exact hPc, va_K.moved hW.alike hK, hDc.weaken (fun _ _ _ _ => trivial), ey_call hE hS hFc hU hW⟩⟩ rfl rfl hl.1 rfl (lv_room (Nat.le_of_ble_eq_true rfl)) dX4_takeWord_13 ⟨(Nat.le_of_ble_eq_true rfl), (Nat.le_of_ble_eq_true rfl)⟩) hS (fun q _ h => hFc q h) hFc (fun r_18 u t H locs ht hvm hw hB hz1 hk1 hS => ?_)
    obtain ⟨w_19, o_20, hP1, hD1⟩ := hB
    rw [ht] at hP1
    obtain ⟨hP, hD⟩ := bk_join hpm hP hD hk1 hFc (Cs1 := [w_19, [(tk0, .inr (7, [.ref tx1, .int ln_3, .int ap_6, .ref (ad kd_9), .int sa_10, .long wd_11, .int nu_12]))], [(tx1, .inl (cB, 1600, .inl f2))], w3]) hP1 hD1
    have hpm2 : List.Perm (([w_19, [(tk0, .inr (7, [.ref tx1, .int ln_3, .int ap_6, .ref (ad kd_9), .int sa_10, .long wd_11, .int nu_12]))], [(tx1, .inl (cB, 1600, .inl f2))], w3] : List va_W) ++ ([] : List va_W)) ([w_19, [(tk0, .inr (7, [.ref tx1, .int ln_3, .int ap_6, .ref (ad kd_9), .int sa_10, .long wd_11, .int nu_12]))], [(tx1, .inl (cB, 1600, .inl f2))], w3] : List va_W) := pm_n 4 [0, 1, 2, 3] (by decide) rfl rfl
    have hP := bk_reP hpm2 hP
    have hD := bk_reD hpm2 hD
    have hP : va_P (dC, dI) vwCl (List.flatten [w_19, [(tk0, .inr (7, [.ref tx1, .int ln_3, .int ap_6, .ref (ad kd_9), .int sa_10, .long wd_11, .int nu_12]))], [(tx1, .inl (cB, 1600, .inl f2))], w3]) H := hP
    have hD : va_D A (List.flatten [w_19, [(tk0, .inr (7, [.ref tx1, .int ln_3, .int ap_6, .ref (ad kd_9), .int sa_10, .long wd_11, .int nu_12]))], [(tx1, .inl (cB, 1600, .inl f2))], w3]) := hD
    obtain rfl : r_18 = (0 : Int32) := hw
    rw [hQ0]
    exact W.zret (v := 0) hx hb hr (by decide) (fun t ht hW => ⟨⟨0, (), rfl, ⟨by decide, by decide⟩, ⟨_, _, o_20, ⟨ln_3, ap_6, kd_9, sa_10, wd_11, nu_12, rfl, by omega, by omega, by omega, by omega⟩, by rw [ht]; exact hP, hD⟩⟩, hS.F ht⟩) hS.2.2 dX4_takeWord_16
theorem iw_X4_numberBehind_X4 : ∀ w ∈ wsX40, w ∈ wsX4_numberBehind := fun _ h => List.mem_cons_of_mem _ (List.mem_append_left _ (List.mem_append_right _ h))
theorem iw_X4_numberBehind_X9 : ∀ w ∈ wsX90, w ∈ wsX4_numberBehind := fun _ h => List.mem_cons_of_mem _ (List.mem_append_right _ h)
set_option maxHeartbeats 4000000 in
set_option maxRecDepth 100000 in
theorem c_X4_numberBehind (l : Launch) (dC : Nat → ClassId) (dI : Nat → Nat → Nat) (ad : Nat → Nat) (tN : Nat) (fN : Nat → Int64) (cB cI cJ cZ : ClassId) (h0 : Nat) (q1 : Int64) (p2 : Int32) (p3 : Int32) (r0 : Nat → Nat) (tk0 : Nat) (rp0 : Nat) (w0 : va_W) (r1 : Nat → Nat) (tx1 : Nat) (w1 : va_W) (f2 : Nat → Int32) (r3 : Nat → Nat) (fc3 : Int32) (dc3 : Int32) (rk3 : Nat → Int32) (w3 : va_W) (o0 : ok_read ad cB cI cJ cZ h0 r0 tk0 rp0 w0) (o1 : ok_tok ad cB cI cJ cZ tk0 r1 tx1 w1) (o3 : ok_plan ad cB cI cJ cZ rp0 r3 fc3 dc3 rk3 w3) (sz : Nat) : Met l yX4_numberBehind wsX4_numberBehind ({ frames := 2, cells := 0, slots := 0, locals := 41 } : Room) (va_Pc [.ref h0, .long q1, .int p2, .int p3] (fun U => U.heap.size = sz ∧ va_P (dC, dI) vwCl (List.flatten [w0, w1, [(tx1, .inl (cB, 1600, .inl f2))], w3]) U.heap ∧ va_K (dC, dI) vwCl [(cB, .byte), (cI, .int), (cJ, .long), (cZ, .boolean)] U ∧ va_D (fun _ => True) (List.flatten [w0, w1, [(tx1, .inl (cB, 1600, .inl f2))], w3]) ∧ ex_Y ad tN fN (va_A (List.flatten [w0, w1, [(tx1, .inl (cB, 1600, .inl f2))], w3]) sz) U)) (va_Qi (fun (r : Int32) (_ : Unit) => True) (fun (_ : Unit) (t : State) => ∃ (w09 : va_W) (w19 : va_W), ok_read ad cB cI cJ cZ h0 r0 tk0 rp0 w09 ∧ ok_tok ad cB cI cJ cZ tk0 r1 tx1 w19 ∧ va_P (dC, dI) vwCl (List.flatten [w09, w19, [(tx1, .inl (cB, 1600, .inl f2))], w3]) t.heap ∧ va_D (va_A (List.flatten [w0, w1, [(tx1, .inl (cB, 1600, .inl f2))], w3]) sz) (List.flatten [w09, w19, [(tx1, .inl (cB, 1600, .inl f2))], w3])) (va_A (List.flatten [w0, w1, [(tx1, .inl (cB, 1600, .inl f2))], w3]) sz)) 0 0 (va_A (List.flatten [w0, w1, [(tx1, .inl (cB, 1600, .inl f2))], w3]) sz) := by
  refine Met.ofW (cc := cX4_numberBehind) (maxL := 7) (ret := (some .int)) (by decide) rfl ?_
  intro p e s m args below meth c s₁ B hml hv
  obtain ⟨rfl, hsz, hP, hK, hD0, hE⟩ := hv
  have hx := B.exec
  have hb := B.bytes
  have hr := B.returns
  have hts := atoms_spec (ws := wsX4_numberBehind) B.pre
  have hown : s.vm.findClass RX4 = some m.cls := findClass_of_methodNamed B.named
  have hlocks := B.notSynchronized
  subst hsz
  have hD := hD0.self (sz := s.heap.size)
  generalize hAe : va_A (List.flatten [w0, w1, [(tx1, .inl (cB, 1600, .inl f2))], w3]) s.heap.size = A at hD hE ⊢
  have hA : ∀ q : Nat, s.heap.size ≤ q → A q := fun q h => by rw [← hAe]; exact Or.inr h
  have hS : va_S A s.heap s.heap [] := va_S.rf
  have hl := lv_entry ([.ref h0, .long q1, .int p2, .int p3]) (n := 7) (Nat.le_of_ble_eq_true rfl)
  rw [lg_entry_eq]
  generalize (lg_sl ([.ref h0, .long q1, .int p2, .int p3]) ++ List.replicate (7 - (lg_sl ([.ref h0, .long q1, .int p2, .int p3])).length) Slot.unset).toArray = ls at hl ⊢
  have hl : lv_has ls 7 [(0, .ref h0), (1, .long q1), (3, .int p2), (4, .int p3)] := hl
  clear hAe
  refine W_name (fun Q0 hQ0 => ?_)
  refine lv_aload_n hx hb dX4_numberBehind_0 rfl (lv_at hl 0 rfl) ?_
  obtain ⟨fk_1, fp_2, rfl⟩ := o0
  refine va_get (D := (dC, dI)) (ci := 3) (v := .ref tk0) (C := RX4) (T := TX4) (N := 4) hx hb hts iw_X4_numberBehind_X4 hown hK hP 0 rfl rfl 0 (by decide) (hts (.fieldLink RX4 12 "HungFloors$HouseReader" "tokens" "LHungFloors$Tokens;") (by decide +kernel)) (fun _ h9 => h9) rfl dX4_numberBehind_1 ?_
  refine lv_lload_n hx hb dX4_numberBehind_4 rfl (lv_at hl 1 rfl) ?_
  obtain ⟨ln_3, ap_6, kd_9, sa_10, wd_11, nu_12, rfl, hl_4, hh_5, hl_7, hh_8⟩ := o1
  have hpm : List.Perm ([[(h0, .inr (3, [.ref tk0, .ref rp0, .int fk_1, .int fp_2]))], [(tk0, .inr (7, [.ref tx1, .int ln_3, .int ap_6, .ref (ad kd_9), .int sa_10, .long wd_11, .int nu_12]))], [(tx1, .inl (cB, 1600, .inl f2))], w3] : List va_W) (([[(tk0, .inr (7, [.ref tx1, .int ln_3, .int ap_6, .ref (ad kd_9), .int sa_10, .long wd_11, .int nu_12]))]] : List va_W) ++ ([[(h0, .inr (3, [.ref tk0, .ref rp0, .int fk_1, .int fp_2]))], [(tx1, .inl (cB, 1600, .inl f2))], w3] : List va_W)) := pm_n 4 [1, 0, 2, 3] (by decide) rfl rfl
  have hPc := bk_P hpm hP
  have hDc := bk_D hpm hD
  have hFc := bk_F hpm hD hS hA
  refine va_calli (va_runV (As := [.long q1]) (rest := []) ⟨hx, hb, hml, hown, hts⟩ (c_X9_isWord l dC dI ad tN fN cB cI cJ cZ tk0 q1 r1 tx1 _ ⟨ln_3, ap_6, kd_9, sa_10, wd_11, nu_12, rfl, by omega, by omega, by omega, by omega⟩ s.heap.size) (cwV 1 hts gX4_numberBehind_X9_isWord rfl rfl rfl (by decide +kernel) ⟨(Nat.le_of_ble_eq_true rfl), (Nat.le_of_ble_eq_true rfl)⟩) ⟨fun a U g mk q => by obtain ⟨q0, q1, qP, qK, qD, qE⟩ := q; exact ⟨q0, q1, qP, va_K.moved (u := U) (U := U.calling g mk a) (Vm.Alike.refl U.vm) qK, qD, ey_blind qE⟩, va_recv hK hPc (ci := 7) (q0 := 0) rfl rfl, fun U hU hW => ⟨rfl, by rw [hU], by rw [hU]; exact hPc, va_K.moved hW.alike hK, hDc.weaken (fun _ _ _ _ => trivial), ey_call hE hS hFc hU hW⟩⟩ rfl rfl hl.1 rfl (lv_room (Nat.le_of_ble_eq_true rfl)) dX4_numberBehind_5 ⟨(Nat.le_of_ble_eq_true rfl), (Nat.le_of_ble_eq_true rfl)⟩) hS (fun q _ h => hFc q h) hFc (fun r_13 u t H locs ht hvm hw hB hz1 hk1 hS => ?_)
  obtain ⟨hP1, hD1⟩ := hB
  rw [ht] at hP1
  obtain ⟨hP, hD⟩ := bk_join hpm hP hD hk1 hFc (Cs1 := [[(tk0, .inr (7, [.ref tx1, .int ln_3, .int ap_6, .ref (ad kd_9), .int sa_10, .long wd_11, .int nu_12]))]]) hP1 hD1
  have hpm2 : List.Perm (([[(tk0, .inr (7, [.ref tx1, .int ln_3, .int ap_6, .ref (ad kd_9), .int sa_10, .long wd_11, .int nu_12]))]] : List va_W) ++ ([[(h0, .inr (3, [.ref tk0, .ref rp0, .int fk_1, .int fp_2]))], [(tx1, .inl (cB, 1600, .inl f2))], w3] : List va_W)) ([[(h0, .inr (3, [.ref tk0, .ref rp0, .int fk_1, .int fp_2]))], [(tk0, .inr (7, [.ref tx1, .int ln_3, .int ap_6, .ref (ad kd_9), .int sa_10, .long wd_11, .int nu_12]))], [(tx1, .inl (cB, 1600, .inl f2))], w3] : List va_W) := pm_n 4 [1, 0, 2, 3] (by decide) rfl rfl
  have hP := bk_reP hpm2 hP
  have hD := bk_reD hpm2 hD
  have hP : va_P (dC, dI) vwCl (List.flatten [[(h0, .inr (3, [.ref tk0, .ref rp0, .int fk_1, .int fp_2]))], [(tk0, .inr (7, [.ref tx1, .int ln_3, .int ap_6, .ref (ad kd_9), .int sa_10, .long wd_11, .int nu_12]))], [(tx1, .inl (cB, 1600, .inl f2))], w3]) H := hP
  have hD : va_D A (List.flatten [[(h0, .inr (3, [.ref tk0, .ref rp0, .int fk_1, .int fp_2]))], [(tk0, .inr (7, [.ref tx1, .int ln_3, .int ap_6, .ref (ad kd_9), .int sa_10, .long wd_11, .int nu_12]))], [(tx1, .inl (cB, 1600, .inl f2))], w3]) := hD
  obtain ⟨hlr_13, hhr_13⟩ := hw
  refine lv_istore (lv' := [(5, .int r_13), (0, .ref h0), (1, .long q1), (3, .int p2), (4, .int p3)]) hx hb dX4_numberBehind_8 hl (by decide) rfl (fun ls hl => ?_)
  refine lv_iload hx hb dX4_numberBehind_10 (lv_at hl 0 rfl) ?_
  refine lv_if_eq (tgt := 22) hx hb dX4_numberBehind_12 (by decide) (fun c_14 => ?_) (fun c_14 => ?_)
  · have c_14 : r_13.toInt = 0 := f_eq rfl tI_0 c_14
    refine lv_iload hx hb dX4_numberBehind_22 (lv_at hl 0 rfl) ?_
    refine lv_if_eq (tgt := 40) hx hb dX4_numberBehind_24 (by decide) (fun c_15 => ?_) (fun c_15 => False.elim (by have c_15 := f_ne rfl tI_0 c_15; omega))
    have c_15 : r_13.toInt = 0 := f_eq rfl tI_0 c_15
    refine lv_aload_n hx hb dX4_numberBehind_40 rfl (lv_at hl 1 rfl) ?_
    refine lv_iconst (v := 2) hx hb dX4_numberBehind_41 (by decide) ?_
    have hpm : List.Perm ([[(h0, .inr (3, [.ref tk0, .ref rp0, .int fk_1, .int fp_2]))], [(tk0, .inr (7, [.ref tx1, .int ln_3, .int ap_6, .ref (ad kd_9), .int sa_10, .long wd_11, .int nu_12]))], [(tx1, .inl (cB, 1600, .inl f2))], w3] : List va_W) (([[(h0, .inr (3, [.ref tk0, .ref rp0, .int fk_1, .int fp_2]))], [(tk0, .inr (7, [.ref tx1, .int ln_3, .int ap_6, .ref (ad kd_9), .int sa_10, .long wd_11, .int nu_12]))], [(tx1, .inl (cB, 1600, .inl f2))], w3] : List va_W) ++ ([] : List va_W)) := pm_n 4 [0, 1, 2, 3] (by decide) rfl rfl
    have hPc := bk_P hpm hP
    have hDc := bk_D hpm hD
    have hFc := bk_F hpm hD hS hA
    refine va_calli (va_runV (As := [.int 2]) (rest := []) ⟨hx, hb, hml, hown, hts⟩ (c_X4_refuse l dC dI ad tN fN cB cI cJ cZ h0 2 r0 tk0 rp0 _ r1 tx1 _ _ r3 fc3 dc3 rk3 _ ⟨fk_1, fp_2, rfl⟩ ⟨ln_3, ap_6, kd_9, sa_10, wd_11, nu_12, rfl, by omega, by omega, by omega, by omega⟩ o3 H.size) (cwV 1 hts gX4_numberBehind_X4_refuse rfl rfl rfl (by decide +kernel) ⟨(Nat.le_of_ble_eq_true rfl), (Nat.le_of_ble_eq_true rfl)⟩) ⟨fun a U g mk q => by obtain ⟨q0, q1, qP, qK, qD, qE⟩ := q; exact ⟨q0, q1, qP, va_K.moved (u := U) (U := U.calling g mk a) (Vm.Alike.refl U.vm) qK, qD, ey_blind qE⟩, va_recv hK hPc (ci := 3) (q0 := 0) rfl rfl, fun U hU hW => ⟨rfl, by rw [hU], by rw [hU]; exact hPc, va_K.moved hW.alike hK, hDc.weaken (fun _ _ _ _ => trivial), ey_call hE hS hFc hU hW⟩⟩ rfl rfl hl.1 rfl (lv_room (Nat.le_of_ble_eq_true rfl)) dX4_numberBehind_42 ⟨(Nat.le_of_ble_eq_true rfl), (Nat.le_of_ble_eq_true rfl)⟩) hS (fun q _ h => hFc q h) hFc (fun r_16 u t H locs ht hvm hw hB hz1 hk1 hS => ?_)
    obtain ⟨w_17, o_18, hP1, hD1⟩ := hB
    rw [ht] at hP1
    obtain ⟨hP, hD⟩ := bk_join hpm hP hD hk1 hFc (Cs1 := [w_17, [(tk0, .inr (7, [.ref tx1, .int ln_3, .int ap_6, .ref (ad kd_9), .int sa_10, .long wd_11, .int nu_12]))], [(tx1, .inl (cB, 1600, .inl f2))], w3]) hP1 hD1
    have hpm2 : List.Perm (([w_17, [(tk0, .inr (7, [.ref tx1, .int ln_3, .int ap_6, .ref (ad kd_9), .int sa_10, .long wd_11, .int nu_12]))], [(tx1, .inl (cB, 1600, .inl f2))], w3] : List va_W) ++ ([] : List va_W)) ([w_17, [(tk0, .inr (7, [.ref tx1, .int ln_3, .int ap_6, .ref (ad kd_9), .int sa_10, .long wd_11, .int nu_12]))], [(tx1, .inl (cB, 1600, .inl f2))], w3] : List va_W) := pm_n 4 [0, 1, 2, 3] (by decide) rfl rfl
    have hP := bk_reP hpm2 hP
    have hD := bk_reD hpm2 hD
    have hP : va_P (dC, dI) vwCl (List.flatten [w_17, [(tk0, .inr (7, [.ref tx1, .int ln_3, .int ap_6, .ref (ad kd_9), .int sa_10, .long wd_11, .int nu_12]))], [(tx1, .inl (cB, 1600, .inl f2))], w3]) H := hP
    have hD : va_D A (List.flatten [w_17, [(tk0, .inr (7, [.ref tx1, .int ln_3, .int ap_6, .ref (ad kd_9), .int sa_10, .long wd_11, .int nu_12]))], [(tx1, .inl (cB, 1600, .inl f2))], w3]) := hD
    obtain rfl : r_16 = (0 : Int32) := hw
    refine lv_pop hx hb dX4_numberBehind_45 rfl ?_
    refine lv_bipush (v := (-2)) hx hb dX4_numberBehind_46 (by decide) ?_
    rw [hQ0]
    exact W.iret (v := (-2)) hx hb hr (fun t ht hW => ⟨⟨(-2), (), rfl, trivial, ⟨_, _, o_18, ⟨ln_3, ap_6, kd_9, sa_10, wd_11, nu_12, rfl, by omega, by omega, by omega, by omega⟩, by rw [ht]; exact hP, hD⟩⟩, hS.F ht⟩) hS.2.2 dX4_numberBehind_48
  · have c_14 : ¬ r_13.toInt = 0 := f_ne rfl tI_0 c_14
    refine lv_aload_n hx hb dX4_numberBehind_15 rfl (lv_at hl 1 rfl) ?_
    refine va_get (D := (dC, dI)) (ci := 3) (v := .ref tk0) (C := RX4) (T := TX4) (N := 4) hx hb hts iw_X4_numberBehind_X4 hown hK hP 0 rfl rfl 0 (by decide) (hts (.fieldLink RX4 12 "HungFloors$HouseReader" "tokens" "LHungFloors$Tokens;") (by decide +kernel)) (fun _ h9 => h9) rfl dX4_numberBehind_16 ?_
    have hpm : List.Perm ([[(h0, .inr (3, [.ref tk0, .ref rp0, .int fk_1, .int fp_2]))], [(tk0, .inr (7, [.ref tx1, .int ln_3, .int ap_6, .ref (ad kd_9), .int sa_10, .long wd_11, .int nu_12]))], [(tx1, .inl (cB, 1600, .inl f2))], w3] : List va_W) (([[(tk0, .inr (7, [.ref tx1, .int ln_3, .int ap_6, .ref (ad kd_9), .int sa_10, .long wd_11, .int nu_12]))], [(tx1, .inl (cB, 1600, .inl f2))]] : List va_W) ++ ([[(h0, .inr (3, [.ref tk0, .ref rp0, .int fk_1, .int fp_2]))], w3] : List va_W)) := pm_n 4 [1, 2, 0, 3] (by decide) rfl rfl
    have hPc := bk_P hpm hP
    have hDc := bk_D hpm hD
    have hFc := bk_F hpm hD hS hA
    refine va_callv (va_runV (As := []) (rest := []) ⟨hx, hb, hml, hown, hts⟩ (c_X9_advance l dC dI ad tN fN cB cI cJ cZ tk0 r1 tx1 _ _ ⟨ln_3, ap_6, kd_9, sa_10, wd_11, nu_12, rfl, by omega, by omega, by omega, by omega⟩ H.size) (cwV 0 hts gX4_numberBehind_X9_advance rfl rfl rfl (by decide +kernel) ⟨(Nat.le_of_ble_eq_true rfl), (Nat.le_of_ble_eq_true rfl)⟩) ⟨fun a U g mk q => by obtain ⟨q0, q1, qP, qK, qD, qE⟩ := q; exact ⟨q0, q1, qP, va_K.moved (u := U) (U := U.calling g mk a) (Vm.Alike.refl U.vm) qK, qD, ey_blind qE⟩, va_recv hK hPc (ci := 7) (q0 := 0) rfl rfl, fun U hU hW => ⟨rfl, by rw [hU], by rw [hU]; exact hPc, va_K.moved hW.alike hK, hDc.weaken (fun _ _ _ _ => trivial), ey_call hE hS hFc hU hW⟩⟩ rfl rfl hl.1 rfl (lv_room (Nat.le_of_ble_eq_true rfl)) dX4_numberBehind_19 ⟨(Nat.le_of_ble_eq_true rfl), (Nat.le_of_ble_eq_true rfl)⟩) hS (fun q _ h => hFc q h) hFc (fun u t H locs ht hvm hw hB hz1 hk1 hS => ?_)
    obtain ⟨w_20, o_21, hP1, hD1⟩ := hB
    rw [ht] at hP1
    obtain ⟨hP, hD⟩ := bk_join hpm hP hD hk1 hFc (Cs1 := [w_20, [(tx1, .inl (cB, 1600, .inl f2))]]) hP1 hD1
    have hpm2 : List.Perm (([w_20, [(tx1, .inl (cB, 1600, .inl f2))]] : List va_W) ++ ([[(h0, .inr (3, [.ref tk0, .ref rp0, .int fk_1, .int fp_2]))], w3] : List va_W)) ([[(h0, .inr (3, [.ref tk0, .ref rp0, .int fk_1, .int fp_2]))], w_20, [(tx1, .inl (cB, 1600, .inl f2))], w3] : List va_W) := pm_n 4 [2, 0, 1, 3] (by decide) rfl rfl
    have hP := bk_reP hpm2 hP
    have hD := bk_reD hpm2 hD
    have hP : va_P (dC, dI) vwCl (List.flatten [[(h0, .inr (3, [.ref tk0, .ref rp0, .int fk_1, .int fp_2]))], w_20, [(tx1, .inl (cB, 1600, .inl f2))], w3]) H := hP
    have hD : va_D A (List.flatten [[(h0, .inr (3, [.ref tk0, .ref rp0, .int fk_1, .int fp_2]))], w_20, [(tx1, .inl (cB, 1600, .inl f2))], w3]) := hD
    refine lv_iload hx hb dX4_numberBehind_22 (lv_at hl 0 rfl) ?_
    refine lv_if_eq (tgt := 40) hx hb dX4_numberBehind_24 (by decide) (fun c_22 => False.elim (by have c_22 := f_eq rfl tI_0 c_22; omega)) (fun c_22 => ?_)
    have c_22 : ¬ r_13.toInt = 0 := f_ne rfl tI_0 c_22
    refine lv_aload_n hx hb dX4_numberBehind_27 rfl (lv_at hl 1 rfl) ?_
    refine va_get (D := (dC, dI)) (ci := 3) (v := .ref tk0) (C := RX4) (T := TX4) (N := 4) hx hb hts iw_X4_numberBehind_X4 hown hK hP 0 rfl rfl 0 (by decide) (hts (.fieldLink RX4 12 "HungFloors$HouseReader" "tokens" "LHungFloors$Tokens;") (by decide +kernel)) (fun _ h9 => h9) rfl dX4_numberBehind_28 ?_
    obtain ⟨ln_23, ap_26, kd_29, sa_30, wd_31, nu_32, rfl, hl_24, hh_25, hl_27, hh_28⟩ := o_21
    refine va_get (D := (dC, dI)) (ci := 7) (v := .ref (ad kd_29)) (C := RX9) (T := TX9) (N := 7) hx hb hts iw_X4_numberBehind_X9 hown hK hP 1 rfl rfl 3 (by decide) (hts (.fieldLink RX4 39 "HungFloors$Tokens" "kind" "LHungFloors$Kind;") (by decide +kernel)) (fun _ h9 => h9) rfl dX4_numberBehind_31 ?_
    refine va_gets hx hb (hE.2.1.1 1 (by decide)).1 hS hown (hts (.fieldLink RX4 155 "HungFloors$Kind" "NUMBER" "LHungFloors$Kind;") (by decide +kernel)) (fun _ h9 => h9) dX4_numberBehind_34 ?_
    refine lv_acmp_eq (rx := some (ad kd_29)) (ry := some (ad 1)) (tgt := 49) hx hb dX4_numberBehind_37 (by decide) (fun c_33 => ?_) (fun c_33 => ?_)
    · refine lv_aload_n hx hb dX4_numberBehind_49 rfl (lv_at hl 1 rfl) ?_
      refine va_get (D := (dC, dI)) (ci := 3) (v := .ref tk0) (C := RX4) (T := TX4) (N := 4) hx hb hts iw_X4_numberBehind_X4 hown hK hP 0 rfl rfl 0 (by decide) (hts (.fieldLink RX4 12 "HungFloors$HouseReader" "tokens" "LHungFloors$Tokens;") (by decide +kernel)) (fun _ h9 => h9) rfl dX4_numberBehind_50 ?_
      refine va_get (D := (dC, dI)) (ci := 7) (v := .int nu_32) (C := RX9) (T := TX9) (N := 7) hx hb hts iw_X4_numberBehind_X9 hown hK hP 1 rfl rfl 6 (by decide) (hts (.fieldLink RX4 158 "HungFloors$Tokens" "number" "I") (by decide +kernel)) (fun _ h9 => h9) rfl dX4_numberBehind_53 ?_
      refine lv_istore (lv' := [(6, .int nu_32), (5, .int r_13), (0, .ref h0), (1, .long q1), (3, .int p2), (4, .int p3)]) hx hb dX4_numberBehind_56 hl (by decide) rfl (fun ls hl => ?_)
      refine lv_iload hx hb dX4_numberBehind_58 (lv_at hl 0 rfl) ?_
      refine lv_iload_n hx hb dX4_numberBehind_60 rfl (lv_at hl 4 rfl) ?_
      refine lv_icmp_lt (tgt := 71) hx hb dX4_numberBehind_61 (by decide) (fun c_34 => ?_) (fun c_34 => ?_)
      · have c_34 : nu_32.toInt < p2.toInt := f_lt rfl rfl c_34
        refine lv_aload_n hx hb dX4_numberBehind_71 rfl (lv_at hl 2 rfl) ?_
        refine lv_iconst (v := 4) hx hb dX4_numberBehind_72 (by decide) ?_
        have hpm : List.Perm ([[(h0, .inr (3, [.ref tk0, .ref rp0, .int fk_1, .int fp_2]))], [(tk0, .inr (7, [.ref tx1, .int ln_23, .int ap_26, .ref (ad kd_29), .int sa_30, .long wd_31, .int nu_32]))], [(tx1, .inl (cB, 1600, .inl f2))], w3] : List va_W) (([[(h0, .inr (3, [.ref tk0, .ref rp0, .int fk_1, .int fp_2]))], [(tk0, .inr (7, [.ref tx1, .int ln_23, .int ap_26, .ref (ad kd_29), .int sa_30, .long wd_31, .int nu_32]))], [(tx1, .inl (cB, 1600, .inl f2))], w3] : List va_W) ++ ([] : List va_W)) := pm_n 4 [0, 1, 2, 3] (by decide) rfl rfl
        have hPc := bk_P hpm hP
        have hDc := bk_D hpm hD
        have hFc := bk_F hpm hD hS hA
        refine va_calli (va_runV (As := [.int 4]) (rest := []) ⟨hx, hb, hml, hown, hts⟩ (c_X4_refuse l dC dI ad tN fN cB cI cJ cZ h0 4 r0 tk0 rp0 _ r1 tx1 _ _ r3 fc3 dc3 rk3 _ ⟨fk_1, fp_2, rfl⟩ ⟨ln_23, ap_26, kd_29, sa_30, wd_31, nu_32, rfl, by omega, by omega, by omega, by omega⟩ o3 H.size) (cwV 1 hts gX4_numberBehind_X4_refuse rfl rfl rfl (by decide +kernel) ⟨(Nat.le_of_ble_eq_true rfl), (Nat.le_of_ble_eq_true rfl)⟩) ⟨fun a U g mk q => by obtain ⟨q0, q1, qP, qK, qD, qE⟩ := q; exact ⟨q0, q1, qP, va_K.moved (u := U) (U := U.calling g mk a) (Vm.Alike.refl U.vm) qK, qD, ey_blind qE⟩, va_recv hK hPc (ci := 3) (q0 := 0) rfl rfl, fun U hU hW => ⟨rfl, by rw [hU], by rw [hU]; exact hPc, va_K.moved hW.alike hK, hDc.weaken (fun _ _ _ _ => trivial), ey_call hE hS hFc hU hW⟩⟩ rfl rfl hl.1 rfl (lv_room (Nat.le_of_ble_eq_true rfl)) dX4_numberBehind_73 ⟨(Nat.le_of_ble_eq_true rfl), (Nat.le_of_ble_eq_true rfl)⟩) hS (fun q _ h => hFc q h) hFc (fun r_35 u t H locs ht hvm hw hB hz1 hk1 hS => ?_)
        obtain ⟨w_36, o_37, hP1, hD1⟩ := hB
        rw [ht] at hP1
        obtain ⟨hP, hD⟩ := bk_join hpm hP hD hk1 hFc (Cs1 := [w_36, [(tk0, .inr (7, [.ref tx1, .int ln_23, .int ap_26, .ref (ad kd_29), .int sa_30, .long wd_31, .int nu_32]))], [(tx1, .inl (cB, 1600, .inl f2))], w3]) hP1 hD1
        have hpm2 : List.Perm (([w_36, [(tk0, .inr (7, [.ref tx1, .int ln_23, .int ap_26, .ref (ad kd_29), .int sa_30, .long wd_31, .int nu_32]))], [(tx1, .inl (cB, 1600, .inl f2))], w3] : List va_W) ++ ([] : List va_W)) ([w_36, [(tk0, .inr (7, [.ref tx1, .int ln_23, .int ap_26, .ref (ad kd_29), .int sa_30, .long wd_31, .int nu_32]))], [(tx1, .inl (cB, 1600, .inl f2))], w3] : List va_W) := pm_n 4 [0, 1, 2, 3] (by decide) rfl rfl
        have hP := bk_reP hpm2 hP
        have hD := bk_reD hpm2 hD
        have hP : va_P (dC, dI) vwCl (List.flatten [w_36, [(tk0, .inr (7, [.ref tx1, .int ln_23, .int ap_26, .ref (ad kd_29), .int sa_30, .long wd_31, .int nu_32]))], [(tx1, .inl (cB, 1600, .inl f2))], w3]) H := hP
        have hD : va_D A (List.flatten [w_36, [(tk0, .inr (7, [.ref tx1, .int ln_23, .int ap_26, .ref (ad kd_29), .int sa_30, .long wd_31, .int nu_32]))], [(tx1, .inl (cB, 1600, .inl f2))], w3]) := hD
        obtain rfl : r_35 = (0 : Int32) := hw
        refine lv_pop hx hb dX4_numberBehind_76 rfl ?_
        refine lv_bipush (v := (-2)) hx hb dX4_numberBehind_77 (by decide) ?_
        rw [hQ0]
        exact W.iret (v := (-2)) hx hb hr (fun t ht hW => ⟨⟨(-2), (), rfl, trivial, ⟨_, _, o_37, ⟨ln_23, ap_26, kd_29, sa_30, wd_31, nu_32, rfl, by omega, by omega, by omega, by omega⟩, by rw [ht]; exact hP, hD⟩⟩, hS.F ht⟩) hS.2.2 dX4_numberBehind_79
      · have c_34 : p2.toInt ≤ nu_32.toInt := f_nlt rfl rfl c_34
        refine lv_iload hx hb dX4_numberBehind_64 (lv_at hl 0 rfl) ?_
        refine lv_iload hx hb dX4_numberBehind_66 (lv_at hl 5 rfl) ?_
        refine lv_icmp_le (tgt := 80) hx hb dX4_numberBehind_68 (by decide) (fun c_38 => ?_) (fun c_38 => ?_)
        · have c_38 : nu_32.toInt ≤ p3.toInt := f_le rfl rfl c_38
          refine lv_aload_n hx hb dX4_numberBehind_80 rfl (lv_at hl 2 rfl) ?_
          refine va_get (D := (dC, dI)) (ci := 3) (v := .ref tk0) (C := RX4) (T := TX4) (N := 4) hx hb hts iw_X4_numberBehind_X4 hown hK hP 0 rfl rfl 0 (by decide) (hts (.fieldLink RX4 12 "HungFloors$HouseReader" "tokens" "LHungFloors$Tokens;") (by decide +kernel)) (fun _ h9 => h9) rfl dX4_numberBehind_81 ?_
          have hpm : List.Perm ([[(h0, .inr (3, [.ref tk0, .ref rp0, .int fk_1, .int fp_2]))], [(tk0, .inr (7, [.ref tx1, .int ln_23, .int ap_26, .ref (ad kd_29), .int sa_30, .long wd_31, .int nu_32]))], [(tx1, .inl (cB, 1600, .inl f2))], w3] : List va_W) (([[(tk0, .inr (7, [.ref tx1, .int ln_23, .int ap_26, .ref (ad kd_29), .int sa_30, .long wd_31, .int nu_32]))], [(tx1, .inl (cB, 1600, .inl f2))]] : List va_W) ++ ([[(h0, .inr (3, [.ref tk0, .ref rp0, .int fk_1, .int fp_2]))], w3] : List va_W)) := pm_n 4 [1, 2, 0, 3] (by decide) rfl rfl
          have hPc := bk_P hpm hP
          have hDc := bk_D hpm hD
          have hFc := bk_F hpm hD hS hA
          refine va_callv (va_runV (As := []) (rest := []) ⟨hx, hb, hml, hown, hts⟩ (c_X9_advance l dC dI ad tN fN cB cI cJ cZ tk0 r1 tx1 _ _ ⟨ln_23, ap_26, kd_29, sa_30, wd_31, nu_32, rfl, by omega, by omega, by omega, by omega⟩ H.size) (cwV 0 hts gX4_numberBehind_X9_advance rfl rfl rfl (by decide +kernel) ⟨(Nat.le_of_ble_eq_true rfl), (Nat.le_of_ble_eq_true rfl)⟩) ⟨fun a U g mk q => by obtain ⟨q0, q1, qP, qK, qD, qE⟩ := q; exact ⟨q0, q1, qP, va_K.moved (u := U) (U := U.calling g mk a) (Vm.Alike.refl U.vm) qK, qD, ey_blind qE⟩, va_recv hK hPc (ci := 7) (q0 := 0) rfl rfl, fun U hU hW => ⟨rfl, by rw [hU], by rw [hU]; exact hPc, va_K.moved hW.alike hK, hDc.weaken (fun _ _ _ _ => trivial), ey_call hE hS hFc hU hW⟩⟩ rfl rfl hl.1 rfl (lv_room (Nat.le_of_ble_eq_true rfl)) dX4_numberBehind_84 ⟨(Nat.le_of_ble_eq_true rfl), (Nat.le_of_ble_eq_true rfl)⟩) hS (fun q _ h => hFc q h) hFc (fun u t H locs ht hvm hw hB hz1 hk1 hS => ?_)
          obtain ⟨w_40, o_41, hP1, hD1⟩ := hB
          rw [ht] at hP1
          obtain ⟨hP, hD⟩ := bk_join hpm hP hD hk1 hFc (Cs1 := [w_40, [(tx1, .inl (cB, 1600, .inl f2))]]) hP1 hD1
          have hpm2 : List.Perm (([w_40, [(tx1, .inl (cB, 1600, .inl f2))]] : List va_W) ++ ([[(h0, .inr (3, [.ref tk0, .ref rp0, .int fk_1, .int fp_2]))], w3] : List va_W)) ([[(h0, .inr (3, [.ref tk0, .ref rp0, .int fk_1, .int fp_2]))], w_40, [(tx1, .inl (cB, 1600, .inl f2))], w3] : List va_W) := pm_n 4 [2, 0, 1, 3] (by decide) rfl rfl
          have hP := bk_reP hpm2 hP
          have hD := bk_reD hpm2 hD
          have hP : va_P (dC, dI) vwCl (List.flatten [[(h0, .inr (3, [.ref tk0, .ref rp0, .int fk_1, .int fp_2]))], w_40, [(tx1, .inl (cB, 1600, .inl f2))], w3]) H := hP
          have hD : va_D A (List.flatten [[(h0, .inr (3, [.ref tk0, .ref rp0, .int fk_1, .int fp_2]))], w_40, [(tx1, .inl (cB, 1600, .inl f2))], w3]) := hD
          refine lv_iload hx hb dX4_numberBehind_87 (lv_at hl 0 rfl) ?_
          rw [hQ0]
          exact W.iret (v := nu_32) hx hb hr (fun t ht hW => ⟨⟨nu_32, (), rfl, trivial, ⟨_, _, ⟨fk_1, fp_2, rfl⟩, o_41, by rw [ht]; exact hP, hD⟩⟩, hS.F ht⟩) hS.2.2 dX4_numberBehind_89
        · have c_38 : p3.toInt < nu_32.toInt := f_nle rfl rfl c_38
          refine lv_aload_n hx hb dX4_numberBehind_71 rfl (lv_at hl 2 rfl) ?_
          refine lv_iconst (v := 4) hx hb dX4_numberBehind_72 (by decide) ?_
          have hpm : List.Perm ([[(h0, .inr (3, [.ref tk0, .ref rp0, .int fk_1, .int fp_2]))], [(tk0, .inr (7, [.ref tx1, .int ln_23, .int ap_26, .ref (ad kd_29), .int sa_30, .long wd_31, .int nu_32]))], [(tx1, .inl (cB, 1600, .inl f2))], w3] : List va_W) (([[(h0, .inr (3, [.ref tk0, .ref rp0, .int fk_1, .int fp_2]))], [(tk0, .inr (7, [.ref tx1, .int ln_23, .int ap_26, .ref (ad kd_29), .int sa_30, .long wd_31, .int nu_32]))], [(tx1, .inl (cB, 1600, .inl f2))], w3] : List va_W) ++ ([] : List va_W)) := pm_n 4 [0, 1, 2, 3] (by decide) rfl rfl
          have hPc := bk_P hpm hP
          have hDc := bk_D hpm hD
          have hFc := bk_F hpm hD hS hA
          refine va_calli (va_runV (As := [.int 4]) (rest := []) ⟨hx, hb, hml, hown, hts⟩ (c_X4_refuse l dC dI ad tN fN cB cI cJ cZ h0 4 r0 tk0 rp0 _ r1 tx1 _ _ r3 fc3 dc3 rk3 _ ⟨fk_1, fp_2, rfl⟩ ⟨ln_23, ap_26, kd_29, sa_30, wd_31, nu_32, rfl, by omega, by omega, by omega, by omega⟩ o3 H.size) (cwV 1 hts gX4_numberBehind_X4_refuse rfl rfl rfl (by decide +kernel) ⟨(Nat.le_of_ble_eq_true rfl), (Nat.le_of_ble_eq_true rfl)⟩) ⟨fun a U g mk q => by obtain ⟨q0, q1, qP, qK, qD, qE⟩ := q; exact ⟨q0, q1, qP, va_K.moved (u := U) (U := U.calling g mk a) (Vm.Alike.refl U.vm) qK, qD, ey_blind qE⟩, va_recv hK hPc (ci := 3) (q0 := 0) rfl rfl, fun U hU hW => ⟨rfl, by rw [hU], by rw [hU]; exact hPc, va_K.moved hW.alike hK, hDc.weaken (fun _ _ _ _ => trivial), ey_call hE hS hFc hU hW⟩⟩ rfl rfl hl.1 rfl (lv_room (Nat.le_of_ble_eq_true rfl)) dX4_numberBehind_73 ⟨(Nat.le_of_ble_eq_true rfl), (Nat.le_of_ble_eq_true rfl)⟩) hS (fun q _ h => hFc q h) hFc (fun r_42 u t H locs ht hvm hw hB hz1 hk1 hS => ?_)
          obtain ⟨w_43, o_44, hP1, hD1⟩ := hB
          rw [ht] at hP1
          obtain ⟨hP, hD⟩ := bk_join hpm hP hD hk1 hFc (Cs1 := [w_43, [(tk0, .inr (7, [.ref tx1, .int ln_23, .int ap_26, .ref (ad kd_29), .int sa_30, .long wd_31, .int nu_32]))], [(tx1, .inl (cB, 1600, .inl f2))], w3]) hP1 hD1
          have hpm2 : List.Perm (([w_43, [(tk0, .inr (7, [.ref tx1, .int ln_23, .int ap_26, .ref (ad kd_29), .int sa_30, .long wd_31, .int nu_32]))], [(tx1, .inl (cB, 1600, .inl f2))], w3] : List va_W) ++ ([] : List va_W)) ([w_43, [(tk0, .inr (7, [.ref tx1, .int ln_23, .int ap_26, .ref (ad kd_29), .int sa_30, .long wd_31, .int nu_32]))], [(tx1, .inl (cB, 1600, .inl f2))], w3] : List va_W) := pm_n 4 [0, 1, 2, 3] (by decide) rfl rfl
          have hP := bk_reP hpm2 hP
          have hD := bk_reD hpm2 hD
          have hP : va_P (dC, dI) vwCl (List.flatten [w_43, [(tk0, .inr (7, [.ref tx1, .int ln_23, .int ap_26, .ref (ad kd_29), .int sa_30, .long wd_31, .int nu_32]))], [(tx1, .inl (cB, 1600, .inl f2))], w3]) H := hP
          have hD : va_D A (List.flatten [w_43, [(tk0, .inr (7, [.ref tx1, .int ln_23, .int ap_26, .ref (ad kd_29), .int sa_30, .long wd_31, .int nu_32]))], [(tx1, .inl (cB, 1600, .inl f2))], w3]) := hD
          obtain rfl : r_42 = (0 : Int32) := hw
          refine lv_pop hx hb dX4_numberBehind_76 rfl ?_
          refine lv_bipush (v := (-2)) hx hb dX4_numberBehind_77 (by decide) ?_
          rw [hQ0]
          exact W.iret (v := (-2)) hx hb hr (fun t ht hW => ⟨⟨(-2), (), rfl, trivial, ⟨_, _, o_44, ⟨ln_23, ap_26, kd_29, sa_30, wd_31, nu_32, rfl, by omega, by omega, by omega, by omega⟩, by rw [ht]; exact hP, hD⟩⟩, hS.F ht⟩) hS.2.2 dX4_numberBehind_79
    · refine lv_aload_n hx hb dX4_numberBehind_40 rfl (lv_at hl 1 rfl) ?_
      refine lv_iconst (v := 2) hx hb dX4_numberBehind_41 (by decide) ?_
      have hpm : List.Perm ([[(h0, .inr (3, [.ref tk0, .ref rp0, .int fk_1, .int fp_2]))], [(tk0, .inr (7, [.ref tx1, .int ln_23, .int ap_26, .ref (ad kd_29), .int sa_30, .long wd_31, .int nu_32]))], [(tx1, .inl (cB, 1600, .inl f2))], w3] : List va_W) (([[(h0, .inr (3, [.ref tk0, .ref rp0, .int fk_1, .int fp_2]))], [(tk0, .inr (7, [.ref tx1, .int ln_23, .int ap_26, .ref (ad kd_29), .int sa_30, .long wd_31, .int nu_32]))], [(tx1, .inl (cB, 1600, .inl f2))], w3] : List va_W) ++ ([] : List va_W)) := pm_n 4 [0, 1, 2, 3] (by decide) rfl rfl
      have hPc := bk_P hpm hP
      have hDc := bk_D hpm hD
      have hFc := bk_F hpm hD hS hA
      refine va_calli (va_runV (As := [.int 2]) (rest := []) ⟨hx, hb, hml, hown, hts⟩ (c_X4_refuse l dC dI ad tN fN cB cI cJ cZ h0 2 r0 tk0 rp0 _ r1 tx1 _ _ r3 fc3 dc3 rk3 _ ⟨fk_1, fp_2, rfl⟩ ⟨ln_23, ap_26, kd_29, sa_30, wd_31, nu_32, rfl, by omega, by omega, by omega, by omega⟩ o3 H.size) (cwV 1 hts gX4_numberBehind_X4_refuse rfl rfl rfl (by decide +kernel) ⟨(Nat.le_of_ble_eq_true rfl), (Nat.le_of_ble_eq_true rfl)⟩) ⟨fun a U g mk q => by obtain ⟨q0, q1, qP, qK, qD, qE⟩ := q; exact ⟨q0, q1, qP, va_K.moved (u := U) (U := U.calling g mk a) (Vm.Alike.refl U.vm) qK, qD, ey_blind qE⟩, va_recv hK hPc (ci := 3) (q0 := 0) rfl rfl, fun U hU hW => ⟨rfl, by rw [hU], by rw [hU]; exact hPc, va_K.moved hW.alike hK, hDc.weaken (fun _ _ _ _ => trivial), ey_call hE hS hFc hU hW⟩⟩ rfl rfl hl.1 rfl (lv_room (Nat.le_of_ble_eq_true rfl)) dX4_numberBehind_42 ⟨(Nat.le_of_ble_eq_true rfl), (Nat.le_of_ble_eq_true rfl)⟩) hS (fun q _ h => hFc q h) hFc (fun r_45 u t H locs ht hvm hw hB hz1 hk1 hS => ?_)
      obtain ⟨w_46, o_47, hP1, hD1⟩ := hB
      rw [ht] at hP1
      obtain ⟨hP, hD⟩ := bk_join hpm hP hD hk1 hFc (Cs1 := [w_46, [(tk0, .inr (7, [.ref tx1, .int ln_23, .int ap_26, .ref (ad kd_29), .int sa_30, .long wd_31, .int nu_32]))], [(tx1, .inl (cB, 1600, .inl f2))], w3]) hP1 hD1
      have hpm2 : List.Perm (([w_46, [(tk0, .inr (7, [.ref tx1, .int ln_23, .int ap_26, .ref (ad kd_29), .int sa_30, .long wd_31, .int nu_32]))], [(tx1, .inl (cB, 1600, .inl f2))], w3] : List va_W) ++ ([] : List va_W)) ([w_46, [(tk0, .inr (7, [.ref tx1, .int ln_23, .int ap_26, .ref (ad kd_29), .int sa_30, .long wd_31, .int nu_32]))], [(tx1, .inl (cB, 1600, .inl f2))], w3] : List va_W) := pm_n 4 [0, 1, 2, 3] (by decide) rfl rfl
      have hP := bk_reP hpm2 hP
      have hD := bk_reD hpm2 hD
      have hP : va_P (dC, dI) vwCl (List.flatten [w_46, [(tk0, .inr (7, [.ref tx1, .int ln_23, .int ap_26, .ref (ad kd_29), .int sa_30, .long wd_31, .int nu_32]))], [(tx1, .inl (cB, 1600, .inl f2))], w3]) H := hP
      have hD : va_D A (List.flatten [w_46, [(tk0, .inr (7, [.ref tx1, .int ln_23, .int ap_26, .ref (ad kd_29), .int sa_30, .long wd_31, .int nu_32]))], [(tx1, .inl (cB, 1600, .inl f2))], w3]) := hD
      obtain rfl : r_45 = (0 : Int32) := hw
      refine lv_pop hx hb dX4_numberBehind_45 rfl ?_
      refine lv_bipush (v := (-2)) hx hb dX4_numberBehind_46 (by decide) ?_
      rw [hQ0]
      exact W.iret (v := (-2)) hx hb hr (fun t ht hW => ⟨⟨(-2), (), rfl, trivial, ⟨_, _, o_47, ⟨ln_23, ap_26, kd_29, sa_30, wd_31, nu_32, rfl, by omega, by omega, by omega, by omega⟩, by rw [ht]; exact hP, hD⟩⟩, hS.F ht⟩) hS.2.2 dX4_numberBehind_48
theorem iw_X4_floorBelow_X4 : ∀ w ∈ wsX40, w ∈ wsX4_floorBelow := fun _ h => List.mem_cons_of_mem _ (List.mem_append_left _ (List.mem_append_left _ (List.mem_append_right _ h)))
theorem iw_X4_floorBelow_X9 : ∀ w ∈ wsX90, w ∈ wsX4_floorBelow := fun _ h => List.mem_cons_of_mem _ (List.mem_append_left _ (List.mem_append_right _ h))
set_option maxHeartbeats 4000000 in
set_option maxRecDepth 100000 in
theorem c_X4_floorBelow (l : Launch) (dC : Nat → ClassId) (dI : Nat → Nat → Nat) (ad : Nat → Nat) (tN : Nat) (fN : Nat → Int64) (cB cI cJ cZ : ClassId) (h0 : Nat) (p1 : Int32) (r0 : Nat → Nat) (tk0 : Nat) (rp0 : Nat) (w0 : va_W) (r1 : Nat → Nat) (tx1 : Nat) (w1 : va_W) (f2 : Nat → Int32) (r3 : Nat → Nat) (fc3 : Int32) (dc3 : Int32) (rk3 : Nat → Int32) (w3 : va_W) (o0 : ok_read ad cB cI cJ cZ h0 r0 tk0 rp0 w0) (o1 : ok_tok ad cB cI cJ cZ tk0 r1 tx1 w1) (o3 : ok_plan ad cB cI cJ cZ rp0 r3 fc3 dc3 rk3 w3) (sz : Nat) : Met l yX4_floorBelow wsX4_floorBelow ({ frames := 2, cells := 0, slots := 0, locals := 47 } : Room) (va_Pc [.ref h0, .int p1] (fun U => U.heap.size = sz ∧ va_P (dC, dI) vwCl (List.flatten [w0, w1, [(tx1, .inl (cB, 1600, .inl f2))], w3]) U.heap ∧ va_K (dC, dI) vwCl [(cB, .byte), (cI, .int), (cJ, .long), (cZ, .boolean)] U ∧ va_D (fun _ => True) (List.flatten [w0, w1, [(tx1, .inl (cB, 1600, .inl f2))], w3]) ∧ ex_Y ad tN fN (va_A (List.flatten [w0, w1, [(tx1, .inl (cB, 1600, .inl f2))], w3]) sz) U)) (va_Qi (fun (r : Int32) (_ : Unit) => -2 ≤ r.toInt ∧ r.toInt ≤ 5) (fun (_ : Unit) (t : State) => ∃ (w09 : va_W), ok_read ad cB cI cJ cZ h0 r0 tk0 rp0 w09 ∧ va_P (dC, dI) vwCl (List.flatten [w09, w1, [(tx1, .inl (cB, 1600, .inl f2))], w3]) t.heap ∧ va_D (va_A (List.flatten [w0, w1, [(tx1, .inl (cB, 1600, .inl f2))], w3]) sz) (List.flatten [w09, w1, [(tx1, .inl (cB, 1600, .inl f2))], w3])) (va_A (List.flatten [w0, w1, [(tx1, .inl (cB, 1600, .inl f2))], w3]) sz)) 0 0 (va_A (List.flatten [w0, w1, [(tx1, .inl (cB, 1600, .inl f2))], w3]) sz) := by
  refine Met.ofW (cc := cX4_floorBelow) (maxL := 3) (ret := (some .int)) (by decide) rfl ?_
  intro p e s m args below meth c s₁ B hml hv
  obtain ⟨rfl, hsz, hP, hK, hD0, hE⟩ := hv
  have hx := B.exec
  have hb := B.bytes
  have hr := B.returns
  have hts := atoms_spec (ws := wsX4_floorBelow) B.pre
  have hown : s.vm.findClass RX4 = some m.cls := findClass_of_methodNamed B.named
  have hlocks := B.notSynchronized
  subst hsz
  have hD := hD0.self (sz := s.heap.size)
  generalize hAe : va_A (List.flatten [w0, w1, [(tx1, .inl (cB, 1600, .inl f2))], w3]) s.heap.size = A at hD hE ⊢
  have hA : ∀ q : Nat, s.heap.size ≤ q → A q := fun q h => by rw [← hAe]; exact Or.inr h
  have hS : va_S A s.heap s.heap [] := va_S.rf
  have hl := lv_entry ([.ref h0, .int p1]) (n := 3) (Nat.le_of_ble_eq_true rfl)
  rw [lg_entry_eq]
  generalize (lg_sl ([.ref h0, .int p1]) ++ List.replicate (3 - (lg_sl ([.ref h0, .int p1])).length) Slot.unset).toArray = ls at hl ⊢
  have hl : lv_has ls 3 [(0, .ref h0), (1, .int p1)] := hl
  clear hAe
  refine W_name (fun Q0 hQ0 => ?_)
  refine lv_aload_n hx hb dX4_floorBelow_0 rfl (lv_at hl 0 rfl) ?_
  obtain ⟨fk_1, fp_2, rfl⟩ := o0
  have hpm : List.Perm ([[(h0, .inr (3, [.ref tk0, .ref rp0, .int fk_1, .int fp_2]))], w1, [(tx1, .inl (cB, 1600, .inl f2))], w3] : List va_W) (([[(h0, .inr (3, [.ref tk0, .ref rp0, .int fk_1, .int fp_2]))], w1, [(tx1, .inl (cB, 1600, .inl f2))], w3] : List va_W) ++ ([] : List va_W)) := pm_n 4 [0, 1, 2, 3] (by decide) rfl rfl
  have hPc := bk_P hpm hP
  have hDc := bk_D hpm hD
  have hFc := bk_F hpm hD hS hA
  refine va_calli (va_runV (As := []) (rest := []) ⟨hx, hb, hml, hown, hts⟩ (c_X4_isName l dC dI ad tN fN cB cI cJ cZ h0 r0 tk0 rp0 _ r1 tx1 _ _ r3 fc3 dc3 rk3 _ ⟨fk_1, fp_2, rfl⟩ o1 o3 s.heap.size) (cwV 0 hts gX4_floorBelow_X4_isName rfl rfl rfl (by decide +kernel) ⟨(Nat.le_of_ble_eq_true rfl), (Nat.le_of_ble_eq_true rfl)⟩) ⟨fun a U g mk q => by obtain ⟨q0, q1, qP, qK, qD, qE⟩ := q; exact ⟨q0, q1, qP, va_K.moved (u := U) (U := U.calling g mk a) (Vm.Alike.refl U.vm) qK, qD, ey_blind qE⟩, va_recv hK hPc (ci := 3) (q0 := 0) rfl rfl, fun U hU hW => ⟨rfl, by rw [hU], by rw [hU]; exact hPc, va_K.moved hW.alike hK, hDc.weaken (fun _ _ _ _ => trivial), ey_call hE hS hFc hU hW⟩⟩ rfl rfl hl.1 rfl (lv_room (Nat.le_of_ble_eq_true rfl)) dX4_floorBelow_1 ⟨(Nat.le_of_ble_eq_true rfl), (Nat.le_of_ble_eq_true rfl)⟩) hS (fun q _ h => hFc q h) hFc (fun r_3 u t H locs ht hvm hw hB hz1 hk1 hS => ?_)
  obtain ⟨hP1, hD1⟩ := hB
  rw [ht] at hP1
  obtain ⟨hP, hD⟩ := bk_join hpm hP hD hk1 hFc (Cs1 := [[(h0, .inr (3, [.ref tk0, .ref rp0, .int fk_1, .int fp_2]))], w1, [(tx1, .inl (cB, 1600, .inl f2))], w3]) hP1 hD1
  have hpm2 : List.Perm (([[(h0, .inr (3, [.ref tk0, .ref rp0, .int fk_1, .int fp_2]))], w1, [(tx1, .inl (cB, 1600, .inl f2))], w3] : List va_W) ++ ([] : List va_W)) ([[(h0, .inr (3, [.ref tk0, .ref rp0, .int fk_1, .int fp_2]))], w1, [(tx1, .inl (cB, 1600, .inl f2))], w3] : List va_W) := pm_n 4 [0, 1, 2, 3] (by decide) rfl rfl
  have hP := bk_reP hpm2 hP
  have hD := bk_reD hpm2 hD
  have hP : va_P (dC, dI) vwCl (List.flatten [[(h0, .inr (3, [.ref tk0, .ref rp0, .int fk_1, .int fp_2]))], w1, [(tx1, .inl (cB, 1600, .inl f2))], w3]) H := hP
  have hD : va_D A (List.flatten [[(h0, .inr (3, [.ref tk0, .ref rp0, .int fk_1, .int fp_2]))], w1, [(tx1, .inl (cB, 1600, .inl f2))], w3]) := hD
  obtain ⟨hlr_3, hhr_3⟩ := hw
  refine lv_if_ne (tgt := 16) hx hb dX4_floorBelow_4 (by decide) (fun c_4 => ?_) (fun c_4 => ?_)
  · have c_4 : ¬ r_3.toInt = 0 := f_ne rfl tI_0 c_4
    refine lv_aload_n hx hb dX4_floorBelow_16 rfl (lv_at hl 0 rfl) ?_
    refine va_get (D := (dC, dI)) (ci := 3) (v := .ref rp0) (C := RX4) (T := TX4) (N := 4) hx hb hts iw_X4_floorBelow_X4 hown hK hP 0 rfl rfl 1 (by decide) (hts (.fieldLink RX4 21 "HungFloors$HouseReader" "plan" "LHungFloors$Plan;") (by decide +kernel)) (fun _ h9 => h9) rfl dX4_floorBelow_17 ?_
    refine lv_aload_n hx hb dX4_floorBelow_20 rfl (lv_at hl 0 rfl) ?_
    refine va_get (D := (dC, dI)) (ci := 3) (v := .ref tk0) (C := RX4) (T := TX4) (N := 4) hx hb hts iw_X4_floorBelow_X4 hown hK hP 0 rfl rfl 0 (by decide) (hts (.fieldLink RX4 12 "HungFloors$HouseReader" "tokens" "LHungFloors$Tokens;") (by decide +kernel)) (fun _ h9 => h9) rfl dX4_floorBelow_21 ?_
    obtain ⟨ln_5, ap_8, kd_11, sa_12, wd_13, nu_14, rfl, hl_6, hh_7, hl_9, hh_10⟩ := o1
    refine va_get (D := (dC, dI)) (ci := 7) (v := .long wd_13) (C := RX9) (T := TX9) (N := 7) hx hb hts iw_X4_floorBelow_X9 hown hK hP 1 rfl rfl 5 (by decide) (hts (.fieldLink RX4 90 "HungFloors$Tokens" "word" "J") (by decide +kernel)) (fun _ h9 => h9) rfl dX4_floorBelow_24 ?_
    obtain ⟨f_17, f_18, f_19, f_20, f_23, f_25, f_26, f_28, f_30, rfl, hl_15, hh_16, hl_21, hh_22, hr_24, hr_27, hr_29⟩ := o3
    have hpm : List.Perm ([[(h0, .inr (3, [.ref tk0, .ref rp0, .int fk_1, .int fp_2]))], [(tk0, .inr (7, [.ref tx1, .int ln_5, .int ap_8, .ref (ad kd_11), .int sa_12, .long wd_13, .int nu_14]))], [(tx1, .inl (cB, 1600, .inl f2))], [(rp0, .inr (5, [.int fc3, .ref (r3 0), .ref (r3 1), .ref (r3 2), .ref (r3 3), .int dc3, .ref (r3 4), .ref (r3 5), .ref (r3 6), .ref (r3 7), .ref (r3 8), .ref (r3 9)])), (r3 0, .inl (cJ, 6, .inr (.inl f_17))), (r3 1, .inl (cI, 6, .inl f_18)), (r3 2, .inl (cI, 6, .inl f_19)), (r3 3, .inl (cI, 6, .inl f_20)), (r3 4, .inl (cJ, 4, .inr (.inl f_23))), (r3 5, .inl (cI, 4, .inl rk3)), (r3 6, .inl (cJ, 40, .inr (.inl f_25))), (r3 7, .inl (cI, 40, .inl f_26)), (r3 8, .inl (cI, 40, .inl f_28)), (r3 9, .inl (cI, 40, .inl f_30))]] : List va_W) (([[(rp0, .inr (5, [.int fc3, .ref (r3 0), .ref (r3 1), .ref (r3 2), .ref (r3 3), .int dc3, .ref (r3 4), .ref (r3 5), .ref (r3 6), .ref (r3 7), .ref (r3 8), .ref (r3 9)])), (r3 0, .inl (cJ, 6, .inr (.inl f_17))), (r3 1, .inl (cI, 6, .inl f_18)), (r3 2, .inl (cI, 6, .inl f_19)), (r3 3, .inl (cI, 6, .inl f_20)), (r3 4, .inl (cJ, 4, .inr (.inl f_23))), (r3 5, .inl (cI, 4, .inl rk3)), (r3 6, .inl (cJ, 40, .inr (.inl f_25))), (r3 7, .inl (cI, 40, .inl f_26)), (r3 8, .inl (cI, 40, .inl f_28)), (r3 9, .inl (cI, 40, .inl f_30))]] : List va_W) ++ ([[(h0, .inr (3, [.ref tk0, .ref rp0, .int fk_1, .int fp_2]))], [(tk0, .inr (7, [.ref tx1, .int ln_5, .int ap_8, .ref (ad kd_11), .int sa_12, .long wd_13, .int nu_14]))], [(tx1, .inl (cB, 1600, .inl f2))]] : List va_W)) := pm_n 4 [3, 0, 1, 2] (by decide) rfl rfl
    have hPc := bk_P hpm hP
    have hDc := bk_D hpm hD
    have hFc := bk_F hpm hD hS hA
    refine va_calli (va_runV (As := [.long wd_13]) (rest := []) ⟨hx, hb, hml, hown, hts⟩ (c_X7_floorCalled l dC dI ad tN fN cB cI cJ cZ rp0 wd_13 r3 fc3 dc3 rk3 _ ⟨f_17, f_18, f_19, f_20, f_23, f_25, f_26, f_28, f_30, rfl, by omega, by omega, by omega, by omega, hr_24, hr_27, hr_29⟩ H.size) (cwV 1 hts gX4_floorBelow_X7_floorCalled rfl rfl rfl (by decide +kernel) ⟨(Nat.le_of_ble_eq_true rfl), (Nat.le_of_ble_eq_true rfl)⟩) ⟨fun a U g mk q => by obtain ⟨q0, q1, qP, qK, qD, qE⟩ := q; exact ⟨q0, q1, qP, va_K.moved (u := U) (U := U.calling g mk a) (Vm.Alike.refl U.vm) qK, qD, ey_blind qE⟩, va_recv hK hPc (ci := 5) (q0 := 0) rfl rfl, fun U hU hW => ⟨rfl, by rw [hU], by rw [hU]; exact hPc, va_K.moved hW.alike hK, hDc.weaken (fun _ _ _ _ => trivial), ey_call hE hS hFc hU hW⟩⟩ rfl rfl hl.1 rfl (lv_room (Nat.le_of_ble_eq_true rfl)) dX4_floorBelow_27 ⟨(Nat.le_of_ble_eq_true rfl), (Nat.le_of_ble_eq_true rfl)⟩) hS (fun q _ h => hFc q h) hFc (fun r_31 u t H locs ht hvm hw hB hz1 hk1 hS => ?_)
    obtain ⟨hP1, hD1⟩ := hB
    rw [ht] at hP1
    obtain ⟨hP, hD⟩ := bk_join hpm hP hD hk1 hFc (Cs1 := [[(rp0, .inr (5, [.int fc3, .ref (r3 0), .ref (r3 1), .ref (r3 2), .ref (r3 3), .int dc3, .ref (r3 4), .ref (r3 5), .ref (r3 6), .ref (r3 7), .ref (r3 8), .ref (r3 9)])), (r3 0, .inl (cJ, 6, .inr (.inl f_17))), (r3 1, .inl (cI, 6, .inl f_18)), (r3 2, .inl (cI, 6, .inl f_19)), (r3 3, .inl (cI, 6, .inl f_20)), (r3 4, .inl (cJ, 4, .inr (.inl f_23))), (r3 5, .inl (cI, 4, .inl rk3)), (r3 6, .inl (cJ, 40, .inr (.inl f_25))), (r3 7, .inl (cI, 40, .inl f_26)), (r3 8, .inl (cI, 40, .inl f_28)), (r3 9, .inl (cI, 40, .inl f_30))]]) hP1 hD1
    have hpm2 : List.Perm (([[(rp0, .inr (5, [.int fc3, .ref (r3 0), .ref (r3 1), .ref (r3 2), .ref (r3 3), .int dc3, .ref (r3 4), .ref (r3 5), .ref (r3 6), .ref (r3 7), .ref (r3 8), .ref (r3 9)])), (r3 0, .inl (cJ, 6, .inr (.inl f_17))), (r3 1, .inl (cI, 6, .inl f_18)), (r3 2, .inl (cI, 6, .inl f_19)), (r3 3, .inl (cI, 6, .inl f_20)), (r3 4, .inl (cJ, 4, .inr (.inl f_23))), (r3 5, .inl (cI, 4, .inl rk3)), (r3 6, .inl (cJ, 40, .inr (.inl f_25))), (r3 7, .inl (cI, 40, .inl f_26)), (r3 8, .inl (cI, 40, .inl f_28)), (r3 9, .inl (cI, 40, .inl f_30))]] : List va_W) ++ ([[(h0, .inr (3, [.ref tk0, .ref rp0, .int fk_1, .int fp_2]))], [(tk0, .inr (7, [.ref tx1, .int ln_5, .int ap_8, .ref (ad kd_11), .int sa_12, .long wd_13, .int nu_14]))], [(tx1, .inl (cB, 1600, .inl f2))]] : List va_W)) ([[(h0, .inr (3, [.ref tk0, .ref rp0, .int fk_1, .int fp_2]))], [(tk0, .inr (7, [.ref tx1, .int ln_5, .int ap_8, .ref (ad kd_11), .int sa_12, .long wd_13, .int nu_14]))], [(tx1, .inl (cB, 1600, .inl f2))], [(rp0, .inr (5, [.int fc3, .ref (r3 0), .ref (r3 1), .ref (r3 2), .ref (r3 3), .int dc3, .ref (r3 4), .ref (r3 5), .ref (r3 6), .ref (r3 7), .ref (r3 8), .ref (r3 9)])), (r3 0, .inl (cJ, 6, .inr (.inl f_17))), (r3 1, .inl (cI, 6, .inl f_18)), (r3 2, .inl (cI, 6, .inl f_19)), (r3 3, .inl (cI, 6, .inl f_20)), (r3 4, .inl (cJ, 4, .inr (.inl f_23))), (r3 5, .inl (cI, 4, .inl rk3)), (r3 6, .inl (cJ, 40, .inr (.inl f_25))), (r3 7, .inl (cI, 40, .inl f_26)), (r3 8, .inl (cI, 40, .inl f_28)), (r3 9, .inl (cI, 40, .inl f_30))]] : List va_W) := pm_n 4 [1, 2, 3, 0] (by decide) rfl rfl
    have hP := bk_reP hpm2 hP
    have hD := bk_reD hpm2 hD
    have hP : va_P (dC, dI) vwCl (List.flatten [[(h0, .inr (3, [.ref tk0, .ref rp0, .int fk_1, .int fp_2]))], [(tk0, .inr (7, [.ref tx1, .int ln_5, .int ap_8, .ref (ad kd_11), .int sa_12, .long wd_13, .int nu_14]))], [(tx1, .inl (cB, 1600, .inl f2))], [(rp0, .inr (5, [.int fc3, .ref (r3 0), .ref (r3 1), .ref (r3 2), .ref (r3 3), .int dc3, .ref (r3 4), .ref (r3 5), .ref (r3 6), .ref (r3 7), .ref (r3 8), .ref (r3 9)])), (r3 0, .inl (cJ, 6, .inr (.inl f_17))), (r3 1, .inl (cI, 6, .inl f_18)), (r3 2, .inl (cI, 6, .inl f_19)), (r3 3, .inl (cI, 6, .inl f_20)), (r3 4, .inl (cJ, 4, .inr (.inl f_23))), (r3 5, .inl (cI, 4, .inl rk3)), (r3 6, .inl (cJ, 40, .inr (.inl f_25))), (r3 7, .inl (cI, 40, .inl f_26)), (r3 8, .inl (cI, 40, .inl f_28)), (r3 9, .inl (cI, 40, .inl f_30))]]) H := hP
    have hD : va_D A (List.flatten [[(h0, .inr (3, [.ref tk0, .ref rp0, .int fk_1, .int fp_2]))], [(tk0, .inr (7, [.ref tx1, .int ln_5, .int ap_8, .ref (ad kd_11), .int sa_12, .long wd_13, .int nu_14]))], [(tx1, .inl (cB, 1600, .inl f2))], [(rp0, .inr (5, [.int fc3, .ref (r3 0), .ref (r3 1), .ref (r3 2), .ref (r3 3), .int dc3, .ref (r3 4), .ref (r3 5), .ref (r3 6), .ref (r3 7), .ref (r3 8), .ref (r3 9)])), (r3 0, .inl (cJ, 6, .inr (.inl f_17))), (r3 1, .inl (cI, 6, .inl f_18)), (r3 2, .inl (cI, 6, .inl f_19)), (r3 3, .inl (cI, 6, .inl f_20)), (r3 4, .inl (cJ, 4, .inr (.inl f_23))), (r3 5, .inl (cI, 4, .inl rk3)), (r3 6, .inl (cJ, 40, .inr (.inl f_25))), (r3 7, .inl (cI, 40, .inl f_26)), (r3 8, .inl (cI, 40, .inl f_28)), (r3 9, .inl (cI, 40, .inl f_30))]]) := hD
    obtain ⟨hlr_31, hhr_31⟩ := hw
    refine lv_istore_n (lv' := [(2, .int r_31), (0, .ref h0), (1, .int p1)]) hx hb dX4_floorBelow_30 rfl hl (by decide) rfl (fun ls hl => ?_)
    refine lv_iload_n hx hb dX4_floorBelow_31 rfl (lv_at hl 0 rfl) ?_
    refine lv_if_ge (tgt := 44) hx hb dX4_floorBelow_32 (by decide) (fun c_32 => ?_) (fun c_32 => ?_)
    · have c_32 : 0 ≤ r_31.toInt := f_le tI_0 rfl c_32
      refine lv_iload_n hx hb dX4_floorBelow_44 rfl (lv_at hl 0 rfl) ?_
      refine lv_iload_n hx hb dX4_floorBelow_45 rfl (lv_at hl 2 rfl) ?_
      refine lv_icmp_gt (tgt := 59) hx hb dX4_floorBelow_46 (by decide) (fun c_33 => ?_) (fun c_33 => ?_)
      · have c_33 : p1.toInt < r_31.toInt := f_lt rfl rfl c_33
        refine lv_iload_n hx hb dX4_floorBelow_59 rfl (lv_at hl 0 rfl) ?_
        rw [hQ0]
        exact W.iret (v := r_31) hx hb hr (fun t ht hW => ⟨⟨r_31, (), rfl, ⟨by omega, by omega⟩, ⟨_, ⟨fk_1, fp_2, rfl⟩, by rw [ht]; exact hP, hD⟩⟩, hS.F ht⟩) hS.2.2 dX4_floorBelow_60
      · have c_33 : r_31.toInt ≤ p1.toInt := f_nlt rfl rfl c_33
        refine lv_aload_n hx hb dX4_floorBelow_49 rfl (lv_at hl 1 rfl) ?_
        refine lv_bipush (v := 6) hx hb dX4_floorBelow_50 (by decide) ?_
        have hpm : List.Perm ([[(h0, .inr (3, [.ref tk0, .ref rp0, .int fk_1, .int fp_2]))], [(tk0, .inr (7, [.ref tx1, .int ln_5, .int ap_8, .ref (ad kd_11), .int sa_12, .long wd_13, .int nu_14]))], [(tx1, .inl (cB, 1600, .inl f2))], [(rp0, .inr (5, [.int fc3, .ref (r3 0), .ref (r3 1), .ref (r3 2), .ref (r3 3), .int dc3, .ref (r3 4), .ref (r3 5), .ref (r3 6), .ref (r3 7), .ref (r3 8), .ref (r3 9)])), (r3 0, .inl (cJ, 6, .inr (.inl f_17))), (r3 1, .inl (cI, 6, .inl f_18)), (r3 2, .inl (cI, 6, .inl f_19)), (r3 3, .inl (cI, 6, .inl f_20)), (r3 4, .inl (cJ, 4, .inr (.inl f_23))), (r3 5, .inl (cI, 4, .inl rk3)), (r3 6, .inl (cJ, 40, .inr (.inl f_25))), (r3 7, .inl (cI, 40, .inl f_26)), (r3 8, .inl (cI, 40, .inl f_28)), (r3 9, .inl (cI, 40, .inl f_30))]] : List va_W) (([[(h0, .inr (3, [.ref tk0, .ref rp0, .int fk_1, .int fp_2]))], [(tk0, .inr (7, [.ref tx1, .int ln_5, .int ap_8, .ref (ad kd_11), .int sa_12, .long wd_13, .int nu_14]))], [(tx1, .inl (cB, 1600, .inl f2))], [(rp0, .inr (5, [.int fc3, .ref (r3 0), .ref (r3 1), .ref (r3 2), .ref (r3 3), .int dc3, .ref (r3 4), .ref (r3 5), .ref (r3 6), .ref (r3 7), .ref (r3 8), .ref (r3 9)])), (r3 0, .inl (cJ, 6, .inr (.inl f_17))), (r3 1, .inl (cI, 6, .inl f_18)), (r3 2, .inl (cI, 6, .inl f_19)), (r3 3, .inl (cI, 6, .inl f_20)), (r3 4, .inl (cJ, 4, .inr (.inl f_23))), (r3 5, .inl (cI, 4, .inl rk3)), (r3 6, .inl (cJ, 40, .inr (.inl f_25))), (r3 7, .inl (cI, 40, .inl f_26)), (r3 8, .inl (cI, 40, .inl f_28)), (r3 9, .inl (cI, 40, .inl f_30))]] : List va_W) ++ ([] : List va_W)) := pm_n 4 [0, 1, 2, 3] (by decide) rfl rfl
        have hPc := bk_P hpm hP
        have hDc := bk_D hpm hD
        have hFc := bk_F hpm hD hS hA
        refine va_calli (va_runV (As := [.int 6]) (rest := []) ⟨hx, hb, hml, hown, hts⟩ (c_X4_refuse l dC dI ad tN fN cB cI cJ cZ h0 6 r0 tk0 rp0 _ r1 tx1 _ _ r3 fc3 dc3 rk3 _ ⟨fk_1, fp_2, rfl⟩ ⟨ln_5, ap_8, kd_11, sa_12, wd_13, nu_14, rfl, by omega, by omega, by omega, by omega⟩ ⟨f_17, f_18, f_19, f_20, f_23, f_25, f_26, f_28, f_30, rfl, by omega, by omega, by omega, by omega, hr_24, hr_27, hr_29⟩ H.size) (cwV 1 hts gX4_floorBelow_X4_refuse rfl rfl rfl (by decide +kernel) ⟨(Nat.le_of_ble_eq_true rfl), (Nat.le_of_ble_eq_true rfl)⟩) ⟨fun a U g mk q => by obtain ⟨q0, q1, qP, qK, qD, qE⟩ := q; exact ⟨q0, q1, qP, va_K.moved (u := U) (U := U.calling g mk a) (Vm.Alike.refl U.vm) qK, qD, ey_blind qE⟩, va_recv hK hPc (ci := 3) (q0 := 0) rfl rfl, fun U hU hW => ⟨rfl, by rw [hU], by rw [hU]; exact hPc, va_K.moved hW.alike hK, hDc.weaken (fun _ _ _ _ => trivial), ey_call hE hS hFc hU hW⟩⟩ rfl rfl hl.1 rfl (lv_room (Nat.le_of_ble_eq_true rfl)) dX4_floorBelow_52 ⟨(Nat.le_of_ble_eq_true rfl), (Nat.le_of_ble_eq_true rfl)⟩) hS (fun q _ h => hFc q h) hFc (fun r_34 u t H locs ht hvm hw hB hz1 hk1 hS => ?_)
        obtain ⟨w_35, o_36, hP1, hD1⟩ := hB
        rw [ht] at hP1
        obtain ⟨hP, hD⟩ := bk_join hpm hP hD hk1 hFc (Cs1 := [w_35, [(tk0, .inr (7, [.ref tx1, .int ln_5, .int ap_8, .ref (ad kd_11), .int sa_12, .long wd_13, .int nu_14]))], [(tx1, .inl (cB, 1600, .inl f2))], [(rp0, .inr (5, [.int fc3, .ref (r3 0), .ref (r3 1), .ref (r3 2), .ref (r3 3), .int dc3, .ref (r3 4), .ref (r3 5), .ref (r3 6), .ref (r3 7), .ref (r3 8), .ref (r3 9)])), (r3 0, .inl (cJ, 6, .inr (.inl f_17))), (r3 1, .inl (cI, 6, .inl f_18)), (r3 2, .inl (cI, 6, .inl f_19)), (r3 3, .inl (cI, 6, .inl f_20)), (r3 4, .inl (cJ, 4, .inr (.inl f_23))), (r3 5, .inl (cI, 4, .inl rk3)), (r3 6, .inl (cJ, 40, .inr (.inl f_25))), (r3 7, .inl (cI, 40, .inl f_26)), (r3 8, .inl (cI, 40, .inl f_28)), (r3 9, .inl (cI, 40, .inl f_30))]]) hP1 hD1
        have hpm2 : List.Perm (([w_35, [(tk0, .inr (7, [.ref tx1, .int ln_5, .int ap_8, .ref (ad kd_11), .int sa_12, .long wd_13, .int nu_14]))], [(tx1, .inl (cB, 1600, .inl f2))], [(rp0, .inr (5, [.int fc3, .ref (r3 0), .ref (r3 1), .ref (r3 2), .ref (r3 3), .int dc3, .ref (r3 4), .ref (r3 5), .ref (r3 6), .ref (r3 7), .ref (r3 8), .ref (r3 9)])), (r3 0, .inl (cJ, 6, .inr (.inl f_17))), (r3 1, .inl (cI, 6, .inl f_18)), (r3 2, .inl (cI, 6, .inl f_19)), (r3 3, .inl (cI, 6, .inl f_20)), (r3 4, .inl (cJ, 4, .inr (.inl f_23))), (r3 5, .inl (cI, 4, .inl rk3)), (r3 6, .inl (cJ, 40, .inr (.inl f_25))), (r3 7, .inl (cI, 40, .inl f_26)), (r3 8, .inl (cI, 40, .inl f_28)), (r3 9, .inl (cI, 40, .inl f_30))]] : List va_W) ++ ([] : List va_W)) ([w_35, [(tk0, .inr (7, [.ref tx1, .int ln_5, .int ap_8, .ref (ad kd_11), .int sa_12, .long wd_13, .int nu_14]))], [(tx1, .inl (cB, 1600, .inl f2))], [(rp0, .inr (5, [.int fc3, .ref (r3 0), .ref (r3 1), .ref (r3 2), .ref (r3 3), .int dc3, .ref (r3 4), .ref (r3 5), .ref (r3 6), .ref (r3 7), .ref (r3 8), .ref (r3 9)])), (r3 0, .inl (cJ, 6, .inr (.inl f_17))), (r3 1, .inl (cI, 6, .inl f_18)), (r3 2, .inl (cI, 6, .inl f_19)), (r3 3, .inl (cI, 6, .inl f_20)), (r3 4, .inl (cJ, 4, .inr (.inl f_23))), (r3 5, .inl (cI, 4, .inl rk3)), (r3 6, .inl (cJ, 40, .inr (.inl f_25))), (r3 7, .inl (cI, 40, .inl f_26)), (r3 8, .inl (cI, 40, .inl f_28)), (r3 9, .inl (cI, 40, .inl f_30))]] : List va_W) := pm_n 4 [0, 1, 2, 3] (by decide) rfl rfl
        have hP := bk_reP hpm2 hP
        have hD := bk_reD hpm2 hD
        have hP : va_P (dC, dI) vwCl (List.flatten [w_35, [(tk0, .inr (7, [.ref tx1, .int ln_5, .int ap_8, .ref (ad kd_11), .int sa_12, .long wd_13, .int nu_14]))], [(tx1, .inl (cB, 1600, .inl f2))], [(rp0, .inr (5, [.int fc3, .ref (r3 0), .ref (r3 1), .ref (r3 2), .ref (r3 3), .int dc3, .ref (r3 4), .ref (r3 5), .ref (r3 6), .ref (r3 7), .ref (r3 8), .ref (r3 9)])), (r3 0, .inl (cJ, 6, .inr (.inl f_17))), (r3 1, .inl (cI, 6, .inl f_18)), (r3 2, .inl (cI, 6, .inl f_19)), (r3 3, .inl (cI, 6, .inl f_20)), (r3 4, .inl (cJ, 4, .inr (.inl f_23))), (r3 5, .inl (cI, 4, .inl rk3)), (r3 6, .inl (cJ, 40, .inr (.inl f_25))), (r3 7, .inl (cI, 40, .inl f_26)), (r3 8, .inl (cI, 40, .inl f_28)), (r3 9, .inl (cI, 40, .inl f_30))]]) H := hP
        have hD : va_D A (List.flatten [w_35, [(tk0, .inr (7, [.ref tx1, .int ln_5, .int ap_8, .ref (ad kd_11), .int sa_12, .long wd_13, .int nu_14]))], [(tx1, .inl (cB, 1600, .inl f2))], [(rp0, .inr (5, [.int fc3, .ref (r3 0), .ref (r3 1), .ref (r3 2), .ref (r3 3), .int dc3, .ref (r3 4), .ref (r3 5), .ref (r3 6), .ref (r3 7), .ref (r3 8), .ref (r3 9)])), (r3 0, .inl (cJ, 6, .inr (.inl f_17))), (r3 1, .inl (cI, 6, .inl f_18)), (r3 2, .inl (cI, 6, .inl f_19)), (r3 3, .inl (cI, 6, .inl f_20)), (r3 4, .inl (cJ, 4, .inr (.inl f_23))), (r3 5, .inl (cI, 4, .inl rk3)), (r3 6, .inl (cJ, 40, .inr (.inl f_25))), (r3 7, .inl (cI, 40, .inl f_26)), (r3 8, .inl (cI, 40, .inl f_28)), (r3 9, .inl (cI, 40, .inl f_30))]]) := hD
        obtain rfl : r_34 = (0 : Int32) := hw
        refine lv_pop hx hb dX4_floorBelow_55 rfl ?_
        refine lv_bipush (v := (-2)) hx hb dX4_floorBelow_56 (by decide) ?_
        rw [hQ0]
        exact W.iret (v := (-2)) hx hb hr (fun t ht hW => ⟨⟨(-2), (), rfl, ⟨by decide, by decide⟩, ⟨_, o_36, by rw [ht]; exact hP, hD⟩⟩, hS.F ht⟩) hS.2.2 dX4_floorBelow_58
    · have c_32 : r_31.toInt < 0 := f_nle tI_0 rfl c_32
      refine lv_aload_n hx hb dX4_floorBelow_35 rfl (lv_at hl 1 rfl) ?_
      refine lv_iconst (v := 5) hx hb dX4_floorBelow_36 (by decide) ?_
      have hpm : List.Perm ([[(h0, .inr (3, [.ref tk0, .ref rp0, .int fk_1, .int fp_2]))], [(tk0, .inr (7, [.ref tx1, .int ln_5, .int ap_8, .ref (ad kd_11), .int sa_12, .long wd_13, .int nu_14]))], [(tx1, .inl (cB, 1600, .inl f2))], [(rp0, .inr (5, [.int fc3, .ref (r3 0), .ref (r3 1), .ref (r3 2), .ref (r3 3), .int dc3, .ref (r3 4), .ref (r3 5), .ref (r3 6), .ref (r3 7), .ref (r3 8), .ref (r3 9)])), (r3 0, .inl (cJ, 6, .inr (.inl f_17))), (r3 1, .inl (cI, 6, .inl f_18)), (r3 2, .inl (cI, 6, .inl f_19)), (r3 3, .inl (cI, 6, .inl f_20)), (r3 4, .inl (cJ, 4, .inr (.inl f_23))), (r3 5, .inl (cI, 4, .inl rk3)), (r3 6, .inl (cJ, 40, .inr (.inl f_25))), (r3 7, .inl (cI, 40, .inl f_26)), (r3 8, .inl (cI, 40, .inl f_28)), (r3 9, .inl (cI, 40, .inl f_30))]] : List va_W) (([[(h0, .inr (3, [.ref tk0, .ref rp0, .int fk_1, .int fp_2]))], [(tk0, .inr (7, [.ref tx1, .int ln_5, .int ap_8, .ref (ad kd_11), .int sa_12, .long wd_13, .int nu_14]))], [(tx1, .inl (cB, 1600, .inl f2))], [(rp0, .inr (5, [.int fc3, .ref (r3 0), .ref (r3 1), .ref (r3 2), .ref (r3 3), .int dc3, .ref (r3 4), .ref (r3 5), .ref (r3 6), .ref (r3 7), .ref (r3 8), .ref (r3 9)])), (r3 0, .inl (cJ, 6, .inr (.inl f_17))), (r3 1, .inl (cI, 6, .inl f_18)), (r3 2, .inl (cI, 6, .inl f_19)), (r3 3, .inl (cI, 6, .inl f_20)), (r3 4, .inl (cJ, 4, .inr (.inl f_23))), (r3 5, .inl (cI, 4, .inl rk3)), (r3 6, .inl (cJ, 40, .inr (.inl f_25))), (r3 7, .inl (cI, 40, .inl f_26)), (r3 8, .inl (cI, 40, .inl f_28)), (r3 9, .inl (cI, 40, .inl f_30))]] : List va_W) ++ ([] : List va_W)) := pm_n 4 [0, 1, 2, 3] (by decide) rfl rfl
      have hPc := bk_P hpm hP
      have hDc := bk_D hpm hD
      have hFc := bk_F hpm hD hS hA
      refine va_calli (va_runV (As := [.int 5]) (rest := []) ⟨hx, hb, hml, hown, hts⟩ (c_X4_refuse l dC dI ad tN fN cB cI cJ cZ h0 5 r0 tk0 rp0 _ r1 tx1 _ _ r3 fc3 dc3 rk3 _ ⟨fk_1, fp_2, rfl⟩ ⟨ln_5, ap_8, kd_11, sa_12, wd_13, nu_14, rfl, by omega, by omega, by omega, by omega⟩ ⟨f_17, f_18, f_19, f_20, f_23, f_25, f_26, f_28, f_30, rfl, by omega, by omega, by omega, by omega, hr_24, hr_27, hr_29⟩ H.size) (cwV 1 hts gX4_floorBelow_X4_refuse rfl rfl rfl (by decide +kernel) ⟨(Nat.le_of_ble_eq_true rfl), (Nat.le_of_ble_eq_true rfl)⟩) ⟨fun a U g mk q => by obtain ⟨q0, q1, qP, qK, qD, qE⟩ := q; exact ⟨q0, q1, qP, va_K.moved (u := U) (U := U.calling g mk a) (Vm.Alike.refl U.vm) qK, qD, ey_blind qE⟩, va_recv hK hPc (ci := 3) (q0 := 0) rfl rfl, fun U hU hW => ⟨rfl, by rw [hU], by rw [hU]; exact hPc, va_K.moved hW.alike hK, hDc.weaken (fun _ _ _ _ => trivial), ey_call hE hS hFc hU hW⟩⟩ rfl rfl hl.1 rfl (lv_room (Nat.le_of_ble_eq_true rfl)) dX4_floorBelow_37 ⟨(Nat.le_of_ble_eq_true rfl), (Nat.le_of_ble_eq_true rfl)⟩) hS (fun q _ h => hFc q h) hFc (fun r_37 u t H locs ht hvm hw hB hz1 hk1 hS => ?_)
      obtain ⟨w_38, o_39, hP1, hD1⟩ := hB
      rw [ht] at hP1
      obtain ⟨hP, hD⟩ := bk_join hpm hP hD hk1 hFc (Cs1 := [w_38, [(tk0, .inr (7, [.ref tx1, .int ln_5, .int ap_8, .ref (ad kd_11), .int sa_12, .long wd_13, .int nu_14]))], [(tx1, .inl (cB, 1600, .inl f2))], [(rp0, .inr (5, [.int fc3, .ref (r3 0), .ref (r3 1), .ref (r3 2), .ref (r3 3), .int dc3, .ref (r3 4), .ref (r3 5), .ref (r3 6), .ref (r3 7), .ref (r3 8), .ref (r3 9)])), (r3 0, .inl (cJ, 6, .inr (.inl f_17))), (r3 1, .inl (cI, 6, .inl f_18)), (r3 2, .inl (cI, 6, .inl f_19)), (r3 3, .inl (cI, 6, .inl f_20)), (r3 4, .inl (cJ, 4, .inr (.inl f_23))), (r3 5, .inl (cI, 4, .inl rk3)), (r3 6, .inl (cJ, 40, .inr (.inl f_25))), (r3 7, .inl (cI, 40, .inl f_26)), (r3 8, .inl (cI, 40, .inl f_28)), (r3 9, .inl (cI, 40, .inl f_30))]]) hP1 hD1
      have hpm2 : List.Perm (([w_38, [(tk0, .inr (7, [.ref tx1, .int ln_5, .int ap_8, .ref (ad kd_11), .int sa_12, .long wd_13, .int nu_14]))], [(tx1, .inl (cB, 1600, .inl f2))], [(rp0, .inr (5, [.int fc3, .ref (r3 0), .ref (r3 1), .ref (r3 2), .ref (r3 3), .int dc3, .ref (r3 4), .ref (r3 5), .ref (r3 6), .ref (r3 7), .ref (r3 8), .ref (r3 9)])), (r3 0, .inl (cJ, 6, .inr (.inl f_17))), (r3 1, .inl (cI, 6, .inl f_18)), (r3 2, .inl (cI, 6, .inl f_19)), (r3 3, .inl (cI, 6, .inl f_20)), (r3 4, .inl (cJ, 4, .inr (.inl f_23))), (r3 5, .inl (cI, 4, .inl rk3)), (r3 6, .inl (cJ, 40, .inr (.inl f_25))), (r3 7, .inl (cI, 40, .inl f_26)), (r3 8, .inl (cI, 40, .inl f_28)), (r3 9, .inl (cI, 40, .inl f_30))]] : List va_W) ++ ([] : List va_W)) ([w_38, [(tk0, .inr (7, [.ref tx1, .int ln_5, .int ap_8, .ref (ad kd_11), .int sa_12, .long wd_13, .int nu_14]))], [(tx1, .inl (cB, 1600, .inl f2))], [(rp0, .inr (5, [.int fc3, .ref (r3 0), .ref (r3 1), .ref (r3 2), .ref (r3 3), .int dc3, .ref (r3 4), .ref (r3 5), .ref (r3 6), .ref (r3 7), .ref (r3 8), .ref (r3 9)])), (r3 0, .inl (cJ, 6, .inr (.inl f_17))), (r3 1, .inl (cI, 6, .inl f_18)), (r3 2, .inl (cI, 6, .inl f_19)), (r3 3, .inl (cI, 6, .inl f_20)), (r3 4, .inl (cJ, 4, .inr (.inl f_23))), (r3 5, .inl (cI, 4, .inl rk3)), (r3 6, .inl (cJ, 40, .inr (.inl f_25))), (r3 7, .inl (cI, 40, .inl f_26)), (r3 8, .inl (cI, 40, .inl f_28)), (r3 9, .inl (cI, 40, .inl f_30))]] : List va_W) := pm_n 4 [0, 1, 2, 3] (by decide) rfl rfl
      have hP := bk_reP hpm2 hP
      have hD := bk_reD hpm2 hD
      have hP : va_P (dC, dI) vwCl (List.flatten [w_38, [(tk0, .inr (7, [.ref tx1, .int ln_5, .int ap_8, .ref (ad kd_11), .int sa_12, .long wd_13, .int nu_14]))], [(tx1, .inl (cB, 1600, .inl f2))], [(rp0, .inr (5, [.int fc3, .ref (r3 0), .ref (r3 1), .ref (r3 2), .ref (r3 3), .int dc3, .ref (r3 4), .ref (r3 5), .ref (r3 6), .ref (r3 7), .ref (r3 8), .ref (r3 9)])), (r3 0, .inl (cJ, 6, .inr (.inl f_17))), (r3 1, .inl (cI, 6, .inl f_18)), (r3 2, .inl (cI, 6, .inl f_19)), (r3 3, .inl (cI, 6, .inl f_20)), (r3 4, .inl (cJ, 4, .inr (.inl f_23))), (r3 5, .inl (cI, 4, .inl rk3)), (r3 6, .inl (cJ, 40, .inr (.inl f_25))), (r3 7, .inl (cI, 40, .inl f_26)), (r3 8, .inl (cI, 40, .inl f_28)), (r3 9, .inl (cI, 40, .inl f_30))]]) H := hP
      have hD : va_D A (List.flatten [w_38, [(tk0, .inr (7, [.ref tx1, .int ln_5, .int ap_8, .ref (ad kd_11), .int sa_12, .long wd_13, .int nu_14]))], [(tx1, .inl (cB, 1600, .inl f2))], [(rp0, .inr (5, [.int fc3, .ref (r3 0), .ref (r3 1), .ref (r3 2), .ref (r3 3), .int dc3, .ref (r3 4), .ref (r3 5), .ref (r3 6), .ref (r3 7), .ref (r3 8), .ref (r3 9)])), (r3 0, .inl (cJ, 6, .inr (.inl f_17))), (r3 1, .inl (cI, 6, .inl f_18)), (r3 2, .inl (cI, 6, .inl f_19)), (r3 3, .inl (cI, 6, .inl f_20)), (r3 4, .inl (cJ, 4, .inr (.inl f_23))), (r3 5, .inl (cI, 4, .inl rk3)), (r3 6, .inl (cJ, 40, .inr (.inl f_25))), (r3 7, .inl (cI, 40, .inl f_26)), (r3 8, .inl (cI, 40, .inl f_28)), (r3 9, .inl (cI, 40, .inl f_30))]]) := hD
      obtain rfl : r_37 = (0 : Int32) := hw
      refine lv_pop hx hb dX4_floorBelow_40 rfl ?_
      refine lv_bipush (v := (-2)) hx hb dX4_floorBelow_41 (by decide) ?_
      rw [hQ0]
      exact W.iret (v := (-2)) hx hb hr (fun t ht hW => ⟨⟨(-2), (), rfl, ⟨by decide, by decide⟩, ⟨_, o_39, by rw [ht]; exact hP, hD⟩⟩, hS.F ht⟩) hS.2.2 dX4_floorBelow_43
  · have c_4 : r_3.toInt = 0 := f_eq rfl tI_0 c_4
    refine lv_aload_n hx hb dX4_floorBelow_7 rfl (lv_at hl 0 rfl) ?_
    refine lv_iconst (v := 2) hx hb dX4_floorBelow_8 (by decide) ?_
    have hpm : List.Perm ([[(h0, .inr (3, [.ref tk0, .ref rp0, .int fk_1, .int fp_2]))], w1, [(tx1, .inl (cB, 1600, .inl f2))], w3] : List va_W) (([[(h0, .inr (3, [.ref tk0, .ref rp0, .int fk_1, .int fp_2]))], w1, [(tx1, .inl (cB, 1600, .inl f2))], w3] : List va_W) ++ ([] : List va_W)) := pm_n 4 [0, 1, 2, 3] (by decide) rfl rfl
    have hPc := bk_P hpm hP
    have hDc := bk_D hpm hD
    have hFc := bk_F hpm hD hS hA
    refine va_calli (va_runV (As := [.int 2]) (rest := []) ⟨hx, hb, hml, hown, hts⟩ (c_X4_refuse l dC dI ad tN fN cB cI cJ cZ h0 2 r0 tk0 rp0 _ r1 tx1 _ _ r3 fc3 dc3 rk3 _ ⟨fk_1, fp_2, rfl⟩ o1 o3 H.size) (cwV 1 hts gX4_floorBelow_X4_refuse rfl rfl rfl (by decide +kernel) ⟨(Nat.le_of_ble_eq_true rfl), (Nat.le_of_ble_eq_true rfl)⟩) ⟨fun a U g mk q => by obtain ⟨q0, q1, qP, qK, qD, qE⟩ := q; exact ⟨q0, q1, qP, va_K.moved (u := U) (U := U.calling g mk a) (Vm.Alike.refl U.vm) qK, qD, ey_blind qE⟩, va_recv hK hPc (ci := 3) (q0 := 0) rfl rfl, fun U hU hW => ⟨rfl, by rw [hU], by rw [hU]; exact hPc, va_K.moved hW.alike hK, hDc.weaken (fun _ _ _ _ => trivial), ey_call hE hS hFc hU hW⟩⟩ rfl rfl hl.1 rfl (lv_room (Nat.le_of_ble_eq_true rfl)) dX4_floorBelow_9 ⟨(Nat.le_of_ble_eq_true rfl), (Nat.le_of_ble_eq_true rfl)⟩) hS (fun q _ h => hFc q h) hFc (fun r_40 u t H locs ht hvm hw hB hz1 hk1 hS => ?_)
    obtain ⟨w_41, o_42, hP1, hD1⟩ := hB
    rw [ht] at hP1
    obtain ⟨hP, hD⟩ := bk_join hpm hP hD hk1 hFc (Cs1 := [w_41, w1, [(tx1, .inl (cB, 1600, .inl f2))], w3]) hP1 hD1
    have hpm2 : List.Perm (([w_41, w1, [(tx1, .inl (cB, 1600, .inl f2))], w3] : List va_W) ++ ([] : List va_W)) ([w_41, w1, [(tx1, .inl (cB, 1600, .inl f2))], w3] : List va_W) := pm_n 4 [0, 1, 2, 3] (by decide) rfl rfl
    have hP := bk_reP hpm2 hP
    have hD := bk_reD hpm2 hD
    have hP : va_P (dC, dI) vwCl (List.flatten [w_41, w1, [(tx1, .inl (cB, 1600, .inl f2))], w3]) H := hP
    have hD : va_D A (List.flatten [w_41, w1, [(tx1, .inl (cB, 1600, .inl f2))], w3]) := hD
    obtain rfl : r_40 = (0 : Int32) := hw
    refine lv_pop hx hb dX4_floorBelow_12 rfl ?_
    refine lv_bipush (v := (-2)) hx hb dX4_floorBelow_13 (by decide) ?_
    rw [hQ0]
    exact W.iret (v := (-2)) hx hb hr (fun t ht hW => ⟨⟨(-2), (), rfl, ⟨by decide, by decide⟩, ⟨_, o_42, by rw [ht]; exact hP, hD⟩⟩, hS.F ht⟩) hS.2.2 dX4_floorBelow_15
theorem iw_X4_takeHeld_X4 : ∀ w ∈ wsX40, w ∈ wsX4_takeHeld := fun _ h => List.mem_cons_of_mem _ (List.mem_append_left _ (List.mem_append_left _ (List.mem_append_right _ h)))
set_option maxHeartbeats 4000000 in
set_option maxRecDepth 100000 in
theorem c_X4_takeHeld (l : Launch) (dC : Nat → ClassId) (dI : Nat → Nat → Nat) (ad : Nat → Nat) (tN : Nat) (fN : Nat → Int64) (cB cI cJ cZ : ClassId) (h0 : Nat) (p1 : Int32) (r0 : Nat → Nat) (tk0 : Nat) (rp0 : Nat) (w0 : va_W) (r1 : Nat → Nat) (tx1 : Nat) (w1 : va_W) (f2 : Nat → Int32) (r3 : Nat → Nat) (fc3 : Int32) (dc3 : Int32) (rk3 : Nat → Int32) (w3 : va_W) (o0 : ok_read ad cB cI cJ cZ h0 r0 tk0 rp0 w0) (o1 : ok_tok ad cB cI cJ cZ tk0 r1 tx1 w1) (o3 : ok_plan ad cB cI cJ cZ rp0 r3 fc3 dc3 rk3 w3) (sz : Nat) : Met l yX4_takeHeld wsX4_takeHeld ({ frames := 3, cells := 0, slots := 0, locals := 69 } : Room) (va_Pc [.ref h0, .int p1] (fun U => U.heap.size = sz ∧ va_P (dC, dI) vwCl (List.flatten [w0, w1, [(tx1, .inl (cB, 1600, .inl f2))], w3]) U.heap ∧ va_K (dC, dI) vwCl [(cB, .byte), (cI, .int), (cJ, .long), (cZ, .boolean)] U ∧ va_D (fun _ => True) (List.flatten [w0, w1, [(tx1, .inl (cB, 1600, .inl f2))], w3]) ∧ ex_Y ad tN fN (va_A (List.flatten [w0, w1, [(tx1, .inl (cB, 1600, .inl f2))], w3]) sz) U)) (va_Qi (fun (r : Int32) (_ : Unit) => -2 ≤ r.toInt ∧ r.toInt ≤ 63) (fun (_ : Unit) (t : State) => ∃ (w09 : va_W) (w19 : va_W), ok_read ad cB cI cJ cZ h0 r0 tk0 rp0 w09 ∧ ok_tok ad cB cI cJ cZ tk0 r1 tx1 w19 ∧ va_P (dC, dI) vwCl (List.flatten [w09, w19, [(tx1, .inl (cB, 1600, .inl f2))], w3]) t.heap ∧ va_D (va_A (List.flatten [w0, w1, [(tx1, .inl (cB, 1600, .inl f2))], w3]) sz) (List.flatten [w09, w19, [(tx1, .inl (cB, 1600, .inl f2))], w3])) (va_A (List.flatten [w0, w1, [(tx1, .inl (cB, 1600, .inl f2))], w3]) sz)) 0 0 (va_A (List.flatten [w0, w1, [(tx1, .inl (cB, 1600, .inl f2))], w3]) sz) := by
  refine Met.ofW (cc := cX4_takeHeld) (maxL := 5) (ret := (some .int)) (by decide) rfl ?_
  intro p e s m args below meth c s₁ B hml hv
  obtain ⟨rfl, hsz, hP, hK, hD0, hE⟩ := hv
  have hx := B.exec
  have hb := B.bytes
  have hr := B.returns
  have hts := atoms_spec (ws := wsX4_takeHeld) B.pre
  have hown : s.vm.findClass RX4 = some m.cls := findClass_of_methodNamed B.named
  have hlocks := B.notSynchronized
  subst hsz
  have hD := hD0.self (sz := s.heap.size)
  generalize hAe : va_A (List.flatten [w0, w1, [(tx1, .inl (cB, 1600, .inl f2))], w3]) s.heap.size = A at hD hE ⊢
  have hA : ∀ q : Nat, s.heap.size ≤ q → A q := fun q h => by rw [← hAe]; exact Or.inr h
  have hS : va_S A s.heap s.heap [] := va_S.rf
  have hl := lv_entry ([.ref h0, .int p1]) (n := 5) (Nat.le_of_ble_eq_true rfl)
  rw [lg_entry_eq]
  generalize (lg_sl ([.ref h0, .int p1]) ++ List.replicate (5 - (lg_sl ([.ref h0, .int p1])).length) Slot.unset).toArray = ls at hl ⊢
  have hl : lv_has ls 5 [(0, .ref h0), (1, .int p1)] := hl
  clear hAe
  refine W_name (fun Q0 hQ0 => ?_)
  refine lv_iconst (v := 0) hx hb dX4_takeHeld_0 (by decide) ?_
  refine lv_istore_n (lv' := [(2, .int 0), (0, .ref h0), (1, .int p1)]) hx hb dX4_takeHeld_1 rfl hl (by decide) rfl (fun ls hl => ?_)
  refine lv_iload_n hx hb dX4_takeHeld_2 rfl (lv_at hl 2 rfl) ?_
  refine lv_istore_n (lv' := [(3, .int p1), (2, .int 0), (0, .ref h0), (1, .int p1)]) hx hb dX4_takeHeld_3 rfl hl (by decide) rfl (fun ls hl => ?_)
  refine lv_iconst (v := 0) hx hb dX4_takeHeld_4 (by decide) ?_
  refine lv_istore (lv' := [(4, .int 0), (3, .int p1), (2, .int 0), (0, .ref h0), (1, .int p1)]) hx hb dX4_takeHeld_5 hl (by decide) rfl (fun ls hl => ?_)
  obtain ⟨fk_30, fp_31, rfl⟩ := o0
  obtain ⟨ln_32, ap_35, kd_38, sa_39, wd_40, nu_41, rfl, hl_33, hh_34, hl_36, hh_37⟩ := o1
  have lp_452 : ∀ (n : Nat) (g_1 : Int32) (g_2 : Int32) (g_3 : Int32) (gw_56 : va_W) (gw_57 : va_W), ok_read ad cB cI cJ cZ h0 r0 tk0 rp0 gw_56 → ok_tok ad cB cI cJ cZ tk0 r1 tx1 gw_57 → 0 ≤ g_1.toInt → g_1.toInt ≤ 7 → 0 ≤ g_3.toInt → g_3.toInt ≤ 63 → (7 - g_1.toInt).toNat < n → ∀ (H : Heap) (locs : List Loc), va_P (dC, dI) vwCl (List.flatten [gw_56, gw_57, [(tx1, .inl (cB, 1600, .inl f2))], w3]) H → va_D A (List.flatten [gw_56, gw_57, [(tx1, .inl (cB, 1600, .inl f2))], w3]) → va_S A s.heap H locs → ∀ (ls : Array Slot), lv_has ls 5 [(4, .int g_1), (3, .int g_2), (2, .int g_3), (0, .ref h0), (1, .int p1)] → W p l e (headSpec wsX4_takeHeld ({ frames := 3, cells := 0, slots := 0, locals := 69 } : Room)).room s m ([.ref h0, .int p1] : List Value).toArray below meth c H locs 0 0 Q0 (F0 m 7 ls []) := by
    intro n
    induction n with
    | zero => intro g_1 g_2 g_3 gw_56 gw_57 okgw_56 okgw_57 iv_448 iv_449 iv_450 iv_451 hm; exact absurd hm (Nat.not_lt_zero _)
    | succ n ih_453 =>
      intro g_1 g_2 g_3 gw_56 gw_57 okgw_56 okgw_57 iv_448 iv_449 iv_450 iv_451 hm H locs hP hD hS ls hl
      refine lv_iload hx hb dX4_takeHeld_7 (lv_at hl 0 rfl) ?_
      refine lv_bipush (v := 6) hx hb dX4_takeHeld_9 (by decide) ?_
      refine lv_icmp_gt (tgt := 65) hx hb dX4_takeHeld_11 (by decide) (fun c_454 => ?_) (fun c_454 => ?_)
      · have c_454 : 6 < g_1.toInt := f_lt tI_6 rfl c_454
        refine lv_bipush (v := (-2)) hx hb dX4_takeHeld_65 (by decide) ?_
        rw [hQ0]
        exact W.iret (v := (-2)) hx hb hr (fun t ht hW => ⟨⟨(-2), (), rfl, ⟨by decide, by decide⟩, ⟨_, _, okgw_56, okgw_57, by rw [ht]; exact hP, hD⟩⟩, hS.F ht⟩) hS.2.2 dX4_takeHeld_67
      · have c_454 : g_1.toInt ≤ 6 := f_nlt tI_6 rfl c_454
        refine lv_iload_n hx hb dX4_takeHeld_14 rfl (lv_at hl 2 rfl) ?_
        refine lv_if_eq (tgt := 33) hx hb dX4_takeHeld_15 (by decide) (fun c_455 => ?_) (fun c_455 => ?_)
        · have c_455 : g_3.toInt = 0 := f_eq rfl tI_0 c_455
          refine lv_aload_n hx hb dX4_takeHeld_33 rfl (lv_at hl 3 rfl) ?_
          refine lv_iload_n hx hb dX4_takeHeld_34 rfl (lv_at hl 1 rfl) ?_
          obtain ⟨fk_456, fp_457, rfl⟩ := okgw_56
          have hpm : List.Perm ([[(h0, .inr (3, [.ref tk0, .ref rp0, .int fk_456, .int fp_457]))], gw_57, [(tx1, .inl (cB, 1600, .inl f2))], w3] : List va_W) (([[(h0, .inr (3, [.ref tk0, .ref rp0, .int fk_456, .int fp_457]))], gw_57, [(tx1, .inl (cB, 1600, .inl f2))], w3] : List va_W) ++ ([] : List va_W)) := pm_n 4 [0, 1, 2, 3] (by decide) rfl rfl
          have hPc := bk_P hpm hP
          have hDc := bk_D hpm hD
          have hFc := bk_F hpm hD hS hA
          refine va_calli (va_runV (As := [.int g_2]) (rest := []) ⟨hx, hb, hml, hown, hts⟩ (c_X4_floorBelow l dC dI ad tN fN cB cI cJ cZ h0 g_2 r0 tk0 rp0 _ r1 tx1 _ _ r3 fc3 dc3 rk3 _ ⟨fk_456, fp_457, rfl⟩ okgw_57 o3 H.size) (cwV 1 hts gX4_takeHeld_X4_floorBelow rfl rfl rfl (by decide +kernel) ⟨(Nat.le_of_ble_eq_true rfl), (Nat.le_of_ble_eq_true rfl)⟩) ⟨fun a U g mk q => by obtain ⟨q0, q1, qP, qK, qD, qE⟩ := q; exact ⟨q0, q1, qP, va_K.moved (u := U) (U := U.calling g mk a) (Vm.Alike.refl U.vm) qK, qD, ey_blind qE⟩, va_recv hK hPc (ci := 3) (q0 := 0) rfl rfl, fun U hU hW => ⟨rfl, by rw [hU], by rw [hU]; exact hPc, va_K.moved hW.alike hK, hDc.weaken (fun _ _ _ _ => trivial), ey_call hE hS hFc hU hW⟩⟩ rfl rfl hl.1 rfl (lv_room (Nat.le_of_ble_eq_true rfl)) dX4_takeHeld_35 ⟨(Nat.le_of_ble_eq_true rfl), (Nat.le_of_ble_eq_true rfl)⟩) hS (fun q _ h => hFc q h) hFc (fun r_458 u t H locs ht hvm hw hB hz1 hk1 hS => ?_)
          obtain ⟨w_459, o_460, hP1, hD1⟩ := hB
          rw [ht] at hP1
          obtain ⟨hP, hD⟩ := bk_join hpm hP hD hk1 hFc (Cs1 := [w_459, gw_57, [(tx1, .inl (cB, 1600, .inl f2))], w3]) hP1 hD1
          have hpm2 : List.Perm (([w_459, gw_57, [(tx1, .inl (cB, 1600, .inl f2))], w3] : List va_W) ++ ([] : List va_W)) ([w_459, gw_57, [(tx1, .inl (cB, 1600, .inl f2))], w3] : List va_W) := pm_n 4 [0, 1, 2, 3] (by decide) rfl rfl
          have hP := bk_reP hpm2 hP
          have hD := bk_reD hpm2 hD
          have hP : va_P (dC, dI) vwCl (List.flatten [w_459, gw_57, [(tx1, .inl (cB, 1600, .inl f2))], w3]) H := hP
          have hD : va_D A (List.flatten [w_459, gw_57, [(tx1, .inl (cB, 1600, .inl f2))], w3]) := hD
          obtain ⟨hlr_458, hhr_458⟩ := hw
          refine lv_istore_n (lv' := [(3, .int r_458), (4, .int g_1), (2, .int g_3), (0, .ref h0), (1, .int p1)]) hx hb dX4_takeHeld_38 rfl hl (by decide) rfl (fun ls hl => ?_)
          refine lv_iload_n hx hb dX4_takeHeld_39 rfl (lv_at hl 0 rfl) ?_
          refine lv_if_ge (tgt := 46) hx hb dX4_takeHeld_40 (by decide) (fun c_461 => ?_) (fun c_461 => ?_)
          · have c_461 : 0 ≤ r_458.toInt := f_le tI_0 rfl c_461
            refine lv_iload_n hx hb dX4_takeHeld_46 rfl (lv_at hl 2 rfl) ?_
            refine lv_iconst (v := 1) hx hb dX4_takeHeld_47 (by decide) ?_
            refine lv_iload_n hx hb dX4_takeHeld_48 rfl (lv_at hl 0 rfl) ?_
            refine lv_ishl hx hb dX4_takeHeld_49 ?_
            refine lv_topi (fun z_462 ez_462 => ?_)
            have hz_462 := t_shl5 (by omega) (by omega) ez_462
            have h1z_462 := hz_462.1
            have h2z_462 := hz_462.2
            refine lv_ior hx hb dX4_takeHeld_50 ?_
            refine lv_topi (fun z_463 ez_463 => ?_)
            have hz_463 := t_or63 (by omega) (by omega) (by omega) (by omega) ez_463
            have h1z_463 := hz_463.1
            have h2z_463 := hz_463.2
            refine lv_istore_n (lv' := [(2, .int z_463), (3, .int r_458), (4, .int g_1), (0, .ref h0), (1, .int p1)]) hx hb dX4_takeHeld_51 rfl hl (by decide) rfl (fun ls hl => ?_)
            refine lv_aload_n hx hb dX4_takeHeld_52 rfl (lv_at hl 3 rfl) ?_
            obtain ⟨fk_464, fp_465, rfl⟩ := o_460
            refine va_get (D := (dC, dI)) (ci := 3) (v := .ref tk0) (C := RX4) (T := TX4) (N := 4) hx hb hts iw_X4_takeHeld_X4 hown hK hP 0 rfl rfl 0 (by decide) (hts (.fieldLink RX4 12 "HungFloors$HouseReader" "tokens" "LHungFloors$Tokens;") (by decide +kernel)) (fun _ h9 => h9) rfl dX4_takeHeld_53 ?_
            obtain ⟨ln_466, ap_469, kd_472, sa_473, wd_474, nu_475, rfl, hl_467, hh_468, hl_470, hh_471⟩ := okgw_57
            have hpm : List.Perm ([[(h0, .inr (3, [.ref tk0, .ref rp0, .int fk_464, .int fp_465]))], [(tk0, .inr (7, [.ref tx1, .int ln_466, .int ap_469, .ref (ad kd_472), .int sa_473, .long wd_474, .int nu_475]))], [(tx1, .inl (cB, 1600, .inl f2))], w3] : List va_W) (([[(tk0, .inr (7, [.ref tx1, .int ln_466, .int ap_469, .ref (ad kd_472), .int sa_473, .long wd_474, .int nu_475]))], [(tx1, .inl (cB, 1600, .inl f2))]] : List va_W) ++ ([[(h0, .inr (3, [.ref tk0, .ref rp0, .int fk_464, .int fp_465]))], w3] : List va_W)) := pm_n 4 [1, 2, 0, 3] (by decide) rfl rfl
            have hPc := bk_P hpm hP
            have hDc := bk_D hpm hD
            have hFc := bk_F hpm hD hS hA
            refine va_callv (va_runV (As := []) (rest := []) ⟨hx, hb, hml, hown, hts⟩ (c_X9_advance l dC dI ad tN fN cB cI cJ cZ tk0 r1 tx1 _ _ ⟨ln_466, ap_469, kd_472, sa_473, wd_474, nu_475, rfl, by omega, by omega, by omega, by omega⟩ H.size) (cwV 0 hts gX4_takeHeld_X9_advance rfl rfl rfl (by decide +kernel) ⟨(Nat.le_of_ble_eq_true rfl), (Nat.le_of_ble_eq_true rfl)⟩) ⟨fun a U g mk q => by obtain ⟨q0, q1, qP, qK, qD, qE⟩ := q; exact ⟨q0, q1, qP, va_K.moved (u := U) (U := U.calling g mk a) (Vm.Alike.refl U.vm) qK, qD, ey_blind qE⟩, va_recv hK hPc (ci := 7) (q0 := 0) rfl rfl, fun U hU hW => ⟨rfl, by rw [hU], by rw [hU]; exact hPc, va_K.moved hW.alike hK, hDc.weaken (fun _ _ _ _ => trivial), ey_call hE hS hFc hU hW⟩⟩ rfl rfl hl.1 rfl (lv_room (Nat.le_of_ble_eq_true rfl)) dX4_takeHeld_56 ⟨(Nat.le_of_ble_eq_true rfl), (Nat.le_of_ble_eq_true rfl)⟩) hS (fun q _ h => hFc q h) hFc (fun u t H locs ht hvm hw hB hz1 hk1 hS => ?_)
            obtain ⟨w_477, o_478, hP1, hD1⟩ := hB
            rw [ht] at hP1
            obtain ⟨hP, hD⟩ := bk_join hpm hP hD hk1 hFc (Cs1 := [w_477, [(tx1, .inl (cB, 1600, .inl f2))]]) hP1 hD1
            have hpm2 : List.Perm (([w_477, [(tx1, .inl (cB, 1600, .inl f2))]] : List va_W) ++ ([[(h0, .inr (3, [.ref tk0, .ref rp0, .int fk_464, .int fp_465]))], w3] : List va_W)) ([[(h0, .inr (3, [.ref tk0, .ref rp0, .int fk_464, .int fp_465]))], w_477, [(tx1, .inl (cB, 1600, .inl f2))], w3] : List va_W) := pm_n 4 [2, 0, 1, 3] (by decide) rfl rfl
            have hP := bk_reP hpm2 hP
            have hD := bk_reD hpm2 hD
            have hP : va_P (dC, dI) vwCl (List.flatten [[(h0, .inr (3, [.ref tk0, .ref rp0, .int fk_464, .int fp_465]))], w_477, [(tx1, .inl (cB, 1600, .inl f2))], w3]) H := hP
            have hD : va_D A (List.flatten [[(h0, .inr (3, [.ref tk0, .ref rp0, .int fk_464, .int fp_465]))], w_477, [(tx1, .inl (cB, 1600, .inl f2))], w3]) := hD
            obtain ⟨z_479, ez_479⟩ : ∃ y : Int32, y = g_1 + 1 := ⟨_, rfl⟩
            have hz_479 : z_479.toInt = g_1.toInt + 1 := by rw [ez_479]; exact t_add rfl tI_1 (by omega) (by omega)
            refine lv_iinc (v := z_479) (lv' := [(4, .int z_479), (2, .int z_463), (3, .int r_458), (0, .ref h0), (1, .int p1)]) hx hb dX4_takeHeld_59 hl (k := 2) rfl (by rw [ez_479]; rfl) (by decide) rfl (fun ls hl => ?_)
            refine lv_goto (tgt := 7) hx hb dX4_takeHeld_62 (by decide) ?_
            exact ih_453 z_479 r_458 z_463 _ _ ⟨fk_464, fp_465, rfl⟩ o_478 (by omega) (by omega) (by omega) (by omega) (by omega) _ _ hP hD hS ls (lv_sub hl [0, 2, 1, 3, 4] rfl)
          · have c_461 : r_458.toInt < 0 := f_nle tI_0 rfl c_461
            refine lv_bipush (v := (-2)) hx hb dX4_takeHeld_43 (by decide) ?_
            rw [hQ0]
            exact W.iret (v := (-2)) hx hb hr (fun t ht hW => ⟨⟨(-2), (), rfl, ⟨by decide, by decide⟩, ⟨_, _, o_460, okgw_57, by rw [ht]; exact hP, hD⟩⟩, hS.F ht⟩) hS.2.2 dX4_takeHeld_45
        · have c_455 : ¬ g_3.toInt = 0 := f_ne rfl tI_0 c_455
          refine lv_aload_n hx hb dX4_takeHeld_18 rfl (lv_at hl 3 rfl) ?_
          obtain ⟨fk_480, fp_481, rfl⟩ := okgw_56
          refine va_get (D := (dC, dI)) (ci := 3) (v := .ref tk0) (C := RX4) (T := TX4) (N := 4) hx hb hts iw_X4_takeHeld_X4 hown hK hP 0 rfl rfl 0 (by decide) (hts (.fieldLink RX4 12 "HungFloors$HouseReader" "tokens" "LHungFloors$Tokens;") (by decide +kernel)) (fun _ h9 => h9) rfl dX4_takeHeld_19 ?_
          refine lv_ldc2 hx hb hown (hts (.constantLong RX4 107 (6513006)) (by decide +kernel)) dX4_takeHeld_22 ?_
          obtain ⟨ln_482, ap_485, kd_488, sa_489, wd_490, nu_491, rfl, hl_483, hh_484, hl_486, hh_487⟩ := okgw_57
          have hpm : List.Perm ([[(h0, .inr (3, [.ref tk0, .ref rp0, .int fk_480, .int fp_481]))], [(tk0, .inr (7, [.ref tx1, .int ln_482, .int ap_485, .ref (ad kd_488), .int sa_489, .long wd_490, .int nu_491]))], [(tx1, .inl (cB, 1600, .inl f2))], w3] : List va_W) (([[(tk0, .inr (7, [.ref tx1, .int ln_482, .int ap_485, .ref (ad kd_488), .int sa_489, .long wd_490, .int nu_491]))]] : List va_W) ++ ([[(h0, .inr (3, [.ref tk0, .ref rp0, .int fk_480, .int fp_481]))], [(tx1, .inl (cB, 1600, .inl f2))], w3] : List va_W)) := pm_n 4 [1, 0, 2, 3] (by decide) rfl rfl
          have hPc := bk_P hpm hP
          have hDc := bk_D hpm hD
          have hFc := bk_F hpm hD hS hA
          refine va_calli (va_runV (As := [.long 6513006]) (rest := []) ⟨hx, hb, hml, hown, hts⟩ (c_X9_isWord l dC dI ad tN fN cB cI cJ cZ tk0 6513006 r1 tx1 _ ⟨ln_482, ap_485, kd_488, sa_489, wd_490, nu_491, rfl, by omega, by omega, by omega, by omega⟩ H.size) (cwV 1 hts gX4_takeHeld_X9_isWord rfl rfl rfl (by decide +kernel) ⟨(Nat.le_of_ble_eq_true rfl), (Nat.le_of_ble_eq_true rfl)⟩) ⟨fun a U g mk q => by obtain ⟨q0, q1, qP, qK, qD, qE⟩ := q; exact ⟨q0, q1, qP, va_K.moved (u := U) (U := U.calling g mk a) (Vm.Alike.refl U.vm) qK, qD, ey_blind qE⟩, va_recv hK hPc (ci := 7) (q0 := 0) rfl rfl, fun U hU hW => ⟨rfl, by rw [hU], by rw [hU]; exact hPc, va_K.moved hW.alike hK, hDc.weaken (fun _ _ _ _ => trivial), ey_call hE hS hFc hU hW⟩⟩ rfl rfl hl.1 rfl (lv_room (Nat.le_of_ble_eq_true rfl)) dX4_takeHeld_25 ⟨(Nat.le_of_ble_eq_true rfl), (Nat.le_of_ble_eq_true rfl)⟩) hS (fun q _ h => hFc q h) hFc (fun r_492 u t H locs ht hvm hw hB hz1 hk1 hS => ?_)
          obtain ⟨hP1, hD1⟩ := hB
          rw [ht] at hP1
          obtain ⟨hP, hD⟩ := bk_join hpm hP hD hk1 hFc (Cs1 := [[(tk0, .inr (7, [.ref tx1, .int ln_482, .int ap_485, .ref (ad kd_488), .int sa_489, .long wd_490, .int nu_491]))]]) hP1 hD1
          have hpm2 : List.Perm (([[(tk0, .inr (7, [.ref tx1, .int ln_482, .int ap_485, .ref (ad kd_488), .int sa_489, .long wd_490, .int nu_491]))]] : List va_W) ++ ([[(h0, .inr (3, [.ref tk0, .ref rp0, .int fk_480, .int fp_481]))], [(tx1, .inl (cB, 1600, .inl f2))], w3] : List va_W)) ([[(h0, .inr (3, [.ref tk0, .ref rp0, .int fk_480, .int fp_481]))], [(tk0, .inr (7, [.ref tx1, .int ln_482, .int ap_485, .ref (ad kd_488), .int sa_489, .long wd_490, .int nu_491]))], [(tx1, .inl (cB, 1600, .inl f2))], w3] : List va_W) := pm_n 4 [1, 0, 2, 3] (by decide) rfl rfl
          have hP := bk_reP hpm2 hP
          have hD := bk_reD hpm2 hD
          have hP : va_P (dC, dI) vwCl (List.flatten [[(h0, .inr (3, [.ref tk0, .ref rp0, .int fk_480, .int fp_481]))], [(tk0, .inr (7, [.ref tx1, .int ln_482, .int ap_485, .ref (ad kd_488), .int sa_489, .long wd_490, .int nu_491]))], [(tx1, .inl (cB, 1600, .inl f2))], w3]) H := hP
          have hD : va_D A (List.flatten [[(h0, .inr (3, [.ref tk0, .ref rp0, .int fk_480, .int fp_481]))], [(tk0, .inr (7, [.ref tx1, .int ln_482, .int ap_485, .ref (ad kd_488), .int sa_489, .long wd_490, .int nu_491]))], [(tx1, .inl (cB, 1600, .inl f2))], w3]) := hD
          obtain ⟨hlr_492, hhr_492⟩ := hw
          refine lv_if_eq (tgt := 33) hx hb dX4_takeHeld_28 (by decide) (fun c_493 => ?_) (fun c_493 => ?_)
          · have c_493 : r_492.toInt = 0 := f_eq rfl tI_0 c_493
            refine lv_aload_n hx hb dX4_takeHeld_33 rfl (lv_at hl 3 rfl) ?_
            refine lv_iload_n hx hb dX4_takeHeld_34 rfl (lv_at hl 1 rfl) ?_
            have hpm : List.Perm ([[(h0, .inr (3, [.ref tk0, .ref rp0, .int fk_480, .int fp_481]))], [(tk0, .inr (7, [.ref tx1, .int ln_482, .int ap_485, .ref (ad kd_488), .int sa_489, .long wd_490, .int nu_491]))], [(tx1, .inl (cB, 1600, .inl f2))], w3] : List va_W) (([[(h0, .inr (3, [.ref tk0, .ref rp0, .int fk_480, .int fp_481]))], [(tk0, .inr (7, [.ref tx1, .int ln_482, .int ap_485, .ref (ad kd_488), .int sa_489, .long wd_490, .int nu_491]))], [(tx1, .inl (cB, 1600, .inl f2))], w3] : List va_W) ++ ([] : List va_W)) := pm_n 4 [0, 1, 2, 3] (by decide) rfl rfl
            have hPc := bk_P hpm hP
            have hDc := bk_D hpm hD
            have hFc := bk_F hpm hD hS hA
            refine va_calli (va_runV (As := [.int g_2]) (rest := []) ⟨hx, hb, hml, hown, hts⟩ (c_X4_floorBelow l dC dI ad tN fN cB cI cJ cZ h0 g_2 r0 tk0 rp0 _ r1 tx1 _ _ r3 fc3 dc3 rk3 _ ⟨fk_480, fp_481, rfl⟩ ⟨ln_482, ap_485, kd_488, sa_489, wd_490, nu_491, rfl, by omega, by omega, by omega, by omega⟩ o3 H.size) (cwV 1 hts gX4_takeHeld_X4_floorBelow rfl rfl rfl (by decide +kernel) ⟨(Nat.le_of_ble_eq_true rfl), (Nat.le_of_ble_eq_true rfl)⟩) ⟨fun a U g mk q => by obtain ⟨q0, q1, qP, qK, qD, qE⟩ := q; exact ⟨q0, q1, qP, va_K.moved (u := U) (U := U.calling g mk a) (Vm.Alike.refl U.vm) qK, qD, ey_blind qE⟩, va_recv hK hPc (ci := 3) (q0 := 0) rfl rfl, fun U hU hW => ⟨rfl, by rw [hU], by rw [hU]; exact hPc, va_K.moved hW.alike hK, hDc.weaken (fun _ _ _ _ => trivial), ey_call hE hS hFc hU hW⟩⟩ rfl rfl hl.1 rfl (lv_room (Nat.le_of_ble_eq_true rfl)) dX4_takeHeld_35 ⟨(Nat.le_of_ble_eq_true rfl), (Nat.le_of_ble_eq_true rfl)⟩) hS (fun q _ h => hFc q h) hFc (fun r_494 u t H locs ht hvm hw hB hz1 hk1 hS => ?_)
            obtain ⟨w_495, o_496, hP1, hD1⟩ := hB
            rw [ht] at hP1
            obtain ⟨hP, hD⟩ := bk_join hpm hP hD hk1 hFc (Cs1 := [w_495, [(tk0, .inr (7, [.ref tx1, .int ln_482, .int ap_485, .ref (ad kd_488), .int sa_489, .long wd_490, .int nu_491]))], [(tx1, .inl (cB, 1600, .inl f2))], w3]) hP1 hD1
            have hpm2 : List.Perm (([w_495, [(tk0, .inr (7, [.ref tx1, .int ln_482, .int ap_485, .ref (ad kd_488), .int sa_489, .long wd_490, .int nu_491]))], [(tx1, .inl (cB, 1600, .inl f2))], w3] : List va_W) ++ ([] : List va_W)) ([w_495, [(tk0, .inr (7, [.ref tx1, .int ln_482, .int ap_485, .ref (ad kd_488), .int sa_489, .long wd_490, .int nu_491]))], [(tx1, .inl (cB, 1600, .inl f2))], w3] : List va_W) := pm_n 4 [0, 1, 2, 3] (by decide) rfl rfl
            have hP := bk_reP hpm2 hP
            have hD := bk_reD hpm2 hD
            have hP : va_P (dC, dI) vwCl (List.flatten [w_495, [(tk0, .inr (7, [.ref tx1, .int ln_482, .int ap_485, .ref (ad kd_488), .int sa_489, .long wd_490, .int nu_491]))], [(tx1, .inl (cB, 1600, .inl f2))], w3]) H := hP
            have hD : va_D A (List.flatten [w_495, [(tk0, .inr (7, [.ref tx1, .int ln_482, .int ap_485, .ref (ad kd_488), .int sa_489, .long wd_490, .int nu_491]))], [(tx1, .inl (cB, 1600, .inl f2))], w3]) := hD
            obtain ⟨hlr_494, hhr_494⟩ := hw
            refine lv_istore_n (lv' := [(3, .int r_494), (4, .int g_1), (2, .int g_3), (0, .ref h0), (1, .int p1)]) hx hb dX4_takeHeld_38 rfl hl (by decide) rfl (fun ls hl => ?_)
            refine lv_iload_n hx hb dX4_takeHeld_39 rfl (lv_at hl 0 rfl) ?_
            refine lv_if_ge (tgt := 46) hx hb dX4_takeHeld_40 (by decide) (fun c_497 => ?_) (fun c_497 => ?_)
            · have c_497 : 0 ≤ r_494.toInt := f_le tI_0 rfl c_497
              refine lv_iload_n hx hb dX4_takeHeld_46 rfl (lv_at hl 2 rfl) ?_
              refine lv_iconst (v := 1) hx hb dX4_takeHeld_47 (by decide) ?_
              refine lv_iload_n hx hb dX4_takeHeld_48 rfl (lv_at hl 0 rfl) ?_
              refine lv_ishl hx hb dX4_takeHeld_49 ?_
              refine lv_topi (fun z_498 ez_498 => ?_)
              have hz_498 := t_shl5 (by omega) (by omega) ez_498
              have h1z_498 := hz_498.1
              have h2z_498 := hz_498.2
              refine lv_ior hx hb dX4_takeHeld_50 ?_
              refine lv_topi (fun z_499 ez_499 => ?_)
              have hz_499 := t_or63 (by omega) (by omega) (by omega) (by omega) ez_499
              have h1z_499 := hz_499.1
              have h2z_499 := hz_499.2
              refine lv_istore_n (lv' := [(2, .int z_499), (3, .int r_494), (4, .int g_1), (0, .ref h0), (1, .int p1)]) hx hb dX4_takeHeld_51 rfl hl (by decide) rfl (fun ls hl => ?_)
              refine lv_aload_n hx hb dX4_takeHeld_52 rfl (lv_at hl 3 rfl) ?_
              obtain ⟨fk_500, fp_501, rfl⟩ := o_496
              refine va_get (D := (dC, dI)) (ci := 3) (v := .ref tk0) (C := RX4) (T := TX4) (N := 4) hx hb hts iw_X4_takeHeld_X4 hown hK hP 0 rfl rfl 0 (by decide) (hts (.fieldLink RX4 12 "HungFloors$HouseReader" "tokens" "LHungFloors$Tokens;") (by decide +kernel)) (fun _ h9 => h9) rfl dX4_takeHeld_53 ?_
              have hpm : List.Perm ([[(h0, .inr (3, [.ref tk0, .ref rp0, .int fk_500, .int fp_501]))], [(tk0, .inr (7, [.ref tx1, .int ln_482, .int ap_485, .ref (ad kd_488), .int sa_489, .long wd_490, .int nu_491]))], [(tx1, .inl (cB, 1600, .inl f2))], w3] : List va_W) (([[(tk0, .inr (7, [.ref tx1, .int ln_482, .int ap_485, .ref (ad kd_488), .int sa_489, .long wd_490, .int nu_491]))], [(tx1, .inl (cB, 1600, .inl f2))]] : List va_W) ++ ([[(h0, .inr (3, [.ref tk0, .ref rp0, .int fk_500, .int fp_501]))], w3] : List va_W)) := pm_n 4 [1, 2, 0, 3] (by decide) rfl rfl
              have hPc := bk_P hpm hP
              have hDc := bk_D hpm hD
              have hFc := bk_F hpm hD hS hA
              refine va_callv (va_runV (As := []) (rest := []) ⟨hx, hb, hml, hown, hts⟩ (c_X9_advance l dC dI ad tN fN cB cI cJ cZ tk0 r1 tx1 _ _ ⟨ln_482, ap_485, kd_488, sa_489, wd_490, nu_491, rfl, by omega, by omega, by omega, by omega⟩ H.size) (cwV 0 hts gX4_takeHeld_X9_advance rfl rfl rfl (by decide +kernel) ⟨(Nat.le_of_ble_eq_true rfl), (Nat.le_of_ble_eq_true rfl)⟩) ⟨fun a U g mk q => by obtain ⟨q0, q1, qP, qK, qD, qE⟩ := q; exact ⟨q0, q1, qP, va_K.moved (u := U) (U := U.calling g mk a) (Vm.Alike.refl U.vm) qK, qD, ey_blind qE⟩, va_recv hK hPc (ci := 7) (q0 := 0) rfl rfl, fun U hU hW => ⟨rfl, by rw [hU], by rw [hU]; exact hPc, va_K.moved hW.alike hK, hDc.weaken (fun _ _ _ _ => trivial), ey_call hE hS hFc hU hW⟩⟩ rfl rfl hl.1 rfl (lv_room (Nat.le_of_ble_eq_true rfl)) dX4_takeHeld_56 ⟨(Nat.le_of_ble_eq_true rfl), (Nat.le_of_ble_eq_true rfl)⟩) hS (fun q _ h => hFc q h) hFc (fun u t H locs ht hvm hw hB hz1 hk1 hS => ?_)
              obtain ⟨w_503, o_504, hP1, hD1⟩ := hB
              rw [ht] at hP1
              obtain ⟨hP, hD⟩ := bk_join hpm hP hD hk1 hFc (Cs1 := [w_503, [(tx1, .inl (cB, 1600, .inl f2))]]) hP1 hD1
              have hpm2 : List.Perm (([w_503, [(tx1, .inl (cB, 1600, .inl f2))]] : List va_W) ++ ([[(h0, .inr (3, [.ref tk0, .ref rp0, .int fk_500, .int fp_501]))], w3] : List va_W)) ([[(h0, .inr (3, [.ref tk0, .ref rp0, .int fk_500, .int fp_501]))], w_503, [(tx1, .inl (cB, 1600, .inl f2))], w3] : List va_W) := pm_n 4 [2, 0, 1, 3] (by decide) rfl rfl
              have hP := bk_reP hpm2 hP
              have hD := bk_reD hpm2 hD
              have hP : va_P (dC, dI) vwCl (List.flatten [[(h0, .inr (3, [.ref tk0, .ref rp0, .int fk_500, .int fp_501]))], w_503, [(tx1, .inl (cB, 1600, .inl f2))], w3]) H := hP
              have hD : va_D A (List.flatten [[(h0, .inr (3, [.ref tk0, .ref rp0, .int fk_500, .int fp_501]))], w_503, [(tx1, .inl (cB, 1600, .inl f2))], w3]) := hD
              obtain ⟨z_505, ez_505⟩ : ∃ y : Int32, y = g_1 + 1 := ⟨_, rfl⟩
              have hz_505 : z_505.toInt = g_1.toInt + 1 := by rw [ez_505]; exact t_add rfl tI_1 (by omega) (by omega)
              refine lv_iinc (v := z_505) (lv' := [(4, .int z_505), (2, .int z_499), (3, .int r_494), (0, .ref h0), (1, .int p1)]) hx hb dX4_takeHeld_59 hl (k := 2) rfl (by rw [ez_505]; rfl) (by decide) rfl (fun ls hl => ?_)
              refine lv_goto (tgt := 7) hx hb dX4_takeHeld_62 (by decide) ?_
              exact ih_453 z_505 r_494 z_499 _ _ ⟨fk_500, fp_501, rfl⟩ o_504 (by omega) (by omega) (by omega) (by omega) (by omega) _ _ hP hD hS ls (lv_sub hl [0, 2, 1, 3, 4] rfl)
            · have c_497 : r_494.toInt < 0 := f_nle tI_0 rfl c_497
              refine lv_bipush (v := (-2)) hx hb dX4_takeHeld_43 (by decide) ?_
              rw [hQ0]
              exact W.iret (v := (-2)) hx hb hr (fun t ht hW => ⟨⟨(-2), (), rfl, ⟨by decide, by decide⟩, ⟨_, _, o_496, ⟨ln_482, ap_485, kd_488, sa_489, wd_490, nu_491, rfl, by omega, by omega, by omega, by omega⟩, by rw [ht]; exact hP, hD⟩⟩, hS.F ht⟩) hS.2.2 dX4_takeHeld_45
          · have c_493 : ¬ r_492.toInt = 0 := f_ne rfl tI_0 c_493
            refine lv_iload_n hx hb dX4_takeHeld_31 rfl (lv_at hl 2 rfl) ?_
            rw [hQ0]
            exact W.iret (v := g_3) hx hb hr (fun t ht hW => ⟨⟨g_3, (), rfl, ⟨by omega, by omega⟩, ⟨_, _, ⟨fk_480, fp_481, rfl⟩, ⟨ln_482, ap_485, kd_488, sa_489, wd_490, nu_491, rfl, by omega, by omega, by omega, by omega⟩, by rw [ht]; exact hP, hD⟩⟩, hS.F ht⟩) hS.2.2 dX4_takeHeld_32
  exact lp_452 _ 0 p1 0 _ _ ⟨fk_30, fp_31, rfl⟩ ⟨ln_32, ap_35, kd_38, sa_39, wd_40, nu_41, rfl, by omega, by omega, by omega, by omega⟩ (by have := tI_0; omega) (by have := tI_0; omega) (by have := tI_0; omega) (by have := tI_0; omega) (Nat.lt_succ_self _) _ _ hP hD hS ls (lv_sub hl [0, 1, 2, 3, 4] rfl)
theorem iw_X4_takeFrom_X4 : ∀ w ∈ wsX40, w ∈ wsX4_takeFrom := fun _ h => List.mem_cons_of_mem _ (List.mem_append_left _ (List.mem_append_left _ (List.mem_append_right _ h)))
set_option maxHeartbeats 4000000 in
set_option maxRecDepth 100000 in
theorem c_X4_takeFrom (l : Launch) (dC : Nat → ClassId) (dI : Nat → Nat → Nat) (ad : Nat → Nat) (tN : Nat) (fN : Nat → Int64) (cB cI cJ cZ : ClassId) (h0 : Nat) (r0 : Nat → Nat) (tk0 : Nat) (rp0 : Nat) (w0 : va_W) (r1 : Nat → Nat) (tx1 : Nat) (w1 : va_W) (f2 : Nat → Int32) (r3 : Nat → Nat) (fc3 : Int32) (dc3 : Int32) (rk3 : Nat → Int32) (w3 : va_W) (o0 : ok_read ad cB cI cJ cZ h0 r0 tk0 rp0 w0) (o1 : ok_tok ad cB cI cJ cZ tk0 r1 tx1 w1) (o3 : ok_plan ad cB cI cJ cZ rp0 r3 fc3 dc3 rk3 w3) (sz : Nat) : Met l yX4_takeFrom wsX4_takeFrom ({ frames := 3, cells := 0, slots := 0, locals := 69 } : Room) (va_Pc [.ref h0] (fun U => U.heap.size = sz ∧ va_P (dC, dI) vwCl (List.flatten [w0, w1, [(tx1, .inl (cB, 1600, .inl f2))], w3]) U.heap ∧ va_K (dC, dI) vwCl [(cB, .byte), (cI, .int), (cJ, .long), (cZ, .boolean)] U ∧ va_D (fun _ => True) (List.flatten [w0, w1, [(tx1, .inl (cB, 1600, .inl f2))], w3]) ∧ ex_Y ad tN fN (va_A (List.flatten [w0, w1, [(tx1, .inl (cB, 1600, .inl f2))], w3]) sz) U)) (va_Qi (fun (r : Int32) (_ : Unit) => -2 ≤ r.toInt ∧ r.toInt ≤ 5) (fun (_ : Unit) (t : State) => ∃ (w09 : va_W) (w19 : va_W), ok_read ad cB cI cJ cZ h0 r0 tk0 rp0 w09 ∧ ok_tok ad cB cI cJ cZ tk0 r1 tx1 w19 ∧ va_P (dC, dI) vwCl (List.flatten [w09, w19, [(tx1, .inl (cB, 1600, .inl f2))], w3]) t.heap ∧ va_D (va_A (List.flatten [w0, w1, [(tx1, .inl (cB, 1600, .inl f2))], w3]) sz) (List.flatten [w09, w19, [(tx1, .inl (cB, 1600, .inl f2))], w3])) (va_A (List.flatten [w0, w1, [(tx1, .inl (cB, 1600, .inl f2))], w3]) sz)) 0 0 (va_A (List.flatten [w0, w1, [(tx1, .inl (cB, 1600, .inl f2))], w3]) sz) := by
  refine Met.ofW (cc := cX4_takeFrom) (maxL := 2) (ret := (some .int)) (by decide) rfl ?_
  intro p e s m args below meth c s₁ B hml hv
  obtain ⟨rfl, hsz, hP, hK, hD0, hE⟩ := hv
  have hx := B.exec
  have hb := B.bytes
  have hr := B.returns
  have hts := atoms_spec (ws := wsX4_takeFrom) B.pre
  have hown : s.vm.findClass RX4 = some m.cls := findClass_of_methodNamed B.named
  have hlocks := B.notSynchronized
  subst hsz
  have hD := hD0.self (sz := s.heap.size)
  generalize hAe : va_A (List.flatten [w0, w1, [(tx1, .inl (cB, 1600, .inl f2))], w3]) s.heap.size = A at hD hE ⊢
  have hA : ∀ q : Nat, s.heap.size ≤ q → A q := fun q h => by rw [← hAe]; exact Or.inr h
  have hS : va_S A s.heap s.heap [] := va_S.rf
  have hl := lv_entry ([.ref h0]) (n := 2) (Nat.le_of_ble_eq_true rfl)
  rw [lg_entry_eq]
  generalize (lg_sl ([.ref h0]) ++ List.replicate (2 - (lg_sl ([.ref h0])).length) Slot.unset).toArray = ls at hl ⊢
  have hl : lv_has ls 2 [(0, .ref h0)] := hl
  clear hAe
  refine W_name (fun Q0 hQ0 => ?_)
  refine lv_iconst (v := (-1)) hx hb dX4_takeFrom_0 (by decide) ?_
  refine lv_istore_n (lv' := [(1, .int (-1)), (0, .ref h0)]) hx hb dX4_takeFrom_1 rfl hl (by decide) rfl (fun ls hl => ?_)
  refine lv_aload_n hx hb dX4_takeFrom_2 rfl (lv_at hl 1 rfl) ?_
  obtain ⟨fk_1, fp_2, rfl⟩ := o0
  refine va_get (D := (dC, dI)) (ci := 3) (v := .ref tk0) (C := RX4) (T := TX4) (N := 4) hx hb hts iw_X4_takeFrom_X4 hown hK hP 0 rfl rfl 0 (by decide) (hts (.fieldLink RX4 12 "HungFloors$HouseReader" "tokens" "LHungFloors$Tokens;") (by decide +kernel)) (fun _ h9 => h9) rfl dX4_takeFrom_3 ?_
  refine lv_ldc2 hx hb hown (hts (.constantLong RX4 147 (1919905638)) (by decide +kernel)) dX4_takeFrom_6 ?_
  obtain ⟨ln_3, ap_6, kd_9, sa_10, wd_11, nu_12, rfl, hl_4, hh_5, hl_7, hh_8⟩ := o1
  have hpm : List.Perm ([[(h0, .inr (3, [.ref tk0, .ref rp0, .int fk_1, .int fp_2]))], [(tk0, .inr (7, [.ref tx1, .int ln_3, .int ap_6, .ref (ad kd_9), .int sa_10, .long wd_11, .int nu_12]))], [(tx1, .inl (cB, 1600, .inl f2))], w3] : List va_W) (([[(tk0, .inr (7, [.ref tx1, .int ln_3, .int ap_6, .ref (ad kd_9), .int sa_10, .long wd_11, .int nu_12]))]] : List va_W) ++ ([[(h0, .inr (3, [.ref tk0, .ref rp0, .int fk_1, .int fp_2]))], [(tx1, .inl (cB, 1600, .inl f2))], w3] : List va_W)) := pm_n 4 [1, 0, 2, 3] (by decide) rfl rfl
  have hPc := bk_P hpm hP
  have hDc := bk_D hpm hD
  have hFc := bk_F hpm hD hS hA
  refine va_calli (va_runV (As := [.long 1919905638]) (rest := []) ⟨hx, hb, hml, hown, hts⟩ (c_X9_isWord l dC dI ad tN fN cB cI cJ cZ tk0 1919905638 r1 tx1 _ ⟨ln_3, ap_6, kd_9, sa_10, wd_11, nu_12, rfl, by omega, by omega, by omega, by omega⟩ s.heap.size) (cwV 1 hts gX4_takeFrom_X9_isWord rfl rfl rfl (by decide +kernel) ⟨(Nat.le_of_ble_eq_true rfl), (Nat.le_of_ble_eq_true rfl)⟩) ⟨fun a U g mk q => by obtain ⟨q0, q1, qP, qK, qD, qE⟩ := q; exact ⟨q0, q1, qP, va_K.moved (u := U) (U := U.calling g mk a) (Vm.Alike.refl U.vm) qK, qD, ey_blind qE⟩, va_recv hK hPc (ci := 7) (q0 := 0) rfl rfl, fun U hU hW => ⟨rfl, by rw [hU], by rw [hU]; exact hPc, va_K.moved hW.alike hK, hDc.weaken (fun _ _ _ _ => trivial), ey_call hE hS hFc hU hW⟩⟩ rfl rfl hl.1 rfl (lv_room (Nat.le_of_ble_eq_true rfl)) dX4_takeFrom_9 ⟨(Nat.le_of_ble_eq_true rfl), (Nat.le_of_ble_eq_true rfl)⟩) hS (fun q _ h => hFc q h) hFc (fun r_13 u t H locs ht hvm hw hB hz1 hk1 hS => ?_)
  obtain ⟨hP1, hD1⟩ := hB
  rw [ht] at hP1
  obtain ⟨hP, hD⟩ := bk_join hpm hP hD hk1 hFc (Cs1 := [[(tk0, .inr (7, [.ref tx1, .int ln_3, .int ap_6, .ref (ad kd_9), .int sa_10, .long wd_11, .int nu_12]))]]) hP1 hD1
  have hpm2 : List.Perm (([[(tk0, .inr (7, [.ref tx1, .int ln_3, .int ap_6, .ref (ad kd_9), .int sa_10, .long wd_11, .int nu_12]))]] : List va_W) ++ ([[(h0, .inr (3, [.ref tk0, .ref rp0, .int fk_1, .int fp_2]))], [(tx1, .inl (cB, 1600, .inl f2))], w3] : List va_W)) ([[(h0, .inr (3, [.ref tk0, .ref rp0, .int fk_1, .int fp_2]))], [(tk0, .inr (7, [.ref tx1, .int ln_3, .int ap_6, .ref (ad kd_9), .int sa_10, .long wd_11, .int nu_12]))], [(tx1, .inl (cB, 1600, .inl f2))], w3] : List va_W) := pm_n 4 [1, 0, 2, 3] (by decide) rfl rfl
  have hP := bk_reP hpm2 hP
  have hD := bk_reD hpm2 hD
  have hP : va_P (dC, dI) vwCl (List.flatten [[(h0, .inr (3, [.ref tk0, .ref rp0, .int fk_1, .int fp_2]))], [(tk0, .inr (7, [.ref tx1, .int ln_3, .int ap_6, .ref (ad kd_9), .int sa_10, .long wd_11, .int nu_12]))], [(tx1, .inl (cB, 1600, .inl f2))], w3]) H := hP
  have hD : va_D A (List.flatten [[(h0, .inr (3, [.ref tk0, .ref rp0, .int fk_1, .int fp_2]))], [(tk0, .inr (7, [.ref tx1, .int ln_3, .int ap_6, .ref (ad kd_9), .int sa_10, .long wd_11, .int nu_12]))], [(tx1, .inl (cB, 1600, .inl f2))], w3]) := hD
  obtain ⟨hlr_13, hhr_13⟩ := hw
  refine lv_if_ne (tgt := 21) hx hb dX4_takeFrom_12 (by decide) (fun c_14 => ?_) (fun c_14 => ?_)
  · have c_14 : ¬ r_13.toInt = 0 := f_ne rfl tI_0 c_14
    refine lv_iload_n hx hb dX4_takeFrom_21 rfl (lv_at hl 0 rfl) ?_
    refine lv_bipush (v := (-2)) hx hb dX4_takeFrom_22 (by decide) ?_
    refine lv_icmp_eq (tgt := 34) hx hb dX4_takeFrom_24 (by decide) (fun c_15 => absurd c_15 (by decide)) (fun c_15 => ?_)
    refine lv_aload_n hx hb dX4_takeFrom_27 rfl (lv_at hl 1 rfl) ?_
    refine va_get (D := (dC, dI)) (ci := 3) (v := .ref tk0) (C := RX4) (T := TX4) (N := 4) hx hb hts iw_X4_takeFrom_X4 hown hK hP 0 rfl rfl 0 (by decide) (hts (.fieldLink RX4 12 "HungFloors$HouseReader" "tokens" "LHungFloors$Tokens;") (by decide +kernel)) (fun _ h9 => h9) rfl dX4_takeFrom_28 ?_
    have hpm : List.Perm ([[(h0, .inr (3, [.ref tk0, .ref rp0, .int fk_1, .int fp_2]))], [(tk0, .inr (7, [.ref tx1, .int ln_3, .int ap_6, .ref (ad kd_9), .int sa_10, .long wd_11, .int nu_12]))], [(tx1, .inl (cB, 1600, .inl f2))], w3] : List va_W) (([[(tk0, .inr (7, [.ref tx1, .int ln_3, .int ap_6, .ref (ad kd_9), .int sa_10, .long wd_11, .int nu_12]))], [(tx1, .inl (cB, 1600, .inl f2))]] : List va_W) ++ ([[(h0, .inr (3, [.ref tk0, .ref rp0, .int fk_1, .int fp_2]))], w3] : List va_W)) := pm_n 4 [1, 2, 0, 3] (by decide) rfl rfl
    have hPc := bk_P hpm hP
    have hDc := bk_D hpm hD
    have hFc := bk_F hpm hD hS hA
    refine va_callv (va_runV (As := []) (rest := []) ⟨hx, hb, hml, hown, hts⟩ (c_X9_advance l dC dI ad tN fN cB cI cJ cZ tk0 r1 tx1 _ _ ⟨ln_3, ap_6, kd_9, sa_10, wd_11, nu_12, rfl, by omega, by omega, by omega, by omega⟩ H.size) (cwV 0 hts gX4_takeFrom_X9_advance rfl rfl rfl (by decide +kernel) ⟨(Nat.le_of_ble_eq_true rfl), (Nat.le_of_ble_eq_true rfl)⟩) ⟨fun a U g mk q => by obtain ⟨q0, q1, qP, qK, qD, qE⟩ := q; exact ⟨q0, q1, qP, va_K.moved (u := U) (U := U.calling g mk a) (Vm.Alike.refl U.vm) qK, qD, ey_blind qE⟩, va_recv hK hPc (ci := 7) (q0 := 0) rfl rfl, fun U hU hW => ⟨rfl, by rw [hU], by rw [hU]; exact hPc, va_K.moved hW.alike hK, hDc.weaken (fun _ _ _ _ => trivial), ey_call hE hS hFc hU hW⟩⟩ rfl rfl hl.1 rfl (lv_room (Nat.le_of_ble_eq_true rfl)) dX4_takeFrom_31 ⟨(Nat.le_of_ble_eq_true rfl), (Nat.le_of_ble_eq_true rfl)⟩) hS (fun q _ h => hFc q h) hFc (fun u t H locs ht hvm hw hB hz1 hk1 hS => ?_)
    obtain ⟨w_17, o_18, hP1, hD1⟩ := hB
    rw [ht] at hP1
    obtain ⟨hP, hD⟩ := bk_join hpm hP hD hk1 hFc (Cs1 := [w_17, [(tx1, .inl (cB, 1600, .inl f2))]]) hP1 hD1
    have hpm2 : List.Perm (([w_17, [(tx1, .inl (cB, 1600, .inl f2))]] : List va_W) ++ ([[(h0, .inr (3, [.ref tk0, .ref rp0, .int fk_1, .int fp_2]))], w3] : List va_W)) ([[(h0, .inr (3, [.ref tk0, .ref rp0, .int fk_1, .int fp_2]))], w_17, [(tx1, .inl (cB, 1600, .inl f2))], w3] : List va_W) := pm_n 4 [2, 0, 1, 3] (by decide) rfl rfl
    have hP := bk_reP hpm2 hP
    have hD := bk_reD hpm2 hD
    have hP : va_P (dC, dI) vwCl (List.flatten [[(h0, .inr (3, [.ref tk0, .ref rp0, .int fk_1, .int fp_2]))], w_17, [(tx1, .inl (cB, 1600, .inl f2))], w3]) H := hP
    have hD : va_D A (List.flatten [[(h0, .inr (3, [.ref tk0, .ref rp0, .int fk_1, .int fp_2]))], w_17, [(tx1, .inl (cB, 1600, .inl f2))], w3]) := hD
    refine lv_iload_n hx hb dX4_takeFrom_34 rfl (lv_at hl 0 rfl) ?_
    rw [hQ0]
    exact W.iret (v := (-1)) hx hb hr (fun t ht hW => ⟨⟨(-1), (), rfl, ⟨by decide, by decide⟩, ⟨_, _, ⟨fk_1, fp_2, rfl⟩, o_18, by rw [ht]; exact hP, hD⟩⟩, hS.F ht⟩) hS.2.2 dX4_takeFrom_35
  · have c_14 : r_13.toInt = 0 := f_eq rfl tI_0 c_14
    refine lv_aload_n hx hb dX4_takeFrom_15 rfl (lv_at hl 1 rfl) ?_
    refine lv_iconst (v := (-1)) hx hb dX4_takeFrom_16 (by decide) ?_
    have hpm : List.Perm ([[(h0, .inr (3, [.ref tk0, .ref rp0, .int fk_1, .int fp_2]))], [(tk0, .inr (7, [.ref tx1, .int ln_3, .int ap_6, .ref (ad kd_9), .int sa_10, .long wd_11, .int nu_12]))], [(tx1, .inl (cB, 1600, .inl f2))], w3] : List va_W) (([[(h0, .inr (3, [.ref tk0, .ref rp0, .int fk_1, .int fp_2]))], [(tk0, .inr (7, [.ref tx1, .int ln_3, .int ap_6, .ref (ad kd_9), .int sa_10, .long wd_11, .int nu_12]))], [(tx1, .inl (cB, 1600, .inl f2))], w3] : List va_W) ++ ([] : List va_W)) := pm_n 4 [0, 1, 2, 3] (by decide) rfl rfl
    have hPc := bk_P hpm hP
    have hDc := bk_D hpm hD
    have hFc := bk_F hpm hD hS hA
    refine va_calli (va_runV (As := [.int (-1)]) (rest := []) ⟨hx, hb, hml, hown, hts⟩ (c_X4_floorBelow l dC dI ad tN fN cB cI cJ cZ h0 (-1) r0 tk0 rp0 _ r1 tx1 _ _ r3 fc3 dc3 rk3 _ ⟨fk_1, fp_2, rfl⟩ ⟨ln_3, ap_6, kd_9, sa_10, wd_11, nu_12, rfl, by omega, by omega, by omega, by omega⟩ o3 H.size) (cwV 1 hts gX4_takeFrom_X4_floorBelow rfl rfl rfl (by decide +kernel) ⟨(Nat.le_of_ble_eq_true rfl), (Nat.le_of_ble_eq_true rfl)⟩) ⟨fun a U g mk q => by obtain ⟨q0, q1, qP, qK, qD, qE⟩ := q; exact ⟨q0, q1, qP, va_K.moved (u := U) (U := U.calling g mk a) (Vm.Alike.refl U.vm) qK, qD, ey_blind qE⟩, va_recv hK hPc (ci := 3) (q0 := 0) rfl rfl, fun U hU hW => ⟨rfl, by rw [hU], by rw [hU]; exact hPc, va_K.moved hW.alike hK, hDc.weaken (fun _ _ _ _ => trivial), ey_call hE hS hFc hU hW⟩⟩ rfl rfl hl.1 rfl (lv_room (Nat.le_of_ble_eq_true rfl)) dX4_takeFrom_17 ⟨(Nat.le_of_ble_eq_true rfl), (Nat.le_of_ble_eq_true rfl)⟩) hS (fun q _ h => hFc q h) hFc (fun r_19 u t H locs ht hvm hw hB hz1 hk1 hS => ?_)
    obtain ⟨w_20, o_21, hP1, hD1⟩ := hB
    rw [ht] at hP1
    obtain ⟨hP, hD⟩ := bk_join hpm hP hD hk1 hFc (Cs1 := [w_20, [(tk0, .inr (7, [.ref tx1, .int ln_3, .int ap_6, .ref (ad kd_9), .int sa_10, .long wd_11, .int nu_12]))], [(tx1, .inl (cB, 1600, .inl f2))], w3]) hP1 hD1
    have hpm2 : List.Perm (([w_20, [(tk0, .inr (7, [.ref tx1, .int ln_3, .int ap_6, .ref (ad kd_9), .int sa_10, .long wd_11, .int nu_12]))], [(tx1, .inl (cB, 1600, .inl f2))], w3] : List va_W) ++ ([] : List va_W)) ([w_20, [(tk0, .inr (7, [.ref tx1, .int ln_3, .int ap_6, .ref (ad kd_9), .int sa_10, .long wd_11, .int nu_12]))], [(tx1, .inl (cB, 1600, .inl f2))], w3] : List va_W) := pm_n 4 [0, 1, 2, 3] (by decide) rfl rfl
    have hP := bk_reP hpm2 hP
    have hD := bk_reD hpm2 hD
    have hP : va_P (dC, dI) vwCl (List.flatten [w_20, [(tk0, .inr (7, [.ref tx1, .int ln_3, .int ap_6, .ref (ad kd_9), .int sa_10, .long wd_11, .int nu_12]))], [(tx1, .inl (cB, 1600, .inl f2))], w3]) H := hP
    have hD : va_D A (List.flatten [w_20, [(tk0, .inr (7, [.ref tx1, .int ln_3, .int ap_6, .ref (ad kd_9), .int sa_10, .long wd_11, .int nu_12]))], [(tx1, .inl (cB, 1600, .inl f2))], w3]) := hD
    obtain ⟨hlr_19, hhr_19⟩ := hw
    refine lv_istore_n (lv' := [(1, .int r_19), (0, .ref h0)]) hx hb dX4_takeFrom_20 rfl hl (by decide) rfl (fun ls hl => ?_)
    refine lv_iload_n hx hb dX4_takeFrom_21 rfl (lv_at hl 0 rfl) ?_
    refine lv_bipush (v := (-2)) hx hb dX4_takeFrom_22 (by decide) ?_
    refine lv_icmp_eq (tgt := 34) hx hb dX4_takeFrom_24 (by decide) (fun c_22 => ?_) (fun c_22 => ?_)
    · have c_22 : r_19.toInt = -2 := f_eq rfl tI_m2 c_22
      refine lv_iload_n hx hb dX4_takeFrom_34 rfl (lv_at hl 0 rfl) ?_
      rw [hQ0]
      exact W.iret (v := r_19) hx hb hr (fun t ht hW => ⟨⟨r_19, (), rfl, ⟨by omega, by omega⟩, ⟨_, _, o_21, ⟨ln_3, ap_6, kd_9, sa_10, wd_11, nu_12, rfl, by omega, by omega, by omega, by omega⟩, by rw [ht]; exact hP, hD⟩⟩, hS.F ht⟩) hS.2.2 dX4_takeFrom_35
    · have c_22 : ¬ r_19.toInt = -2 := f_ne rfl tI_m2 c_22
      refine lv_aload_n hx hb dX4_takeFrom_27 rfl (lv_at hl 1 rfl) ?_
      obtain ⟨fk_23, fp_24, rfl⟩ := o_21
      refine va_get (D := (dC, dI)) (ci := 3) (v := .ref tk0) (C := RX4) (T := TX4) (N := 4) hx hb hts iw_X4_takeFrom_X4 hown hK hP 0 rfl rfl 0 (by decide) (hts (.fieldLink RX4 12 "HungFloors$HouseReader" "tokens" "LHungFloors$Tokens;") (by decide +kernel)) (fun _ h9 => h9) rfl dX4_takeFrom_28 ?_
      have hpm : List.Perm ([[(h0, .inr (3, [.ref tk0, .ref rp0, .int fk_23, .int fp_24]))], [(tk0, .inr (7, [.ref tx1, .int ln_3, .int ap_6, .ref (ad kd_9), .int sa_10, .long wd_11, .int nu_12]))], [(tx1, .inl (cB, 1600, .inl f2))], w3] : List va_W) (([[(tk0, .inr (7, [.ref tx1, .int ln_3, .int ap_6, .ref (ad kd_9), .int sa_10, .long wd_11, .int nu_12]))], [(tx1, .inl (cB, 1600, .inl f2))]] : List va_W) ++ ([[(h0, .inr (3, [.ref tk0, .ref rp0, .int fk_23, .int fp_24]))], w3] : List va_W)) := pm_n 4 [1, 2, 0, 3] (by decide) rfl rfl
      have hPc := bk_P hpm hP
      have hDc := bk_D hpm hD
      have hFc := bk_F hpm hD hS hA
      refine va_callv (va_runV (As := []) (rest := []) ⟨hx, hb, hml, hown, hts⟩ (c_X9_advance l dC dI ad tN fN cB cI cJ cZ tk0 r1 tx1 _ _ ⟨ln_3, ap_6, kd_9, sa_10, wd_11, nu_12, rfl, by omega, by omega, by omega, by omega⟩ H.size) (cwV 0 hts gX4_takeFrom_X9_advance rfl rfl rfl (by decide +kernel) ⟨(Nat.le_of_ble_eq_true rfl), (Nat.le_of_ble_eq_true rfl)⟩) ⟨fun a U g mk q => by obtain ⟨q0, q1, qP, qK, qD, qE⟩ := q; exact ⟨q0, q1, qP, va_K.moved (u := U) (U := U.calling g mk a) (Vm.Alike.refl U.vm) qK, qD, ey_blind qE⟩, va_recv hK hPc (ci := 7) (q0 := 0) rfl rfl, fun U hU hW => ⟨rfl, by rw [hU], by rw [hU]; exact hPc, va_K.moved hW.alike hK, hDc.weaken (fun _ _ _ _ => trivial), ey_call hE hS hFc hU hW⟩⟩ rfl rfl hl.1 rfl (lv_room (Nat.le_of_ble_eq_true rfl)) dX4_takeFrom_31 ⟨(Nat.le_of_ble_eq_true rfl), (Nat.le_of_ble_eq_true rfl)⟩) hS (fun q _ h => hFc q h) hFc (fun u t H locs ht hvm hw hB hz1 hk1 hS => ?_)
      obtain ⟨w_26, o_27, hP1, hD1⟩ := hB
      rw [ht] at hP1
      obtain ⟨hP, hD⟩ := bk_join hpm hP hD hk1 hFc (Cs1 := [w_26, [(tx1, .inl (cB, 1600, .inl f2))]]) hP1 hD1
      have hpm2 : List.Perm (([w_26, [(tx1, .inl (cB, 1600, .inl f2))]] : List va_W) ++ ([[(h0, .inr (3, [.ref tk0, .ref rp0, .int fk_23, .int fp_24]))], w3] : List va_W)) ([[(h0, .inr (3, [.ref tk0, .ref rp0, .int fk_23, .int fp_24]))], w_26, [(tx1, .inl (cB, 1600, .inl f2))], w3] : List va_W) := pm_n 4 [2, 0, 1, 3] (by decide) rfl rfl
      have hP := bk_reP hpm2 hP
      have hD := bk_reD hpm2 hD
      have hP : va_P (dC, dI) vwCl (List.flatten [[(h0, .inr (3, [.ref tk0, .ref rp0, .int fk_23, .int fp_24]))], w_26, [(tx1, .inl (cB, 1600, .inl f2))], w3]) H := hP
      have hD : va_D A (List.flatten [[(h0, .inr (3, [.ref tk0, .ref rp0, .int fk_23, .int fp_24]))], w_26, [(tx1, .inl (cB, 1600, .inl f2))], w3]) := hD
      refine lv_iload_n hx hb dX4_takeFrom_34 rfl (lv_at hl 0 rfl) ?_
      rw [hQ0]
      exact W.iret (v := r_19) hx hb hr (fun t ht hW => ⟨⟨r_19, (), rfl, ⟨by omega, by omega⟩, ⟨_, _, ⟨fk_23, fp_24, rfl⟩, o_27, by rw [ht]; exact hP, hD⟩⟩, hS.F ht⟩) hS.2.2 dX4_takeFrom_35
