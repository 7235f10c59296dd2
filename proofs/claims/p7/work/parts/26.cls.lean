theorem iw_X4_takeHeld_X4 : ∀ w ∈ wsX40, w ∈ wsX4_takeHeld := fun _ h => List.mem_cons_of_mem _ (List.mem_append_left _ (List.mem_append_left _ (List.mem_append_right _ h)))
set_option maxHeartbeats 4000000 in
set_option maxRecDepth 100000 in
theorem c_X4_takeHeld (l : Launch) (dC : Nat → ClassId) (dI : Nat → Nat → Nat) (ad : Nat → Nat) (tN : Nat) (fN : Nat → Int64) (cB cI cJ cZ : ClassId) (h0 : Nat) (p1 : Int32) (r0 : Nat → Nat) (tk0 : Nat) (rp0 : Nat) (w0 : va_W) (r1 : Nat → Nat) (tx1 : Nat) (w1 : va_W) (f2 : Nat → Int32) (r3 : Nat → Nat) (fc3 : Int32) (dc3 : Int32) (rk3 : Nat → Int32) (w3 : va_W) (o0 : ok_read ad cB cI cJ cZ h0 r0 tk0 rp0 w0) (o1 : ok_tok ad cB cI cJ cZ tk0 r1 tx1 w1) (o3 : ok_plan ad cB cI cJ cZ rp0 r3 fc3 dc3 rk3 w3) (sz : Nat) : Met l yX4_takeHeld wsX4_takeHeld ({ frames := 3, cells := 0, slots := 0, locals := 69 } : Room) (va_Pc [.ref h0, .int p1] (fun U => U.heap.size = sz ∧ va_P (dC, dI) vwCl (List.flatten [w0, w1, [(tx1, .inl (cB, 1600, .inl f2))], w3]) U.heap ∧ va_K (dC, dI) vwCl [(cB, .byte), (cI, .int), (cJ, .long), (cZ, .boolean)] U ∧ va_D (fun _ => True) (List.flatten [w0, w1, [(tx1, .inl (cB, 1600, .inl f2))], w3]) ∧ ex_Y ad tN fN (va_A (List.flatten [w0, w1, [(tx1, .inl (cB, 1600, .inl f2))], w3]) sz) U)) (va_Qi (fun (r : Int32) (_ : Unit) => True) (fun (_ : Unit) (t : State) => ∃ (w09 : va_W) (w19 : va_W), ok_read ad cB cI cJ cZ h0 r0 tk0 rp0 w09 ∧ ok_tok ad cB cI cJ cZ tk0 r1 tx1 w19 ∧ va_P (dC, dI) vwCl (List.flatten [w09, w19, [(tx1, .inl (cB, 1600, .inl f2))], w3]) t.heap ∧ va_D (va_A (List.flatten [w0, w1, [(tx1, .inl (cB, 1600, .inl f2))], w3]) sz) (List.flatten [w09, w19, [(tx1, .inl (cB, 1600, .inl f2))], w3])) (va_A (List.flatten [w0, w1, [(tx1, .inl (cB, 1600, .inl f2))], w3]) sz)) 0 0 (va_A (List.flatten [w0, w1, [(tx1, .inl (cB, 1600, .inl f2))], w3]) sz) := by
  refine Met.ofW (cc := cX4_takeHeld) (maxL := 5) (ret := (some .int)) (by decide) rfl ?_
  intro p e s m args below meth c s₁ B hml hv
  obtain ⟨rfl, hsz, hP, hK, hD0, hE⟩ := hv
  have hx := B.exec
  have hb := B.bytes
  have hr := B.returns
  have hts := atoms_spec (ws := wsX4_takeHeld) B.pre
  have hown : s.vm.findClass RX4 = some m.cls := findClass_of_methodNamed B.named
  have hlocks := B.notSynchronized
  subst hsz
  have hD := hD0.self (sz := s.heap.size)
  generalize hAe : va_A (List.flatten [w0, w1, [(tx1, .inl (cB, 1600, .inl f2))], w3]) s.heap.size = A at hD hE ⊢
  have hA : ∀ q : Nat, s.heap.size ≤ q → A q := fun q h => by rw [← hAe]; exact Or.inr h
  have hS : va_S A s.heap s.heap [] := va_S.rf
  have hl := lv_entry ([.ref h0, .int p1]) (n := 5) (Nat.le_of_ble_eq_true rfl)
  rw [lg_entry_eq]
  generalize (lg_sl ([.ref h0, .int p1]) ++ List.replicate (5 - (lg_sl ([.ref h0, .int p1])).length) Slot.unset).toArray = ls at hl ⊢
  have hl : lv_has ls 5 [(0, .ref h0), (1, .int p1)] := hl
  clear hAe
  refine W_name (fun Q0 hQ0 => ?_)
  refine lv_iconst (v := 0) hx hb dX4_takeHeld_0 (by decide) ?_
  refine lv_istore_n (lv' := [(2, .int 0), (0, .ref h0), (1, .int p1)]) hx hb dX4_takeHeld_1 rfl hl (by decide) rfl (fun ls hl => ?_)
  refine lv_iload_n hx hb dX4_takeHeld_2 rfl (lv_at hl 2 rfl) ?_
  refine lv_istore_n (lv' := [(3, .int p1), (2, .int 0), (0, .ref h0), (1, .int p1)]) hx hb dX4_takeHeld_3 rfl hl (by decide) rfl (fun ls hl => ?_)
  refine lv_iconst (v := 0) hx hb dX4_takeHeld_4 (by decide) ?_
  refine lv_istore (lv' := [(4, .int 0), (3, .int p1), (2, .int 0), (0, .ref h0), (1, .int p1)]) hx hb dX4_takeHeld_5 hl (by decide) rfl (fun ls hl => ?_)
  obtain ⟨fk_30, fp_31, rfl⟩ := o0
  obtain ⟨ln_32, ap_35, kd_38, sa_39, wd_40, nu_41, rfl, hl_33, hh_34, hl_36, hh_37⟩ := o1
  have lp_450 : ∀ (n : Nat) (g_1 : Int32) (g_2 : Int32) (g_3 : Int32) (gw_56 : va_W) (gw_57 : va_W), ok_read ad cB cI cJ cZ h0 r0 tk0 rp0 gw_56 → ok_tok ad cB cI cJ cZ tk0 r1 tx1 gw_57 → 0 ≤ g_1.toInt → g_1.toInt ≤ 7 → (7 - g_1.toInt).toNat < n → ∀ (H : Heap) (locs : List Loc), va_P (dC, dI) vwCl (List.flatten [gw_56, gw_57, [(tx1, .inl (cB, 1600, .inl f2))], w3]) H → va_D A (List.flatten [gw_56, gw_57, [(tx1, .inl (cB, 1600, .inl f2))], w3]) → va_S A s.heap H locs → ∀ (ls : Array Slot), lv_has ls 5 [(4, .int g_1), (3, .int g_2), (2, .int g_3), (0, .ref h0), (1, .int p1)] → W p l e (headSpec wsX4_takeHeld ({ frames := 3, cells := 0, slots := 0, locals := 69 } : Room)).room s m ([.ref h0, .int p1] : List Value).toArray below meth c H locs 0 0 Q0 (F0 m 7 ls []) := by
    intro n
    induction n with
    | zero => intro g_1 g_2 g_3 gw_56 gw_57 okgw_56 okgw_57 iv_448 iv_449 hm; exact absurd hm (Nat.not_lt_zero _)
    | succ n ih_451 =>
      intro g_1 g_2 g_3 gw_56 gw_57 okgw_56 okgw_57 iv_448 iv_449 hm H locs hP hD hS ls hl
      refine lv_iload hx hb dX4_takeHeld_7 (lv_at hl 0 rfl) ?_
      refine lv_bipush (v := 6) hx hb dX4_takeHeld_9 (by decide) ?_
      refine lv_icmp_gt (tgt := 65) hx hb dX4_takeHeld_11 (by decide) (fun c_452 => ?_) (fun c_452 => ?_)
      · have c_452 : 6 < g_1.toInt := f_lt tI_6 rfl c_452
        refine lv_bipush (v := (-2)) hx hb dX4_takeHeld_65 (by decide) ?_
        rw [hQ0]
        exact W.iret (v := (-2)) hx hb hr (fun t ht hW => ⟨⟨(-2), (), rfl, trivial, ⟨_, _, okgw_56, okgw_57, by rw [ht]; exact hP, hD⟩⟩, hS.F ht⟩) hS.2.2 dX4_takeHeld_67
      · have c_452 : g_1.toInt ≤ 6 := f_nlt tI_6 rfl c_452
        refine lv_iload_n hx hb dX4_takeHeld_14 rfl (lv_at hl 2 rfl) ?_
        refine lv_if_eq (tgt := 33) hx hb dX4_takeHeld_15 (by decide) (fun c_453 => ?_) (fun c_453 => ?_)
        · have c_453 : g_3.toInt = 0 := f_eq rfl tI_0 c_453
          refine lv_aload_n hx hb dX4_takeHeld_33 rfl (lv_at hl 3 rfl) ?_
          refine lv_iload_n hx hb dX4_takeHeld_34 rfl (lv_at hl 1 rfl) ?_
          obtain ⟨fk_454, fp_455, rfl⟩ := okgw_56
          have hpm : List.Perm ([[(h0, .inr (3, [.ref tk0, .ref rp0, .int fk_454, .int fp_455]))], gw_57, [(tx1, .inl (cB, 1600, .inl f2))], w3] : List va_W) (([[(h0, .inr (3, [.ref tk0, .ref rp0, .int fk_454, .int fp_455]))], gw_57, [(tx1, .inl (cB, 1600, .inl f2))], w3] : List va_W) ++ ([] : List va_W)) := pm_n 4 [0, 1, 2, 3] (by decide) rfl rfl
          have hPc := bk_P hpm hP
          have hDc := bk_D hpm hD
          have hFc := bk_F hpm hD hS hA
          refine va_calli (va_runV (As := [.int g_2]) (rest := []) ⟨hx, hb, hml, hown, hts⟩ (c_X4_floorBelow l dC dI ad tN fN cB cI cJ cZ h0 g_2 r0 tk0 rp0 _ r1 tx1 _ _ r3 fc3 dc3 rk3 _ ⟨fk_454, fp_455, rfl⟩ okgw_57 o3 H.size) (cwV 1 hts gX4_takeHeld_X4_floorBelow rfl rfl rfl (by decide +kernel) ⟨(Nat.le_of_ble_eq_true rfl), (Nat.le_of_ble_eq_true rfl)⟩) ⟨fun a U g mk q => by obtain ⟨q0, q1, qP, qK, qD, qE⟩ := q; exact ⟨q0, q1, qP, va_K.moved (u := U) (U := U.calling g mk a) (Vm.Alike.refl U.vm) qK, qD, ey_blind qE⟩, va_recv hK hPc (ci := 3) (q0 := 0) rfl rfl, fun U hU hW => ⟨rfl, by rw [hU], by rw [hU]; exact hPc, va_K.moved hW.alike hK, hDc.weaken (fun _ _ _ _ => trivial), ey_call hE hS hFc hU hW⟩⟩ rfl rfl hl.1 rfl (lv_room (Nat.le_of_ble_eq_true rfl)) dX4_takeHeld_35 ⟨(Nat.le_of_ble_eq_true rfl), (Nat.le_of_ble_eq_true rfl)⟩) hS (fun q _ h => hFc q h) hFc (fun r_456 u t H locs ht hvm hw hB hz1 hk1 hS => ?_)
          obtain ⟨w_457, o_458, hP1, hD1⟩ := hB
          rw [ht] at hP1
          obtain ⟨hP, hD⟩ := bk_join hpm hP hD hk1 hFc (Cs1 := [w_457, gw_57, [(tx1, .inl (cB, 1600, .inl f2))], w3]) hP1 hD1
          have hpm2 : List.Perm (([w_457, gw_57, [(tx1, .inl (cB, 1600, .inl f2))], w3] : List va_W) ++ ([] : List va_W)) ([w_457, gw_57, [(tx1, .inl (cB, 1600, .inl f2))], w3] : List va_W) := pm_n 4 [0, 1, 2, 3] (by decide) rfl rfl
          have hP := bk_reP hpm2 hP
          have hD := bk_reD hpm2 hD
          have hP : va_P (dC, dI) vwCl (List.flatten [w_457, gw_57, [(tx1, .inl (cB, 1600, .inl f2))], w3]) H := hP
          have hD : va_D A (List.flatten [w_457, gw_57, [(tx1, .inl (cB, 1600, .inl f2))], w3]) := hD
          obtain ⟨hlr_456, hhr_456⟩ := hw
          refine lv_istore_n (lv' := [(3, .int r_456), (4, .int g_1), (2, .int g_3), (0, .ref h0), (1, .int p1)]) hx hb dX4_takeHeld_38 rfl hl (by decide) rfl (fun ls hl => ?_)
          refine lv_iload_n hx hb dX4_takeHeld_39 rfl (lv_at hl 0 rfl) ?_
          refine lv_if_ge (tgt := 46) hx hb dX4_takeHeld_40 (by decide) (fun c_459 => ?_) (fun c_459 => ?_)
          · have c_459 : 0 ≤ r_456.toInt := f_le tI_0 rfl c_459
            refine lv_iload_n hx hb dX4_takeHeld_46 rfl (lv_at hl 2 rfl) ?_
            refine lv_iconst (v := 1) hx hb dX4_takeHeld_47 (by decide) ?_
            refine lv_iload_n hx hb dX4_takeHeld_48 rfl (lv_at hl 0 rfl) ?_
            refine lv_ishl hx hb dX4_takeHeld_49 ?_
            refine lv_topi (fun z_460 ez_460 => ?_)
            have hz_460 := t_shl1 (by omega) (by omega) ez_460
            have h1z_460 := hz_460.1
            have h2z_460 := hz_460.2
            refine lv_ior hx hb dX4_takeHeld_50 ?_
            refine lv_topi (fun z_461 ez_461 => ?_)
            refine lv_istore_n (lv' := [(2, .int z_461), (3, .int r_456), (4, .int g_1), (0, .ref h0), (1, .int p1)]) hx hb dX4_takeHeld_51 rfl hl (by decide) rfl (fun ls hl => ?_)
            refine lv_aload_n hx hb dX4_takeHeld_52 rfl (lv_at hl 3 rfl) ?_
            obtain ⟨fk_462, fp_463, rfl⟩ := o_458
            refine va_get (D := (dC, dI)) (ci := 3) (v := .ref tk0) (C := RX4) (T := TX4) (N := 4) hx hb hts iw_X4_takeHeld_X4 hown hK hP 0 rfl rfl 0 (by decide) (hts (.fieldLink RX4 12 "HungFloors$HouseReader" "tokens" "LHungFloors$Tokens;") (by decide +kernel)) (fun _ h9 => h9) rfl dX4_takeHeld_53 ?_
            obtain ⟨ln_464, ap_467, kd_470, sa_471, wd_472, nu_473, rfl, hl_465, hh_466, hl_468, hh_469⟩ := okgw_57
            have hpm : List.Perm ([[(h0, .inr (3, [.ref tk0, .ref rp0, .int fk_462, .int fp_463]))], [(tk0, .inr (7, [.ref tx1, .int ln_464, .int ap_467, .ref (ad kd_470), .int sa_471, .long wd_472, .int nu_473]))], [(tx1, .inl (cB, 1600, .inl f2))], w3] : List va_W) (([[(tk0, .inr (7, [.ref tx1, .int ln_464, .int ap_467, .ref (ad kd_470), .int sa_471, .long wd_472, .int nu_473]))], [(tx1, .inl (cB, 1600, .inl f2))]] : List va_W) ++ ([[(h0, .inr (3, [.ref tk0, .ref rp0, .int fk_462, .int fp_463]))], w3] : List va_W)) := pm_n 4 [1, 2, 0, 3] (by decide) rfl rfl
            have hPc := bk_P hpm hP
            have hDc := bk_D hpm hD
            have hFc := bk_F hpm hD hS hA
            refine va_callv (va_runV (As := []) (rest := []) ⟨hx, hb, hml, hown, hts⟩ (c_X9_advance l dC dI ad tN fN cB cI cJ cZ tk0 r1 tx1 _ _ ⟨ln_464, ap_467, kd_470, sa_471, wd_472, nu_473, rfl, by omega, by omega, by omega, by omega⟩ H.size) (cwV 0 hts gX4_takeHeld_X9_advance rfl rfl rfl (by decide +kernel) ⟨(Nat.le_of_ble_eq_true rfl), (Nat.le_of_ble_eq_true rfl)⟩) ⟨fun a U g mk q => by obtain ⟨q0, q1, qP, qK, qD, qE⟩ := q; exact ⟨q0, q1, qP, va_K.moved (u := U) (U := U.calling g mk a) (Vm.Alike.refl U.vm) qK, qD, ey_blind qE⟩, va_recv hK hPc (ci := 7) (q0 := 0) rfl rfl, fun U hU hW => ⟨rfl, by rw [hU], by rw [hU]; exact hPc, va_K.moved hW.alike hK, hDc.weaken (fun _ _ _ _ => trivial), ey_call hE hS hFc hU hW⟩⟩ rfl rfl hl.1 rfl (lv_room (Nat.le_of_ble_eq_true rfl)) dX4_takeHeld_56 ⟨(Nat.le_of_ble_eq_true rfl), (Nat.le_of_ble_eq_true rfl)⟩) hS (fun q _ h => hFc q h) hFc (fun u t H locs ht hvm hw hB hz1 hk1 hS => ?_)
            obtain ⟨w_475, o_476, hP1, hD1⟩ := hB
            rw [ht] at hP1
            obtain ⟨hP, hD⟩ := bk_join hpm hP hD hk1 hFc (Cs1 := [w_475, [(tx1, .inl (cB, 1600, .inl f2))]]) hP1 hD1
            have hpm2 : List.Perm (([w_475, [(tx1, .inl (cB, 1600, .inl f2))]] : List va_W) ++ ([[(h0, .inr (3, [.ref tk0, .ref rp0, .int fk_462, .int fp_463]))], w3] : List va_W)) ([[(h0, .inr (3, [.ref tk0, .ref rp0, .int fk_462, .int fp_463]))], w_475, [(tx1, .inl (cB, 1600, .inl f2))], w3] : List va_W) := pm_n 4 [2, 0, 1, 3] (by decide) rfl rfl
            have hP := bk_reP hpm2 hP
            have hD := bk_reD hpm2 hD
            have hP : va_P (dC, dI) vwCl (List.flatten [[(h0, .inr (3, [.ref tk0, .ref rp0, .int fk_462, .int fp_463]))], w_475, [(tx1, .inl (cB, 1600, .inl f2))], w3]) H := hP
            have hD : va_D A (List.flatten [[(h0, .inr (3, [.ref tk0, .ref rp0, .int fk_462, .int fp_463]))], w_475, [(tx1, .inl (cB, 1600, .inl f2))], w3]) := hD
            obtain ⟨z_477, ez_477⟩ : ∃ y : Int32, y = g_1 + 1 := ⟨_, rfl⟩
            have hz_477 : z_477.toInt = g_1.toInt + 1 := by rw [ez_477]; exact t_add rfl tI_1 (by omega) (by omega)
            refine lv_iinc (v := z_477) (lv' := [(4, .int z_477), (2, .int z_461), (3, .int r_456), (0, .ref h0), (1, .int p1)]) hx hb dX4_takeHeld_59 hl (k := 2) rfl (by rw [ez_477]; rfl) (by decide) rfl (fun ls hl => ?_)
            refine lv_goto (tgt := 7) hx hb dX4_takeHeld_62 (by decide) ?_
            exact ih_451 z_477 r_456 z_461 _ _ ⟨fk_462, fp_463, rfl⟩ o_476 (by omega) (by omega) (by omega) _ _ hP hD hS ls (lv_sub hl [0, 2, 1, 3, 4] rfl)
          · have c_459 : r_456.toInt < 0 := f_nle tI_0 rfl c_459
            refine lv_bipush (v := (-2)) hx hb dX4_takeHeld_43 (by decide) ?_
            rw [hQ0]
            exact W.iret (v := (-2)) hx hb hr (fun t ht hW => ⟨⟨(-2), (), rfl, trivial, ⟨_, _, o_458, okgw_57, by rw [ht]; exact hP, hD⟩⟩, hS.F ht⟩) hS.2.2 dX4_takeHeld_45
        · have c_453 : ¬ g_3.toInt = 0 := f_ne rfl tI_0 c_453
          refine lv_aload_n hx hb dX4_takeHeld_18 rfl (lv_at hl 3 rfl) ?_
          obtain ⟨fk_478, fp_479, rfl⟩ := okgw_56
          refine va_get (D := (dC, dI)) (ci := 3) (v := .ref tk0) (C := RX4) (T := TX4) (N := 4) hx hb hts iw_X4_takeHeld_X4 hown hK hP 0 rfl rfl 0 (by decide) (hts (.fieldLink RX4 12 "HungFloors$HouseReader" "tokens" "LHungFloors$Tokens;") (by decide +kernel)) (fun _ h9 => h9) rfl dX4_takeHeld_19 ?_
          refine lv_ldc2 hx hb hown (hts (.constantLong RX4 107 (6513006)) (by decide +kernel)) dX4_takeHeld_22 ?_
          obtain ⟨ln_480, ap_483, kd_486, sa_487, wd_488, nu_489, rfl, hl_481, hh_482, hl_484, hh_485⟩ := okgw_57
          have hpm : List.Perm ([[(h0, .inr (3, [.ref tk0, .ref rp0, .int fk_478, .int fp_479]))], [(tk0, .inr (7, [.ref tx1, .int ln_480, .int ap_483, .ref (ad kd_486), .int sa_487, .long wd_488, .int nu_489]))], [(tx1, .inl (cB, 1600, .inl f2))], w3] : List va_W) (([[(tk0, .inr (7, [.ref tx1, .int ln_480, .int ap_483, .ref (ad kd_486), .int sa_487, .long wd_488, .int nu_489]))]] : List va_W) ++ ([[(h0, .inr (3, [.ref tk0, .ref rp0, .int fk_478, .int fp_479]))], [(tx1, .inl (cB, 1600, .inl f2))], w3] : List va_W)) := pm_n 4 [1, 0, 2, 3] (by decide) rfl rfl
          have hPc := bk_P hpm hP
          have hDc := bk_D hpm hD
          have hFc := bk_F hpm hD hS hA
          refine va_calli (va_runV (As := [.long 6513006]) (rest := []) ⟨hx, hb, hml, hown, hts⟩ (c_X9_isWord l dC dI ad tN fN cB cI cJ cZ tk0 6513006 r1 tx1 _ ⟨ln_480, ap_483, kd_486, sa_487, wd_488, nu_489, rfl, by omega, by omega, by omega, by omega⟩ H.size) (cwV 1 hts gX4_takeHeld_X9_isWord rfl rfl rfl (by decide +kernel) ⟨(Nat.le_of_ble_eq_true rfl), (Nat.le_of_ble_eq_true rfl)⟩) ⟨fun a U g mk q => by obtain ⟨q0, q1, qP, qK, qD, qE⟩ := q; exact ⟨q0, q1, qP, va_K.moved (u := U) (U := U.calling g mk a) (Vm.Alike.refl U.vm) qK, qD, ey_blind qE⟩, va_recv hK hPc (ci := 7) (q0 := 0) rfl rfl, fun U hU hW => ⟨rfl, by rw [hU], by rw [hU]; exact hPc, va_K.moved hW.alike hK, hDc.weaken (fun _ _ _ _ => trivial), ey_call hE hS hFc hU hW⟩⟩ rfl rfl hl.1 rfl (lv_room (Nat.le_of_ble_eq_true rfl)) dX4_takeHeld_25 ⟨(Nat.le_of_ble_eq_true rfl), (Nat.le_of_ble_eq_true rfl)⟩) hS (fun q _ h => hFc q h) hFc (fun r_490 u t H locs ht hvm hw hB hz1 hk1 hS => ?_)
          obtain ⟨hP1, hD1⟩ := hB
          rw [ht] at hP1
          obtain ⟨hP, hD⟩ := bk_join hpm hP hD hk1 hFc (Cs1 := [[(tk0, .inr (7, [.ref tx1, .int ln_480, .int ap_483, .ref (ad kd_486), .int sa_487, .long wd_488, .int nu_489]))]]) hP1 hD1
          have hpm2 : List.Perm (([[(tk0, .inr (7, [.ref tx1, .int ln_480, .int ap_483, .ref (ad kd_486), .int sa_487, .long wd_488, .int nu_489]))]] : List va_W) ++ ([[(h0, .inr (3, [.ref tk0, .ref rp0, .int fk_478, .int fp_479]))], [(tx1, .inl (cB, 1600, .inl f2))], w3] : List va_W)) ([[(h0, .inr (3, [.ref tk0, .ref rp0, .int fk_478, .int fp_479]))], [(tk0, .inr (7, [.ref tx1, .int ln_480, .int ap_483, .ref (ad kd_486), .int sa_487, .long wd_488, .int nu_489]))], [(tx1, .inl (cB, 1600, .inl f2))], w3] : List va_W) := pm_n 4 [1, 0, 2, 3] (by decide) rfl rfl
          have hP := bk_reP hpm2 hP
          have hD := bk_reD hpm2 hD
          have hP : va_P (dC, dI) vwCl (List.flatten [[(h0, .inr (3, [.ref tk0, .ref rp0, .int fk_478, .int fp_479]))], [(tk0, .inr (7, [.ref tx1, .int ln_480, .int ap_483, .ref (ad kd_486), .int sa_487, .long wd_488, .int nu_489]))], [(tx1, .inl (cB, 1600, .inl f2))], w3]) H := hP
          have hD : va_D A (List.flatten [[(h0, .inr (3, [.ref tk0, .ref rp0, .int fk_478, .int fp_479]))], [(tk0, .inr (7, [.ref tx1, .int ln_480, .int ap_483, .ref (ad kd_486), .int sa_487, .long wd_488, .int nu_489]))], [(tx1, .inl (cB, 1600, .inl f2))], w3]) := hD
          obtain ⟨hlr_490, hhr_490⟩ := hw
          refine lv_if_eq (tgt := 33) hx hb dX4_takeHeld_28 (by decide) (fun c_491 => ?_) (fun c_491 => ?_)
          · have c_491 : r_490.toInt = 0 := f_eq rfl tI_0 c_491
            refine lv_aload_n hx hb dX4_takeHeld_33 rfl (lv_at hl 3 rfl) ?_
            refine lv_iload_n hx hb dX4_takeHeld_34 rfl (lv_at hl 1 rfl) ?_
            have hpm : List.Perm ([[(h0, .inr (3, [.ref tk0, .ref rp0, .int fk_478, .int fp_479]))], [(tk0, .inr (7, [.ref tx1, .int ln_480, .int ap_483, .ref (ad kd_486), .int sa_487, .long wd_488, .int nu_489]))], [(tx1, .inl (cB, 1600, .inl f2))], w3] : List va_W) (([[(h0, .inr (3, [.ref tk0, .ref rp0, .int fk_478, .int fp_479]))], [(tk0, .inr (7, [.ref tx1, .int ln_480, .int ap_483, .ref (ad kd_486), .int sa_487, .long wd_488, .int nu_489]))], [(tx1, .inl (cB, 1600, .inl f2))], w3] : List va_W) ++ ([] : List va_W)) := pm_n 4 [0, 1, 2, 3] (by decide) rfl rfl
            have hPc := bk_P hpm hP
            have hDc := bk_D hpm hD
            have hFc := bk_F hpm hD hS hA
            refine va_calli (va_runV (As := [.int g_2]) (rest := []) ⟨hx, hb, hml, hown, hts⟩ (c_X4_floorBelow l dC dI ad tN fN cB cI cJ cZ h0 g_2 r0 tk0 rp0 _ r1 tx1 _ _ r3 fc3 dc3 rk3 _ ⟨fk_478, fp_479, rfl⟩ ⟨ln_480, ap_483, kd_486, sa_487, wd_488, nu_489, rfl, by omega, by omega, by omega, by omega⟩ o3 H.size) (cwV 1 hts gX4_takeHeld_X4_floorBelow rfl rfl rfl (by decide +kernel) ⟨(Nat.le_of_ble_eq_true rfl), (Nat.le_of_ble_eq_true rfl)⟩) ⟨fun a U g mk q => by obtain ⟨q0, q1, qP, qK, qD, qE⟩ := q; exact ⟨q0, q1, qP, va_K.moved (u := U) (U := U.calling g mk a) (Vm.Alike.refl U.vm) qK, qD, ey_blind qE⟩, va_recv hK hPc (ci := 3) (q0 := 0) rfl rfl, fun U hU hW => ⟨rfl, by rw [hU], by rw [hU]; exact hPc, va_K.moved hW.alike hK, hDc.weaken (fun _ _ _ _ => trivial), ey_call hE hS hFc hU hW⟩⟩ rfl rfl hl.1 rfl (lv_room (Nat.le_of_ble_eq_true rfl)) dX4_takeHeld_35 ⟨(Nat.le_of_ble_eq_true rfl), (Nat.le_of_ble_eq_true rfl)⟩) hS (fun q _ h => hFc q h) hFc (fun r_492 u t H locs ht hvm hw hB hz1 hk1 hS => ?_)
            obtain ⟨w_493, o_494, hP1, hD1⟩ := hB
            rw [ht] at hP1
            obtain ⟨hP, hD⟩ := bk_join hpm hP hD hk1 hFc (Cs1 := [w_493, [(tk0, .inr (7, [.ref tx1, .int ln_480, .int ap_483, .ref (ad kd_486), .int sa_487, .long wd_488, .int nu_489]))], [(tx1, .inl (cB, 1600, .inl f2))], w3]) hP1 hD1
            have hpm2 : List.Perm (([w_493, [(tk0, .inr (7, [.ref tx1, .int ln_480, .int ap_483, .ref (ad kd_486), .int sa_487, .long wd_488, .int nu_489]))], [(tx1, .inl (cB, 1600, .inl f2))], w3] : List va_W) ++ ([] : List va_W)) ([w_493, [(tk0, .inr (7, [.ref tx1, .int ln_480, .int ap_483, .ref (ad kd_486), .int sa_487, .long wd_488, .int nu_489]))], [(tx1, .inl (cB, 1600, .inl f2))], w3] : List va_W) := pm_n 4 [0, 1, 2, 3] (by decide) rfl rfl
            have hP := bk_reP hpm2 hP
            have hD := bk_reD hpm2 hD
            have hP : va_P (dC, dI) vwCl (List.flatten [w_493, [(tk0, .inr (7, [.ref tx1, .int ln_480, .int ap_483, .ref (ad kd_486), .int sa_487, .long wd_488, .int nu_489]))], [(tx1, .inl (cB, 1600, .inl f2))], w3]) H := hP
            have hD : va_D A (List.flatten [w_493, [(tk0, .inr (7, [.ref tx1, .int ln_480, .int ap_483, .ref (ad kd_486), .int sa_487, .long wd_488, .int nu_489]))], [(tx1, .inl (cB, 1600, .inl f2))], w3]) := hD
            obtain ⟨hlr_492, hhr_492⟩ := hw
            refine lv_istore_n (lv' := [(3, .int r_492), (4, .int g_1), (2, .int g_3), (0, .ref h0), (1, .int p1)]) hx hb dX4_takeHeld_38 rfl hl (by decide) rfl (fun ls hl => ?_)
            refine lv_iload_n hx hb dX4_takeHeld_39 rfl (lv_at hl 0 rfl) ?_
            refine lv_if_ge (tgt := 46) hx hb dX4_takeHeld_40 (by decide) (fun c_495 => ?_) (fun c_495 => ?_)
            · have c_495 : 0 ≤ r_492.toInt := f_le tI_0 rfl c_495
              refine lv_iload_n hx hb dX4_takeHeld_46 rfl (lv_at hl 2 rfl) ?_
              refine lv_iconst (v := 1) hx hb dX4_takeHeld_47 (by decide) ?_
              refine lv_iload_n hx hb dX4_takeHeld_48 rfl (lv_at hl 0 rfl) ?_
              refine lv_ishl hx hb dX4_takeHeld_49 ?_
              refine lv_topi (fun z_496 ez_496 => ?_)
              have hz_496 := t_shl1 (by omega) (by omega) ez_496
              have h1z_496 := hz_496.1
              have h2z_496 := hz_496.2
              refine lv_ior hx hb dX4_takeHeld_50 ?_
              refine lv_topi (fun z_497 ez_497 => ?_)
              refine lv_istore_n (lv' := [(2, .int z_497), (3, .int r_492), (4, .int g_1), (0, .ref h0), (1, .int p1)]) hx hb dX4_takeHeld_51 rfl hl (by decide) rfl (fun ls hl => ?_)
              refine lv_aload_n hx hb dX4_takeHeld_52 rfl (lv_at hl 3 rfl) ?_
              obtain ⟨fk_498, fp_499, rfl⟩ := o_494
              refine va_get (D := (dC, dI)) (ci := 3) (v := .ref tk0) (C := RX4) (T := TX4) (N := 4) hx hb hts iw_X4_takeHeld_X4 hown hK hP 0 rfl rfl 0 (by decide) (hts (.fieldLink RX4 12 "HungFloors$HouseReader" "tokens" "LHungFloors$Tokens;") (by decide +kernel)) (fun _ h9 => h9) rfl dX4_takeHeld_53 ?_
              have hpm : List.Perm ([[(h0, .inr (3, [.ref tk0, .ref rp0, .int fk_498, .int fp_499]))], [(tk0, .inr (7, [.ref tx1, .int ln_480, .int ap_483, .ref (ad kd_486), .int sa_487, .long wd_488, .int nu_489]))], [(tx1, .inl (cB, 1600, .inl f2))], w3] : List va_W) (([[(tk0, .inr (7, [.ref tx1, .int ln_480, .int ap_483, .ref (ad kd_486), .int sa_487, .long wd_488, .int nu_489]))], [(tx1, .inl (cB, 1600, .inl f2))]] : List va_W) ++ ([[(h0, .inr (3, [.ref tk0, .ref rp0, .int fk_498, .int fp_499]))], w3] : List va_W)) := pm_n 4 [1, 2, 0, 3] (by decide) rfl rfl
              have hPc := bk_P hpm hP
              have hDc := bk_D hpm hD
              have hFc := bk_F hpm hD hS hA
              refine va_callv (va_runV (As := []) (rest := []) ⟨hx, hb, hml, hown, hts⟩ (c_X9_advance l dC dI ad tN fN cB cI cJ cZ tk0 r1 tx1 _ _ ⟨ln_480, ap_483, kd_486, sa_487, wd_488, nu_489, rfl, by omega, by omega, by omega, by omega⟩ H.size) (cwV 0 hts gX4_takeHeld_X9_advance rfl rfl rfl (by decide +kernel) ⟨(Nat.le_of_ble_eq_true rfl), (Nat.le_of_ble_eq_true rfl)⟩) ⟨fun a U g mk q => by obtain ⟨q0, q1, qP, qK, qD, qE⟩ := q; exact ⟨q0, q1, qP, va_K.moved (u := U) (U := U.calling g mk a) (Vm.Alike.refl U.vm) qK, qD, ey_blind qE⟩, va_recv hK hPc (ci := 7) (q0 := 0) rfl rfl, fun U hU hW => ⟨rfl, by rw [hU], by rw [hU]; exact hPc, va_K.moved hW.alike hK, hDc.weaken (fun _ _ _ _ => trivial), ey_call hE hS hFc hU hW⟩⟩ rfl rfl hl.1 rfl (lv_room (Nat.le_of_ble_eq_true rfl)) dX4_takeHeld_56 ⟨(Nat.le_of_ble_eq_true rfl), (Nat.le_of_ble_eq_true rfl)⟩) hS (fun q _ h => hFc q h) hFc (fun u t H locs ht hvm hw hB hz1 hk1 hS => ?_)
              obtain ⟨w_501, o_502, hP1, hD1⟩ := hB
              rw [ht] at hP1
              obtain ⟨hP, hD⟩ := bk_join hpm hP hD hk1 hFc (Cs1 := [w_501, [(tx1, .inl (cB, 1600, .inl f2))]]) hP1 hD1
              have hpm2 : List.Perm (([w_501, [(tx1, .inl (cB, 1600, .inl f2))]] : List va_W) ++ ([[(h0, .inr (3, [.ref tk0, .ref rp0, .int fk_498, .int fp_499]))], w3] : List va_W)) ([[(h0, .inr (3, [.ref tk0, .ref rp0, .int fk_498, .int fp_499]))], w_501, [(tx1, .inl (cB, 1600, .inl f2))], w3] : List va_W) := pm_n 4 [2, 0, 1, 3] (by decide) rfl rfl
              have hP := bk_reP hpm2 hP
              have hD := bk_reD hpm2 hD
              have hP : va_P (dC, dI) vwCl (List.flatten [[(h0, .inr (3, [.ref tk0, .ref rp0, .int fk_498, .int fp_499]))], w_501, [(tx1, .inl (cB, 1600, .inl f2))], w3]) H := hP
              have hD : va_D A (List.flatten [[(h0, .inr (3, [.ref tk0, .ref rp0, .int fk_498, .int fp_499]))], w_501, [(tx1, .inl (cB, 1600, .inl f2))], w3]) := hD
              obtain ⟨z_503, ez_503⟩ : ∃ y : Int32, y = g_1 + 1 := ⟨_, rfl⟩
              have hz_503 : z_503.toInt = g_1.toInt + 1 := by rw [ez_503]; exact t_add rfl tI_1 (by omega) (by omega)
              refine lv_iinc (v := z_503) (lv' := [(4, .int z_503), (2, .int z_497), (3, .int r_492), (0, .ref h0), (1, .int p1)]) hx hb dX4_takeHeld_59 hl (k := 2) rfl (by rw [ez_503]; rfl) (by decide) rfl (fun ls hl => ?_)
              refine lv_goto (tgt := 7) hx hb dX4_takeHeld_62 (by decide) ?_
              exact ih_451 z_503 r_492 z_497 _ _ ⟨fk_498, fp_499, rfl⟩ o_502 (by omega) (by omega) (by omega) _ _ hP hD hS ls (lv_sub hl [0, 2, 1, 3, 4] rfl)
            · have c_495 : r_492.toInt < 0 := f_nle tI_0 rfl c_495
              refine lv_bipush (v := (-2)) hx hb dX4_takeHeld_43 (by decide) ?_
              rw [hQ0]
              exact W.iret (v := (-2)) hx hb hr (fun t ht hW => ⟨⟨(-2), (), rfl, trivial, ⟨_, _, o_494, ⟨ln_480, ap_483, kd_486, sa_487, wd_488, nu_489, rfl, by omega, by omega, by omega, by omega⟩, by rw [ht]; exact hP, hD⟩⟩, hS.F ht⟩) hS.2.2 dX4_takeHeld_45
          · have c_491 : ¬ r_490.toInt = 0 := f_ne rfl tI_0 c_491
            refine lv_iload_n hx hb dX4_takeHeld_31 rfl (lv_at hl 2 rfl) ?_
            rw [hQ0]
            exact W.iret (v := g_3) hx hb hr (fun t ht hW => ⟨⟨g_3, (), rfl, trivial, ⟨_, _, ⟨fk_478, fp_479, rfl⟩, ⟨ln_480, ap_483, kd_486, sa_487, wd_488, nu_489, rfl, by omega, by omega, by omega, by omega⟩, by rw [ht]; exact hP, hD⟩⟩, hS.F ht⟩) hS.2.2 dX4_takeHeld_32
  exact lp_450 _ 0 p1 0 _ _ ⟨fk_30, fp_31, rfl⟩ ⟨ln_32, ap_35, kd_38, sa_39, wd_40, nu_41, rfl, by omega, by omega, by omega, by omega⟩ (by have := tI_0; omega) (by have := tI_0; omega) (Nat.lt_succ_self _) _ _ hP hD hS ls (lv_sub hl [0, 1, 2, 3, 4] rfl)
theorem iw_X4_takeFrom_X4 : ∀ w ∈ wsX40, w ∈ wsX4_takeFrom := fun _ h => List.mem_cons_of_mem _ (List.mem_append_left _ (List.mem_append_left _ (List.mem_append_right _ h)))
set_option maxHeartbeats 4000000 in
set_option maxRecDepth 100000 in
theorem c_X4_takeFrom (l : Launch) (dC : Nat → ClassId) (dI : Nat → Nat → Nat) (ad : Nat → Nat) (tN : Nat) (fN : Nat → Int64) (cB cI cJ cZ : ClassId) (h0 : Nat) (r0 : Nat → Nat) (tk0 : Nat) (rp0 : Nat) (w0 : va_W) (r1 : Nat → Nat) (tx1 : Nat) (w1 : va_W) (f2 : Nat → Int32) (r3 : Nat → Nat) (fc3 : Int32) (dc3 : Int32) (rk3 : Nat → Int32) (w3 : va_W) (o0 : ok_read ad cB cI cJ cZ h0 r0 tk0 rp0 w0) (o1 : ok_tok ad cB cI cJ cZ tk0 r1 tx1 w1) (o3 : ok_plan ad cB cI cJ cZ rp0 r3 fc3 dc3 rk3 w3) (sz : Nat) : Met l yX4_takeFrom wsX4_takeFrom ({ frames := 3, cells := 0, slots := 0, locals := 69 } : Room) (va_Pc [.ref h0] (fun U => U.heap.size = sz ∧ va_P (dC, dI) vwCl (List.flatten [w0, w1, [(tx1, .inl (cB, 1600, .inl f2))], w3]) U.heap ∧ va_K (dC, dI) vwCl [(cB, .byte), (cI, .int), (cJ, .long), (cZ, .boolean)] U ∧ va_D (fun _ => True) (List.flatten [w0, w1, [(tx1, .inl (cB, 1600, .inl f2))], w3]) ∧ ex_Y ad tN fN (va_A (List.flatten [w0, w1, [(tx1, .inl (cB, 1600, .inl f2))], w3]) sz) U)) (va_Qi (fun (r : Int32) (_ : Unit) => -2 ≤ r.toInt ∧ r.toInt ≤ 5) (fun (_ : Unit) (t : State) => ∃ (w09 : va_W) (w19 : va_W), ok_read ad cB cI cJ cZ h0 r0 tk0 rp0 w09 ∧ ok_tok ad cB cI cJ cZ tk0 r1 tx1 w19 ∧ va_P (dC, dI) vwCl (List.flatten [w09, w19, [(tx1, .inl (cB, 1600, .inl f2))], w3]) t.heap ∧ va_D (va_A (List.flatten [w0, w1, [(tx1, .inl (cB, 1600, .inl f2))], w3]) sz) (List.flatten [w09, w19, [(tx1, .inl (cB, 1600, .inl f2))], w3])) (va_A (List.flatten [w0, w1, [(tx1, .inl (cB, 1600, .inl f2))], w3]) sz)) 0 0 (va_A (List.flatten [w0, w1, [(tx1, .inl (cB, 1600, .inl f2))], w3]) sz) := by
  refine Met.ofW (cc := cX4_takeFrom) (maxL := 2) (ret := (some .int)) (by decide) rfl ?_
  intro p e s m args below meth c s₁ B hml hv
  obtain ⟨rfl, hsz, hP, hK, hD0, hE⟩ := hv
  have hx := B.exec
  have hb := B.bytes
  have hr := B.returns
  have hts := atoms_spec (ws := wsX4_takeFrom) B.pre
  have hown : s.vm.findClass RX4 = some m.cls := findClass_of_methodNamed B.named
  have hlocks := B.notSynchronized
  subst hsz
  have hD := hD0.self (sz := s.heap.size)
  generalize hAe : va_A (List.flatten [w0, w1, [(tx1, .inl (cB, 1600, .inl f2))], w3]) s.heap.size = A at hD hE ⊢
  have hA : ∀ q : Nat, s.heap.size ≤ q → A q := fun q h => by rw [← hAe]; exact Or.inr h
  have hS : va_S A s.heap s.heap [] := va_S.rf
  have hl := lv_entry ([.ref h0]) (n := 2) (Nat.le_of_ble_eq_true rfl)
  rw [lg_entry_eq]
  generalize (lg_sl ([.ref h0]) ++ List.replicate (2 - (lg_sl ([.ref h0])).length) Slot.unset).toArray = ls at hl ⊢
  have hl : lv_has ls 2 [(0, .ref h0)] := hl
  clear hAe
  refine W_name (fun Q0 hQ0 => ?_)
  refine lv_iconst (v := (-1)) hx hb dX4_takeFrom_0 (by decide) ?_
  refine lv_istore_n (lv' := [(1, .int (-1)), (0, .ref h0)]) hx hb dX4_takeFrom_1 rfl hl (by decide) rfl (fun ls hl => ?_)
  refine lv_aload_n hx hb dX4_takeFrom_2 rfl (lv_at hl 1 rfl) ?_
  obtain ⟨fk_1, fp_2, rfl⟩ := o0
  refine va_get (D := (dC, dI)) (ci := 3) (v := .ref tk0) (C := RX4) (T := TX4) (N := 4) hx hb hts iw_X4_takeFrom_X4 hown hK hP 0 rfl rfl 0 (by decide) (hts (.fieldLink RX4 12 "HungFloors$HouseReader" "tokens" "LHungFloors$Tokens;") (by decide +kernel)) (fun _ h9 => h9) rfl dX4_takeFrom_3 ?_
  refine lv_ldc2 hx hb hown (hts (.constantLong RX4 147 (1919905638)) (by decide +kernel)) dX4_takeFrom_6 ?_
  obtain ⟨ln_3, ap_6, kd_9, sa_10, wd_11, nu_12, rfl, hl_4, hh_5, hl_7, hh_8⟩ := o1
  have hpm : List.Perm ([[(h0, .inr (3, [.ref tk0, .ref rp0, .int fk_1, .int fp_2]))], [(tk0, .inr (7, [.ref tx1, .int ln_3, .int ap_6, .ref (ad kd_9), .int sa_10, .long wd_11, .int nu_12]))], [(tx1, .inl (cB, 1600, .inl f2))], w3] : List va_W) (([[(tk0, .inr (7, [.ref tx1, .int ln_3, .int ap_6, .ref (ad kd_9), .int sa_10, .long wd_11, .int nu_12]))]] : List va_W) ++ ([[(h0, .inr (3, [.ref tk0, .ref rp0, .int fk_1, .int fp_2]))], [(tx1, .inl (cB, 1600, .inl f2))], w3] : List va_W)) := pm_n 4 [1, 0, 2, 3] (by decide) rfl rfl
  have hPc := bk_P hpm hP
  have hDc := bk_D hpm hD
  have hFc := bk_F hpm hD hS hA
  refine va_calli (va_runV (As := [.long 1919905638]) (rest := []) ⟨hx, hb, hml, hown, hts⟩ (c_X9_isWord l dC dI ad tN fN cB cI cJ cZ tk0 1919905638 r1 tx1 _ ⟨ln_3, ap_6, kd_9, sa_10, wd_11, nu_12, rfl, by omega, by omega, by omega, by omega⟩ s.heap.size) (cwV 1 hts gX4_takeFrom_X9_isWord rfl rfl rfl (by decide +kernel) ⟨(Nat.le_of_ble_eq_true rfl), (Nat.le_of_ble_eq_true rfl)⟩) ⟨fun a U g mk q => by obtain ⟨q0, q1, qP, qK, qD, qE⟩ := q; exact ⟨q0, q1, qP, va_K.moved (u := U) (U := U.calling g mk a) (Vm.Alike.refl U.vm) qK, qD, ey_blind qE⟩, va_recv hK hPc (ci := 7) (q0 := 0) rfl rfl, fun U hU hW => ⟨rfl, by rw [hU], by rw [hU]; exact hPc, va_K.moved hW.alike hK, hDc.weaken (fun _ _ _ _ => trivial), ey_call hE hS hFc hU hW⟩⟩ rfl rfl hl.1 rfl (lv_room (Nat.le_of_ble_eq_true rfl)) dX4_takeFrom_9 ⟨(Nat.le_of_ble_eq_true rfl), (Nat.le_of_ble_eq_true rfl)⟩) hS (fun q _ h => hFc q h) hFc (fun r_13 u t H locs ht hvm hw hB hz1 hk1 hS => ?_)
  obtain ⟨hP1, hD1⟩ := hB
  rw [ht] at hP1
  obtain ⟨hP, hD⟩ := bk_join hpm hP hD hk1 hFc (Cs1 := [[(tk0, .inr (7, [.ref tx1, .int ln_3, .int ap_6, .ref (ad kd_9), .int sa_10, .long wd_11, .int nu_12]))]]) hP1 hD1
  have hpm2 : List.Perm (([[(tk0, .inr (7, [.ref tx1, .int ln_3, .int ap_6, .ref (ad kd_9), .int sa_10, .long wd_11, .int nu_12]))]] : List va_W) ++ ([[(h0, .inr (3, [.ref tk0, .ref rp0, .int fk_1, .int fp_2]))], [(tx1, .inl (cB, 1600, .inl f2))], w3] : List va_W)) ([[(h0, .inr (3, [.ref tk0, .ref rp0, .int fk_1, .int fp_2]))], [(tk0, .inr (7, [.ref tx1, .int ln_3, .int ap_6, .ref (ad kd_9), .int sa_10, .long wd_11, .int nu_12]))], [(tx1, .inl (cB, 1600, .inl f2))], w3] : List va_W) := pm_n 4 [1, 0, 2, 3] (by decide) rfl rfl
  have hP := bk_reP hpm2 hP
  have hD := bk_reD hpm2 hD
  have hP : va_P (dC, dI) vwCl (List.flatten [[(h0, .inr (3, [.ref tk0, .ref rp0, .int fk_1, .int fp_2]))], [(tk0, .inr (7, [.ref tx1, .int ln_3, .int ap_6, .ref (ad kd_9), .int sa_10, .long wd_11, .int nu_12]))], [(tx1, .inl (cB, 1600, .inl f2))], w3]) H := hP
  have hD : va_D A (List.flatten [[(h0, .inr (3, [.ref tk0, .ref rp0, .int fk_1, .int fp_2]))], [(tk0, .inr (7, [.ref tx1, .int ln_3, .int ap_6, .ref (ad kd_9), .int sa_10, .long wd_11, .int nu_12]))], [(tx1, .inl (cB, 1600, .inl f2))], w3]) := hD
  obtain ⟨hlr_13, hhr_13⟩ := hw
  refine lv_if_ne (tgt := 21) hx hb dX4_takeFrom_12 (by decide) (fun c_14 => ?_) (fun c_14 => ?_)
  · have c_14 : ¬ r_13.toInt = 0 := f_ne rfl tI_0 c_14
    refine lv_iload_n hx hb dX4_takeFrom_21 rfl (lv_at hl 0 rfl) ?_
    refine lv_bipush (v := (-2)) hx hb dX4_takeFrom_22 (by decide) ?_
    refine lv_icmp_eq (tgt := 34) hx hb dX4_takeFrom_24 (by decide) (fun c_15 => absurd c_15 (by decide)) (fun c_15 => ?_)
    refine lv_aload_n hx hb dX4_takeFrom_27 rfl (lv_at hl 1 rfl) ?_
    refine va_get (D := (dC, dI)) (ci := 3) (v := .ref tk0) (C := RX4) (T := TX4) (N := 4) hx hb hts iw_X4_takeFrom_X4 hown hK hP 0 rfl rfl 0 (by decide) (hts (.fieldLink RX4 12 "HungFloors$HouseReader" "tokens" "LHungFloors$Tokens;") (by decide +kernel)) (fun _ h9 => h9) rfl dX4_takeFrom_28 ?_
    have hpm : List.Perm ([[(h0, .inr (3, [.ref tk0, .ref rp0, .int fk_1, .int fp_2]))], [(tk0, .inr (7, [.ref tx1, .int ln_3, .int ap_6, .ref (ad kd_9), .int sa_10, .long wd_11, .int nu_12]))], [(tx1, .inl (cB, 1600, .inl f2))], w3] : List va_W) (([[(tk0, .inr (7, [.ref tx1, .int ln_3, .int ap_6, .ref (ad kd_9), .int sa_10, .long wd_11, .int nu_12]))], [(tx1, .inl (cB, 1600, .inl f2))]] : List va_W) ++ ([[(h0, .inr (3, [.ref tk0, .ref rp0, .int fk_1, .int fp_2]))], w3] : List va_W)) := pm_n 4 [1, 2, 0, 3] (by decide) rfl rfl
    have hPc := bk_P hpm hP
    have hDc := bk_D hpm hD
    have hFc := bk_F hpm hD hS hA
    refine va_callv (va_runV (As := []) (rest := []) ⟨hx, hb, hml, hown, hts⟩ (c_X9_advance l dC dI ad tN fN cB cI cJ cZ tk0 r1 tx1 _ _ ⟨ln_3, ap_6, kd_9, sa_10, wd_11, nu_12, rfl, by omega, by omega, by omega, by omega⟩ H.size) (cwV 0 hts gX4_takeFrom_X9_advance rfl rfl rfl (by decide +kernel) ⟨(Nat.le_of_ble_eq_true rfl), (Nat.le_of_ble_eq_true rfl)⟩) ⟨fun a U g mk q => by obtain ⟨q0, q1, qP, qK, qD, qE⟩ := q; exact ⟨q0, q1, qP, va_K.moved (u := U) (U := U.calling g mk a) (Vm.Alike.refl U.vm) qK, qD, ey_blind qE⟩, va_recv hK hPc (ci := 7) (q0 := 0) rfl rfl, fun U hU hW => ⟨rfl, by rw [hU], by rw [hU]; exact hPc, va_K.moved hW.alike hK, hDc.weaken (fun _ _ _ _ => trivial), ey_call hE hS hFc hU hW⟩⟩ rfl rfl hl.1 rfl (lv_room (Nat.le_of_ble_eq_true rfl)) dX4_takeFrom_31 ⟨(Nat.le_of_ble_eq_true rfl), (Nat.le_of_ble_eq_true rfl)⟩) hS (fun q _ h => hFc q h) hFc (fun u t H locs ht hvm hw hB hz1 hk1 hS => ?_)
    obtain ⟨w_17, o_18, hP1, hD1⟩ := hB
    rw [ht] at hP1
    obtain ⟨hP, hD⟩ := bk_join hpm hP hD hk1 hFc (Cs1 := [w_17, [(tx1, .inl (cB, 1600, .inl f2))]]) hP1 hD1
    have hpm2 : List.Perm (([w_17, [(tx1, .inl (cB, 1600, .inl f2))]] : List va_W) ++ ([[(h0, .inr (3, [.ref tk0, .ref rp0, .int fk_1, .int fp_2]))], w3] : List va_W)) ([[(h0, .inr (3, [.ref tk0, .ref rp0, .int fk_1, .int fp_2]))], w_17, [(tx1, .inl (cB, 1600, .inl f2))], w3] : List va_W) := pm_n 4 [2, 0, 1, 3] (by decide) rfl rfl
    have hP := bk_reP hpm2 hP
    have hD := bk_reD hpm2 hD
    have hP : va_P (dC, dI) vwCl (List.flatten [[(h0, .inr (3, [.ref tk0, .ref rp0, .int fk_1, .int fp_2]))], w_17, [(tx1, .inl (cB, 1600, .inl f2))], w3]) H := hP
    have hD : va_D A (List.flatten [[(h0, .inr (3, [.ref tk0, .ref rp0, .int fk_1, .int fp_2]))], w_17, [(tx1, .inl (cB, 1600, .inl f2))], w3]) := hD
    refine lv_iload_n hx hb dX4_takeFrom_34 rfl (lv_at hl 0 rfl) ?_
    rw [hQ0]
    exact W.iret (v := (-1)) hx hb hr (fun t ht hW => ⟨⟨(-1), (), rfl, ⟨by decide, by decide⟩, ⟨_, _, ⟨fk_1, fp_2, rfl⟩, o_18, by rw [ht]; exact hP, hD⟩⟩, hS.F ht⟩) hS.2.2 dX4_takeFrom_35
  · have c_14 : r_13.toInt = 0 := f_eq rfl tI_0 c_14
    refine lv_aload_n hx hb dX4_takeFrom_15 rfl (lv_at hl 1 rfl) ?_
    refine lv_iconst (v := (-1)) hx hb dX4_takeFrom_16 (by decide) ?_
    have hpm : List.Perm ([[(h0, .inr (3, [.ref tk0, .ref rp0, .int fk_1, .int fp_2]))], [(tk0, .inr (7, [.ref tx1, .int ln_3, .int ap_6, .ref (ad kd_9), .int sa_10, .long wd_11, .int nu_12]))], [(tx1, .inl (cB, 1600, .inl f2))], w3] : List va_W) (([[(h0, .inr (3, [.ref tk0, .ref rp0, .int fk_1, .int fp_2]))], [(tk0, .inr (7, [.ref tx1, .int ln_3, .int ap_6, .ref (ad kd_9), .int sa_10, .long wd_11, .int nu_12]))], [(tx1, .inl (cB, 1600, .inl f2))], w3] : List va_W) ++ ([] : List va_W)) := pm_n 4 [0, 1, 2, 3] (by decide) rfl rfl
    have hPc := bk_P hpm hP
    have hDc := bk_D hpm hD
    have hFc := bk_F hpm hD hS hA
    refine va_calli (va_runV (As := [.int (-1)]) (rest := []) ⟨hx, hb, hml, hown, hts⟩ (c_X4_floorBelow l dC dI ad tN fN cB cI cJ cZ h0 (-1) r0 tk0 rp0 _ r1 tx1 _ _ r3 fc3 dc3 rk3 _ ⟨fk_1, fp_2, rfl⟩ ⟨ln_3, ap_6, kd_9, sa_10, wd_11, nu_12, rfl, by omega, by omega, by omega, by omega⟩ o3 H.size) (cwV 1 hts gX4_takeFrom_X4_floorBelow rfl rfl rfl (by decide +kernel) ⟨(Nat.le_of_ble_eq_true rfl), (Nat.le_of_ble_eq_true rfl)⟩) ⟨fun a U g mk q => by obtain ⟨q0, q1, qP, qK, qD, qE⟩ := q; exact ⟨q0, q1, qP, va_K.moved (u := U) (U := U.calling g mk a) (Vm.Alike.refl U.vm) qK, qD, ey_blind qE⟩, va_recv hK hPc (ci := 3) (q0 := 0) rfl rfl, fun U hU hW => ⟨rfl, by rw [hU], by rw [hU]; exact hPc, va_K.moved hW.alike hK, hDc.weaken (fun _ _ _ _ => trivial), ey_call hE hS hFc hU hW⟩⟩ rfl rfl hl.1 rfl (lv_room (Nat.le_of_ble_eq_true rfl)) dX4_takeFrom_17 ⟨(Nat.le_of_ble_eq_true rfl), (Nat.le_of_ble_eq_true rfl)⟩) hS (fun q _ h => hFc q h) hFc (fun r_19 u t H locs ht hvm hw hB hz1 hk1 hS => ?_)
    obtain ⟨w_20, o_21, hP1, hD1⟩ := hB
    rw [ht] at hP1
    obtain ⟨hP, hD⟩ := bk_join hpm hP hD hk1 hFc (Cs1 := [w_20, [(tk0, .inr (7, [.ref tx1, .int ln_3, .int ap_6, .ref (ad kd_9), .int sa_10, .long wd_11, .int nu_12]))], [(tx1, .inl (cB, 1600, .inl f2))], w3]) hP1 hD1
    have hpm2 : List.Perm (([w_20, [(tk0, .inr (7, [.ref tx1, .int ln_3, .int ap_6, .ref (ad kd_9), .int sa_10, .long wd_11, .int nu_12]))], [(tx1, .inl (cB, 1600, .inl f2))], w3] : List va_W) ++ ([] : List va_W)) ([w_20, [(tk0, .inr (7, [.ref tx1, .int ln_3, .int ap_6, .ref (ad kd_9), .int sa_10, .long wd_11, .int nu_12]))], [(tx1, .inl (cB, 1600, .inl f2))], w3] : List va_W) := pm_n 4 [0, 1, 2, 3] (by decide) rfl rfl
    have hP := bk_reP hpm2 hP
    have hD := bk_reD hpm2 hD
    have hP : va_P (dC, dI) vwCl (List.flatten [w_20, [(tk0, .inr (7, [.ref tx1, .int ln_3, .int ap_6, .ref (ad kd_9), .int sa_10, .long wd_11, .int nu_12]))], [(tx1, .inl (cB, 1600, .inl f2))], w3]) H := hP
    have hD : va_D A (List.flatten [w_20, [(tk0, .inr (7, [.ref tx1, .int ln_3, .int ap_6, .ref (ad kd_9), .int sa_10, .long wd_11, .int nu_12]))], [(tx1, .inl (cB, 1600, .inl f2))], w3]) := hD
    obtain ⟨hlr_19, hhr_19⟩ := hw
    refine lv_istore_n (lv' := [(1, .int r_19), (0, .ref h0)]) hx hb dX4_takeFrom_20 rfl hl (by decide) rfl (fun ls hl => ?_)
    refine lv_iload_n hx hb dX4_takeFrom_21 rfl (lv_at hl 0 rfl) ?_
    refine lv_bipush (v := (-2)) hx hb dX4_takeFrom_22 (by decide) ?_
    refine lv_icmp_eq (tgt := 34) hx hb dX4_takeFrom_24 (by decide) (fun c_22 => ?_) (fun c_22 => ?_)
    · have c_22 : r_19.toInt = -2 := f_eq rfl tI_m2 c_22
      refine lv_iload_n hx hb dX4_takeFrom_34 rfl (lv_at hl 0 rfl) ?_
      rw [hQ0]
      exact W.iret (v := r_19) hx hb hr (fun t ht hW => ⟨⟨r_19, (), rfl, ⟨by omega, by omega⟩, ⟨_, _, o_21, ⟨ln_3, ap_6, kd_9, sa_10, wd_11, nu_12, rfl, by omega, by omega, by omega, by omega⟩, by rw [ht]; exact hP, hD⟩⟩, hS.F ht⟩) hS.2.2 dX4_takeFrom_35
    · have c_22 : ¬ r_19.toInt = -2 := f_ne rfl tI_m2 c_22
      refine lv_aload_n hx hb dX4_takeFrom_27 rfl (lv_at hl 1 rfl) ?_
      obtain ⟨fk_23, fp_24, rfl⟩ := o_21
      refine va_get (D := (dC, dI)) (ci := 3) (v := .ref tk0) (C := RX4) (T := TX4) (N := 4) hx hb hts iw_X4_takeFrom_X4 hown hK hP 0 rfl rfl 0 (by decide) (hts (.fieldLink RX4 12 "HungFloors$HouseReader" "tokens" "LHungFloors$Tokens;") (by decide +kernel)) (fun _ h9 => h9) rfl dX4_takeFrom_28 ?_
      have hpm : List.Perm ([[(h0, .inr (3, [.ref tk0, .ref rp0, .int fk_23, .int fp_24]))], [(tk0, .inr (7, [.ref tx1, .int ln_3, .int ap_6, .ref (ad kd_9), .int sa_10, .long wd_11, .int nu_12]))], [(tx1, .inl (cB, 1600, .inl f2))], w3] : List va_W) (([[(tk0, .inr (7, [.ref tx1, .int ln_3, .int ap_6, .ref (ad kd_9), .int sa_10, .long wd_11, .int nu_12]))], [(tx1, .inl (cB, 1600, .inl f2))]] : List va_W) ++ ([[(h0, .inr (3, [.ref tk0, .ref rp0, .int fk_23, .int fp_24]))], w3] : List va_W)) := pm_n 4 [1, 2, 0, 3] (by decide) rfl rfl
      have hPc := bk_P hpm hP
      have hDc := bk_D hpm hD
      have hFc := bk_F hpm hD hS hA
      refine va_callv (va_runV (As := []) (rest := []) ⟨hx, hb, hml, hown, hts⟩ (c_X9_advance l dC dI ad tN fN cB cI cJ cZ tk0 r1 tx1 _ _ ⟨ln_3, ap_6, kd_9, sa_10, wd_11, nu_12, rfl, by omega, by omega, by omega, by omega⟩ H.size) (cwV 0 hts gX4_takeFrom_X9_advance rfl rfl rfl (by decide +kernel) ⟨(Nat.le_of_ble_eq_true rfl), (Nat.le_of_ble_eq_true rfl)⟩) ⟨fun a U g mk q => by obtain ⟨q0, q1, qP, qK, qD, qE⟩ := q; exact ⟨q0, q1, qP, va_K.moved (u := U) (U := U.calling g mk a) (Vm.Alike.refl U.vm) qK, qD, ey_blind qE⟩, va_recv hK hPc (ci := 7) (q0 := 0) rfl rfl, fun U hU hW => ⟨rfl, by rw [hU], by rw [hU]; exact hPc, va_K.moved hW.alike hK, hDc.weaken (fun _ _ _ _ => trivial), ey_call hE hS hFc hU hW⟩⟩ rfl rfl hl.1 rfl (lv_room (Nat.le_of_ble_eq_true rfl)) dX4_takeFrom_31 ⟨(Nat.le_of_ble_eq_true rfl), (Nat.le_of_ble_eq_true rfl)⟩) hS (fun q _ h => hFc q h) hFc (fun u t H locs ht hvm hw hB hz1 hk1 hS => ?_)
      obtain ⟨w_26, o_27, hP1, hD1⟩ := hB
      rw [ht] at hP1
      obtain ⟨hP, hD⟩ := bk_join hpm hP hD hk1 hFc (Cs1 := [w_26, [(tx1, .inl (cB, 1600, .inl f2))]]) hP1 hD1
      have hpm2 : List.Perm (([w_26, [(tx1, .inl (cB, 1600, .inl f2))]] : List va_W) ++ ([[(h0, .inr (3, [.ref tk0, .ref rp0, .int fk_23, .int fp_24]))], w3] : List va_W)) ([[(h0, .inr (3, [.ref tk0, .ref rp0, .int fk_23, .int fp_24]))], w_26, [(tx1, .inl (cB, 1600, .inl f2))], w3] : List va_W) := pm_n 4 [2, 0, 1, 3] (by decide) rfl rfl
      have hP := bk_reP hpm2 hP
      have hD := bk_reD hpm2 hD
      have hP : va_P (dC, dI) vwCl (List.flatten [[(h0, .inr (3, [.ref tk0, .ref rp0, .int fk_23, .int fp_24]))], w_26, [(tx1, .inl (cB, 1600, .inl f2))], w3]) H := hP
      have hD : va_D A (List.flatten [[(h0, .inr (3, [.ref tk0, .ref rp0, .int fk_23, .int fp_24]))], w_26, [(tx1, .inl (cB, 1600, .inl f2))], w3]) := hD
      refine lv_iload_n hx hb dX4_takeFrom_34 rfl (lv_at hl 0 rfl) ?_
      rw [hQ0]
      exact W.iret (v := r_19) hx hb hr (fun t ht hW => ⟨⟨r_19, (), rfl, ⟨by omega, by omega⟩, ⟨_, _, ⟨fk_23, fp_24, rfl⟩, o_27, by rw [ht]; exact hP, hD⟩⟩, hS.F ht⟩) hS.2.2 dX4_takeFrom_35
theorem iw_X4_readRod_X4 : ∀ w ∈ wsX40, w ∈ wsX4_readRod := fun _ h => List.mem_cons_of_mem _ (List.mem_append_left _ (List.mem_append_left _ (List.mem_append_right _ h)))
theorem iw_X4_readRod_X7 : ∀ w ∈ wsX70, w ∈ wsX4_readRod := fun _ h => List.mem_cons_of_mem _ (List.mem_append_left _ (List.mem_append_right _ h))
theorem iw_X4_readRod_X9 : ∀ w ∈ wsX90, w ∈ wsX4_readRod := fun _ h => List.mem_cons_of_mem _ (List.mem_append_right _ h)
set_option maxHeartbeats 4000000 in
set_option maxRecDepth 100000 in
theorem c_X4_readRod (l : Launch) (dC : Nat → ClassId) (dI : Nat → Nat → Nat) (ad : Nat → Nat) (tN : Nat) (fN : Nat → Int64) (cB cI cJ cZ : ClassId) (h0 : Nat) (r0 : Nat → Nat) (tk0 : Nat) (rp0 : Nat) (w0 : va_W) (r1 : Nat → Nat) (tx1 : Nat) (w1 : va_W) (f2 : Nat → Int32) (r3 : Nat → Nat) (fc3 : Int32) (dc3 : Int32) (rk3 : Nat → Int32) (w3 : va_W) (o0 : ok_read ad cB cI cJ cZ h0 r0 tk0 rp0 w0) (o1 : ok_tok ad cB cI cJ cZ tk0 r1 tx1 w1) (o3 : ok_plan ad cB cI cJ cZ rp0 r3 fc3 dc3 rk3 w3) (sz : Nat) (udc31 : 1 ≤ dc3.toInt) (udc32 : dc3.toInt ≤ 4) : Met l yX4_readRod wsX4_readRod ({ frames := 4, cells := 0, slots := 0, locals := 93 } : Room) (va_Pc [.ref h0] (fun U => U.heap.size = sz ∧ va_P (dC, dI) vwCl (List.flatten [w0, w1, [(tx1, .inl (cB, 1600, .inl f2))], w3]) U.heap ∧ va_K (dC, dI) vwCl [(cB, .byte), (cI, .int), (cJ, .long), (cZ, .boolean)] U ∧ va_D (fun _ => True) (List.flatten [w0, w1, [(tx1, .inl (cB, 1600, .inl f2))], w3]) ∧ ex_Y ad tN fN (va_A (List.flatten [w0, w1, [(tx1, .inl (cB, 1600, .inl f2))], w3]) sz) U)) (va_Qi (fun (r : Int32) (_ : Unit) => 0 ≤ r.toInt ∧ r.toInt ≤ 1) (fun (_ : Unit) (t : State) => ∃ (w09 : va_W) (w19 : va_W) (rk39 : Nat → Int32) (w39 : va_W), ok_read ad cB cI cJ cZ h0 r0 tk0 rp0 w09 ∧ ok_tok ad cB cI cJ cZ tk0 r1 tx1 w19 ∧ ok_plan ad cB cI cJ cZ rp0 r3 fc3 dc3 rk39 w39 ∧ va_P (dC, dI) vwCl (List.flatten [w09, w19, [(tx1, .inl (cB, 1600, .inl f2))], w39]) t.heap ∧ va_D (va_A (List.flatten [w0, w1, [(tx1, .inl (cB, 1600, .inl f2))], w3]) sz) (List.flatten [w09, w19, [(tx1, .inl (cB, 1600, .inl f2))], w39])) (va_A (List.flatten [w0, w1, [(tx1, .inl (cB, 1600, .inl f2))], w3]) sz)) 0 0 (va_A (List.flatten [w0, w1, [(tx1, .inl (cB, 1600, .inl f2))], w3]) sz) := by
  refine Met.ofW (cc := cX4_readRod) (maxL := 6) (ret := (some .boolean)) (by decide) rfl ?_
  intro p e s m args below meth c s₁ B hml hv
  obtain ⟨rfl, hsz, hP, hK, hD0, hE⟩ := hv
  have hx := B.exec
  have hb := B.bytes
  have hr := B.returns
  have hts := atoms_spec (ws := wsX4_readRod) B.pre
  have hown : s.vm.findClass RX4 = some m.cls := findClass_of_methodNamed B.named
  have hlocks := B.notSynchronized
  subst hsz
  have hD := hD0.self (sz := s.heap.size)
  generalize hAe : va_A (List.flatten [w0, w1, [(tx1, .inl (cB, 1600, .inl f2))], w3]) s.heap.size = A at hD hE ⊢
  have hA : ∀ q : Nat, s.heap.size ≤ q → A q := fun q h => by rw [← hAe]; exact Or.inr h
  have hS : va_S A s.heap s.heap [] := va_S.rf
  have hl := lv_entry ([.ref h0]) (n := 6) (Nat.le_of_ble_eq_true rfl)
  rw [lg_entry_eq]
  generalize (lg_sl ([.ref h0]) ++ List.replicate (6 - (lg_sl ([.ref h0])).length) Slot.unset).toArray = ls at hl ⊢
  have hl : lv_has ls 6 [(0, .ref h0)] := hl
  clear hAe
  refine W_name (fun Q0 hQ0 => ?_)
  refine lv_aload_n hx hb dX4_readRod_0 rfl (lv_at hl 0 rfl) ?_
  obtain ⟨fk_1, fp_2, rfl⟩ := o0
  refine va_get (D := (dC, dI)) (ci := 3) (v := .ref tk0) (C := RX4) (T := TX4) (N := 4) hx hb hts iw_X4_readRod_X4 hown hK hP 0 rfl rfl 0 (by decide) (hts (.fieldLink RX4 12 "HungFloors$HouseReader" "tokens" "LHungFloors$Tokens;") (by decide +kernel)) (fun _ h9 => h9) rfl dX4_readRod_1 ?_
  obtain ⟨ln_3, ap_6, kd_9, sa_10, wd_11, nu_12, rfl, hl_4, hh_5, hl_7, hh_8⟩ := o1
  have hpm : List.Perm ([[(h0, .inr (3, [.ref tk0, .ref rp0, .int fk_1, .int fp_2]))], [(tk0, .inr (7, [.ref tx1, .int ln_3, .int ap_6, .ref (ad kd_9), .int sa_10, .long wd_11, .int nu_12]))], [(tx1, .inl (cB, 1600, .inl f2))], w3] : List va_W) (([[(tk0, .inr (7, [.ref tx1, .int ln_3, .int ap_6, .ref (ad kd_9), .int sa_10, .long wd_11, .int nu_12]))], [(tx1, .inl (cB, 1600, .inl f2))]] : List va_W) ++ ([[(h0, .inr (3, [.ref tk0, .ref rp0, .int fk_1, .int fp_2]))], w3] : List va_W)) := pm_n 4 [1, 2, 0, 3] (by decide) rfl rfl
  have hPc := bk_P hpm hP
  have hDc := bk_D hpm hD
  have hFc := bk_F hpm hD hS hA
  refine va_callv (va_runV (As := []) (rest := []) ⟨hx, hb, hml, hown, hts⟩ (c_X9_advance l dC dI ad tN fN cB cI cJ cZ tk0 r1 tx1 _ _ ⟨ln_3, ap_6, kd_9, sa_10, wd_11, nu_12, rfl, by omega, by omega, by omega, by omega⟩ s.heap.size) (cwV 0 hts gX4_readRod_X9_advance rfl rfl rfl (by decide +kernel) ⟨(Nat.le_of_ble_eq_true rfl), (Nat.le_of_ble_eq_true rfl)⟩) ⟨fun a U g mk q => by obtain ⟨q0, q1, qP, qK, qD, qE⟩ := q; exact ⟨q0, q1, qP, va_K.moved (u := U) (U := U.calling g mk a) (Vm.Alike.refl U.vm) qK, qD, ey_blind qE⟩, va_recv hK hPc (ci := 7) (q0 := 0) rfl rfl, fun U hU hW => ⟨rfl, by rw [hU], by rw [hU]; exact hPc, va_K.moved hW.alike hK, hDc.weaken (fun _ _ _ _ => trivial), ey_call hE hS hFc hU hW⟩⟩ rfl rfl hl.1 rfl (lv_room (Nat.le_of_ble_eq_true rfl)) dX4_readRod_4 ⟨(Nat.le_of_ble_eq_true rfl), (Nat.le_of_ble_eq_true rfl)⟩) hS (fun q _ h => hFc q h) hFc (fun u t H locs ht hvm hw hB hz1 hk1 hS => ?_)
  obtain ⟨w_14, o_15, hP1, hD1⟩ := hB
  rw [ht] at hP1
  obtain ⟨hP, hD⟩ := bk_join hpm hP hD hk1 hFc (Cs1 := [w_14, [(tx1, .inl (cB, 1600, .inl f2))]]) hP1 hD1
  have hpm2 : List.Perm (([w_14, [(tx1, .inl (cB, 1600, .inl f2))]] : List va_W) ++ ([[(h0, .inr (3, [.ref tk0, .ref rp0, .int fk_1, .int fp_2]))], w3] : List va_W)) ([[(h0, .inr (3, [.ref tk0, .ref rp0, .int fk_1, .int fp_2]))], w_14, [(tx1, .inl (cB, 1600, .inl f2))], w3] : List va_W) := pm_n 4 [2, 0, 1, 3] (by decide) rfl rfl
  have hP := bk_reP hpm2 hP
  have hD := bk_reD hpm2 hD
  have hP : va_P (dC, dI) vwCl (List.flatten [[(h0, .inr (3, [.ref tk0, .ref rp0, .int fk_1, .int fp_2]))], w_14, [(tx1, .inl (cB, 1600, .inl f2))], w3]) H := hP
  have hD : va_D A (List.flatten [[(h0, .inr (3, [.ref tk0, .ref rp0, .int fk_1, .int fp_2]))], w_14, [(tx1, .inl (cB, 1600, .inl f2))], w3]) := hD
  refine lv_aload_n hx hb dX4_readRod_7 rfl (lv_at hl 0 rfl) ?_
  refine lv_aload_n hx hb dX4_readRod_8 rfl (lv_at hl 0 rfl) ?_
  refine va_get (D := (dC, dI)) (ci := 3) (v := .ref rp0) (C := RX4) (T := TX4) (N := 4) hx hb hts iw_X4_readRod_X4 hown hK hP 0 rfl rfl 1 (by decide) (hts (.fieldLink RX4 21 "HungFloors$HouseReader" "plan" "LHungFloors$Plan;") (by decide +kernel)) (fun _ h9 => h9) rfl dX4_readRod_9 ?_
  refine lv_aload_n hx hb dX4_readRod_12 rfl (lv_at hl 0 rfl) ?_
  refine va_get (D := (dC, dI)) (ci := 3) (v := .ref rp0) (C := RX4) (T := TX4) (N := 4) hx hb hts iw_X4_readRod_X4 hown hK hP 0 rfl rfl 1 (by decide) (hts (.fieldLink RX4 21 "HungFloors$HouseReader" "plan" "LHungFloors$Plan;") (by decide +kernel)) (fun _ h9 => h9) rfl dX4_readRod_13 ?_
  obtain ⟨ln_16, ap_19, kd_22, sa_23, wd_24, nu_25, rfl, hl_17, hh_18, hl_20, hh_21⟩ := o_15
  obtain ⟨f_28, f_29, f_30, f_31, f_34, f_36, f_37, f_39, f_40, rfl, hl_26, hh_27, hl_32, hh_33, hr_35, hr_38⟩ := o3
  refine va_get (D := (dC, dI)) (ci := 5) (v := .int dc3) (C := RX7) (T := TX7) (N := 12) hx hb hts iw_X4_readRod_X7 hown hK hP 3 rfl rfl 5 (by decide) (hts (.fieldLink RX4 122 "HungFloors$Plan" "drawingCount" "I") (by decide +kernel)) (fun _ h9 => h9) rfl dX4_readRod_16 ?_
  refine lv_iconst (v := 1) hx hb dX4_readRod_19 (by decide) ?_
  refine lv_isub hx hb dX4_readRod_20 ?_
  refine lv_topi (fun z_41 ez_41 => ?_)
  have hz_41 : z_41.toInt = dc3.toInt - 1 := by rw [ez_41]; exact t_sub rfl tI_1 (by omega) (by omega)
  have fz_41 : z_41 = (dc3 - 1) := by rw [ez_41]
  refine lv_aload_n hx hb dX4_readRod_21 rfl (lv_at hl 0 rfl) ?_
  refine va_get (D := (dC, dI)) (ci := 3) (v := .ref tk0) (C := RX4) (T := TX4) (N := 4) hx hb hts iw_X4_readRod_X4 hown hK hP 0 rfl rfl 0 (by decide) (hts (.fieldLink RX4 12 "HungFloors$HouseReader" "tokens" "LHungFloors$Tokens;") (by decide +kernel)) (fun _ h9 => h9) rfl dX4_readRod_22 ?_
  refine va_get (D := (dC, dI)) (ci := 7) (v := .long wd_24) (C := RX9) (T := TX9) (N := 7) hx hb hts iw_X4_readRod_X9 hown hK hP 1 rfl rfl 5 (by decide) (hts (.fieldLink RX4 90 "HungFloors$Tokens" "word" "J") (by decide +kernel)) (fun _ h9 => h9) rfl dX4_readRod_25 ?_
  have hpm : List.Perm ([[(h0, .inr (3, [.ref tk0, .ref rp0, .int fk_1, .int fp_2]))], [(tk0, .inr (7, [.ref tx1, .int ln_16, .int ap_19, .ref (ad kd_22), .int sa_23, .long wd_24, .int nu_25]))], [(tx1, .inl (cB, 1600, .inl f2))], [(rp0, .inr (5, [.int fc3, .ref (r3 0), .ref (r3 1), .ref (r3 2), .ref (r3 3), .int dc3, .ref (r3 4), .ref (r3 5), .ref (r3 6), .ref (r3 7), .ref (r3 8), .ref (r3 9)])), (r3 0, .inl (cJ, 6, .inr (.inl f_28))), (r3 1, .inl (cI, 6, .inl f_29)), (r3 2, .inl (cI, 6, .inl f_30)), (r3 3, .inl (cI, 6, .inl f_31)), (r3 4, .inl (cJ, 4, .inr (.inl f_34))), (r3 5, .inl (cI, 4, .inl rk3)), (r3 6, .inl (cJ, 40, .inr (.inl f_36))), (r3 7, .inl (cI, 40, .inl f_37)), (r3 8, .inl (cI, 40, .inl f_39)), (r3 9, .inl (cI, 40, .inl f_40))]] : List va_W) (([[(rp0, .inr (5, [.int fc3, .ref (r3 0), .ref (r3 1), .ref (r3 2), .ref (r3 3), .int dc3, .ref (r3 4), .ref (r3 5), .ref (r3 6), .ref (r3 7), .ref (r3 8), .ref (r3 9)])), (r3 0, .inl (cJ, 6, .inr (.inl f_28))), (r3 1, .inl (cI, 6, .inl f_29)), (r3 2, .inl (cI, 6, .inl f_30)), (r3 3, .inl (cI, 6, .inl f_31)), (r3 4, .inl (cJ, 4, .inr (.inl f_34))), (r3 5, .inl (cI, 4, .inl rk3)), (r3 6, .inl (cJ, 40, .inr (.inl f_36))), (r3 7, .inl (cI, 40, .inl f_37)), (r3 8, .inl (cI, 40, .inl f_39)), (r3 9, .inl (cI, 40, .inl f_40))]] : List va_W) ++ ([[(h0, .inr (3, [.ref tk0, .ref rp0, .int fk_1, .int fp_2]))], [(tk0, .inr (7, [.ref tx1, .int ln_16, .int ap_19, .ref (ad kd_22), .int sa_23, .long wd_24, .int nu_25]))], [(tx1, .inl (cB, 1600, .inl f2))]] : List va_W)) := pm_n 4 [3, 0, 1, 2] (by decide) rfl rfl
  have hPc := bk_P hpm hP
  have hDc := bk_D hpm hD
  have hFc := bk_F hpm hD hS hA
  refine va_calli (va_runV (As := [.int z_41, .long wd_24]) (rest := [.ref h0]) ⟨hx, hb, hml, hown, hts⟩ (c_X7_rodCalled l dC dI ad tN fN cB cI cJ cZ rp0 z_41 wd_24 r3 fc3 dc3 rk3 _ ⟨f_28, f_29, f_30, f_31, f_34, f_36, f_37, f_39, f_40, rfl, by omega, by omega, by omega, by omega, hr_35, hr_38⟩ H.size (by omega) (by omega)) (cwV 2 hts gX4_readRod_X7_rodCalled rfl rfl rfl (by decide +kernel) ⟨(Nat.le_of_ble_eq_true rfl), (Nat.le_of_ble_eq_true rfl)⟩) ⟨fun a U g mk q => by obtain ⟨q0, q1, qP, qK, qD, qE⟩ := q; exact ⟨q0, q1, qP, va_K.moved (u := U) (U := U.calling g mk a) (Vm.Alike.refl U.vm) qK, qD, ey_blind qE⟩, va_recv hK hPc (ci := 5) (q0 := 0) rfl rfl, fun U hU hW => ⟨rfl, by rw [hU], by rw [hU]; exact hPc, va_K.moved hW.alike hK, hDc.weaken (fun _ _ _ _ => trivial), ey_call hE hS hFc hU hW⟩⟩ rfl rfl hl.1 rfl (lv_room (Nat.le_of_ble_eq_true rfl)) dX4_readRod_28 ⟨(Nat.le_of_ble_eq_true rfl), (Nat.le_of_ble_eq_true rfl)⟩) hS (fun q _ h => hFc q h) hFc (fun r_42 u t H locs ht hvm hw hB hz1 hk1 hS => ?_)
  obtain ⟨hP1, hD1⟩ := hB
  rw [ht] at hP1
  obtain ⟨hP, hD⟩ := bk_join hpm hP hD hk1 hFc (Cs1 := [[(rp0, .inr (5, [.int fc3, .ref (r3 0), .ref (r3 1), .ref (r3 2), .ref (r3 3), .int dc3, .ref (r3 4), .ref (r3 5), .ref (r3 6), .ref (r3 7), .ref (r3 8), .ref (r3 9)])), (r3 0, .inl (cJ, 6, .inr (.inl f_28))), (r3 1, .inl (cI, 6, .inl f_29)), (r3 2, .inl (cI, 6, .inl f_30)), (r3 3, .inl (cI, 6, .inl f_31)), (r3 4, .inl (cJ, 4, .inr (.inl f_34))), (r3 5, .inl (cI, 4, .inl rk3)), (r3 6, .inl (cJ, 40, .inr (.inl f_36))), (r3 7, .inl (cI, 40, .inl f_37)), (r3 8, .inl (cI, 40, .inl f_39)), (r3 9, .inl (cI, 40, .inl f_40))]]) hP1 hD1
  have hpm2 : List.Perm (([[(rp0, .inr (5, [.int fc3, .ref (r3 0), .ref (r3 1), .ref (r3 2), .ref (r3 3), .int dc3, .ref (r3 4), .ref (r3 5), .ref (r3 6), .ref (r3 7), .ref (r3 8), .ref (r3 9)])), (r3 0, .inl (cJ, 6, .inr (.inl f_28))), (r3 1, .inl (cI, 6, .inl f_29)), (r3 2, .inl (cI, 6, .inl f_30)), (r3 3, .inl (cI, 6, .inl f_31)), (r3 4, .inl (cJ, 4, .inr (.inl f_34))), (r3 5, .inl (cI, 4, .inl rk3)), (r3 6, .inl (cJ, 40, .inr (.inl f_36))), (r3 7, .inl (cI, 40, .inl f_37)), (r3 8, .inl (cI, 40, .inl f_39)), (r3 9, .inl (cI, 40, .inl f_40))]] : List va_W) ++ ([[(h0, .inr (3, [.ref tk0, .ref rp0, .int fk_1, .int fp_2]))], [(tk0, .inr (7, [.ref tx1, .int ln_16, .int ap_19, .ref (ad kd_22), .int sa_23, .long wd_24, .int nu_25]))], [(tx1, .inl (cB, 1600, .inl f2))]] : List va_W)) ([[(h0, .inr (3, [.ref tk0, .ref rp0, .int fk_1, .int fp_2]))], [(tk0, .inr (7, [.ref tx1, .int ln_16, .int ap_19, .ref (ad kd_22), .int sa_23, .long wd_24, .int nu_25]))], [(tx1, .inl (cB, 1600, .inl f2))], [(rp0, .inr (5, [.int fc3, .ref (r3 0), .ref (r3 1), .ref (r3 2), .ref (r3 3), .int dc3, .ref (r3 4), .ref (r3 5), .ref (r3 6), .ref (r3 7), .ref (r3 8), .ref (r3 9)])), (r3 0, .inl (cJ, 6, .inr (.inl f_28))), (r3 1, .inl (cI, 6, .inl f_29)), (r3 2, .inl (cI, 6, .inl f_30)), (r3 3, .inl (cI, 6, .inl f_31)), (r3 4, .inl (cJ, 4, .inr (.inl f_34))), (r3 5, .inl (cI, 4, .inl rk3)), (r3 6, .inl (cJ, 40, .inr (.inl f_36))), (r3 7, .inl (cI, 40, .inl f_37)), (r3 8, .inl (cI, 40, .inl f_39)), (r3 9, .inl (cI, 40, .inl f_40))]] : List va_W) := pm_n 4 [1, 2, 3, 0] (by decide) rfl rfl
  have hP := bk_reP hpm2 hP
  have hD := bk_reD hpm2 hD
  have hP : va_P (dC, dI) vwCl (List.flatten [[(h0, .inr (3, [.ref tk0, .ref rp0, .int fk_1, .int fp_2]))], [(tk0, .inr (7, [.ref tx1, .int ln_16, .int ap_19, .ref (ad kd_22), .int sa_23, .long wd_24, .int nu_25]))], [(tx1, .inl (cB, 1600, .inl f2))], [(rp0, .inr (5, [.int fc3, .ref (r3 0), .ref (r3 1), .ref (r3 2), .ref (r3 3), .int dc3, .ref (r3 4), .ref (r3 5), .ref (r3 6), .ref (r3 7), .ref (r3 8), .ref (r3 9)])), (r3 0, .inl (cJ, 6, .inr (.inl f_28))), (r3 1, .inl (cI, 6, .inl f_29)), (r3 2, .inl (cI, 6, .inl f_30)), (r3 3, .inl (cI, 6, .inl f_31)), (r3 4, .inl (cJ, 4, .inr (.inl f_34))), (r3 5, .inl (cI, 4, .inl rk3)), (r3 6, .inl (cJ, 40, .inr (.inl f_36))), (r3 7, .inl (cI, 40, .inl f_37)), (r3 8, .inl (cI, 40, .inl f_39)), (r3 9, .inl (cI, 40, .inl f_40))]]) H := hP
  have hD : va_D A (List.flatten [[(h0, .inr (3, [.ref tk0, .ref rp0, .int fk_1, .int fp_2]))], [(tk0, .inr (7, [.ref tx1, .int ln_16, .int ap_19, .ref (ad kd_22), .int sa_23, .long wd_24, .int nu_25]))], [(tx1, .inl (cB, 1600, .inl f2))], [(rp0, .inr (5, [.int fc3, .ref (r3 0), .ref (r3 1), .ref (r3 2), .ref (r3 3), .int dc3, .ref (r3 4), .ref (r3 5), .ref (r3 6), .ref (r3 7), .ref (r3 8), .ref (r3 9)])), (r3 0, .inl (cJ, 6, .inr (.inl f_28))), (r3 1, .inl (cI, 6, .inl f_29)), (r3 2, .inl (cI, 6, .inl f_30)), (r3 3, .inl (cI, 6, .inl f_31)), (r3 4, .inl (cJ, 4, .inr (.inl f_34))), (r3 5, .inl (cI, 4, .inl rk3)), (r3 6, .inl (cJ, 40, .inr (.inl f_36))), (r3 7, .inl (cI, 40, .inl f_37)), (r3 8, .inl (cI, 40, .inl f_39)), (r3 9, .inl (cI, 40, .inl f_40))]]) := hD
  obtain ⟨hlr_42, hhr_42⟩ := hw
  have hpm : List.Perm ([[(h0, .inr (3, [.ref tk0, .ref rp0, .int fk_1, .int fp_2]))], [(tk0, .inr (7, [.ref tx1, .int ln_16, .int ap_19, .ref (ad kd_22), .int sa_23, .long wd_24, .int nu_25]))], [(tx1, .inl (cB, 1600, .inl f2))], [(rp0, .inr (5, [.int fc3, .ref (r3 0), .ref (r3 1), .ref (r3 2), .ref (r3 3), .int dc3, .ref (r3 4), .ref (r3 5), .ref (r3 6), .ref (r3 7), .ref (r3 8), .ref (r3 9)])), (r3 0, .inl (cJ, 6, .inr (.inl f_28))), (r3 1, .inl (cI, 6, .inl f_29)), (r3 2, .inl (cI, 6, .inl f_30)), (r3 3, .inl (cI, 6, .inl f_31)), (r3 4, .inl (cJ, 4, .inr (.inl f_34))), (r3 5, .inl (cI, 4, .inl rk3)), (r3 6, .inl (cJ, 40, .inr (.inl f_36))), (r3 7, .inl (cI, 40, .inl f_37)), (r3 8, .inl (cI, 40, .inl f_39)), (r3 9, .inl (cI, 40, .inl f_40))]] : List va_W) (([[(h0, .inr (3, [.ref tk0, .ref rp0, .int fk_1, .int fp_2]))], [(tk0, .inr (7, [.ref tx1, .int ln_16, .int ap_19, .ref (ad kd_22), .int sa_23, .long wd_24, .int nu_25]))], [(tx1, .inl (cB, 1600, .inl f2))], [(rp0, .inr (5, [.int fc3, .ref (r3 0), .ref (r3 1), .ref (r3 2), .ref (r3 3), .int dc3, .ref (r3 4), .ref (r3 5), .ref (r3 6), .ref (r3 7), .ref (r3 8), .ref (r3 9)])), (r3 0, .inl (cJ, 6, .inr (.inl f_28))), (r3 1, .inl (cI, 6, .inl f_29)), (r3 2, .inl (cI, 6, .inl f_30)), (r3 3, .inl (cI, 6, .inl f_31)), (r3 4, .inl (cJ, 4, .inr (.inl f_34))), (r3 5, .inl (cI, 4, .inl rk3)), (r3 6, .inl (cJ, 40, .inr (.inl f_36))), (r3 7, .inl (cI, 40, .inl f_37)), (r3 8, .inl (cI, 40, .inl f_39)), (r3 9, .inl (cI, 40, .inl f_40))]] : List va_W) ++ ([] : List va_W)) := pm_n 4 [0, 1, 2, 3] (by decide) rfl rfl
  have hPc := bk_P hpm hP
  have hDc := bk_D hpm hD
  have hFc := bk_F hpm hD hS hA
  refine va_calli (va_runV (As := [.int r_42]) (rest := []) ⟨hx, hb, hml, hown, hts⟩ (c_X4_isNewName l dC dI ad tN fN cB cI cJ cZ h0 r_42 r0 tk0 rp0 _ r1 tx1 _ _ r3 fc3 dc3 rk3 _ ⟨fk_1, fp_2, rfl⟩ ⟨ln_16, ap_19, kd_22, sa_23, wd_24, nu_25, rfl, by omega, by omega, by omega, by omega⟩ ⟨f_28, f_29, f_30, f_31, f_34, f_36, f_37, f_39, f_40, rfl, by omega, by omega, by omega, by omega, hr_35, hr_38⟩ H.size) (cwV 1 hts gX4_readRod_X4_isNewName rfl rfl rfl (by decide +kernel) ⟨(Nat.le_of_ble_eq_true rfl), (Nat.le_of_ble_eq_true rfl)⟩) ⟨fun a U g mk q => by obtain ⟨q0, q1, qP, qK, qD, qE⟩ := q; exact ⟨q0, q1, qP, va_K.moved (u := U) (U := U.calling g mk a) (Vm.Alike.refl U.vm) qK, qD, ey_blind qE⟩, va_recv hK hPc (ci := 3) (q0 := 0) rfl rfl, fun U hU hW => ⟨rfl, by rw [hU], by rw [hU]; exact hPc, va_K.moved hW.alike hK, hDc.weaken (fun _ _ _ _ => trivial), ey_call hE hS hFc hU hW⟩⟩ rfl rfl hl.1 rfl (lv_room (Nat.le_of_ble_eq_true rfl)) dX4_readRod_31 ⟨(Nat.le_of_ble_eq_true rfl), (Nat.le_of_ble_eq_true rfl)⟩) hS (fun q _ h => hFc q h) hFc (fun r_43 u t H locs ht hvm hw hB hz1 hk1 hS => ?_)
  obtain ⟨w_44, o_45, hP1, hD1⟩ := hB
  rw [ht] at hP1
  obtain ⟨hP, hD⟩ := bk_join hpm hP hD hk1 hFc (Cs1 := [w_44, [(tk0, .inr (7, [.ref tx1, .int ln_16, .int ap_19, .ref (ad kd_22), .int sa_23, .long wd_24, .int nu_25]))], [(tx1, .inl (cB, 1600, .inl f2))], [(rp0, .inr (5, [.int fc3, .ref (r3 0), .ref (r3 1), .ref (r3 2), .ref (r3 3), .int dc3, .ref (r3 4), .ref (r3 5), .ref (r3 6), .ref (r3 7), .ref (r3 8), .ref (r3 9)])), (r3 0, .inl (cJ, 6, .inr (.inl f_28))), (r3 1, .inl (cI, 6, .inl f_29)), (r3 2, .inl (cI, 6, .inl f_30)), (r3 3, .inl (cI, 6, .inl f_31)), (r3 4, .inl (cJ, 4, .inr (.inl f_34))), (r3 5, .inl (cI, 4, .inl rk3)), (r3 6, .inl (cJ, 40, .inr (.inl f_36))), (r3 7, .inl (cI, 40, .inl f_37)), (r3 8, .inl (cI, 40, .inl f_39)), (r3 9, .inl (cI, 40, .inl f_40))]]) hP1 hD1
  have hpm2 : List.Perm (([w_44, [(tk0, .inr (7, [.ref tx1, .int ln_16, .int ap_19, .ref (ad kd_22), .int sa_23, .long wd_24, .int nu_25]))], [(tx1, .inl (cB, 1600, .inl f2))], [(rp0, .inr (5, [.int fc3, .ref (r3 0), .ref (r3 1), .ref (r3 2), .ref (r3 3), .int dc3, .ref (r3 4), .ref (r3 5), .ref (r3 6), .ref (r3 7), .ref (r3 8), .ref (r3 9)])), (r3 0, .inl (cJ, 6, .inr (.inl f_28))), (r3 1, .inl (cI, 6, .inl f_29)), (r3 2, .inl (cI, 6, .inl f_30)), (r3 3, .inl (cI, 6, .inl f_31)), (r3 4, .inl (cJ, 4, .inr (.inl f_34))), (r3 5, .inl (cI, 4, .inl rk3)), (r3 6, .inl (cJ, 40, .inr (.inl f_36))), (r3 7, .inl (cI, 40, .inl f_37)), (r3 8, .inl (cI, 40, .inl f_39)), (r3 9, .inl (cI, 40, .inl f_40))]] : List va_W) ++ ([] : List va_W)) ([w_44, [(tk0, .inr (7, [.ref tx1, .int ln_16, .int ap_19, .ref (ad kd_22), .int sa_23, .long wd_24, .int nu_25]))], [(tx1, .inl (cB, 1600, .inl f2))], [(rp0, .inr (5, [.int fc3, .ref (r3 0), .ref (r3 1), .ref (r3 2), .ref (r3 3), .int dc3, .ref (r3 4), .ref (r3 5), .ref (r3 6), .ref (r3 7), .ref (r3 8), .ref (r3 9)])), (r3 0, .inl (cJ, 6, .inr (.inl f_28))), (r3 1, .inl (cI, 6, .inl f_29)), (r3 2, .inl (cI, 6, .inl f_30)), (r3 3, .inl (cI, 6, .inl f_31)), (r3 4, .inl (cJ, 4, .inr (.inl f_34))), (r3 5, .inl (cI, 4, .inl rk3)), (r3 6, .inl (cJ, 40, .inr (.inl f_36))), (r3 7, .inl (cI, 40, .inl f_37)), (r3 8, .inl (cI, 40, .inl f_39)), (r3 9, .inl (cI, 40, .inl f_40))]] : List va_W) := pm_n 4 [0, 1, 2, 3] (by decide) rfl rfl
  have hP := bk_reP hpm2 hP
  have hD := bk_reD hpm2 hD
  have hP : va_P (dC, dI) vwCl (List.flatten [w_44, [(tk0, .inr (7, [.ref tx1, .int ln_16, .int ap_19, .ref (ad kd_22), .int sa_23, .long wd_24, .int nu_25]))], [(tx1, .inl (cB, 1600, .inl f2))], [(rp0, .inr (5, [.int fc3, .ref (r3 0), .ref (r3 1), .ref (r3 2), .ref (r3 3), .int dc3, .ref (r3 4), .ref (r3 5), .ref (r3 6), .ref (r3 7), .ref (r3 8), .ref (r3 9)])), (r3 0, .inl (cJ, 6, .inr (.inl f_28))), (r3 1, .inl (cI, 6, .inl f_29)), (r3 2, .inl (cI, 6, .inl f_30)), (r3 3, .inl (cI, 6, .inl f_31)), (r3 4, .inl (cJ, 4, .inr (.inl f_34))), (r3 5, .inl (cI, 4, .inl rk3)), (r3 6, .inl (cJ, 40, .inr (.inl f_36))), (r3 7, .inl (cI, 40, .inl f_37)), (r3 8, .inl (cI, 40, .inl f_39)), (r3 9, .inl (cI, 40, .inl f_40))]]) H := hP
  have hD : va_D A (List.flatten [w_44, [(tk0, .inr (7, [.ref tx1, .int ln_16, .int ap_19, .ref (ad kd_22), .int sa_23, .long wd_24, .int nu_25]))], [(tx1, .inl (cB, 1600, .inl f2))], [(rp0, .inr (5, [.int fc3, .ref (r3 0), .ref (r3 1), .ref (r3 2), .ref (r3 3), .int dc3, .ref (r3 4), .ref (r3 5), .ref (r3 6), .ref (r3 7), .ref (r3 8), .ref (r3 9)])), (r3 0, .inl (cJ, 6, .inr (.inl f_28))), (r3 1, .inl (cI, 6, .inl f_29)), (r3 2, .inl (cI, 6, .inl f_30)), (r3 3, .inl (cI, 6, .inl f_31)), (r3 4, .inl (cJ, 4, .inr (.inl f_34))), (r3 5, .inl (cI, 4, .inl rk3)), (r3 6, .inl (cJ, 40, .inr (.inl f_36))), (r3 7, .inl (cI, 40, .inl f_37)), (r3 8, .inl (cI, 40, .inl f_39)), (r3 9, .inl (cI, 40, .inl f_40))]]) := hD
  obtain ⟨hlr_43, hhr_43⟩ := hw
  refine lv_if_ne (tgt := 39) hx hb dX4_readRod_34 (by decide) (fun c_46 => ?_) (fun c_46 => ?_)
  · have c_46 : ¬ r_43.toInt = 0 := f_ne rfl tI_0 c_46
    refine lv_aload_n hx hb dX4_readRod_39 rfl (lv_at hl 0 rfl) ?_
    obtain ⟨fk_47, fp_48, rfl⟩ := o_45
    refine va_get (D := (dC, dI)) (ci := 3) (v := .ref tk0) (C := RX4) (T := TX4) (N := 4) hx hb hts iw_X4_readRod_X4 hown hK hP 0 rfl rfl 0 (by decide) (hts (.fieldLink RX4 12 "HungFloors$HouseReader" "tokens" "LHungFloors$Tokens;") (by decide +kernel)) (fun _ h9 => h9) rfl dX4_readRod_40 ?_
    refine va_get (D := (dC, dI)) (ci := 7) (v := .long wd_24) (C := RX9) (T := TX9) (N := 7) hx hb hts iw_X4_readRod_X9 hown hK hP 1 rfl rfl 5 (by decide) (hts (.fieldLink RX4 90 "HungFloors$Tokens" "word" "J") (by decide +kernel)) (fun _ h9 => h9) rfl dX4_readRod_43 ?_
    refine lv_lstore_n (lv' := [(1, .long wd_24), (0, .ref h0)]) hx hb dX4_readRod_46 rfl hl (by decide) rfl (fun ls hl => ?_)
    refine lv_aload_n hx hb dX4_readRod_47 rfl (lv_at hl 1 rfl) ?_
    refine va_get (D := (dC, dI)) (ci := 3) (v := .ref tk0) (C := RX4) (T := TX4) (N := 4) hx hb hts iw_X4_readRod_X4 hown hK hP 0 rfl rfl 0 (by decide) (hts (.fieldLink RX4 12 "HungFloors$HouseReader" "tokens" "LHungFloors$Tokens;") (by decide +kernel)) (fun _ h9 => h9) rfl dX4_readRod_48 ?_
    have hpm : List.Perm ([[(h0, .inr (3, [.ref tk0, .ref rp0, .int fk_47, .int fp_48]))], [(tk0, .inr (7, [.ref tx1, .int ln_16, .int ap_19, .ref (ad kd_22), .int sa_23, .long wd_24, .int nu_25]))], [(tx1, .inl (cB, 1600, .inl f2))], [(rp0, .inr (5, [.int fc3, .ref (r3 0), .ref (r3 1), .ref (r3 2), .ref (r3 3), .int dc3, .ref (r3 4), .ref (r3 5), .ref (r3 6), .ref (r3 7), .ref (r3 8), .ref (r3 9)])), (r3 0, .inl (cJ, 6, .inr (.inl f_28))), (r3 1, .inl (cI, 6, .inl f_29)), (r3 2, .inl (cI, 6, .inl f_30)), (r3 3, .inl (cI, 6, .inl f_31)), (r3 4, .inl (cJ, 4, .inr (.inl f_34))), (r3 5, .inl (cI, 4, .inl rk3)), (r3 6, .inl (cJ, 40, .inr (.inl f_36))), (r3 7, .inl (cI, 40, .inl f_37)), (r3 8, .inl (cI, 40, .inl f_39)), (r3 9, .inl (cI, 40, .inl f_40))]] : List va_W) (([[(tk0, .inr (7, [.ref tx1, .int ln_16, .int ap_19, .ref (ad kd_22), .int sa_23, .long wd_24, .int nu_25]))], [(tx1, .inl (cB, 1600, .inl f2))]] : List va_W) ++ ([[(h0, .inr (3, [.ref tk0, .ref rp0, .int fk_47, .int fp_48]))], [(rp0, .inr (5, [.int fc3, .ref (r3 0), .ref (r3 1), .ref (r3 2), .ref (r3 3), .int dc3, .ref (r3 4), .ref (r3 5), .ref (r3 6), .ref (r3 7), .ref (r3 8), .ref (r3 9)])), (r3 0, .inl (cJ, 6, .inr (.inl f_28))), (r3 1, .inl (cI, 6, .inl f_29)), (r3 2, .inl (cI, 6, .inl f_30)), (r3 3, .inl (cI, 6, .inl f_31)), (r3 4, .inl (cJ, 4, .inr (.inl f_34))), (r3 5, .inl (cI, 4, .inl rk3)), (r3 6, .inl (cJ, 40, .inr (.inl f_36))), (r3 7, .inl (cI, 40, .inl f_37)), (r3 8, .inl (cI, 40, .inl f_39)), (r3 9, .inl (cI, 40, .inl f_40))]] : List va_W)) := pm_n 4 [1, 2, 0, 3] (by decide) rfl rfl
    have hPc := bk_P hpm hP
    have hDc := bk_D hpm hD
    have hFc := bk_F hpm hD hS hA
    refine va_callv (va_runV (As := []) (rest := []) ⟨hx, hb, hml, hown, hts⟩ (c_X9_advance l dC dI ad tN fN cB cI cJ cZ tk0 r1 tx1 _ _ ⟨ln_16, ap_19, kd_22, sa_23, wd_24, nu_25, rfl, by omega, by omega, by omega, by omega⟩ H.size) (cwV 0 hts gX4_readRod_X9_advance rfl rfl rfl (by decide +kernel) ⟨(Nat.le_of_ble_eq_true rfl), (Nat.le_of_ble_eq_true rfl)⟩) ⟨fun a U g mk q => by obtain ⟨q0, q1, qP, qK, qD, qE⟩ := q; exact ⟨q0, q1, qP, va_K.moved (u := U) (U := U.calling g mk a) (Vm.Alike.refl U.vm) qK, qD, ey_blind qE⟩, va_recv hK hPc (ci := 7) (q0 := 0) rfl rfl, fun U hU hW => ⟨rfl, by rw [hU], by rw [hU]; exact hPc, va_K.moved hW.alike hK, hDc.weaken (fun _ _ _ _ => trivial), ey_call hE hS hFc hU hW⟩⟩ rfl rfl hl.1 rfl (lv_room (Nat.le_of_ble_eq_true rfl)) dX4_readRod_51 ⟨(Nat.le_of_ble_eq_true rfl), (Nat.le_of_ble_eq_true rfl)⟩) hS (fun q _ h => hFc q h) hFc (fun u t H locs ht hvm hw hB hz1 hk1 hS => ?_)
    obtain ⟨w_50, o_51, hP1, hD1⟩ := hB
    rw [ht] at hP1
    obtain ⟨hP, hD⟩ := bk_join hpm hP hD hk1 hFc (Cs1 := [w_50, [(tx1, .inl (cB, 1600, .inl f2))]]) hP1 hD1
    have hpm2 : List.Perm (([w_50, [(tx1, .inl (cB, 1600, .inl f2))]] : List va_W) ++ ([[(h0, .inr (3, [.ref tk0, .ref rp0, .int fk_47, .int fp_48]))], [(rp0, .inr (5, [.int fc3, .ref (r3 0), .ref (r3 1), .ref (r3 2), .ref (r3 3), .int dc3, .ref (r3 4), .ref (r3 5), .ref (r3 6), .ref (r3 7), .ref (r3 8), .ref (r3 9)])), (r3 0, .inl (cJ, 6, .inr (.inl f_28))), (r3 1, .inl (cI, 6, .inl f_29)), (r3 2, .inl (cI, 6, .inl f_30)), (r3 3, .inl (cI, 6, .inl f_31)), (r3 4, .inl (cJ, 4, .inr (.inl f_34))), (r3 5, .inl (cI, 4, .inl rk3)), (r3 6, .inl (cJ, 40, .inr (.inl f_36))), (r3 7, .inl (cI, 40, .inl f_37)), (r3 8, .inl (cI, 40, .inl f_39)), (r3 9, .inl (cI, 40, .inl f_40))]] : List va_W)) ([[(h0, .inr (3, [.ref tk0, .ref rp0, .int fk_47, .int fp_48]))], w_50, [(tx1, .inl (cB, 1600, .inl f2))], [(rp0, .inr (5, [.int fc3, .ref (r3 0), .ref (r3 1), .ref (r3 2), .ref (r3 3), .int dc3, .ref (r3 4), .ref (r3 5), .ref (r3 6), .ref (r3 7), .ref (r3 8), .ref (r3 9)])), (r3 0, .inl (cJ, 6, .inr (.inl f_28))), (r3 1, .inl (cI, 6, .inl f_29)), (r3 2, .inl (cI, 6, .inl f_30)), (r3 3, .inl (cI, 6, .inl f_31)), (r3 4, .inl (cJ, 4, .inr (.inl f_34))), (r3 5, .inl (cI, 4, .inl rk3)), (r3 6, .inl (cJ, 40, .inr (.inl f_36))), (r3 7, .inl (cI, 40, .inl f_37)), (r3 8, .inl (cI, 40, .inl f_39)), (r3 9, .inl (cI, 40, .inl f_40))]] : List va_W) := pm_n 4 [2, 0, 1, 3] (by decide) rfl rfl
    have hP := bk_reP hpm2 hP
    have hD := bk_reD hpm2 hD
    have hP : va_P (dC, dI) vwCl (List.flatten [[(h0, .inr (3, [.ref tk0, .ref rp0, .int fk_47, .int fp_48]))], w_50, [(tx1, .inl (cB, 1600, .inl f2))], [(rp0, .inr (5, [.int fc3, .ref (r3 0), .ref (r3 1), .ref (r3 2), .ref (r3 3), .int dc3, .ref (r3 4), .ref (r3 5), .ref (r3 6), .ref (r3 7), .ref (r3 8), .ref (r3 9)])), (r3 0, .inl (cJ, 6, .inr (.inl f_28))), (r3 1, .inl (cI, 6, .inl f_29)), (r3 2, .inl (cI, 6, .inl f_30)), (r3 3, .inl (cI, 6, .inl f_31)), (r3 4, .inl (cJ, 4, .inr (.inl f_34))), (r3 5, .inl (cI, 4, .inl rk3)), (r3 6, .inl (cJ, 40, .inr (.inl f_36))), (r3 7, .inl (cI, 40, .inl f_37)), (r3 8, .inl (cI, 40, .inl f_39)), (r3 9, .inl (cI, 40, .inl f_40))]]) H := hP
    have hD : va_D A (List.flatten [[(h0, .inr (3, [.ref tk0, .ref rp0, .int fk_47, .int fp_48]))], w_50, [(tx1, .inl (cB, 1600, .inl f2))], [(rp0, .inr (5, [.int fc3, .ref (r3 0), .ref (r3 1), .ref (r3 2), .ref (r3 3), .int dc3, .ref (r3 4), .ref (r3 5), .ref (r3 6), .ref (r3 7), .ref (r3 8), .ref (r3 9)])), (r3 0, .inl (cJ, 6, .inr (.inl f_28))), (r3 1, .inl (cI, 6, .inl f_29)), (r3 2, .inl (cI, 6, .inl f_30)), (r3 3, .inl (cI, 6, .inl f_31)), (r3 4, .inl (cJ, 4, .inr (.inl f_34))), (r3 5, .inl (cI, 4, .inl rk3)), (r3 6, .inl (cJ, 40, .inr (.inl f_36))), (r3 7, .inl (cI, 40, .inl f_37)), (r3 8, .inl (cI, 40, .inl f_39)), (r3 9, .inl (cI, 40, .inl f_40))]]) := hD
    refine lv_aload_n hx hb dX4_readRod_54 rfl (lv_at hl 1 rfl) ?_
    refine lv_ldc2 hx hb hown (hts (.constantLong RX4 129 (1718775661)) (by decide +kernel)) dX4_readRod_55 ?_
    have hpm : List.Perm ([[(h0, .inr (3, [.ref tk0, .ref rp0, .int fk_47, .int fp_48]))], w_50, [(tx1, .inl (cB, 1600, .inl f2))], [(rp0, .inr (5, [.int fc3, .ref (r3 0), .ref (r3 1), .ref (r3 2), .ref (r3 3), .int dc3, .ref (r3 4), .ref (r3 5), .ref (r3 6), .ref (r3 7), .ref (r3 8), .ref (r3 9)])), (r3 0, .inl (cJ, 6, .inr (.inl f_28))), (r3 1, .inl (cI, 6, .inl f_29)), (r3 2, .inl (cI, 6, .inl f_30)), (r3 3, .inl (cI, 6, .inl f_31)), (r3 4, .inl (cJ, 4, .inr (.inl f_34))), (r3 5, .inl (cI, 4, .inl rk3)), (r3 6, .inl (cJ, 40, .inr (.inl f_36))), (r3 7, .inl (cI, 40, .inl f_37)), (r3 8, .inl (cI, 40, .inl f_39)), (r3 9, .inl (cI, 40, .inl f_40))]] : List va_W) (([[(h0, .inr (3, [.ref tk0, .ref rp0, .int fk_47, .int fp_48]))], w_50, [(tx1, .inl (cB, 1600, .inl f2))], [(rp0, .inr (5, [.int fc3, .ref (r3 0), .ref (r3 1), .ref (r3 2), .ref (r3 3), .int dc3, .ref (r3 4), .ref (r3 5), .ref (r3 6), .ref (r3 7), .ref (r3 8), .ref (r3 9)])), (r3 0, .inl (cJ, 6, .inr (.inl f_28))), (r3 1, .inl (cI, 6, .inl f_29)), (r3 2, .inl (cI, 6, .inl f_30)), (r3 3, .inl (cI, 6, .inl f_31)), (r3 4, .inl (cJ, 4, .inr (.inl f_34))), (r3 5, .inl (cI, 4, .inl rk3)), (r3 6, .inl (cJ, 40, .inr (.inl f_36))), (r3 7, .inl (cI, 40, .inl f_37)), (r3 8, .inl (cI, 40, .inl f_39)), (r3 9, .inl (cI, 40, .inl f_40))]] : List va_W) ++ ([] : List va_W)) := pm_n 4 [0, 1, 2, 3] (by decide) rfl rfl
    have hPc := bk_P hpm hP
    have hDc := bk_D hpm hD
    have hFc := bk_F hpm hD hS hA
    refine va_calli (va_runV (As := [.long 1718775661]) (rest := []) ⟨hx, hb, hml, hown, hts⟩ (c_X4_takeWord l dC dI ad tN fN cB cI cJ cZ h0 1718775661 r0 tk0 rp0 _ r1 tx1 _ _ r3 fc3 dc3 rk3 _ ⟨fk_47, fp_48, rfl⟩ o_51 ⟨f_28, f_29, f_30, f_31, f_34, f_36, f_37, f_39, f_40, rfl, by omega, by omega, by omega, by omega, hr_35, hr_38⟩ H.size) (cwV 1 hts gX4_readRod_X4_takeWord rfl rfl rfl (by decide +kernel) ⟨(Nat.le_of_ble_eq_true rfl), (Nat.le_of_ble_eq_true rfl)⟩) ⟨fun a U g mk q => by obtain ⟨q0, q1, qP, qK, qD, qE⟩ := q; exact ⟨q0, q1, qP, va_K.moved (u := U) (U := U.calling g mk a) (Vm.Alike.refl U.vm) qK, qD, ey_blind qE⟩, va_recv hK hPc (ci := 3) (q0 := 0) rfl rfl, fun U hU hW => ⟨rfl, by rw [hU], by rw [hU]; exact hPc, va_K.moved hW.alike hK, hDc.weaken (fun _ _ _ _ => trivial), ey_call hE hS hFc hU hW⟩⟩ rfl rfl hl.1 rfl (lv_room (Nat.le_of_ble_eq_true rfl)) dX4_readRod_58 ⟨(Nat.le_of_ble_eq_true rfl), (Nat.le_of_ble_eq_true rfl)⟩) hS (fun q _ h => hFc q h) hFc (fun r_52 u t H locs ht hvm hw hB hz1 hk1 hS => ?_)
    obtain ⟨w_53, w_55, o_54, o_56, hP1, hD1⟩ := hB
    rw [ht] at hP1
    obtain ⟨hP, hD⟩ := bk_join hpm hP hD hk1 hFc (Cs1 := [w_53, w_55, [(tx1, .inl (cB, 1600, .inl f2))], [(rp0, .inr (5, [.int fc3, .ref (r3 0), .ref (r3 1), .ref (r3 2), .ref (r3 3), .int dc3, .ref (r3 4), .ref (r3 5), .ref (r3 6), .ref (r3 7), .ref (r3 8), .ref (r3 9)])), (r3 0, .inl (cJ, 6, .inr (.inl f_28))), (r3 1, .inl (cI, 6, .inl f_29)), (r3 2, .inl (cI, 6, .inl f_30)), (r3 3, .inl (cI, 6, .inl f_31)), (r3 4, .inl (cJ, 4, .inr (.inl f_34))), (r3 5, .inl (cI, 4, .inl rk3)), (r3 6, .inl (cJ, 40, .inr (.inl f_36))), (r3 7, .inl (cI, 40, .inl f_37)), (r3 8, .inl (cI, 40, .inl f_39)), (r3 9, .inl (cI, 40, .inl f_40))]]) hP1 hD1
    have hpm2 : List.Perm (([w_53, w_55, [(tx1, .inl (cB, 1600, .inl f2))], [(rp0, .inr (5, [.int fc3, .ref (r3 0), .ref (r3 1), .ref (r3 2), .ref (r3 3), .int dc3, .ref (r3 4), .ref (r3 5), .ref (r3 6), .ref (r3 7), .ref (r3 8), .ref (r3 9)])), (r3 0, .inl (cJ, 6, .inr (.inl f_28))), (r3 1, .inl (cI, 6, .inl f_29)), (r3 2, .inl (cI, 6, .inl f_30)), (r3 3, .inl (cI, 6, .inl f_31)), (r3 4, .inl (cJ, 4, .inr (.inl f_34))), (r3 5, .inl (cI, 4, .inl rk3)), (r3 6, .inl (cJ, 40, .inr (.inl f_36))), (r3 7, .inl (cI, 40, .inl f_37)), (r3 8, .inl (cI, 40, .inl f_39)), (r3 9, .inl (cI, 40, .inl f_40))]] : List va_W) ++ ([] : List va_W)) ([w_53, w_55, [(tx1, .inl (cB, 1600, .inl f2))], [(rp0, .inr (5, [.int fc3, .ref (r3 0), .ref (r3 1), .ref (r3 2), .ref (r3 3), .int dc3, .ref (r3 4), .ref (r3 5), .ref (r3 6), .ref (r3 7), .ref (r3 8), .ref (r3 9)])), (r3 0, .inl (cJ, 6, .inr (.inl f_28))), (r3 1, .inl (cI, 6, .inl f_29)), (r3 2, .inl (cI, 6, .inl f_30)), (r3 3, .inl (cI, 6, .inl f_31)), (r3 4, .inl (cJ, 4, .inr (.inl f_34))), (r3 5, .inl (cI, 4, .inl rk3)), (r3 6, .inl (cJ, 40, .inr (.inl f_36))), (r3 7, .inl (cI, 40, .inl f_37)), (r3 8, .inl (cI, 40, .inl f_39)), (r3 9, .inl (cI, 40, .inl f_40))]] : List va_W) := pm_n 4 [0, 1, 2, 3] (by decide) rfl rfl
    have hP := bk_reP hpm2 hP
    have hD := bk_reD hpm2 hD
    have hP : va_P (dC, dI) vwCl (List.flatten [w_53, w_55, [(tx1, .inl (cB, 1600, .inl f2))], [(rp0, .inr (5, [.int fc3, .ref (r3 0), .ref (r3 1), .ref (r3 2), .ref (r3 3), .int dc3, .ref (r3 4), .ref (r3 5), .ref (r3 6), .ref (r3 7), .ref (r3 8), .ref (r3 9)])), (r3 0, .inl (cJ, 6, .inr (.inl f_28))), (r3 1, .inl (cI, 6, .inl f_29)), (r3 2, .inl (cI, 6, .inl f_30)), (r3 3, .inl (cI, 6, .inl f_31)), (r3 4, .inl (cJ, 4, .inr (.inl f_34))), (r3 5, .inl (cI, 4, .inl rk3)), (r3 6, .inl (cJ, 40, .inr (.inl f_36))), (r3 7, .inl (cI, 40, .inl f_37)), (r3 8, .inl (cI, 40, .inl f_39)), (r3 9, .inl (cI, 40, .inl f_40))]]) H := hP
    have hD : va_D A (List.flatten [w_53, w_55, [(tx1, .inl (cB, 1600, .inl f2))], [(rp0, .inr (5, [.int fc3, .ref (r3 0), .ref (r3 1), .ref (r3 2), .ref (r3 3), .int dc3, .ref (r3 4), .ref (r3 5), .ref (r3 6), .ref (r3 7), .ref (r3 8), .ref (r3 9)])), (r3 0, .inl (cJ, 6, .inr (.inl f_28))), (r3 1, .inl (cI, 6, .inl f_29)), (r3 2, .inl (cI, 6, .inl f_30)), (r3 3, .inl (cI, 6, .inl f_31)), (r3 4, .inl (cJ, 4, .inr (.inl f_34))), (r3 5, .inl (cI, 4, .inl rk3)), (r3 6, .inl (cJ, 40, .inr (.inl f_36))), (r3 7, .inl (cI, 40, .inl f_37)), (r3 8, .inl (cI, 40, .inl f_39)), (r3 9, .inl (cI, 40, .inl f_40))]]) := hD
    obtain ⟨hlr_52, hhr_52⟩ := hw
    refine lv_if_ne (tgt := 66) hx hb dX4_readRod_61 (by decide) (fun c_57 => ?_) (fun c_57 => ?_)
    · have c_57 : ¬ r_52.toInt = 0 := f_ne rfl tI_0 c_57
      refine lv_aload_n hx hb dX4_readRod_66 rfl (lv_at hl 1 rfl) ?_
      obtain ⟨fk_58, fp_59, rfl⟩ := o_54
      have hpm : List.Perm ([[(h0, .inr (3, [.ref tk0, .ref rp0, .int fk_58, .int fp_59]))], w_55, [(tx1, .inl (cB, 1600, .inl f2))], [(rp0, .inr (5, [.int fc3, .ref (r3 0), .ref (r3 1), .ref (r3 2), .ref (r3 3), .int dc3, .ref (r3 4), .ref (r3 5), .ref (r3 6), .ref (r3 7), .ref (r3 8), .ref (r3 9)])), (r3 0, .inl (cJ, 6, .inr (.inl f_28))), (r3 1, .inl (cI, 6, .inl f_29)), (r3 2, .inl (cI, 6, .inl f_30)), (r3 3, .inl (cI, 6, .inl f_31)), (r3 4, .inl (cJ, 4, .inr (.inl f_34))), (r3 5, .inl (cI, 4, .inl rk3)), (r3 6, .inl (cJ, 40, .inr (.inl f_36))), (r3 7, .inl (cI, 40, .inl f_37)), (r3 8, .inl (cI, 40, .inl f_39)), (r3 9, .inl (cI, 40, .inl f_40))]] : List va_W) (([[(h0, .inr (3, [.ref tk0, .ref rp0, .int fk_58, .int fp_59]))], w_55, [(tx1, .inl (cB, 1600, .inl f2))], [(rp0, .inr (5, [.int fc3, .ref (r3 0), .ref (r3 1), .ref (r3 2), .ref (r3 3), .int dc3, .ref (r3 4), .ref (r3 5), .ref (r3 6), .ref (r3 7), .ref (r3 8), .ref (r3 9)])), (r3 0, .inl (cJ, 6, .inr (.inl f_28))), (r3 1, .inl (cI, 6, .inl f_29)), (r3 2, .inl (cI, 6, .inl f_30)), (r3 3, .inl (cI, 6, .inl f_31)), (r3 4, .inl (cJ, 4, .inr (.inl f_34))), (r3 5, .inl (cI, 4, .inl rk3)), (r3 6, .inl (cJ, 40, .inr (.inl f_36))), (r3 7, .inl (cI, 40, .inl f_37)), (r3 8, .inl (cI, 40, .inl f_39)), (r3 9, .inl (cI, 40, .inl f_40))]] : List va_W) ++ ([] : List va_W)) := pm_n 4 [0, 1, 2, 3] (by decide) rfl rfl
      have hPc := bk_P hpm hP
      have hDc := bk_D hpm hD
      have hFc := bk_F hpm hD hS hA
      refine va_calli (va_runV (As := []) (rest := []) ⟨hx, hb, hml, hown, hts⟩ (c_X4_takeFrom l dC dI ad tN fN cB cI cJ cZ h0 r0 tk0 rp0 _ r1 tx1 _ _ r3 fc3 dc3 rk3 _ ⟨fk_58, fp_59, rfl⟩ o_56 ⟨f_28, f_29, f_30, f_31, f_34, f_36, f_37, f_39, f_40, rfl, by omega, by omega, by omega, by omega, hr_35, hr_38⟩ H.size) (cwV 0 hts gX4_readRod_X4_takeFrom rfl rfl rfl (by decide +kernel) ⟨(Nat.le_of_ble_eq_true rfl), (Nat.le_of_ble_eq_true rfl)⟩) ⟨fun a U g mk q => by obtain ⟨q0, q1, qP, qK, qD, qE⟩ := q; exact ⟨q0, q1, qP, va_K.moved (u := U) (U := U.calling g mk a) (Vm.Alike.refl U.vm) qK, qD, ey_blind qE⟩, va_recv hK hPc (ci := 3) (q0 := 0) rfl rfl, fun U hU hW => ⟨rfl, by rw [hU], by rw [hU]; exact hPc, va_K.moved hW.alike hK, hDc.weaken (fun _ _ _ _ => trivial), ey_call hE hS hFc hU hW⟩⟩ rfl rfl hl.1 rfl (lv_room (Nat.le_of_ble_eq_true rfl)) dX4_readRod_67 ⟨(Nat.le_of_ble_eq_true rfl), (Nat.le_of_ble_eq_true rfl)⟩) hS (fun q _ h => hFc q h) hFc (fun r_60 u t H locs ht hvm hw hB hz1 hk1 hS => ?_)
      obtain ⟨w_61, w_63, o_62, o_64, hP1, hD1⟩ := hB
      rw [ht] at hP1
      obtain ⟨hP, hD⟩ := bk_join hpm hP hD hk1 hFc (Cs1 := [w_61, w_63, [(tx1, .inl (cB, 1600, .inl f2))], [(rp0, .inr (5, [.int fc3, .ref (r3 0), .ref (r3 1), .ref (r3 2), .ref (r3 3), .int dc3, .ref (r3 4), .ref (r3 5), .ref (r3 6), .ref (r3 7), .ref (r3 8), .ref (r3 9)])), (r3 0, .inl (cJ, 6, .inr (.inl f_28))), (r3 1, .inl (cI, 6, .inl f_29)), (r3 2, .inl (cI, 6, .inl f_30)), (r3 3, .inl (cI, 6, .inl f_31)), (r3 4, .inl (cJ, 4, .inr (.inl f_34))), (r3 5, .inl (cI, 4, .inl rk3)), (r3 6, .inl (cJ, 40, .inr (.inl f_36))), (r3 7, .inl (cI, 40, .inl f_37)), (r3 8, .inl (cI, 40, .inl f_39)), (r3 9, .inl (cI, 40, .inl f_40))]]) hP1 hD1
      have hpm2 : List.Perm (([w_61, w_63, [(tx1, .inl (cB, 1600, .inl f2))], [(rp0, .inr (5, [.int fc3, .ref (r3 0), .ref (r3 1), .ref (r3 2), .ref (r3 3), .int dc3, .ref (r3 4), .ref (r3 5), .ref (r3 6), .ref (r3 7), .ref (r3 8), .ref (r3 9)])), (r3 0, .inl (cJ, 6, .inr (.inl f_28))), (r3 1, .inl (cI, 6, .inl f_29)), (r3 2, .inl (cI, 6, .inl f_30)), (r3 3, .inl (cI, 6, .inl f_31)), (r3 4, .inl (cJ, 4, .inr (.inl f_34))), (r3 5, .inl (cI, 4, .inl rk3)), (r3 6, .inl (cJ, 40, .inr (.inl f_36))), (r3 7, .inl (cI, 40, .inl f_37)), (r3 8, .inl (cI, 40, .inl f_39)), (r3 9, .inl (cI, 40, .inl f_40))]] : List va_W) ++ ([] : List va_W)) ([w_61, w_63, [(tx1, .inl (cB, 1600, .inl f2))], [(rp0, .inr (5, [.int fc3, .ref (r3 0), .ref (r3 1), .ref (r3 2), .ref (r3 3), .int dc3, .ref (r3 4), .ref (r3 5), .ref (r3 6), .ref (r3 7), .ref (r3 8), .ref (r3 9)])), (r3 0, .inl (cJ, 6, .inr (.inl f_28))), (r3 1, .inl (cI, 6, .inl f_29)), (r3 2, .inl (cI, 6, .inl f_30)), (r3 3, .inl (cI, 6, .inl f_31)), (r3 4, .inl (cJ, 4, .inr (.inl f_34))), (r3 5, .inl (cI, 4, .inl rk3)), (r3 6, .inl (cJ, 40, .inr (.inl f_36))), (r3 7, .inl (cI, 40, .inl f_37)), (r3 8, .inl (cI, 40, .inl f_39)), (r3 9, .inl (cI, 40, .inl f_40))]] : List va_W) := pm_n 4 [0, 1, 2, 3] (by decide) rfl rfl
      have hP := bk_reP hpm2 hP
      have hD := bk_reD hpm2 hD
      have hP : va_P (dC, dI) vwCl (List.flatten [w_61, w_63, [(tx1, .inl (cB, 1600, .inl f2))], [(rp0, .inr (5, [.int fc3, .ref (r3 0), .ref (r3 1), .ref (r3 2), .ref (r3 3), .int dc3, .ref (r3 4), .ref (r3 5), .ref (r3 6), .ref (r3 7), .ref (r3 8), .ref (r3 9)])), (r3 0, .inl (cJ, 6, .inr (.inl f_28))), (r3 1, .inl (cI, 6, .inl f_29)), (r3 2, .inl (cI, 6, .inl f_30)), (r3 3, .inl (cI, 6, .inl f_31)), (r3 4, .inl (cJ, 4, .inr (.inl f_34))), (r3 5, .inl (cI, 4, .inl rk3)), (r3 6, .inl (cJ, 40, .inr (.inl f_36))), (r3 7, .inl (cI, 40, .inl f_37)), (r3 8, .inl (cI, 40, .inl f_39)), (r3 9, .inl (cI, 40, .inl f_40))]]) H := hP
      have hD : va_D A (List.flatten [w_61, w_63, [(tx1, .inl (cB, 1600, .inl f2))], [(rp0, .inr (5, [.int fc3, .ref (r3 0), .ref (r3 1), .ref (r3 2), .ref (r3 3), .int dc3, .ref (r3 4), .ref (r3 5), .ref (r3 6), .ref (r3 7), .ref (r3 8), .ref (r3 9)])), (r3 0, .inl (cJ, 6, .inr (.inl f_28))), (r3 1, .inl (cI, 6, .inl f_29)), (r3 2, .inl (cI, 6, .inl f_30)), (r3 3, .inl (cI, 6, .inl f_31)), (r3 4, .inl (cJ, 4, .inr (.inl f_34))), (r3 5, .inl (cI, 4, .inl rk3)), (r3 6, .inl (cJ, 40, .inr (.inl f_36))), (r3 7, .inl (cI, 40, .inl f_37)), (r3 8, .inl (cI, 40, .inl f_39)), (r3 9, .inl (cI, 40, .inl f_40))]]) := hD
      obtain ⟨hlr_60, hhr_60⟩ := hw
      refine lv_istore_n (lv' := [(3, .int r_60), (1, .long wd_24), (0, .ref h0)]) hx hb dX4_readRod_70 rfl hl (by decide) rfl (fun ls hl => ?_)
      refine lv_iload_n hx hb dX4_readRod_71 rfl (lv_at hl 0 rfl) ?_
      refine lv_bipush (v := (-2)) hx hb dX4_readRod_72 (by decide) ?_
      refine lv_icmp_eq (tgt := 87) hx hb dX4_readRod_74 (by decide) (fun c_65 => ?_) (fun c_65 => ?_)
      · have c_65 : r_60.toInt = -2 := f_eq rfl tI_m2 c_65
        refine lv_iconst (v := 0) hx hb dX4_readRod_87 (by decide) ?_
        rw [hQ0]
        exact W.zret (v := 0) hx hb hr (by decide) (fun t ht hW => ⟨⟨0, (), rfl, ⟨by decide, by decide⟩, ⟨_, _, rk3, _, o_62, o_64, ⟨f_28, f_29, f_30, f_31, f_34, f_36, f_37, f_39, f_40, rfl, by omega, by omega, by omega, by omega, hr_35, hr_38⟩, by rw [ht]; exact hP, hD⟩⟩, hS.F ht⟩) hS.2.2 dX4_readRod_88
      · have c_65 : ¬ r_60.toInt = -2 := f_ne rfl tI_m2 c_65
        refine lv_aload_n hx hb dX4_readRod_77 rfl (lv_at hl 2 rfl) ?_
        refine lv_ldc2 hx hb hown (hts (.constantLong RX4 138 (25209)) (by decide +kernel)) dX4_readRod_78 ?_
        obtain ⟨fk_66, fp_67, rfl⟩ := o_62
        have hpm : List.Perm ([[(h0, .inr (3, [.ref tk0, .ref rp0, .int fk_66, .int fp_67]))], w_63, [(tx1, .inl (cB, 1600, .inl f2))], [(rp0, .inr (5, [.int fc3, .ref (r3 0), .ref (r3 1), .ref (r3 2), .ref (r3 3), .int dc3, .ref (r3 4), .ref (r3 5), .ref (r3 6), .ref (r3 7), .ref (r3 8), .ref (r3 9)])), (r3 0, .inl (cJ, 6, .inr (.inl f_28))), (r3 1, .inl (cI, 6, .inl f_29)), (r3 2, .inl (cI, 6, .inl f_30)), (r3 3, .inl (cI, 6, .inl f_31)), (r3 4, .inl (cJ, 4, .inr (.inl f_34))), (r3 5, .inl (cI, 4, .inl rk3)), (r3 6, .inl (cJ, 40, .inr (.inl f_36))), (r3 7, .inl (cI, 40, .inl f_37)), (r3 8, .inl (cI, 40, .inl f_39)), (r3 9, .inl (cI, 40, .inl f_40))]] : List va_W) (([[(h0, .inr (3, [.ref tk0, .ref rp0, .int fk_66, .int fp_67]))], w_63, [(tx1, .inl (cB, 1600, .inl f2))], [(rp0, .inr (5, [.int fc3, .ref (r3 0), .ref (r3 1), .ref (r3 2), .ref (r3 3), .int dc3, .ref (r3 4), .ref (r3 5), .ref (r3 6), .ref (r3 7), .ref (r3 8), .ref (r3 9)])), (r3 0, .inl (cJ, 6, .inr (.inl f_28))), (r3 1, .inl (cI, 6, .inl f_29)), (r3 2, .inl (cI, 6, .inl f_30)), (r3 3, .inl (cI, 6, .inl f_31)), (r3 4, .inl (cJ, 4, .inr (.inl f_34))), (r3 5, .inl (cI, 4, .inl rk3)), (r3 6, .inl (cJ, 40, .inr (.inl f_36))), (r3 7, .inl (cI, 40, .inl f_37)), (r3 8, .inl (cI, 40, .inl f_39)), (r3 9, .inl (cI, 40, .inl f_40))]] : List va_W) ++ ([] : List va_W)) := pm_n 4 [0, 1, 2, 3] (by decide) rfl rfl
        have hPc := bk_P hpm hP
        have hDc := bk_D hpm hD
        have hFc := bk_F hpm hD hS hA
        refine va_calli (va_runV (As := [.long 25209]) (rest := []) ⟨hx, hb, hml, hown, hts⟩ (c_X4_takeWord l dC dI ad tN fN cB cI cJ cZ h0 25209 r0 tk0 rp0 _ r1 tx1 _ _ r3 fc3 dc3 rk3 _ ⟨fk_66, fp_67, rfl⟩ o_64 ⟨f_28, f_29, f_30, f_31, f_34, f_36, f_37, f_39, f_40, rfl, by omega, by omega, by omega, by omega, hr_35, hr_38⟩ H.size) (cwV 1 hts gX4_readRod_X4_takeWord rfl rfl rfl (by decide +kernel) ⟨(Nat.le_of_ble_eq_true rfl), (Nat.le_of_ble_eq_true rfl)⟩) ⟨fun a U g mk q => by obtain ⟨q0, q1, qP, qK, qD, qE⟩ := q; exact ⟨q0, q1, qP, va_K.moved (u := U) (U := U.calling g mk a) (Vm.Alike.refl U.vm) qK, qD, ey_blind qE⟩, va_recv hK hPc (ci := 3) (q0 := 0) rfl rfl, fun U hU hW => ⟨rfl, by rw [hU], by rw [hU]; exact hPc, va_K.moved hW.alike hK, hDc.weaken (fun _ _ _ _ => trivial), ey_call hE hS hFc hU hW⟩⟩ rfl rfl hl.1 rfl (lv_room (Nat.le_of_ble_eq_true rfl)) dX4_readRod_81 ⟨(Nat.le_of_ble_eq_true rfl), (Nat.le_of_ble_eq_true rfl)⟩) hS (fun q _ h => hFc q h) hFc (fun r_68 u t H locs ht hvm hw hB hz1 hk1 hS => ?_)
        obtain ⟨w_69, w_71, o_70, o_72, hP1, hD1⟩ := hB
        rw [ht] at hP1
        obtain ⟨hP, hD⟩ := bk_join hpm hP hD hk1 hFc (Cs1 := [w_69, w_71, [(tx1, .inl (cB, 1600, .inl f2))], [(rp0, .inr (5, [.int fc3, .ref (r3 0), .ref (r3 1), .ref (r3 2), .ref (r3 3), .int dc3, .ref (r3 4), .ref (r3 5), .ref (r3 6), .ref (r3 7), .ref (r3 8), .ref (r3 9)])), (r3 0, .inl (cJ, 6, .inr (.inl f_28))), (r3 1, .inl (cI, 6, .inl f_29)), (r3 2, .inl (cI, 6, .inl f_30)), (r3 3, .inl (cI, 6, .inl f_31)), (r3 4, .inl (cJ, 4, .inr (.inl f_34))), (r3 5, .inl (cI, 4, .inl rk3)), (r3 6, .inl (cJ, 40, .inr (.inl f_36))), (r3 7, .inl (cI, 40, .inl f_37)), (r3 8, .inl (cI, 40, .inl f_39)), (r3 9, .inl (cI, 40, .inl f_40))]]) hP1 hD1
        have hpm2 : List.Perm (([w_69, w_71, [(tx1, .inl (cB, 1600, .inl f2))], [(rp0, .inr (5, [.int fc3, .ref (r3 0), .ref (r3 1), .ref (r3 2), .ref (r3 3), .int dc3, .ref (r3 4), .ref (r3 5), .ref (r3 6), .ref (r3 7), .ref (r3 8), .ref (r3 9)])), (r3 0, .inl (cJ, 6, .inr (.inl f_28))), (r3 1, .inl (cI, 6, .inl f_29)), (r3 2, .inl (cI, 6, .inl f_30)), (r3 3, .inl (cI, 6, .inl f_31)), (r3 4, .inl (cJ, 4, .inr (.inl f_34))), (r3 5, .inl (cI, 4, .inl rk3)), (r3 6, .inl (cJ, 40, .inr (.inl f_36))), (r3 7, .inl (cI, 40, .inl f_37)), (r3 8, .inl (cI, 40, .inl f_39)), (r3 9, .inl (cI, 40, .inl f_40))]] : List va_W) ++ ([] : List va_W)) ([w_69, w_71, [(tx1, .inl (cB, 1600, .inl f2))], [(rp0, .inr (5, [.int fc3, .ref (r3 0), .ref (r3 1), .ref (r3 2), .ref (r3 3), .int dc3, .ref (r3 4), .ref (r3 5), .ref (r3 6), .ref (r3 7), .ref (r3 8), .ref (r3 9)])), (r3 0, .inl (cJ, 6, .inr (.inl f_28))), (r3 1, .inl (cI, 6, .inl f_29)), (r3 2, .inl (cI, 6, .inl f_30)), (r3 3, .inl (cI, 6, .inl f_31)), (r3 4, .inl (cJ, 4, .inr (.inl f_34))), (r3 5, .inl (cI, 4, .inl rk3)), (r3 6, .inl (cJ, 40, .inr (.inl f_36))), (r3 7, .inl (cI, 40, .inl f_37)), (r3 8, .inl (cI, 40, .inl f_39)), (r3 9, .inl (cI, 40, .inl f_40))]] : List va_W) := pm_n 4 [0, 1, 2, 3] (by decide) rfl rfl
        have hP := bk_reP hpm2 hP
        have hD := bk_reD hpm2 hD
        have hP : va_P (dC, dI) vwCl (List.flatten [w_69, w_71, [(tx1, .inl (cB, 1600, .inl f2))], [(rp0, .inr (5, [.int fc3, .ref (r3 0), .ref (r3 1), .ref (r3 2), .ref (r3 3), .int dc3, .ref (r3 4), .ref (r3 5), .ref (r3 6), .ref (r3 7), .ref (r3 8), .ref (r3 9)])), (r3 0, .inl (cJ, 6, .inr (.inl f_28))), (r3 1, .inl (cI, 6, .inl f_29)), (r3 2, .inl (cI, 6, .inl f_30)), (r3 3, .inl (cI, 6, .inl f_31)), (r3 4, .inl (cJ, 4, .inr (.inl f_34))), (r3 5, .inl (cI, 4, .inl rk3)), (r3 6, .inl (cJ, 40, .inr (.inl f_36))), (r3 7, .inl (cI, 40, .inl f_37)), (r3 8, .inl (cI, 40, .inl f_39)), (r3 9, .inl (cI, 40, .inl f_40))]]) H := hP
        have hD : va_D A (List.flatten [w_69, w_71, [(tx1, .inl (cB, 1600, .inl f2))], [(rp0, .inr (5, [.int fc3, .ref (r3 0), .ref (r3 1), .ref (r3 2), .ref (r3 3), .int dc3, .ref (r3 4), .ref (r3 5), .ref (r3 6), .ref (r3 7), .ref (r3 8), .ref (r3 9)])), (r3 0, .inl (cJ, 6, .inr (.inl f_28))), (r3 1, .inl (cI, 6, .inl f_29)), (r3 2, .inl (cI, 6, .inl f_30)), (r3 3, .inl (cI, 6, .inl f_31)), (r3 4, .inl (cJ, 4, .inr (.inl f_34))), (r3 5, .inl (cI, 4, .inl rk3)), (r3 6, .inl (cJ, 40, .inr (.inl f_36))), (r3 7, .inl (cI, 40, .inl f_37)), (r3 8, .inl (cI, 40, .inl f_39)), (r3 9, .inl (cI, 40, .inl f_40))]]) := hD
        obtain ⟨hlr_68, hhr_68⟩ := hw
        refine lv_if_ne (tgt := 89) hx hb dX4_readRod_84 (by decide) (fun c_73 => ?_) (fun c_73 => ?_)
        · have c_73 : ¬ r_68.toInt = 0 := f_ne rfl tI_0 c_73
          refine lv_aload_n hx hb dX4_readRod_89 rfl (lv_at hl 2 rfl) ?_
          refine lv_iload_n hx hb dX4_readRod_90 rfl (lv_at hl 0 rfl) ?_
          obtain ⟨fk_74, fp_75, rfl⟩ := o_70
          have hpm : List.Perm ([[(h0, .inr (3, [.ref tk0, .ref rp0, .int fk_74, .int fp_75]))], w_71, [(tx1, .inl (cB, 1600, .inl f2))], [(rp0, .inr (5, [.int fc3, .ref (r3 0), .ref (r3 1), .ref (r3 2), .ref (r3 3), .int dc3, .ref (r3 4), .ref (r3 5), .ref (r3 6), .ref (r3 7), .ref (r3 8), .ref (r3 9)])), (r3 0, .inl (cJ, 6, .inr (.inl f_28))), (r3 1, .inl (cI, 6, .inl f_29)), (r3 2, .inl (cI, 6, .inl f_30)), (r3 3, .inl (cI, 6, .inl f_31)), (r3 4, .inl (cJ, 4, .inr (.inl f_34))), (r3 5, .inl (cI, 4, .inl rk3)), (r3 6, .inl (cJ, 40, .inr (.inl f_36))), (r3 7, .inl (cI, 40, .inl f_37)), (r3 8, .inl (cI, 40, .inl f_39)), (r3 9, .inl (cI, 40, .inl f_40))]] : List va_W) (([[(h0, .inr (3, [.ref tk0, .ref rp0, .int fk_74, .int fp_75]))], w_71, [(tx1, .inl (cB, 1600, .inl f2))], [(rp0, .inr (5, [.int fc3, .ref (r3 0), .ref (r3 1), .ref (r3 2), .ref (r3 3), .int dc3, .ref (r3 4), .ref (r3 5), .ref (r3 6), .ref (r3 7), .ref (r3 8), .ref (r3 9)])), (r3 0, .inl (cJ, 6, .inr (.inl f_28))), (r3 1, .inl (cI, 6, .inl f_29)), (r3 2, .inl (cI, 6, .inl f_30)), (r3 3, .inl (cI, 6, .inl f_31)), (r3 4, .inl (cJ, 4, .inr (.inl f_34))), (r3 5, .inl (cI, 4, .inl rk3)), (r3 6, .inl (cJ, 40, .inr (.inl f_36))), (r3 7, .inl (cI, 40, .inl f_37)), (r3 8, .inl (cI, 40, .inl f_39)), (r3 9, .inl (cI, 40, .inl f_40))]] : List va_W) ++ ([] : List va_W)) := pm_n 4 [0, 1, 2, 3] (by decide) rfl rfl
          have hPc := bk_P hpm hP
          have hDc := bk_D hpm hD
          have hFc := bk_F hpm hD hS hA
          refine va_calli (va_runV (As := [.int r_60]) (rest := []) ⟨hx, hb, hml, hown, hts⟩ (c_X4_takeHeld l dC dI ad tN fN cB cI cJ cZ h0 r_60 r0 tk0 rp0 _ r1 tx1 _ _ r3 fc3 dc3 rk3 _ ⟨fk_74, fp_75, rfl⟩ o_72 ⟨f_28, f_29, f_30, f_31, f_34, f_36, f_37, f_39, f_40, rfl, by omega, by omega, by omega, by omega, hr_35, hr_38⟩ H.size) (cwV 1 hts gX4_readRod_X4_takeHeld rfl rfl rfl (by decide +kernel) ⟨(Nat.le_of_ble_eq_true rfl), (Nat.le_of_ble_eq_true rfl)⟩) ⟨fun a U g mk q => by obtain ⟨q0, q1, qP, qK, qD, qE⟩ := q; exact ⟨q0, q1, qP, va_K.moved (u := U) (U := U.calling g mk a) (Vm.Alike.refl U.vm) qK, qD, ey_blind qE⟩, va_recv hK hPc (ci := 3) (q0 := 0) rfl rfl, fun U hU hW => ⟨rfl, by rw [hU], by rw [hU]; exact hPc, va_K.moved hW.alike hK, hDc.weaken (fun _ _ _ _ => trivial), ey_call hE hS hFc hU hW⟩⟩ rfl rfl hl.1 rfl (lv_room (Nat.le_of_ble_eq_true rfl)) dX4_readRod_91 ⟨(Nat.le_of_ble_eq_true rfl), (Nat.le_of_ble_eq_true rfl)⟩) hS (fun q _ h => hFc q h) hFc (fun r_76 u t H locs ht hvm hw hB hz1 hk1 hS => ?_)
          obtain ⟨w_77, w_79, o_78, o_80, hP1, hD1⟩ := hB
          rw [ht] at hP1
          obtain ⟨hP, hD⟩ := bk_join hpm hP hD hk1 hFc (Cs1 := [w_77, w_79, [(tx1, .inl (cB, 1600, .inl f2))], [(rp0, .inr (5, [.int fc3, .ref (r3 0), .ref (r3 1), .ref (r3 2), .ref (r3 3), .int dc3, .ref (r3 4), .ref (r3 5), .ref (r3 6), .ref (r3 7), .ref (r3 8), .ref (r3 9)])), (r3 0, .inl (cJ, 6, .inr (.inl f_28))), (r3 1, .inl (cI, 6, .inl f_29)), (r3 2, .inl (cI, 6, .inl f_30)), (r3 3, .inl (cI, 6, .inl f_31)), (r3 4, .inl (cJ, 4, .inr (.inl f_34))), (r3 5, .inl (cI, 4, .inl rk3)), (r3 6, .inl (cJ, 40, .inr (.inl f_36))), (r3 7, .inl (cI, 40, .inl f_37)), (r3 8, .inl (cI, 40, .inl f_39)), (r3 9, .inl (cI, 40, .inl f_40))]]) hP1 hD1
          have hpm2 : List.Perm (([w_77, w_79, [(tx1, .inl (cB, 1600, .inl f2))], [(rp0, .inr (5, [.int fc3, .ref (r3 0), .ref (r3 1), .ref (r3 2), .ref (r3 3), .int dc3, .ref (r3 4), .ref (r3 5), .ref (r3 6), .ref (r3 7), .ref (r3 8), .ref (r3 9)])), (r3 0, .inl (cJ, 6, .inr (.inl f_28))), (r3 1, .inl (cI, 6, .inl f_29)), (r3 2, .inl (cI, 6, .inl f_30)), (r3 3, .inl (cI, 6, .inl f_31)), (r3 4, .inl (cJ, 4, .inr (.inl f_34))), (r3 5, .inl (cI, 4, .inl rk3)), (r3 6, .inl (cJ, 40, .inr (.inl f_36))), (r3 7, .inl (cI, 40, .inl f_37)), (r3 8, .inl (cI, 40, .inl f_39)), (r3 9, .inl (cI, 40, .inl f_40))]] : List va_W) ++ ([] : List va_W)) ([w_77, w_79, [(tx1, .inl (cB, 1600, .inl f2))], [(rp0, .inr (5, [.int fc3, .ref (r3 0), .ref (r3 1), .ref (r3 2), .ref (r3 3), .int dc3, .ref (r3 4), .ref (r3 5), .ref (r3 6), .ref (r3 7), .ref (r3 8), .ref (r3 9)])), (r3 0, .inl (cJ, 6, .inr (.inl f_28))), (r3 1, .inl (cI, 6, .inl f_29)), (r3 2, .inl (cI, 6, .inl f_30)), (r3 3, .inl (cI, 6, .inl f_31)), (r3 4, .inl (cJ, 4, .inr (.inl f_34))), (r3 5, .inl (cI, 4, .inl rk3)), (r3 6, .inl (cJ, 40, .inr (.inl f_36))), (r3 7, .inl (cI, 40, .inl f_37)), (r3 8, .inl (cI, 40, .inl f_39)), (r3 9, .inl (cI, 40, .inl f_40))]] : List va_W) := pm_n 4 [0, 1, 2, 3] (by decide) rfl rfl
          have hP := bk_reP hpm2 hP
          have hD := bk_reD hpm2 hD
          have hP : va_P (dC, dI) vwCl (List.flatten [w_77, w_79, [(tx1, .inl (cB, 1600, .inl f2))], [(rp0, .inr (5, [.int fc3, .ref (r3 0), .ref (r3 1), .ref (r3 2), .ref (r3 3), .int dc3, .ref (r3 4), .ref (r3 5), .ref (r3 6), .ref (r3 7), .ref (r3 8), .ref (r3 9)])), (r3 0, .inl (cJ, 6, .inr (.inl f_28))), (r3 1, .inl (cI, 6, .inl f_29)), (r3 2, .inl (cI, 6, .inl f_30)), (r3 3, .inl (cI, 6, .inl f_31)), (r3 4, .inl (cJ, 4, .inr (.inl f_34))), (r3 5, .inl (cI, 4, .inl rk3)), (r3 6, .inl (cJ, 40, .inr (.inl f_36))), (r3 7, .inl (cI, 40, .inl f_37)), (r3 8, .inl (cI, 40, .inl f_39)), (r3 9, .inl (cI, 40, .inl f_40))]]) H := hP
          have hD : va_D A (List.flatten [w_77, w_79, [(tx1, .inl (cB, 1600, .inl f2))], [(rp0, .inr (5, [.int fc3, .ref (r3 0), .ref (r3 1), .ref (r3 2), .ref (r3 3), .int dc3, .ref (r3 4), .ref (r3 5), .ref (r3 6), .ref (r3 7), .ref (r3 8), .ref (r3 9)])), (r3 0, .inl (cJ, 6, .inr (.inl f_28))), (r3 1, .inl (cI, 6, .inl f_29)), (r3 2, .inl (cI, 6, .inl f_30)), (r3 3, .inl (cI, 6, .inl f_31)), (r3 4, .inl (cJ, 4, .inr (.inl f_34))), (r3 5, .inl (cI, 4, .inl rk3)), (r3 6, .inl (cJ, 40, .inr (.inl f_36))), (r3 7, .inl (cI, 40, .inl f_37)), (r3 8, .inl (cI, 40, .inl f_39)), (r3 9, .inl (cI, 40, .inl f_40))]]) := hD
          refine lv_istore (lv' := [(4, .int r_76), (3, .int r_60), (1, .long wd_24), (0, .ref h0)]) hx hb dX4_readRod_94 hl (by decide) rfl (fun ls hl => ?_)
          refine lv_iload hx hb dX4_readRod_96 (lv_at hl 0 rfl) ?_
          refine lv_if_ge (tgt := 106) hx hb dX4_readRod_98 (by decide) (fun c_81 => ?_) (fun c_81 => ?_)
          · have c_81 : 0 ≤ r_76.toInt := f_le tI_0 rfl c_81
            refine lv_aload_n hx hb dX4_readRod_106 rfl (lv_at hl 3 rfl) ?_
            refine lv_ldc2 hx hb hown (hts (.constantLong RX4 107 (6513006)) (by decide +kernel)) dX4_readRod_107 ?_
            refine lv_iconst (v := 1) hx hb dX4_readRod_110 (by decide) ?_
            refine lv_sipush (v := 9999) hx hb dX4_readRod_111 (by decide) ?_
            obtain ⟨fk_82, fp_83, rfl⟩ := o_78
            have hpm : List.Perm ([[(h0, .inr (3, [.ref tk0, .ref rp0, .int fk_82, .int fp_83]))], w_79, [(tx1, .inl (cB, 1600, .inl f2))], [(rp0, .inr (5, [.int fc3, .ref (r3 0), .ref (r3 1), .ref (r3 2), .ref (r3 3), .int dc3, .ref (r3 4), .ref (r3 5), .ref (r3 6), .ref (r3 7), .ref (r3 8), .ref (r3 9)])), (r3 0, .inl (cJ, 6, .inr (.inl f_28))), (r3 1, .inl (cI, 6, .inl f_29)), (r3 2, .inl (cI, 6, .inl f_30)), (r3 3, .inl (cI, 6, .inl f_31)), (r3 4, .inl (cJ, 4, .inr (.inl f_34))), (r3 5, .inl (cI, 4, .inl rk3)), (r3 6, .inl (cJ, 40, .inr (.inl f_36))), (r3 7, .inl (cI, 40, .inl f_37)), (r3 8, .inl (cI, 40, .inl f_39)), (r3 9, .inl (cI, 40, .inl f_40))]] : List va_W) (([[(h0, .inr (3, [.ref tk0, .ref rp0, .int fk_82, .int fp_83]))], w_79, [(tx1, .inl (cB, 1600, .inl f2))], [(rp0, .inr (5, [.int fc3, .ref (r3 0), .ref (r3 1), .ref (r3 2), .ref (r3 3), .int dc3, .ref (r3 4), .ref (r3 5), .ref (r3 6), .ref (r3 7), .ref (r3 8), .ref (r3 9)])), (r3 0, .inl (cJ, 6, .inr (.inl f_28))), (r3 1, .inl (cI, 6, .inl f_29)), (r3 2, .inl (cI, 6, .inl f_30)), (r3 3, .inl (cI, 6, .inl f_31)), (r3 4, .inl (cJ, 4, .inr (.inl f_34))), (r3 5, .inl (cI, 4, .inl rk3)), (r3 6, .inl (cJ, 40, .inr (.inl f_36))), (r3 7, .inl (cI, 40, .inl f_37)), (r3 8, .inl (cI, 40, .inl f_39)), (r3 9, .inl (cI, 40, .inl f_40))]] : List va_W) ++ ([] : List va_W)) := pm_n 4 [0, 1, 2, 3] (by decide) rfl rfl
            have hPc := bk_P hpm hP
            have hDc := bk_D hpm hD
            have hFc := bk_F hpm hD hS hA
            refine va_calli (va_runV (As := [.long 6513006, .int 1, .int 9999]) (rest := []) ⟨hx, hb, hml, hown, hts⟩ (c_X4_numberBehind l dC dI ad tN fN cB cI cJ cZ h0 6513006 1 9999 r0 tk0 rp0 _ r1 tx1 _ _ r3 fc3 dc3 rk3 _ ⟨fk_82, fp_83, rfl⟩ o_80 ⟨f_28, f_29, f_30, f_31, f_34, f_36, f_37, f_39, f_40, rfl, by omega, by omega, by omega, by omega, hr_35, hr_38⟩ H.size) (cwV 3 hts gX4_readRod_X4_numberBehind rfl rfl rfl (by decide +kernel) ⟨(Nat.le_of_ble_eq_true rfl), (Nat.le_of_ble_eq_true rfl)⟩) ⟨fun a U g mk q => by obtain ⟨q0, q1, qP, qK, qD, qE⟩ := q; exact ⟨q0, q1, qP, va_K.moved (u := U) (U := U.calling g mk a) (Vm.Alike.refl U.vm) qK, qD, ey_blind qE⟩, va_recv hK hPc (ci := 3) (q0 := 0) rfl rfl, fun U hU hW => ⟨rfl, by rw [hU], by rw [hU]; exact hPc, va_K.moved hW.alike hK, hDc.weaken (fun _ _ _ _ => trivial), ey_call hE hS hFc hU hW⟩⟩ rfl rfl hl.1 rfl (lv_room (Nat.le_of_ble_eq_true rfl)) dX4_readRod_114 ⟨(Nat.le_of_ble_eq_true rfl), (Nat.le_of_ble_eq_true rfl)⟩) hS (fun q _ h => hFc q h) hFc (fun r_84 u t H locs ht hvm hw hB hz1 hk1 hS => ?_)
            obtain ⟨w_85, w_87, o_86, o_88, hP1, hD1⟩ := hB
            rw [ht] at hP1
            obtain ⟨hP, hD⟩ := bk_join hpm hP hD hk1 hFc (Cs1 := [w_85, w_87, [(tx1, .inl (cB, 1600, .inl f2))], [(rp0, .inr (5, [.int fc3, .ref (r3 0), .ref (r3 1), .ref (r3 2), .ref (r3 3), .int dc3, .ref (r3 4), .ref (r3 5), .ref (r3 6), .ref (r3 7), .ref (r3 8), .ref (r3 9)])), (r3 0, .inl (cJ, 6, .inr (.inl f_28))), (r3 1, .inl (cI, 6, .inl f_29)), (r3 2, .inl (cI, 6, .inl f_30)), (r3 3, .inl (cI, 6, .inl f_31)), (r3 4, .inl (cJ, 4, .inr (.inl f_34))), (r3 5, .inl (cI, 4, .inl rk3)), (r3 6, .inl (cJ, 40, .inr (.inl f_36))), (r3 7, .inl (cI, 40, .inl f_37)), (r3 8, .inl (cI, 40, .inl f_39)), (r3 9, .inl (cI, 40, .inl f_40))]]) hP1 hD1
            have hpm2 : List.Perm (([w_85, w_87, [(tx1, .inl (cB, 1600, .inl f2))], [(rp0, .inr (5, [.int fc3, .ref (r3 0), .ref (r3 1), .ref (r3 2), .ref (r3 3), .int dc3, .ref (r3 4), .ref (r3 5), .ref (r3 6), .ref (r3 7), .ref (r3 8), .ref (r3 9)])), (r3 0, .inl (cJ, 6, .inr (.inl f_28))), (r3 1, .inl (cI, 6, .inl f_29)), (r3 2, .inl (cI, 6, .inl f_30)), (r3 3, .inl (cI, 6, .inl f_31)), (r3 4, .inl (cJ, 4, .inr (.inl f_34))), (r3 5, .inl (cI, 4, .inl rk3)), (r3 6, .inl (cJ, 40, .inr (.inl f_36))), (r3 7, .inl (cI, 40, .inl f_37)), (r3 8, .inl (cI, 40, .inl f_39)), (r3 9, .inl (cI, 40, .inl f_40))]] : List va_W) ++ ([] : List va_W)) ([w_85, w_87, [(tx1, .inl (cB, 1600, .inl f2))], [(rp0, .inr (5, [.int fc3, .ref (r3 0), .ref (r3 1), .ref (r3 2), .ref (r3 3), .int dc3, .ref (r3 4), .ref (r3 5), .ref (r3 6), .ref (r3 7), .ref (r3 8), .ref (r3 9)])), (r3 0, .inl (cJ, 6, .inr (.inl f_28))), (r3 1, .inl (cI, 6, .inl f_29)), (r3 2, .inl (cI, 6, .inl f_30)), (r3 3, .inl (cI, 6, .inl f_31)), (r3 4, .inl (cJ, 4, .inr (.inl f_34))), (r3 5, .inl (cI, 4, .inl rk3)), (r3 6, .inl (cJ, 40, .inr (.inl f_36))), (r3 7, .inl (cI, 40, .inl f_37)), (r3 8, .inl (cI, 40, .inl f_39)), (r3 9, .inl (cI, 40, .inl f_40))]] : List va_W) := pm_n 4 [0, 1, 2, 3] (by decide) rfl rfl
            have hP := bk_reP hpm2 hP
            have hD := bk_reD hpm2 hD
            have hP : va_P (dC, dI) vwCl (List.flatten [w_85, w_87, [(tx1, .inl (cB, 1600, .inl f2))], [(rp0, .inr (5, [.int fc3, .ref (r3 0), .ref (r3 1), .ref (r3 2), .ref (r3 3), .int dc3, .ref (r3 4), .ref (r3 5), .ref (r3 6), .ref (r3 7), .ref (r3 8), .ref (r3 9)])), (r3 0, .inl (cJ, 6, .inr (.inl f_28))), (r3 1, .inl (cI, 6, .inl f_29)), (r3 2, .inl (cI, 6, .inl f_30)), (r3 3, .inl (cI, 6, .inl f_31)), (r3 4, .inl (cJ, 4, .inr (.inl f_34))), (r3 5, .inl (cI, 4, .inl rk3)), (r3 6, .inl (cJ, 40, .inr (.inl f_36))), (r3 7, .inl (cI, 40, .inl f_37)), (r3 8, .inl (cI, 40, .inl f_39)), (r3 9, .inl (cI, 40, .inl f_40))]]) H := hP
            have hD : va_D A (List.flatten [w_85, w_87, [(tx1, .inl (cB, 1600, .inl f2))], [(rp0, .inr (5, [.int fc3, .ref (r3 0), .ref (r3 1), .ref (r3 2), .ref (r3 3), .int dc3, .ref (r3 4), .ref (r3 5), .ref (r3 6), .ref (r3 7), .ref (r3 8), .ref (r3 9)])), (r3 0, .inl (cJ, 6, .inr (.inl f_28))), (r3 1, .inl (cI, 6, .inl f_29)), (r3 2, .inl (cI, 6, .inl f_30)), (r3 3, .inl (cI, 6, .inl f_31)), (r3 4, .inl (cJ, 4, .inr (.inl f_34))), (r3 5, .inl (cI, 4, .inl rk3)), (r3 6, .inl (cJ, 40, .inr (.inl f_36))), (r3 7, .inl (cI, 40, .inl f_37)), (r3 8, .inl (cI, 40, .inl f_39)), (r3 9, .inl (cI, 40, .inl f_40))]]) := hD
            refine lv_istore (lv' := [(5, .int r_84), (4, .int r_76), (3, .int r_60), (1, .long wd_24), (0, .ref h0)]) hx hb dX4_readRod_117 hl (by decide) rfl (fun ls hl => ?_)
            refine lv_iload hx hb dX4_readRod_119 (lv_at hl 0 rfl) ?_
            refine lv_if_ge (tgt := 126) hx hb dX4_readRod_121 (by decide) (fun c_89 => ?_) (fun c_89 => ?_)
            · have c_89 : 0 ≤ r_84.toInt := f_le tI_0 rfl c_89
              refine lv_aload_n hx hb dX4_readRod_126 rfl (lv_at hl 4 rfl) ?_
              obtain ⟨fk_90, fp_91, rfl⟩ := o_86
              refine va_get (D := (dC, dI)) (ci := 3) (v := .ref rp0) (C := RX4) (T := TX4) (N := 4) hx hb hts iw_X4_readRod_X4 hown hK hP 0 rfl rfl 1 (by decide) (hts (.fieldLink RX4 21 "HungFloors$HouseReader" "plan" "LHungFloors$Plan;") (by decide +kernel)) (fun _ h9 => h9) rfl dX4_readRod_127 ?_
              refine lv_lload_n hx hb dX4_readRod_130 rfl (lv_at hl 3 rfl) ?_
              refine lv_iload_n hx hb dX4_readRod_131 rfl (lv_at hl 2 rfl) ?_
              refine lv_iload hx hb dX4_readRod_132 (lv_at hl 1 rfl) ?_
              refine lv_iload hx hb dX4_readRod_134 (lv_at hl 0 rfl) ?_
              have hpm : List.Perm ([[(h0, .inr (3, [.ref tk0, .ref rp0, .int fk_90, .int fp_91]))], w_87, [(tx1, .inl (cB, 1600, .inl f2))], [(rp0, .inr (5, [.int fc3, .ref (r3 0), .ref (r3 1), .ref (r3 2), .ref (r3 3), .int dc3, .ref (r3 4), .ref (r3 5), .ref (r3 6), .ref (r3 7), .ref (r3 8), .ref (r3 9)])), (r3 0, .inl (cJ, 6, .inr (.inl f_28))), (r3 1, .inl (cI, 6, .inl f_29)), (r3 2, .inl (cI, 6, .inl f_30)), (r3 3, .inl (cI, 6, .inl f_31)), (r3 4, .inl (cJ, 4, .inr (.inl f_34))), (r3 5, .inl (cI, 4, .inl rk3)), (r3 6, .inl (cJ, 40, .inr (.inl f_36))), (r3 7, .inl (cI, 40, .inl f_37)), (r3 8, .inl (cI, 40, .inl f_39)), (r3 9, .inl (cI, 40, .inl f_40))]] : List va_W) (([[(rp0, .inr (5, [.int fc3, .ref (r3 0), .ref (r3 1), .ref (r3 2), .ref (r3 3), .int dc3, .ref (r3 4), .ref (r3 5), .ref (r3 6), .ref (r3 7), .ref (r3 8), .ref (r3 9)])), (r3 0, .inl (cJ, 6, .inr (.inl f_28))), (r3 1, .inl (cI, 6, .inl f_29)), (r3 2, .inl (cI, 6, .inl f_30)), (r3 3, .inl (cI, 6, .inl f_31)), (r3 4, .inl (cJ, 4, .inr (.inl f_34))), (r3 5, .inl (cI, 4, .inl rk3)), (r3 6, .inl (cJ, 40, .inr (.inl f_36))), (r3 7, .inl (cI, 40, .inl f_37)), (r3 8, .inl (cI, 40, .inl f_39)), (r3 9, .inl (cI, 40, .inl f_40))]] : List va_W) ++ ([[(h0, .inr (3, [.ref tk0, .ref rp0, .int fk_90, .int fp_91]))], w_87, [(tx1, .inl (cB, 1600, .inl f2))]] : List va_W)) := pm_n 4 [3, 0, 1, 2] (by decide) rfl rfl
              have hPc := bk_P hpm hP
              have hDc := bk_D hpm hD
              have hFc := bk_F hpm hD hS hA
              refine va_callv (va_runV (As := [.long wd_24, .int r_60, .int r_76, .int r_84]) (rest := []) ⟨hx, hb, hml, hown, hts⟩ (c_X7_addRod l dC dI ad tN fN cB cI cJ cZ rp0 wd_24 r_60 r_76 r_84 r3 fc3 dc3 rk3 _ ⟨f_28, f_29, f_30, f_31, f_34, f_36, f_37, f_39, f_40, rfl, by omega, by omega, by omega, by omega, hr_35, hr_38⟩ H.size (by omega) (by omega)) (cwV 4 hts gX4_readRod_X7_addRod rfl rfl rfl (by decide +kernel) ⟨(Nat.le_of_ble_eq_true rfl), (Nat.le_of_ble_eq_true rfl)⟩) ⟨fun a U g mk q => by obtain ⟨q0, q1, qP, qK, qD, qE⟩ := q; exact ⟨q0, q1, qP, va_K.moved (u := U) (U := U.calling g mk a) (Vm.Alike.refl U.vm) qK, qD, ey_blind qE⟩, va_recv hK hPc (ci := 5) (q0 := 0) rfl rfl, fun U hU hW => ⟨rfl, by rw [hU], by rw [hU]; exact hPc, va_K.moved hW.alike hK, hDc.weaken (fun _ _ _ _ => trivial), ey_call hE hS hFc hU hW⟩⟩ rfl rfl hl.1 rfl (lv_room (Nat.le_of_ble_eq_true rfl)) dX4_readRod_136 ⟨(Nat.le_of_ble_eq_true rfl), (Nat.le_of_ble_eq_true rfl)⟩) hS (fun q _ h => hFc q h) hFc (fun u t H locs ht hvm hw hB hz1 hk1 hS => ?_)
              obtain ⟨fx_95, w_93, o_94, hP1, hD1⟩ := hB
              rw [ht] at hP1
              obtain ⟨hP, hD⟩ := bk_join hpm hP hD hk1 hFc (Cs1 := [w_93]) hP1 hD1
              have hpm2 : List.Perm (([w_93] : List va_W) ++ ([[(h0, .inr (3, [.ref tk0, .ref rp0, .int fk_90, .int fp_91]))], w_87, [(tx1, .inl (cB, 1600, .inl f2))]] : List va_W)) ([[(h0, .inr (3, [.ref tk0, .ref rp0, .int fk_90, .int fp_91]))], w_87, [(tx1, .inl (cB, 1600, .inl f2))], w_93] : List va_W) := pm_n 4 [1, 2, 3, 0] (by decide) rfl rfl
              have hP := bk_reP hpm2 hP
              have hD := bk_reD hpm2 hD
              have hP : va_P (dC, dI) vwCl (List.flatten [[(h0, .inr (3, [.ref tk0, .ref rp0, .int fk_90, .int fp_91]))], w_87, [(tx1, .inl (cB, 1600, .inl f2))], w_93]) H := hP
              have hD : va_D A (List.flatten [[(h0, .inr (3, [.ref tk0, .ref rp0, .int fk_90, .int fp_91]))], w_87, [(tx1, .inl (cB, 1600, .inl f2))], w_93]) := hD
              refine lv_iconst (v := 1) hx hb dX4_readRod_139 (by decide) ?_
              rw [hQ0]
              exact W.zret (v := 1) hx hb hr (by decide) (fun t ht hW => ⟨⟨1, (), rfl, ⟨by decide, by decide⟩, ⟨_, _, fx_95, _, ⟨fk_90, fp_91, rfl⟩, o_88, o_94, by rw [ht]; exact hP, hD⟩⟩, hS.F ht⟩) hS.2.2 dX4_readRod_140
            · have c_89 : r_84.toInt < 0 := f_nle tI_0 rfl c_89
              refine lv_iconst (v := 0) hx hb dX4_readRod_124 (by decide) ?_
              rw [hQ0]
              exact W.zret (v := 0) hx hb hr (by decide) (fun t ht hW => ⟨⟨0, (), rfl, ⟨by decide, by decide⟩, ⟨_, _, rk3, _, o_86, o_88, ⟨f_28, f_29, f_30, f_31, f_34, f_36, f_37, f_39, f_40, rfl, by omega, by omega, by omega, by omega, hr_35, hr_38⟩, by rw [ht]; exact hP, hD⟩⟩, hS.F ht⟩) hS.2.2 dX4_readRod_125
          · have c_81 : r_76.toInt < 0 := f_nle tI_0 rfl c_81
            refine lv_bipush (v := (-2)) hx hb dX4_readRod_101 (by decide) ?_
            refine lv_goto (tgt := 117) hx hb dX4_readRod_103 (by decide) ?_
            refine lv_istore (lv' := [(5, .int (-2)), (4, .int r_76), (3, .int r_60), (1, .long wd_24), (0, .ref h0)]) hx hb dX4_readRod_117 hl (by decide) rfl (fun ls hl => ?_)
            refine lv_iload hx hb dX4_readRod_119 (lv_at hl 0 rfl) ?_
            refine lv_if_ge (tgt := 126) hx hb dX4_readRod_121 (by decide) (fun c_96 => absurd c_96 (by decide)) (fun c_96 => ?_)
            refine lv_iconst (v := 0) hx hb dX4_readRod_124 (by decide) ?_
            rw [hQ0]
            exact W.zret (v := 0) hx hb hr (by decide) (fun t ht hW => ⟨⟨0, (), rfl, ⟨by decide, by decide⟩, ⟨_, _, rk3, _, o_78, o_80, ⟨f_28, f_29, f_30, f_31, f_34, f_36, f_37, f_39, f_40, rfl, by omega, by omega, by omega, by omega, hr_35, hr_38⟩, by rw [ht]; exact hP, hD⟩⟩, hS.F ht⟩) hS.2.2 dX4_readRod_125
        · have c_73 : r_68.toInt = 0 := f_eq rfl tI_0 c_73
          refine lv_iconst (v := 0) hx hb dX4_readRod_87 (by decide) ?_
          rw [hQ0]
          exact W.zret (v := 0) hx hb hr (by decide) (fun t ht hW => ⟨⟨0, (), rfl, ⟨by decide, by decide⟩, ⟨_, _, rk3, _, o_70, o_72, ⟨f_28, f_29, f_30, f_31, f_34, f_36, f_37, f_39, f_40, rfl, by omega, by omega, by omega, by omega, hr_35, hr_38⟩, by rw [ht]; exact hP, hD⟩⟩, hS.F ht⟩) hS.2.2 dX4_readRod_88
    · have c_57 : r_52.toInt = 0 := f_eq rfl tI_0 c_57
      refine lv_iconst (v := 0) hx hb dX4_readRod_64 (by decide) ?_
      rw [hQ0]
      exact W.zret (v := 0) hx hb hr (by decide) (fun t ht hW => ⟨⟨0, (), rfl, ⟨by decide, by decide⟩, ⟨_, _, rk3, _, o_54, o_56, ⟨f_28, f_29, f_30, f_31, f_34, f_36, f_37, f_39, f_40, rfl, by omega, by omega, by omega, by omega, hr_35, hr_38⟩, by rw [ht]; exact hP, hD⟩⟩, hS.F ht⟩) hS.2.2 dX4_readRod_65
  · have c_46 : r_43.toInt = 0 := f_eq rfl tI_0 c_46
    refine lv_iconst (v := 0) hx hb dX4_readRod_37 (by decide) ?_
    rw [hQ0]
    exact W.zret (v := 0) hx hb hr (by decide) (fun t ht hW => ⟨⟨0, (), rfl, ⟨by decide, by decide⟩, ⟨_, _, rk3, _, o_45, ⟨ln_16, ap_19, kd_22, sa_23, wd_24, nu_25, rfl, by omega, by omega, by omega, by omega⟩, ⟨f_28, f_29, f_30, f_31, f_34, f_36, f_37, f_39, f_40, rfl, by omega, by omega, by omega, by omega, hr_35, hr_38⟩, by rw [ht]; exact hP, hD⟩⟩, hS.F ht⟩) hS.2.2 dX4_readRod_38
