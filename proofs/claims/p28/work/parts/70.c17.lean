theorem iw_X6_firstToReckon_X6 : ∀ w ∈ wsX60, w ∈ wsX6_firstToReckon := fun _ h => List.mem_cons_of_mem _ (List.mem_append_right _ h)
set_option maxHeartbeats 4000000 in
set_option maxRecDepth 100000 in
theorem c_X6_firstToReckon (l : Launch) (dC : Nat → ClassId) (dI : Nat → Nat → Nat) (ad : Nat → Nat) (tN : Nat) (fN : Nat → Int64) (cB cI cJ cZ : ClassId) (h0 : Nat) (p1 : Int32) (p2 : Int32) (p3 : Int32) (r0 : Nat → Nat) (pc0 : Int32) (w0 : va_W) (o0 : ok_pap ad cB cI cJ cZ h0 r0 pc0 w0) (sz : Nat) : Met l yX6_firstToReckon wsX6_firstToReckon ({ frames := 2, cells := 0, slots := 0, locals := 49 } : Room) (va_Pc [.ref h0, .int p1, .int p2, .int p3] (fun U => U.heap.size = sz ∧ va_P (dC, dI) vwCl (List.flatten [w0]) U.heap ∧ va_K (dC, dI) vwCl [(cB, .byte), (cI, .int), (cJ, .long), (cZ, .boolean)] U ∧ va_D (fun _ => True) (List.flatten [w0]) ∧ ex_Y ad tN fN (va_A (List.flatten [w0]) sz) U)) (va_Qi (fun (r : Int32) (_ : Unit) => -1 ≤ r.toInt ∧ r.toInt ≤ 59) (fun (_ : Unit) (t : State) => va_P (dC, dI) vwCl (List.flatten [w0]) t.heap ∧ va_D (va_A (List.flatten [w0]) sz) (List.flatten [w0])) (va_A (List.flatten [w0]) sz)) 0 0 (va_A (List.flatten [w0]) sz) := by
  refine Met.ofW (cc := cX6_firstToReckon) (maxL := 7) (ret := (some .int)) (by decide) rfl ?_
  intro p e s m args below meth c s₁ B hml hv
  obtain ⟨rfl, hsz, hP, hK, hD0, hE⟩ := hv
  have hx := B.exec
  have hb := B.bytes
  have hr := B.returns
  have hts := atoms_spec (ws := wsX6_firstToReckon) B.pre
  have hown : s.vm.findClass RX6 = some m.cls := findClass_of_methodNamed B.named
  have hlocks := B.notSynchronized
  subst hsz
  have hD := hD0.self (sz := s.heap.size)
  generalize hAe : va_A (List.flatten [w0]) s.heap.size = A at hD hE ⊢
  have hA : ∀ q : Nat, s.heap.size ≤ q → A q := fun q h => by rw [← hAe]; exact Or.inr h
  have hS : va_S A s.heap s.heap [] := va_S.rf
  have hl := lv_entry ([.ref h0, .int p1, .int p2, .int p3]) (n := 7) (Nat.le_of_ble_eq_true rfl)
  rw [lg_entry_eq]
  generalize (lg_sl ([.ref h0, .int p1, .int p2, .int p3]) ++ List.replicate (7 - (lg_sl ([.ref h0, .int p1, .int p2, .int p3])).length) Slot.unset).toArray = ls at hl ⊢
  have hl : lv_has ls 7 [(0, .ref h0), (1, .int p1), (2, .int p2), (3, .int p3)] := hl
  clear hAe
  refine W_name (fun Q0 hQ0 => ?_)
  refine lv_iconst (v := (-1)) hx hb dX6_firstToReckon_0 (by decide) ?_
  refine lv_istore (lv' := [(4, .int (-1)), (0, .ref h0), (1, .int p1), (2, .int p2), (3, .int p3)]) hx hb dX6_firstToReckon_1 hl (by decide) rfl (fun ls hl => ?_)
  refine lv_iconst (v := 0) hx hb dX6_firstToReckon_3 (by decide) ?_
  refine lv_istore (lv' := [(5, .int 0), (4, .int (-1)), (0, .ref h0), (1, .int p1), (2, .int p2), (3, .int p3)]) hx hb dX6_firstToReckon_4 hl (by decide) rfl (fun ls hl => ?_)
  obtain ⟨f_36, f_37, f_38, f_39, f_40, f_41, f_42, sc_43, f_46, f_48, f_49, rfl, hl_34, hh_35, hl_44, hh_45, hr_47⟩ := o0
  have lp_774 : ∀ (n : Nat) (g_1 : Int32) (g_2 : Int32), 0 ≤ g_1.toInt → g_1.toInt ≤ 70 → -1 ≤ g_2.toInt → g_2.toInt ≤ 59 → g_1.toInt - pc0.toInt ≤ 0 → g_2.toInt - g_1.toInt ≤ -1 → g_2.toInt - pc0.toInt ≤ -1 → (70 - g_1.toInt).toNat < n → ∀ (H : Heap) (locs : List Loc), va_P (dC, dI) vwCl (List.flatten [[(h0, .inr (4, [.int pc0, .ref (r0 0), .ref (r0 1), .ref (r0 2), .ref (r0 3), .ref (r0 4), .ref (r0 5), .ref (r0 6), .int sc_43, .ref (r0 7), .ref (r0 8), .ref (r0 9)])), (r0 0, .inl (cI, 60, .inl f_36)), (r0 1, .inl (cI, 60, .inl f_37)), (r0 2, .inl (cI, 60, .inl f_38)), (r0 3, .inl (cI, 60, .inl f_39)), (r0 4, .inl (cZ, 60, .inl f_40)), (r0 5, .inl (cI, 60, .inl f_41)), (r0 6, .inl (cI, 60, .inl f_42)), (r0 7, .inl (cI, 9, .inl f_46)), (r0 8, .inl (cI, 9, .inl f_48)), (r0 9, .inl (cI, 9, .inl f_49))]]) H → va_D A (List.flatten [[(h0, .inr (4, [.int pc0, .ref (r0 0), .ref (r0 1), .ref (r0 2), .ref (r0 3), .ref (r0 4), .ref (r0 5), .ref (r0 6), .int sc_43, .ref (r0 7), .ref (r0 8), .ref (r0 9)])), (r0 0, .inl (cI, 60, .inl f_36)), (r0 1, .inl (cI, 60, .inl f_37)), (r0 2, .inl (cI, 60, .inl f_38)), (r0 3, .inl (cI, 60, .inl f_39)), (r0 4, .inl (cZ, 60, .inl f_40)), (r0 5, .inl (cI, 60, .inl f_41)), (r0 6, .inl (cI, 60, .inl f_42)), (r0 7, .inl (cI, 9, .inl f_46)), (r0 8, .inl (cI, 9, .inl f_48)), (r0 9, .inl (cI, 9, .inl f_49))]]) → va_S A s.heap H locs → ∀ (ls : Array Slot), lv_has ls 7 [(5, .int g_1), (4, .int g_2), (0, .ref h0), (1, .int p1), (2, .int p2), (3, .int p3)] → W p l e (headSpec wsX6_firstToReckon ({ frames := 2, cells := 0, slots := 0, locals := 49 } : Room)).room s m ([.ref h0, .int p1, .int p2, .int p3] : List Value).toArray below meth c H locs 0 0 Q0 (F0 m 6 ls []) := by
    intro n
    induction n with
    | zero => intro g_1 g_2 iv_767 iv_768 iv_769 iv_770 iv_771 iv_772 iv_773 hm; exact absurd hm (Nat.not_lt_zero _)
    | succ n ih_775 =>
      intro g_1 g_2 iv_767 iv_768 iv_769 iv_770 iv_771 iv_772 iv_773 hm H locs hP hD hS ls hl
      refine lv_iload hx hb dX6_firstToReckon_6 (lv_at hl 0 rfl) ?_
      refine lv_aload_n hx hb dX6_firstToReckon_8 rfl (lv_at hl 2 rfl) ?_
      refine va_get (D := (dC, dI)) (ci := 4) (v := .int pc0) (C := RX6) (T := TX6) (N := 12) hx hb hts iw_X6_firstToReckon_X6 hown hK hP 0 rfl rfl 0 (by decide) (hts (.fieldLink RX6 9 "HungFloors$Papers" "count" "I") (by decide +kernel)) (fun _ h9 => h9) rfl dX6_firstToReckon_9 ?_
      refine lv_icmp_ge (tgt := 138) hx hb dX6_firstToReckon_12 (by decide) (fun c_776 => ?_) (fun c_776 => ?_)
      · have c_776 : pc0.toInt ≤ g_1.toInt := f_le rfl rfl c_776
        refine lv_iload hx hb dX6_firstToReckon_138 (lv_at hl 1 rfl) ?_
        rw [hQ0]
        exact W.iret (v := g_2) hx hb hr (fun t ht hW => ⟨⟨g_2, (), rfl, ⟨by omega, by omega⟩, ⟨by rw [ht]; exact hP, hD⟩⟩, hS.F ht⟩) hS.2.2 dX6_firstToReckon_140
      · have c_776 : g_1.toInt < pc0.toInt := f_nle rfl rfl c_776
        refine lv_iload hx hb dX6_firstToReckon_15 (lv_at hl 1 rfl) ?_
        refine lv_if_lt (tgt := 71) hx hb dX6_firstToReckon_17 (by decide) (fun c_777 => ?_) (fun c_777 => ?_)
        · have c_777 : g_2.toInt < 0 := f_lt rfl tI_0 c_777
          refine lv_iconst (v := 1) hx hb dX6_firstToReckon_71 (by decide) ?_
          refine lv_goto (tgt := 76) hx hb dX6_firstToReckon_72 (by decide) ?_
          refine lv_istore (lv' := [(6, .int 1), (5, .int g_1), (4, .int g_2), (0, .ref h0), (1, .int p1), (2, .int p2), (3, .int p3)]) hx hb dX6_firstToReckon_76 hl (by decide) rfl (fun ls hl => ?_)
          refine lv_iload hx hb dX6_firstToReckon_78 (lv_at hl 0 rfl) ?_
          refine lv_if_eq (tgt := 132) hx hb dX6_firstToReckon_80 (by decide) (fun c_778 => absurd c_778 (by decide)) (fun c_778 => ?_)
          refine lv_aload_n hx hb dX6_firstToReckon_83 rfl (lv_at hl 3 rfl) ?_
          refine va_get (D := (dC, dI)) (ci := 4) (v := .ref (r0 2)) (C := RX6) (T := TX6) (N := 12) hx hb hts iw_X6_firstToReckon_X6 hown hK hP 0 rfl rfl 3 (by decide) (hts (.fieldLink RX6 22 "HungFloors$Papers" "drawing" "[I") (by decide +kernel)) (fun _ h9 => h9) rfl dX6_firstToReckon_84 ?_
          refine lv_iload hx hb dX6_firstToReckon_87 (lv_at hl 1 rfl) ?_
          refine va_iald hx hb hK hP 3 1 rfl rfl (v_in rfl (by omega) (by omega)) dX6_firstToReckon_89 ?_
          refine lv_topi (fun z_779 ez_779 => ?_)
          refine lv_iload_n hx hb dX6_firstToReckon_90 rfl (lv_at hl 4 rfl) ?_
          refine lv_icmp_ne (tgt := 132) hx hb dX6_firstToReckon_91 (by decide) (fun c_780 => ?_) (fun c_780 => ?_)
          · have c_780 : ¬ z_779.toInt = p1.toInt := f_ne rfl rfl c_780
            obtain ⟨z_781, ez_781⟩ : ∃ y : Int32, y = g_1 + 1 := ⟨_, rfl⟩
            have hz_781 : z_781.toInt = g_1.toInt + 1 := by rw [ez_781]; exact t_add rfl tI_1 (by omega) (by omega)
            refine lv_iinc (v := z_781) (lv' := [(5, .int z_781), (6, .int 1), (4, .int g_2), (0, .ref h0), (1, .int p1), (2, .int p2), (3, .int p3)]) hx hb dX6_firstToReckon_132 hl (k := 1) rfl (by rw [ez_781]; rfl) (by decide) rfl (fun ls hl => ?_)
            refine lv_goto (tgt := 6) hx hb dX6_firstToReckon_135 (by decide) ?_
            exact ih_775 z_781 g_2 (by omega) (by omega) (by omega) (by omega) (by omega) (by omega) (by omega) (by omega) _ _ hP hD hS ls (lv_sub hl [0, 2, 3, 4, 5, 6] rfl)
          · have c_780 : z_779.toInt = p1.toInt := f_eq rfl rfl c_780
            refine lv_aload_n hx hb dX6_firstToReckon_94 rfl (lv_at hl 3 rfl) ?_
            refine lv_iload hx hb dX6_firstToReckon_95 (lv_at hl 1 rfl) ?_
            refine lv_iload_n hx hb dX6_firstToReckon_97 rfl (lv_at hl 6 rfl) ?_
            have hpm : List.Perm ([[(h0, .inr (4, [.int pc0, .ref (r0 0), .ref (r0 1), .ref (r0 2), .ref (r0 3), .ref (r0 4), .ref (r0 5), .ref (r0 6), .int sc_43, .ref (r0 7), .ref (r0 8), .ref (r0 9)])), (r0 0, .inl (cI, 60, .inl f_36)), (r0 1, .inl (cI, 60, .inl f_37)), (r0 2, .inl (cI, 60, .inl f_38)), (r0 3, .inl (cI, 60, .inl f_39)), (r0 4, .inl (cZ, 60, .inl f_40)), (r0 5, .inl (cI, 60, .inl f_41)), (r0 6, .inl (cI, 60, .inl f_42)), (r0 7, .inl (cI, 9, .inl f_46)), (r0 8, .inl (cI, 9, .inl f_48)), (r0 9, .inl (cI, 9, .inl f_49))]] : List va_W) (([[(h0, .inr (4, [.int pc0, .ref (r0 0), .ref (r0 1), .ref (r0 2), .ref (r0 3), .ref (r0 4), .ref (r0 5), .ref (r0 6), .int sc_43, .ref (r0 7), .ref (r0 8), .ref (r0 9)])), (r0 0, .inl (cI, 60, .inl f_36)), (r0 1, .inl (cI, 60, .inl f_37)), (r0 2, .inl (cI, 60, .inl f_38)), (r0 3, .inl (cI, 60, .inl f_39)), (r0 4, .inl (cZ, 60, .inl f_40)), (r0 5, .inl (cI, 60, .inl f_41)), (r0 6, .inl (cI, 60, .inl f_42)), (r0 7, .inl (cI, 9, .inl f_46)), (r0 8, .inl (cI, 9, .inl f_48)), (r0 9, .inl (cI, 9, .inl f_49))]] : List va_W) ++ ([] : List va_W)) := pm_n 1 [0] (by decide) rfl rfl
            have hPc := bk_P hpm hP
            have hDc := bk_D hpm hD
            have hFc := bk_F hpm hD hS hA
            refine va_calli (va_runV (As := [.int g_1, .int p3]) (rest := []) ⟨hx, hb, hml, hown, hts⟩ (c_X6_isKnown l dC dI ad tN fN cB cI cJ cZ h0 g_1 p3 r0 pc0 _ ⟨f_36, f_37, f_38, f_39, f_40, f_41, f_42, sc_43, f_46, f_48, f_49, rfl, by omega, by omega, by omega, by omega, hr_47⟩ H.size (by omega) (by omega)) (cwV 2 hts gX6_firstToReckon_X6_isKnown rfl rfl rfl (by decide +kernel) ⟨(Nat.le_of_ble_eq_true rfl), (Nat.le_of_ble_eq_true rfl)⟩) ⟨fun a U g mk q => by obtain ⟨q0, q1, qP, qK, qD, qE⟩ := q; exact ⟨q0, q1, qP, va_K.moved (u := U) (U := U.calling g mk a) (Vm.Alike.refl U.vm) qK, qD, ey_blind qE⟩, va_recv hK hPc (ci := 4) (q0 := 0) rfl rfl, fun U hU hW => ⟨rfl, by rw [hU], by rw [hU]; exact hPc, va_K.moved hW.alike hK, hDc.weaken (fun _ _ _ _ => trivial), ey_call hE hS hFc hU hW⟩⟩ rfl rfl hl.1 rfl (lv_room (Nat.le_of_ble_eq_true rfl)) dX6_firstToReckon_98 ⟨(Nat.le_of_ble_eq_true rfl), (Nat.le_of_ble_eq_true rfl)⟩) hS (fun q _ h => hFc q h) hFc (fun r_782 u t H locs ht hvm hw hB hz1 hk1 hS => ?_)
            obtain ⟨hP1, hD1⟩ := hB
            rw [ht] at hP1
            obtain ⟨hP, hD⟩ := bk_join hpm hP hD hk1 hFc (Cs1 := [[(h0, .inr (4, [.int pc0, .ref (r0 0), .ref (r0 1), .ref (r0 2), .ref (r0 3), .ref (r0 4), .ref (r0 5), .ref (r0 6), .int sc_43, .ref (r0 7), .ref (r0 8), .ref (r0 9)])), (r0 0, .inl (cI, 60, .inl f_36)), (r0 1, .inl (cI, 60, .inl f_37)), (r0 2, .inl (cI, 60, .inl f_38)), (r0 3, .inl (cI, 60, .inl f_39)), (r0 4, .inl (cZ, 60, .inl f_40)), (r0 5, .inl (cI, 60, .inl f_41)), (r0 6, .inl (cI, 60, .inl f_42)), (r0 7, .inl (cI, 9, .inl f_46)), (r0 8, .inl (cI, 9, .inl f_48)), (r0 9, .inl (cI, 9, .inl f_49))]]) hP1 hD1
            have hpm2 : List.Perm (([[(h0, .inr (4, [.int pc0, .ref (r0 0), .ref (r0 1), .ref (r0 2), .ref (r0 3), .ref (r0 4), .ref (r0 5), .ref (r0 6), .int sc_43, .ref (r0 7), .ref (r0 8), .ref (r0 9)])), (r0 0, .inl (cI, 60, .inl f_36)), (r0 1, .inl (cI, 60, .inl f_37)), (r0 2, .inl (cI, 60, .inl f_38)), (r0 3, .inl (cI, 60, .inl f_39)), (r0 4, .inl (cZ, 60, .inl f_40)), (r0 5, .inl (cI, 60, .inl f_41)), (r0 6, .inl (cI, 60, .inl f_42)), (r0 7, .inl (cI, 9, .inl f_46)), (r0 8, .inl (cI, 9, .inl f_48)), (r0 9, .inl (cI, 9, .inl f_49))]] : List va_W) ++ ([] : List va_W)) ([[(h0, .inr (4, [.int pc0, .ref (r0 0), .ref (r0 1), .ref (r0 2), .ref (r0 3), .ref (r0 4), .ref (r0 5), .ref (r0 6), .int sc_43, .ref (r0 7), .ref (r0 8), .ref (r0 9)])), (r0 0, .inl (cI, 60, .inl f_36)), (r0 1, .inl (cI, 60, .inl f_37)), (r0 2, .inl (cI, 60, .inl f_38)), (r0 3, .inl (cI, 60, .inl f_39)), (r0 4, .inl (cZ, 60, .inl f_40)), (r0 5, .inl (cI, 60, .inl f_41)), (r0 6, .inl (cI, 60, .inl f_42)), (r0 7, .inl (cI, 9, .inl f_46)), (r0 8, .inl (cI, 9, .inl f_48)), (r0 9, .inl (cI, 9, .inl f_49))]] : List va_W) := pm_n 1 [0] (by decide) rfl rfl
            have hP := bk_reP hpm2 hP
            have hD := bk_reD hpm2 hD
            have hP : va_P (dC, dI) vwCl (List.flatten [[(h0, .inr (4, [.int pc0, .ref (r0 0), .ref (r0 1), .ref (r0 2), .ref (r0 3), .ref (r0 4), .ref (r0 5), .ref (r0 6), .int sc_43, .ref (r0 7), .ref (r0 8), .ref (r0 9)])), (r0 0, .inl (cI, 60, .inl f_36)), (r0 1, .inl (cI, 60, .inl f_37)), (r0 2, .inl (cI, 60, .inl f_38)), (r0 3, .inl (cI, 60, .inl f_39)), (r0 4, .inl (cZ, 60, .inl f_40)), (r0 5, .inl (cI, 60, .inl f_41)), (r0 6, .inl (cI, 60, .inl f_42)), (r0 7, .inl (cI, 9, .inl f_46)), (r0 8, .inl (cI, 9, .inl f_48)), (r0 9, .inl (cI, 9, .inl f_49))]]) H := hP
            have hD : va_D A (List.flatten [[(h0, .inr (4, [.int pc0, .ref (r0 0), .ref (r0 1), .ref (r0 2), .ref (r0 3), .ref (r0 4), .ref (r0 5), .ref (r0 6), .int sc_43, .ref (r0 7), .ref (r0 8), .ref (r0 9)])), (r0 0, .inl (cI, 60, .inl f_36)), (r0 1, .inl (cI, 60, .inl f_37)), (r0 2, .inl (cI, 60, .inl f_38)), (r0 3, .inl (cI, 60, .inl f_39)), (r0 4, .inl (cZ, 60, .inl f_40)), (r0 5, .inl (cI, 60, .inl f_41)), (r0 6, .inl (cI, 60, .inl f_42)), (r0 7, .inl (cI, 9, .inl f_46)), (r0 8, .inl (cI, 9, .inl f_48)), (r0 9, .inl (cI, 9, .inl f_49))]]) := hD
            obtain ⟨hlr_782, hhr_782⟩ := hw
            refine lv_if_eq (tgt := 132) hx hb dX6_firstToReckon_101 (by decide) (fun c_783 => ?_) (fun c_783 => ?_)
            · have c_783 : r_782.toInt = 0 := f_eq rfl tI_0 c_783
              obtain ⟨z_784, ez_784⟩ : ∃ y : Int32, y = g_1 + 1 := ⟨_, rfl⟩
              have hz_784 : z_784.toInt = g_1.toInt + 1 := by rw [ez_784]; exact t_add rfl tI_1 (by omega) (by omega)
              refine lv_iinc (v := z_784) (lv' := [(5, .int z_784), (6, .int 1), (4, .int g_2), (0, .ref h0), (1, .int p1), (2, .int p2), (3, .int p3)]) hx hb dX6_firstToReckon_132 hl (k := 1) rfl (by rw [ez_784]; rfl) (by decide) rfl (fun ls hl => ?_)
              refine lv_goto (tgt := 6) hx hb dX6_firstToReckon_135 (by decide) ?_
              exact ih_775 z_784 g_2 (by omega) (by omega) (by omega) (by omega) (by omega) (by omega) (by omega) (by omega) _ _ hP hD hS ls (lv_sub hl [0, 2, 3, 4, 5, 6] rfl)
            · have c_783 : ¬ r_782.toInt = 0 := f_ne rfl tI_0 c_783
              refine lv_aload_n hx hb dX6_firstToReckon_104 rfl (lv_at hl 3 rfl) ?_
              refine lv_aload_n hx hb dX6_firstToReckon_105 rfl (lv_at hl 3 rfl) ?_
              refine va_get (D := (dC, dI)) (ci := 4) (v := .ref (r0 0)) (C := RX6) (T := TX6) (N := 12) hx hb hts iw_X6_firstToReckon_X6 hown hK hP 0 rfl rfl 1 (by decide) (hts (.fieldLink RX6 15 "HungFloors$Papers" "office" "[I") (by decide +kernel)) (fun _ h9 => h9) rfl dX6_firstToReckon_106 ?_
              refine lv_iload hx hb dX6_firstToReckon_109 (lv_at hl 1 rfl) ?_
              refine va_iald hx hb hK hP 1 1 rfl rfl (v_in rfl (by omega) (by omega)) dX6_firstToReckon_111 ?_
              refine lv_topi (fun z_785 ez_785 => ?_)
              refine lv_iload_n hx hb dX6_firstToReckon_112 rfl (lv_at hl 4 rfl) ?_
              refine lv_aload_n hx hb dX6_firstToReckon_113 rfl (lv_at hl 3 rfl) ?_
              refine va_get (D := (dC, dI)) (ci := 4) (v := .ref (r0 1)) (C := RX6) (T := TX6) (N := 12) hx hb hts iw_X6_firstToReckon_X6 hown hK hP 0 rfl rfl 2 (by decide) (hts (.fieldLink RX6 19 "HungFloors$Papers" "day" "[I") (by decide +kernel)) (fun _ h9 => h9) rfl dX6_firstToReckon_114 ?_
              refine lv_iload hx hb dX6_firstToReckon_117 (lv_at hl 1 rfl) ?_
              refine va_iald hx hb hK hP 2 1 rfl rfl (v_in rfl (by omega) (by omega)) dX6_firstToReckon_119 ?_
              refine lv_topi (fun z_786 ez_786 => ?_)
              refine lv_iload_n hx hb dX6_firstToReckon_120 rfl (lv_at hl 6 rfl) ?_
              have hpm : List.Perm ([[(h0, .inr (4, [.int pc0, .ref (r0 0), .ref (r0 1), .ref (r0 2), .ref (r0 3), .ref (r0 4), .ref (r0 5), .ref (r0 6), .int sc_43, .ref (r0 7), .ref (r0 8), .ref (r0 9)])), (r0 0, .inl (cI, 60, .inl f_36)), (r0 1, .inl (cI, 60, .inl f_37)), (r0 2, .inl (cI, 60, .inl f_38)), (r0 3, .inl (cI, 60, .inl f_39)), (r0 4, .inl (cZ, 60, .inl f_40)), (r0 5, .inl (cI, 60, .inl f_41)), (r0 6, .inl (cI, 60, .inl f_42)), (r0 7, .inl (cI, 9, .inl f_46)), (r0 8, .inl (cI, 9, .inl f_48)), (r0 9, .inl (cI, 9, .inl f_49))]] : List va_W) (([[(h0, .inr (4, [.int pc0, .ref (r0 0), .ref (r0 1), .ref (r0 2), .ref (r0 3), .ref (r0 4), .ref (r0 5), .ref (r0 6), .int sc_43, .ref (r0 7), .ref (r0 8), .ref (r0 9)])), (r0 0, .inl (cI, 60, .inl f_36)), (r0 1, .inl (cI, 60, .inl f_37)), (r0 2, .inl (cI, 60, .inl f_38)), (r0 3, .inl (cI, 60, .inl f_39)), (r0 4, .inl (cZ, 60, .inl f_40)), (r0 5, .inl (cI, 60, .inl f_41)), (r0 6, .inl (cI, 60, .inl f_42)), (r0 7, .inl (cI, 9, .inl f_46)), (r0 8, .inl (cI, 9, .inl f_48)), (r0 9, .inl (cI, 9, .inl f_49))]] : List va_W) ++ ([] : List va_W)) := pm_n 1 [0] (by decide) rfl rfl
              have hPc := bk_P hpm hP
              have hDc := bk_D hpm hD
              have hFc := bk_F hpm hD hS hA
              refine va_calli (va_runV (As := [.int z_785, .int p1, .int z_786, .int p3]) (rest := []) ⟨hx, hb, hml, hown, hts⟩ (c_X6_hoursUpTo l dC dI ad tN fN cB cI cJ cZ h0 z_785 p1 z_786 p3 r0 pc0 _ ⟨f_36, f_37, f_38, f_39, f_40, f_41, f_42, sc_43, f_46, f_48, f_49, rfl, by omega, by omega, by omega, by omega, hr_47⟩ H.size) (cwV 4 hts gX6_firstToReckon_X6_hoursUpTo rfl rfl rfl (by decide +kernel) ⟨(Nat.le_of_ble_eq_true rfl), (Nat.le_of_ble_eq_true rfl)⟩) ⟨fun a U g mk q => by obtain ⟨q0, q1, qP, qK, qD, qE⟩ := q; exact ⟨q0, q1, qP, va_K.moved (u := U) (U := U.calling g mk a) (Vm.Alike.refl U.vm) qK, qD, ey_blind qE⟩, va_recv hK hPc (ci := 4) (q0 := 0) rfl rfl, fun U hU hW => ⟨rfl, by rw [hU], by rw [hU]; exact hPc, va_K.moved hW.alike hK, hDc.weaken (fun _ _ _ _ => trivial), ey_call hE hS hFc hU hW⟩⟩ rfl rfl hl.1 rfl (lv_room (Nat.le_of_ble_eq_true rfl)) dX6_firstToReckon_121 ⟨(Nat.le_of_ble_eq_true rfl), (Nat.le_of_ble_eq_true rfl)⟩) hS (fun q _ h => hFc q h) hFc (fun r_787 u t H locs ht hvm hw hB hz1 hk1 hS => ?_)
              obtain ⟨hP1, hD1⟩ := hB
              rw [ht] at hP1
              obtain ⟨hP, hD⟩ := bk_join hpm hP hD hk1 hFc (Cs1 := [[(h0, .inr (4, [.int pc0, .ref (r0 0), .ref (r0 1), .ref (r0 2), .ref (r0 3), .ref (r0 4), .ref (r0 5), .ref (r0 6), .int sc_43, .ref (r0 7), .ref (r0 8), .ref (r0 9)])), (r0 0, .inl (cI, 60, .inl f_36)), (r0 1, .inl (cI, 60, .inl f_37)), (r0 2, .inl (cI, 60, .inl f_38)), (r0 3, .inl (cI, 60, .inl f_39)), (r0 4, .inl (cZ, 60, .inl f_40)), (r0 5, .inl (cI, 60, .inl f_41)), (r0 6, .inl (cI, 60, .inl f_42)), (r0 7, .inl (cI, 9, .inl f_46)), (r0 8, .inl (cI, 9, .inl f_48)), (r0 9, .inl (cI, 9, .inl f_49))]]) hP1 hD1
              have hpm2 : List.Perm (([[(h0, .inr (4, [.int pc0, .ref (r0 0), .ref (r0 1), .ref (r0 2), .ref (r0 3), .ref (r0 4), .ref (r0 5), .ref (r0 6), .int sc_43, .ref (r0 7), .ref (r0 8), .ref (r0 9)])), (r0 0, .inl (cI, 60, .inl f_36)), (r0 1, .inl (cI, 60, .inl f_37)), (r0 2, .inl (cI, 60, .inl f_38)), (r0 3, .inl (cI, 60, .inl f_39)), (r0 4, .inl (cZ, 60, .inl f_40)), (r0 5, .inl (cI, 60, .inl f_41)), (r0 6, .inl (cI, 60, .inl f_42)), (r0 7, .inl (cI, 9, .inl f_46)), (r0 8, .inl (cI, 9, .inl f_48)), (r0 9, .inl (cI, 9, .inl f_49))]] : List va_W) ++ ([] : List va_W)) ([[(h0, .inr (4, [.int pc0, .ref (r0 0), .ref (r0 1), .ref (r0 2), .ref (r0 3), .ref (r0 4), .ref (r0 5), .ref (r0 6), .int sc_43, .ref (r0 7), .ref (r0 8), .ref (r0 9)])), (r0 0, .inl (cI, 60, .inl f_36)), (r0 1, .inl (cI, 60, .inl f_37)), (r0 2, .inl (cI, 60, .inl f_38)), (r0 3, .inl (cI, 60, .inl f_39)), (r0 4, .inl (cZ, 60, .inl f_40)), (r0 5, .inl (cI, 60, .inl f_41)), (r0 6, .inl (cI, 60, .inl f_42)), (r0 7, .inl (cI, 9, .inl f_46)), (r0 8, .inl (cI, 9, .inl f_48)), (r0 9, .inl (cI, 9, .inl f_49))]] : List va_W) := pm_n 1 [0] (by decide) rfl rfl
              have hP := bk_reP hpm2 hP
              have hD := bk_reD hpm2 hD
              have hP : va_P (dC, dI) vwCl (List.flatten [[(h0, .inr (4, [.int pc0, .ref (r0 0), .ref (r0 1), .ref (r0 2), .ref (r0 3), .ref (r0 4), .ref (r0 5), .ref (r0 6), .int sc_43, .ref (r0 7), .ref (r0 8), .ref (r0 9)])), (r0 0, .inl (cI, 60, .inl f_36)), (r0 1, .inl (cI, 60, .inl f_37)), (r0 2, .inl (cI, 60, .inl f_38)), (r0 3, .inl (cI, 60, .inl f_39)), (r0 4, .inl (cZ, 60, .inl f_40)), (r0 5, .inl (cI, 60, .inl f_41)), (r0 6, .inl (cI, 60, .inl f_42)), (r0 7, .inl (cI, 9, .inl f_46)), (r0 8, .inl (cI, 9, .inl f_48)), (r0 9, .inl (cI, 9, .inl f_49))]]) H := hP
              have hD : va_D A (List.flatten [[(h0, .inr (4, [.int pc0, .ref (r0 0), .ref (r0 1), .ref (r0 2), .ref (r0 3), .ref (r0 4), .ref (r0 5), .ref (r0 6), .int sc_43, .ref (r0 7), .ref (r0 8), .ref (r0 9)])), (r0 0, .inl (cI, 60, .inl f_36)), (r0 1, .inl (cI, 60, .inl f_37)), (r0 2, .inl (cI, 60, .inl f_38)), (r0 3, .inl (cI, 60, .inl f_39)), (r0 4, .inl (cZ, 60, .inl f_40)), (r0 5, .inl (cI, 60, .inl f_41)), (r0 6, .inl (cI, 60, .inl f_42)), (r0 7, .inl (cI, 9, .inl f_46)), (r0 8, .inl (cI, 9, .inl f_48)), (r0 9, .inl (cI, 9, .inl f_49))]]) := hD
              refine lv_iload_n hx hb dX6_firstToReckon_124 rfl (lv_at hl 5 rfl) ?_
              refine lv_icmp_lt (tgt := 132) hx hb dX6_firstToReckon_125 (by decide) (fun c_788 => ?_) (fun c_788 => ?_)
              · have c_788 : r_787.toInt < p2.toInt := f_lt rfl rfl c_788
                obtain ⟨z_789, ez_789⟩ : ∃ y : Int32, y = g_1 + 1 := ⟨_, rfl⟩
                have hz_789 : z_789.toInt = g_1.toInt + 1 := by rw [ez_789]; exact t_add rfl tI_1 (by omega) (by omega)
                refine lv_iinc (v := z_789) (lv' := [(5, .int z_789), (6, .int 1), (4, .int g_2), (0, .ref h0), (1, .int p1), (2, .int p2), (3, .int p3)]) hx hb dX6_firstToReckon_132 hl (k := 1) rfl (by rw [ez_789]; rfl) (by decide) rfl (fun ls hl => ?_)
                refine lv_goto (tgt := 6) hx hb dX6_firstToReckon_135 (by decide) ?_
                exact ih_775 z_789 g_2 (by omega) (by omega) (by omega) (by omega) (by omega) (by omega) (by omega) (by omega) _ _ hP hD hS ls (lv_sub hl [0, 2, 3, 4, 5, 6] rfl)
              · have c_788 : p2.toInt ≤ r_787.toInt := f_nlt rfl rfl c_788
                refine lv_iload hx hb dX6_firstToReckon_128 (lv_at hl 1 rfl) ?_
                refine lv_istore (lv' := [(4, .int g_1), (6, .int 1), (5, .int g_1), (0, .ref h0), (1, .int p1), (2, .int p2), (3, .int p3)]) hx hb dX6_firstToReckon_130 hl (by decide) rfl (fun ls hl => ?_)
                obtain ⟨z_790, ez_790⟩ : ∃ y : Int32, y = g_1 + 1 := ⟨_, rfl⟩
                have hz_790 : z_790.toInt = g_1.toInt + 1 := by rw [ez_790]; exact t_add rfl tI_1 (by omega) (by omega)
                refine lv_iinc (v := z_790) (lv' := [(5, .int z_790), (4, .int g_1), (6, .int 1), (0, .ref h0), (1, .int p1), (2, .int p2), (3, .int p3)]) hx hb dX6_firstToReckon_132 hl (k := 2) rfl (by rw [ez_790]; rfl) (by decide) rfl (fun ls hl => ?_)
                refine lv_goto (tgt := 6) hx hb dX6_firstToReckon_135 (by decide) ?_
                exact ih_775 z_790 g_1 (by omega) (by omega) (by omega) (by omega) (by omega) (by omega) (by omega) (by omega) _ _ hP hD hS ls (lv_sub hl [0, 1, 3, 4, 5, 6] rfl)
        · have c_777 : 0 ≤ g_2.toInt := f_nlt rfl tI_0 c_777
          refine lv_aload_n hx hb dX6_firstToReckon_20 rfl (lv_at hl 2 rfl) ?_
          refine va_get (D := (dC, dI)) (ci := 4) (v := .ref (r0 1)) (C := RX6) (T := TX6) (N := 12) hx hb hts iw_X6_firstToReckon_X6 hown hK hP 0 rfl rfl 2 (by decide) (hts (.fieldLink RX6 19 "HungFloors$Papers" "day" "[I") (by decide +kernel)) (fun _ h9 => h9) rfl dX6_firstToReckon_21 ?_
          refine lv_iload hx hb dX6_firstToReckon_24 (lv_at hl 0 rfl) ?_
          refine va_iald hx hb hK hP 2 1 rfl rfl (v_in rfl (by omega) (by omega)) dX6_firstToReckon_26 ?_
          refine lv_topi (fun z_791 ez_791 => ?_)
          refine lv_aload_n hx hb dX6_firstToReckon_27 rfl (lv_at hl 2 rfl) ?_
          refine va_get (D := (dC, dI)) (ci := 4) (v := .ref (r0 1)) (C := RX6) (T := TX6) (N := 12) hx hb hts iw_X6_firstToReckon_X6 hown hK hP 0 rfl rfl 2 (by decide) (hts (.fieldLink RX6 19 "HungFloors$Papers" "day" "[I") (by decide +kernel)) (fun _ h9 => h9) rfl dX6_firstToReckon_28 ?_
          refine lv_iload hx hb dX6_firstToReckon_31 (lv_at hl 1 rfl) ?_
          refine va_iald hx hb hK hP 2 1 rfl rfl (v_in rfl (by omega) (by omega)) dX6_firstToReckon_33 ?_
          refine lv_topi (fun z_792 ez_792 => ?_)
          refine lv_icmp_lt (tgt := 71) hx hb dX6_firstToReckon_34 (by decide) (fun c_793 => ?_) (fun c_793 => ?_)
          · have c_793 : z_791.toInt < z_792.toInt := f_lt rfl rfl c_793
            refine lv_iconst (v := 1) hx hb dX6_firstToReckon_71 (by decide) ?_
            refine lv_goto (tgt := 76) hx hb dX6_firstToReckon_72 (by decide) ?_
            refine lv_istore (lv' := [(6, .int 1), (5, .int g_1), (4, .int g_2), (0, .ref h0), (1, .int p1), (2, .int p2), (3, .int p3)]) hx hb dX6_firstToReckon_76 hl (by decide) rfl (fun ls hl => ?_)
            refine lv_iload hx hb dX6_firstToReckon_78 (lv_at hl 0 rfl) ?_
            refine lv_if_eq (tgt := 132) hx hb dX6_firstToReckon_80 (by decide) (fun c_794 => absurd c_794 (by decide)) (fun c_794 => ?_)
            refine lv_aload_n hx hb dX6_firstToReckon_83 rfl (lv_at hl 3 rfl) ?_
            refine va_get (D := (dC, dI)) (ci := 4) (v := .ref (r0 2)) (C := RX6) (T := TX6) (N := 12) hx hb hts iw_X6_firstToReckon_X6 hown hK hP 0 rfl rfl 3 (by decide) (hts (.fieldLink RX6 22 "HungFloors$Papers" "drawing" "[I") (by decide +kernel)) (fun _ h9 => h9) rfl dX6_firstToReckon_84 ?_
            refine lv_iload hx hb dX6_firstToReckon_87 (lv_at hl 1 rfl) ?_
            refine va_iald hx hb hK hP 3 1 rfl rfl (v_in rfl (by omega) (by omega)) dX6_firstToReckon_89 ?_
            refine lv_topi (fun z_795 ez_795 => ?_)
            refine lv_iload_n hx hb dX6_firstToReckon_90 rfl (lv_at hl 4 rfl) ?_
            refine lv_icmp_ne (tgt := 132) hx hb dX6_firstToReckon_91 (by decide) (fun c_796 => ?_) (fun c_796 => ?_)
            · have c_796 : ¬ z_795.toInt = p1.toInt := f_ne rfl rfl c_796
              obtain ⟨z_797, ez_797⟩ : ∃ y : Int32, y = g_1 + 1 := ⟨_, rfl⟩
              have hz_797 : z_797.toInt = g_1.toInt + 1 := by rw [ez_797]; exact t_add rfl tI_1 (by omega) (by omega)
              refine lv_iinc (v := z_797) (lv' := [(5, .int z_797), (6, .int 1), (4, .int g_2), (0, .ref h0), (1, .int p1), (2, .int p2), (3, .int p3)]) hx hb dX6_firstToReckon_132 hl (k := 1) rfl (by rw [ez_797]; rfl) (by decide) rfl (fun ls hl => ?_)
              refine lv_goto (tgt := 6) hx hb dX6_firstToReckon_135 (by decide) ?_
              exact ih_775 z_797 g_2 (by omega) (by omega) (by omega) (by omega) (by omega) (by omega) (by omega) (by omega) _ _ hP hD hS ls (lv_sub hl [0, 2, 3, 4, 5, 6] rfl)
            · have c_796 : z_795.toInt = p1.toInt := f_eq rfl rfl c_796
              refine lv_aload_n hx hb dX6_firstToReckon_94 rfl (lv_at hl 3 rfl) ?_
              refine lv_iload hx hb dX6_firstToReckon_95 (lv_at hl 1 rfl) ?_
              refine lv_iload_n hx hb dX6_firstToReckon_97 rfl (lv_at hl 6 rfl) ?_
              have hpm : List.Perm ([[(h0, .inr (4, [.int pc0, .ref (r0 0), .ref (r0 1), .ref (r0 2), .ref (r0 3), .ref (r0 4), .ref (r0 5), .ref (r0 6), .int sc_43, .ref (r0 7), .ref (r0 8), .ref (r0 9)])), (r0 0, .inl (cI, 60, .inl f_36)), (r0 1, .inl (cI, 60, .inl f_37)), (r0 2, .inl (cI, 60, .inl f_38)), (r0 3, .inl (cI, 60, .inl f_39)), (r0 4, .inl (cZ, 60, .inl f_40)), (r0 5, .inl (cI, 60, .inl f_41)), (r0 6, .inl (cI, 60, .inl f_42)), (r0 7, .inl (cI, 9, .inl f_46)), (r0 8, .inl (cI, 9, .inl f_48)), (r0 9, .inl (cI, 9, .inl f_49))]] : List va_W) (([[(h0, .inr (4, [.int pc0, .ref (r0 0), .ref (r0 1), .ref (r0 2), .ref (r0 3), .ref (r0 4), .ref (r0 5), .ref (r0 6), .int sc_43, .ref (r0 7), .ref (r0 8), .ref (r0 9)])), (r0 0, .inl (cI, 60, .inl f_36)), (r0 1, .inl (cI, 60, .inl f_37)), (r0 2, .inl (cI, 60, .inl f_38)), (r0 3, .inl (cI, 60, .inl f_39)), (r0 4, .inl (cZ, 60, .inl f_40)), (r0 5, .inl (cI, 60, .inl f_41)), (r0 6, .inl (cI, 60, .inl f_42)), (r0 7, .inl (cI, 9, .inl f_46)), (r0 8, .inl (cI, 9, .inl f_48)), (r0 9, .inl (cI, 9, .inl f_49))]] : List va_W) ++ ([] : List va_W)) := pm_n 1 [0] (by decide) rfl rfl
              have hPc := bk_P hpm hP
              have hDc := bk_D hpm hD
              have hFc := bk_F hpm hD hS hA
              refine va_calli (va_runV (As := [.int g_1, .int p3]) (rest := []) ⟨hx, hb, hml, hown, hts⟩ (c_X6_isKnown l dC dI ad tN fN cB cI cJ cZ h0 g_1 p3 r0 pc0 _ ⟨f_36, f_37, f_38, f_39, f_40, f_41, f_42, sc_43, f_46, f_48, f_49, rfl, by omega, by omega, by omega, by omega, hr_47⟩ H.size (by omega) (by omega)) (cwV 2 hts gX6_firstToReckon_X6_isKnown rfl rfl rfl (by decide +kernel) ⟨(Nat.le_of_ble_eq_true rfl), (Nat.le_of_ble_eq_true rfl)⟩) ⟨fun a U g mk q => by obtain ⟨q0, q1, qP, qK, qD, qE⟩ := q; exact ⟨q0, q1, qP, va_K.moved (u := U) (U := U.calling g mk a) (Vm.Alike.refl U.vm) qK, qD, ey_blind qE⟩, va_recv hK hPc (ci := 4) (q0 := 0) rfl rfl, fun U hU hW => ⟨rfl, by rw [hU], by rw [hU]; exact hPc, va_K.moved hW.alike hK, hDc.weaken (fun _ _ _ _ => trivial), ey_call hE hS hFc hU hW⟩⟩ rfl rfl hl.1 rfl (lv_room (Nat.le_of_ble_eq_true rfl)) dX6_firstToReckon_98 ⟨(Nat.le_of_ble_eq_true rfl), (Nat.le_of_ble_eq_true rfl)⟩) hS (fun q _ h => hFc q h) hFc (fun r_798 u t H locs ht hvm hw hB hz1 hk1 hS => ?_)
              obtain ⟨hP1, hD1⟩ := hB
              rw [ht] at hP1
              obtain ⟨hP, hD⟩ := bk_join hpm hP hD hk1 hFc (Cs1 := [[(h0, .inr (4, [.int pc0, .ref (r0 0), .ref (r0 1), .ref (r0 2), .ref (r0 3), .ref (r0 4), .ref (r0 5), .ref (r0 6), .int sc_43, .ref (r0 7), .ref (r0 8), .ref (r0 9)])), (r0 0, .inl (cI, 60, .inl f_36)), (r0 1, .inl (cI, 60, .inl f_37)), (r0 2, .inl (cI, 60, .inl f_38)), (r0 3, .inl (cI, 60, .inl f_39)), (r0 4, .inl (cZ, 60, .inl f_40)), (r0 5, .inl (cI, 60, .inl f_41)), (r0 6, .inl (cI, 60, .inl f_42)), (r0 7, .inl (cI, 9, .inl f_46)), (r0 8, .inl (cI, 9, .inl f_48)), (r0 9, .inl (cI, 9, .inl f_49))]]) hP1 hD1
              have hpm2 : List.Perm (([[(h0, .inr (4, [.int pc0, .ref (r0 0), .ref (r0 1), .ref (r0 2), .ref (r0 3), .ref (r0 4), .ref (r0 5), .ref (r0 6), .int sc_43, .ref (r0 7), .ref (r0 8), .ref (r0 9)])), (r0 0, .inl (cI, 60, .inl f_36)), (r0 1, .inl (cI, 60, .inl f_37)), (r0 2, .inl (cI, 60, .inl f_38)), (r0 3, .inl (cI, 60, .inl f_39)), (r0 4, .inl (cZ, 60, .inl f_40)), (r0 5, .inl (cI, 60, .inl f_41)), (r0 6, .inl (cI, 60, .inl f_42)), (r0 7, .inl (cI, 9, .inl f_46)), (r0 8, .inl (cI, 9, .inl f_48)), (r0 9, .inl (cI, 9, .inl f_49))]] : List va_W) ++ ([] : List va_W)) ([[(h0, .inr (4, [.int pc0, .ref (r0 0), .ref (r0 1), .ref (r0 2), .ref (r0 3), .ref (r0 4), .ref (r0 5), .ref (r0 6), .int sc_43, .ref (r0 7), .ref (r0 8), .ref (r0 9)])), (r0 0, .inl (cI, 60, .inl f_36)), (r0 1, .inl (cI, 60, .inl f_37)), (r0 2, .inl (cI, 60, .inl f_38)), (r0 3, .inl (cI, 60, .inl f_39)), (r0 4, .inl (cZ, 60, .inl f_40)), (r0 5, .inl (cI, 60, .inl f_41)), (r0 6, .inl (cI, 60, .inl f_42)), (r0 7, .inl (cI, 9, .inl f_46)), (r0 8, .inl (cI, 9, .inl f_48)), (r0 9, .inl (cI, 9, .inl f_49))]] : List va_W) := pm_n 1 [0] (by decide) rfl rfl
              have hP := bk_reP hpm2 hP
              have hD := bk_reD hpm2 hD
              have hP : va_P (dC, dI) vwCl (List.flatten [[(h0, .inr (4, [.int pc0, .ref (r0 0), .ref (r0 1), .ref (r0 2), .ref (r0 3), .ref (r0 4), .ref (r0 5), .ref (r0 6), .int sc_43, .ref (r0 7), .ref (r0 8), .ref (r0 9)])), (r0 0, .inl (cI, 60, .inl f_36)), (r0 1, .inl (cI, 60, .inl f_37)), (r0 2, .inl (cI, 60, .inl f_38)), (r0 3, .inl (cI, 60, .inl f_39)), (r0 4, .inl (cZ, 60, .inl f_40)), (r0 5, .inl (cI, 60, .inl f_41)), (r0 6, .inl (cI, 60, .inl f_42)), (r0 7, .inl (cI, 9, .inl f_46)), (r0 8, .inl (cI, 9, .inl f_48)), (r0 9, .inl (cI, 9, .inl f_49))]]) H := hP
              have hD : va_D A (List.flatten [[(h0, .inr (4, [.int pc0, .ref (r0 0), .ref (r0 1), .ref (r0 2), .ref (r0 3), .ref (r0 4), .ref (r0 5), .ref (r0 6), .int sc_43, .ref (r0 7), .ref (r0 8), .ref (r0 9)])), (r0 0, .inl (cI, 60, .inl f_36)), (r0 1, .inl (cI, 60, .inl f_37)), (r0 2, .inl (cI, 60, .inl f_38)), (r0 3, .inl (cI, 60, .inl f_39)), (r0 4, .inl (cZ, 60, .inl f_40)), (r0 5, .inl (cI, 60, .inl f_41)), (r0 6, .inl (cI, 60, .inl f_42)), (r0 7, .inl (cI, 9, .inl f_46)), (r0 8, .inl (cI, 9, .inl f_48)), (r0 9, .inl (cI, 9, .inl f_49))]]) := hD
              obtain ⟨hlr_798, hhr_798⟩ := hw
              refine lv_if_eq (tgt := 132) hx hb dX6_firstToReckon_101 (by decide) (fun c_799 => ?_) (fun c_799 => ?_)
              · have c_799 : r_798.toInt = 0 := f_eq rfl tI_0 c_799
                obtain ⟨z_800, ez_800⟩ : ∃ y : Int32, y = g_1 + 1 := ⟨_, rfl⟩
                have hz_800 : z_800.toInt = g_1.toInt + 1 := by rw [ez_800]; exact t_add rfl tI_1 (by omega) (by omega)
                refine lv_iinc (v := z_800) (lv' := [(5, .int z_800), (6, .int 1), (4, .int g_2), (0, .ref h0), (1, .int p1), (2, .int p2), (3, .int p3)]) hx hb dX6_firstToReckon_132 hl (k := 1) rfl (by rw [ez_800]; rfl) (by decide) rfl (fun ls hl => ?_)
                refine lv_goto (tgt := 6) hx hb dX6_firstToReckon_135 (by decide) ?_
                exact ih_775 z_800 g_2 (by omega) (by omega) (by omega) (by omega) (by omega) (by omega) (by omega) (by omega) _ _ hP hD hS ls (lv_sub hl [0, 2, 3, 4, 5, 6] rfl)
              · have c_799 : ¬ r_798.toInt = 0 := f_ne rfl tI_0 c_799
                refine lv_aload_n hx hb dX6_firstToReckon_104 rfl (lv_at hl 3 rfl) ?_
                refine lv_aload_n hx hb dX6_firstToReckon_105 rfl (lv_at hl 3 rfl) ?_
                refine va_get (D := (dC, dI)) (ci := 4) (v := .ref (r0 0)) (C := RX6) (T := TX6) (N := 12) hx hb hts iw_X6_firstToReckon_X6 hown hK hP 0 rfl rfl 1 (by decide) (hts (.fieldLink RX6 15 "HungFloors$Papers" "office" "[I") (by decide +kernel)) (fun _ h9 => h9) rfl dX6_firstToReckon_106 ?_
                refine lv_iload hx hb dX6_firstToReckon_109 (lv_at hl 1 rfl) ?_
                refine va_iald hx hb hK hP 1 1 rfl rfl (v_in rfl (by omega) (by omega)) dX6_firstToReckon_111 ?_
                refine lv_topi (fun z_801 ez_801 => ?_)
                refine lv_iload_n hx hb dX6_firstToReckon_112 rfl (lv_at hl 4 rfl) ?_
                refine lv_aload_n hx hb dX6_firstToReckon_113 rfl (lv_at hl 3 rfl) ?_
                refine va_get (D := (dC, dI)) (ci := 4) (v := .ref (r0 1)) (C := RX6) (T := TX6) (N := 12) hx hb hts iw_X6_firstToReckon_X6 hown hK hP 0 rfl rfl 2 (by decide) (hts (.fieldLink RX6 19 "HungFloors$Papers" "day" "[I") (by decide +kernel)) (fun _ h9 => h9) rfl dX6_firstToReckon_114 ?_
                refine lv_iload hx hb dX6_firstToReckon_117 (lv_at hl 1 rfl) ?_
                refine va_iald hx hb hK hP 2 1 rfl rfl (v_in rfl (by omega) (by omega)) dX6_firstToReckon_119 ?_
                refine lv_topi (fun z_802 ez_802 => ?_)
                have qz_802 : z_802.toInt = z_791.toInt := by rw [ez_802, ez_791]
                refine lv_iload_n hx hb dX6_firstToReckon_120 rfl (lv_at hl 6 rfl) ?_
                have hpm : List.Perm ([[(h0, .inr (4, [.int pc0, .ref (r0 0), .ref (r0 1), .ref (r0 2), .ref (r0 3), .ref (r0 4), .ref (r0 5), .ref (r0 6), .int sc_43, .ref (r0 7), .ref (r0 8), .ref (r0 9)])), (r0 0, .inl (cI, 60, .inl f_36)), (r0 1, .inl (cI, 60, .inl f_37)), (r0 2, .inl (cI, 60, .inl f_38)), (r0 3, .inl (cI, 60, .inl f_39)), (r0 4, .inl (cZ, 60, .inl f_40)), (r0 5, .inl (cI, 60, .inl f_41)), (r0 6, .inl (cI, 60, .inl f_42)), (r0 7, .inl (cI, 9, .inl f_46)), (r0 8, .inl (cI, 9, .inl f_48)), (r0 9, .inl (cI, 9, .inl f_49))]] : List va_W) (([[(h0, .inr (4, [.int pc0, .ref (r0 0), .ref (r0 1), .ref (r0 2), .ref (r0 3), .ref (r0 4), .ref (r0 5), .ref (r0 6), .int sc_43, .ref (r0 7), .ref (r0 8), .ref (r0 9)])), (r0 0, .inl (cI, 60, .inl f_36)), (r0 1, .inl (cI, 60, .inl f_37)), (r0 2, .inl (cI, 60, .inl f_38)), (r0 3, .inl (cI, 60, .inl f_39)), (r0 4, .inl (cZ, 60, .inl f_40)), (r0 5, .inl (cI, 60, .inl f_41)), (r0 6, .inl (cI, 60, .inl f_42)), (r0 7, .inl (cI, 9, .inl f_46)), (r0 8, .inl (cI, 9, .inl f_48)), (r0 9, .inl (cI, 9, .inl f_49))]] : List va_W) ++ ([] : List va_W)) := pm_n 1 [0] (by decide) rfl rfl
                have hPc := bk_P hpm hP
                have hDc := bk_D hpm hD
                have hFc := bk_F hpm hD hS hA
                refine va_calli (va_runV (As := [.int z_801, .int p1, .int z_802, .int p3]) (rest := []) ⟨hx, hb, hml, hown, hts⟩ (c_X6_hoursUpTo l dC dI ad tN fN cB cI cJ cZ h0 z_801 p1 z_802 p3 r0 pc0 _ ⟨f_36, f_37, f_38, f_39, f_40, f_41, f_42, sc_43, f_46, f_48, f_49, rfl, by omega, by omega, by omega, by omega, hr_47⟩ H.size) (cwV 4 hts gX6_firstToReckon_X6_hoursUpTo rfl rfl rfl (by decide +kernel) ⟨(Nat.le_of_ble_eq_true rfl), (Nat.le_of_ble_eq_true rfl)⟩) ⟨fun a U g mk q => by obtain ⟨q0, q1, qP, qK, qD, qE⟩ := q; exact ⟨q0, q1, qP, va_K.moved (u := U) (U := U.calling g mk a) (Vm.Alike.refl U.vm) qK, qD, ey_blind qE⟩, va_recv hK hPc (ci := 4) (q0 := 0) rfl rfl, fun U hU hW => ⟨rfl, by rw [hU], by rw [hU]; exact hPc, va_K.moved hW.alike hK, hDc.weaken (fun _ _ _ _ => trivial), ey_call hE hS hFc hU hW⟩⟩ rfl rfl hl.1 rfl (lv_room (Nat.le_of_ble_eq_true rfl)) dX6_firstToReckon_121 ⟨(Nat.le_of_ble_eq_true rfl), (Nat.le_of_ble_eq_true rfl)⟩) hS (fun q _ h => hFc q h) hFc (fun r_803 u t H locs ht hvm hw hB hz1 hk1 hS => ?_)
                obtain ⟨hP1, hD1⟩ := hB
                rw [ht] at hP1
                obtain ⟨hP, hD⟩ := bk_join hpm hP hD hk1 hFc (Cs1 := [[(h0, .inr (4, [.int pc0, .ref (r0 0), .ref (r0 1), .ref (r0 2), .ref (r0 3), .ref (r0 4), .ref (r0 5), .ref (r0 6), .int sc_43, .ref (r0 7), .ref (r0 8), .ref (r0 9)])), (r0 0, .inl (cI, 60, .inl f_36)), (r0 1, .inl (cI, 60, .inl f_37)), (r0 2, .inl (cI, 60, .inl f_38)), (r0 3, .inl (cI, 60, .inl f_39)), (r0 4, .inl (cZ, 60, .inl f_40)), (r0 5, .inl (cI, 60, .inl f_41)), (r0 6, .inl (cI, 60, .inl f_42)), (r0 7, .inl (cI, 9, .inl f_46)), (r0 8, .inl (cI, 9, .inl f_48)), (r0 9, .inl (cI, 9, .inl f_49))]]) hP1 hD1
                have hpm2 : List.Perm (([[(h0, .inr (4, [.int pc0, .ref (r0 0), .ref (r0 1), .ref (r0 2), .ref (r0 3), .ref (r0 4), .ref (r0 5), .ref (r0 6), .int sc_43, .ref (r0 7), .ref (r0 8), .ref (r0 9)])), (r0 0, .inl (cI, 60, .inl f_36)), (r0 1, .inl (cI, 60, .inl f_37)), (r0 2, .inl (cI, 60, .inl f_38)), (r0 3, .inl (cI, 60, .inl f_39)), (r0 4, .inl (cZ, 60, .inl f_40)), (r0 5, .inl (cI, 60, .inl f_41)), (r0 6, .inl (cI, 60, .inl f_42)), (r0 7, .inl (cI, 9, .inl f_46)), (r0 8, .inl (cI, 9, .inl f_48)), (r0 9, .inl (cI, 9, .inl f_49))]] : List va_W) ++ ([] : List va_W)) ([[(h0, .inr (4, [.int pc0, .ref (r0 0), .ref (r0 1), .ref (r0 2), .ref (r0 3), .ref (r0 4), .ref (r0 5), .ref (r0 6), .int sc_43, .ref (r0 7), .ref (r0 8), .ref (r0 9)])), (r0 0, .inl (cI, 60, .inl f_36)), (r0 1, .inl (cI, 60, .inl f_37)), (r0 2, .inl (cI, 60, .inl f_38)), (r0 3, .inl (cI, 60, .inl f_39)), (r0 4, .inl (cZ, 60, .inl f_40)), (r0 5, .inl (cI, 60, .inl f_41)), (r0 6, .inl (cI, 60, .inl f_42)), (r0 7, .inl (cI, 9, .inl f_46)), (r0 8, .inl (cI, 9, .inl f_48)), (r0 9, .inl (cI, 9, .inl f_49))]] : List va_W) := pm_n 1 [0] (by decide) rfl rfl
                have hP := bk_reP hpm2 hP
                have hD := bk_reD hpm2 hD
                have hP : va_P (dC, dI) vwCl (List.flatten [[(h0, .inr (4, [.int pc0, .ref (r0 0), .ref (r0 1), .ref (r0 2), .ref (r0 3), .ref (r0 4), .ref (r0 5), .ref (r0 6), .int sc_43, .ref (r0 7), .ref (r0 8), .ref (r0 9)])), (r0 0, .inl (cI, 60, .inl f_36)), (r0 1, .inl (cI, 60, .inl f_37)), (r0 2, .inl (cI, 60, .inl f_38)), (r0 3, .inl (cI, 60, .inl f_39)), (r0 4, .inl (cZ, 60, .inl f_40)), (r0 5, .inl (cI, 60, .inl f_41)), (r0 6, .inl (cI, 60, .inl f_42)), (r0 7, .inl (cI, 9, .inl f_46)), (r0 8, .inl (cI, 9, .inl f_48)), (r0 9, .inl (cI, 9, .inl f_49))]]) H := hP
                have hD : va_D A (List.flatten [[(h0, .inr (4, [.int pc0, .ref (r0 0), .ref (r0 1), .ref (r0 2), .ref (r0 3), .ref (r0 4), .ref (r0 5), .ref (r0 6), .int sc_43, .ref (r0 7), .ref (r0 8), .ref (r0 9)])), (r0 0, .inl (cI, 60, .inl f_36)), (r0 1, .inl (cI, 60, .inl f_37)), (r0 2, .inl (cI, 60, .inl f_38)), (r0 3, .inl (cI, 60, .inl f_39)), (r0 4, .inl (cZ, 60, .inl f_40)), (r0 5, .inl (cI, 60, .inl f_41)), (r0 6, .inl (cI, 60, .inl f_42)), (r0 7, .inl (cI, 9, .inl f_46)), (r0 8, .inl (cI, 9, .inl f_48)), (r0 9, .inl (cI, 9, .inl f_49))]]) := hD
                refine lv_iload_n hx hb dX6_firstToReckon_124 rfl (lv_at hl 5 rfl) ?_
                refine lv_icmp_lt (tgt := 132) hx hb dX6_firstToReckon_125 (by decide) (fun c_804 => ?_) (fun c_804 => ?_)
                · have c_804 : r_803.toInt < p2.toInt := f_lt rfl rfl c_804
                  obtain ⟨z_805, ez_805⟩ : ∃ y : Int32, y = g_1 + 1 := ⟨_, rfl⟩
                  have hz_805 : z_805.toInt = g_1.toInt + 1 := by rw [ez_805]; exact t_add rfl tI_1 (by omega) (by omega)
                  refine lv_iinc (v := z_805) (lv' := [(5, .int z_805), (6, .int 1), (4, .int g_2), (0, .ref h0), (1, .int p1), (2, .int p2), (3, .int p3)]) hx hb dX6_firstToReckon_132 hl (k := 1) rfl (by rw [ez_805]; rfl) (by decide) rfl (fun ls hl => ?_)
                  refine lv_goto (tgt := 6) hx hb dX6_firstToReckon_135 (by decide) ?_
                  exact ih_775 z_805 g_2 (by omega) (by omega) (by omega) (by omega) (by omega) (by omega) (by omega) (by omega) _ _ hP hD hS ls (lv_sub hl [0, 2, 3, 4, 5, 6] rfl)
                · have c_804 : p2.toInt ≤ r_803.toInt := f_nlt rfl rfl c_804
                  refine lv_iload hx hb dX6_firstToReckon_128 (lv_at hl 1 rfl) ?_
                  refine lv_istore (lv' := [(4, .int g_1), (6, .int 1), (5, .int g_1), (0, .ref h0), (1, .int p1), (2, .int p2), (3, .int p3)]) hx hb dX6_firstToReckon_130 hl (by decide) rfl (fun ls hl => ?_)
                  obtain ⟨z_806, ez_806⟩ : ∃ y : Int32, y = g_1 + 1 := ⟨_, rfl⟩
                  have hz_806 : z_806.toInt = g_1.toInt + 1 := by rw [ez_806]; exact t_add rfl tI_1 (by omega) (by omega)
                  refine lv_iinc (v := z_806) (lv' := [(5, .int z_806), (4, .int g_1), (6, .int 1), (0, .ref h0), (1, .int p1), (2, .int p2), (3, .int p3)]) hx hb dX6_firstToReckon_132 hl (k := 2) rfl (by rw [ez_806]; rfl) (by decide) rfl (fun ls hl => ?_)
                  refine lv_goto (tgt := 6) hx hb dX6_firstToReckon_135 (by decide) ?_
                  exact ih_775 z_806 g_1 (by omega) (by omega) (by omega) (by omega) (by omega) (by omega) (by omega) (by omega) _ _ hP hD hS ls (lv_sub hl [0, 1, 3, 4, 5, 6] rfl)
          · have c_793 : z_792.toInt ≤ z_791.toInt := f_nlt rfl rfl c_793
            refine lv_aload_n hx hb dX6_firstToReckon_37 rfl (lv_at hl 2 rfl) ?_
            refine va_get (D := (dC, dI)) (ci := 4) (v := .ref (r0 1)) (C := RX6) (T := TX6) (N := 12) hx hb hts iw_X6_firstToReckon_X6 hown hK hP 0 rfl rfl 2 (by decide) (hts (.fieldLink RX6 19 "HungFloors$Papers" "day" "[I") (by decide +kernel)) (fun _ h9 => h9) rfl dX6_firstToReckon_38 ?_
            refine lv_iload hx hb dX6_firstToReckon_41 (lv_at hl 0 rfl) ?_
            refine va_iald hx hb hK hP 2 1 rfl rfl (v_in rfl (by omega) (by omega)) dX6_firstToReckon_43 ?_
            refine lv_topi (fun z_807 ez_807 => ?_)
            have qz_807 : z_807.toInt = z_791.toInt := by rw [ez_807, ez_791]
            refine lv_aload_n hx hb dX6_firstToReckon_44 rfl (lv_at hl 2 rfl) ?_
            refine va_get (D := (dC, dI)) (ci := 4) (v := .ref (r0 1)) (C := RX6) (T := TX6) (N := 12) hx hb hts iw_X6_firstToReckon_X6 hown hK hP 0 rfl rfl 2 (by decide) (hts (.fieldLink RX6 19 "HungFloors$Papers" "day" "[I") (by decide +kernel)) (fun _ h9 => h9) rfl dX6_firstToReckon_45 ?_
            refine lv_iload hx hb dX6_firstToReckon_48 (lv_at hl 1 rfl) ?_
            refine va_iald hx hb hK hP 2 1 rfl rfl (v_in rfl (by omega) (by omega)) dX6_firstToReckon_50 ?_
            refine lv_topi (fun z_808 ez_808 => ?_)
            have qz_808 : z_808.toInt = z_792.toInt := by rw [ez_808, ez_792]
            refine lv_icmp_ne (tgt := 75) hx hb dX6_firstToReckon_51 (by decide) (fun c_809 => ?_) (fun c_809 => ?_)
            · have c_809 : ¬ z_807.toInt = z_808.toInt := f_ne rfl rfl c_809
              refine lv_iconst (v := 0) hx hb dX6_firstToReckon_75 (by decide) ?_
              refine lv_istore (lv' := [(6, .int 0), (5, .int g_1), (4, .int g_2), (0, .ref h0), (1, .int p1), (2, .int p2), (3, .int p3)]) hx hb dX6_firstToReckon_76 hl (by decide) rfl (fun ls hl => ?_)
              refine lv_iload hx hb dX6_firstToReckon_78 (lv_at hl 0 rfl) ?_
              refine lv_if_eq (tgt := 132) hx hb dX6_firstToReckon_80 (by decide) (fun c_810 => ?_) (fun c_810 => absurd c_810 (by decide))
              obtain ⟨z_811, ez_811⟩ : ∃ y : Int32, y = g_1 + 1 := ⟨_, rfl⟩
              have hz_811 : z_811.toInt = g_1.toInt + 1 := by rw [ez_811]; exact t_add rfl tI_1 (by omega) (by omega)
              refine lv_iinc (v := z_811) (lv' := [(5, .int z_811), (6, .int 0), (4, .int g_2), (0, .ref h0), (1, .int p1), (2, .int p2), (3, .int p3)]) hx hb dX6_firstToReckon_132 hl (k := 1) rfl (by rw [ez_811]; rfl) (by decide) rfl (fun ls hl => ?_)
              refine lv_goto (tgt := 6) hx hb dX6_firstToReckon_135 (by decide) ?_
              exact ih_775 z_811 g_2 (by omega) (by omega) (by omega) (by omega) (by omega) (by omega) (by omega) (by omega) _ _ hP hD hS ls (lv_sub hl [0, 2, 3, 4, 5, 6] rfl)
            · have c_809 : z_807.toInt = z_808.toInt := f_eq rfl rfl c_809
              refine lv_aload_n hx hb dX6_firstToReckon_54 rfl (lv_at hl 2 rfl) ?_
              refine va_get (D := (dC, dI)) (ci := 4) (v := .ref (r0 0)) (C := RX6) (T := TX6) (N := 12) hx hb hts iw_X6_firstToReckon_X6 hown hK hP 0 rfl rfl 1 (by decide) (hts (.fieldLink RX6 15 "HungFloors$Papers" "office" "[I") (by decide +kernel)) (fun _ h9 => h9) rfl dX6_firstToReckon_55 ?_
              refine lv_iload hx hb dX6_firstToReckon_58 (lv_at hl 0 rfl) ?_
              refine va_iald hx hb hK hP 1 1 rfl rfl (v_in rfl (by omega) (by omega)) dX6_firstToReckon_60 ?_
              refine lv_topi (fun z_812 ez_812 => ?_)
              refine lv_aload_n hx hb dX6_firstToReckon_61 rfl (lv_at hl 2 rfl) ?_
              refine va_get (D := (dC, dI)) (ci := 4) (v := .ref (r0 0)) (C := RX6) (T := TX6) (N := 12) hx hb hts iw_X6_firstToReckon_X6 hown hK hP 0 rfl rfl 1 (by decide) (hts (.fieldLink RX6 15 "HungFloors$Papers" "office" "[I") (by decide +kernel)) (fun _ h9 => h9) rfl dX6_firstToReckon_62 ?_
              refine lv_iload hx hb dX6_firstToReckon_65 (lv_at hl 1 rfl) ?_
              refine va_iald hx hb hK hP 1 1 rfl rfl (v_in rfl (by omega) (by omega)) dX6_firstToReckon_67 ?_
              refine lv_topi (fun z_813 ez_813 => ?_)
              refine lv_icmp_ge (tgt := 75) hx hb dX6_firstToReckon_68 (by decide) (fun c_814 => ?_) (fun c_814 => ?_)
              · have c_814 : z_813.toInt ≤ z_812.toInt := f_le rfl rfl c_814
                refine lv_iconst (v := 0) hx hb dX6_firstToReckon_75 (by decide) ?_
                refine lv_istore (lv' := [(6, .int 0), (5, .int g_1), (4, .int g_2), (0, .ref h0), (1, .int p1), (2, .int p2), (3, .int p3)]) hx hb dX6_firstToReckon_76 hl (by decide) rfl (fun ls hl => ?_)
                refine lv_iload hx hb dX6_firstToReckon_78 (lv_at hl 0 rfl) ?_
                refine lv_if_eq (tgt := 132) hx hb dX6_firstToReckon_80 (by decide) (fun c_815 => ?_) (fun c_815 => absurd c_815 (by decide))
                obtain ⟨z_816, ez_816⟩ : ∃ y : Int32, y = g_1 + 1 := ⟨_, rfl⟩
                have hz_816 : z_816.toInt = g_1.toInt + 1 := by rw [ez_816]; exact t_add rfl tI_1 (by omega) (by omega)
                refine lv_iinc (v := z_816) (lv' := [(5, .int z_816), (6, .int 0), (4, .int g_2), (0, .ref h0), (1, .int p1), (2, .int p2), (3, .int p3)]) hx hb dX6_firstToReckon_132 hl (k := 1) rfl (by rw [ez_816]; rfl) (by decide) rfl (fun ls hl => ?_)
                refine lv_goto (tgt := 6) hx hb dX6_firstToReckon_135 (by decide) ?_
                exact ih_775 z_816 g_2 (by omega) (by omega) (by omega) (by omega) (by omega) (by omega) (by omega) (by omega) _ _ hP hD hS ls (lv_sub hl [0, 2, 3, 4, 5, 6] rfl)
              · have c_814 : z_812.toInt < z_813.toInt := f_nle rfl rfl c_814
                refine lv_iconst (v := 1) hx hb dX6_firstToReckon_71 (by decide) ?_
                refine lv_goto (tgt := 76) hx hb dX6_firstToReckon_72 (by decide) ?_
                refine lv_istore (lv' := [(6, .int 1), (5, .int g_1), (4, .int g_2), (0, .ref h0), (1, .int p1), (2, .int p2), (3, .int p3)]) hx hb dX6_firstToReckon_76 hl (by decide) rfl (fun ls hl => ?_)
                refine lv_iload hx hb dX6_firstToReckon_78 (lv_at hl 0 rfl) ?_
                refine lv_if_eq (tgt := 132) hx hb dX6_firstToReckon_80 (by decide) (fun c_817 => absurd c_817 (by decide)) (fun c_817 => ?_)
                refine lv_aload_n hx hb dX6_firstToReckon_83 rfl (lv_at hl 3 rfl) ?_
                refine va_get (D := (dC, dI)) (ci := 4) (v := .ref (r0 2)) (C := RX6) (T := TX6) (N := 12) hx hb hts iw_X6_firstToReckon_X6 hown hK hP 0 rfl rfl 3 (by decide) (hts (.fieldLink RX6 22 "HungFloors$Papers" "drawing" "[I") (by decide +kernel)) (fun _ h9 => h9) rfl dX6_firstToReckon_84 ?_
                refine lv_iload hx hb dX6_firstToReckon_87 (lv_at hl 1 rfl) ?_
                refine va_iald hx hb hK hP 3 1 rfl rfl (v_in rfl (by omega) (by omega)) dX6_firstToReckon_89 ?_
                refine lv_topi (fun z_818 ez_818 => ?_)
                refine lv_iload_n hx hb dX6_firstToReckon_90 rfl (lv_at hl 4 rfl) ?_
                refine lv_icmp_ne (tgt := 132) hx hb dX6_firstToReckon_91 (by decide) (fun c_819 => ?_) (fun c_819 => ?_)
                · have c_819 : ¬ z_818.toInt = p1.toInt := f_ne rfl rfl c_819
                  obtain ⟨z_820, ez_820⟩ : ∃ y : Int32, y = g_1 + 1 := ⟨_, rfl⟩
                  have hz_820 : z_820.toInt = g_1.toInt + 1 := by rw [ez_820]; exact t_add rfl tI_1 (by omega) (by omega)
                  refine lv_iinc (v := z_820) (lv' := [(5, .int z_820), (6, .int 1), (4, .int g_2), (0, .ref h0), (1, .int p1), (2, .int p2), (3, .int p3)]) hx hb dX6_firstToReckon_132 hl (k := 1) rfl (by rw [ez_820]; rfl) (by decide) rfl (fun ls hl => ?_)
                  refine lv_goto (tgt := 6) hx hb dX6_firstToReckon_135 (by decide) ?_
                  exact ih_775 z_820 g_2 (by omega) (by omega) (by omega) (by omega) (by omega) (by omega) (by omega) (by omega) _ _ hP hD hS ls (lv_sub hl [0, 2, 3, 4, 5, 6] rfl)
                · have c_819 : z_818.toInt = p1.toInt := f_eq rfl rfl c_819
                  refine lv_aload_n hx hb dX6_firstToReckon_94 rfl (lv_at hl 3 rfl) ?_
                  refine lv_iload hx hb dX6_firstToReckon_95 (lv_at hl 1 rfl) ?_
                  refine lv_iload_n hx hb dX6_firstToReckon_97 rfl (lv_at hl 6 rfl) ?_
                  have hpm : List.Perm ([[(h0, .inr (4, [.int pc0, .ref (r0 0), .ref (r0 1), .ref (r0 2), .ref (r0 3), .ref (r0 4), .ref (r0 5), .ref (r0 6), .int sc_43, .ref (r0 7), .ref (r0 8), .ref (r0 9)])), (r0 0, .inl (cI, 60, .inl f_36)), (r0 1, .inl (cI, 60, .inl f_37)), (r0 2, .inl (cI, 60, .inl f_38)), (r0 3, .inl (cI, 60, .inl f_39)), (r0 4, .inl (cZ, 60, .inl f_40)), (r0 5, .inl (cI, 60, .inl f_41)), (r0 6, .inl (cI, 60, .inl f_42)), (r0 7, .inl (cI, 9, .inl f_46)), (r0 8, .inl (cI, 9, .inl f_48)), (r0 9, .inl (cI, 9, .inl f_49))]] : List va_W) (([[(h0, .inr (4, [.int pc0, .ref (r0 0), .ref (r0 1), .ref (r0 2), .ref (r0 3), .ref (r0 4), .ref (r0 5), .ref (r0 6), .int sc_43, .ref (r0 7), .ref (r0 8), .ref (r0 9)])), (r0 0, .inl (cI, 60, .inl f_36)), (r0 1, .inl (cI, 60, .inl f_37)), (r0 2, .inl (cI, 60, .inl f_38)), (r0 3, .inl (cI, 60, .inl f_39)), (r0 4, .inl (cZ, 60, .inl f_40)), (r0 5, .inl (cI, 60, .inl f_41)), (r0 6, .inl (cI, 60, .inl f_42)), (r0 7, .inl (cI, 9, .inl f_46)), (r0 8, .inl (cI, 9, .inl f_48)), (r0 9, .inl (cI, 9, .inl f_49))]] : List va_W) ++ ([] : List va_W)) := pm_n 1 [0] (by decide) rfl rfl
                  have hPc := bk_P hpm hP
                  have hDc := bk_D hpm hD
                  have hFc := bk_F hpm hD hS hA
                  refine va_calli (va_runV (As := [.int g_1, .int p3]) (rest := []) ⟨hx, hb, hml, hown, hts⟩ (c_X6_isKnown l dC dI ad tN fN cB cI cJ cZ h0 g_1 p3 r0 pc0 _ ⟨f_36, f_37, f_38, f_39, f_40, f_41, f_42, sc_43, f_46, f_48, f_49, rfl, by omega, by omega, by omega, by omega, hr_47⟩ H.size (by omega) (by omega)) (cwV 2 hts gX6_firstToReckon_X6_isKnown rfl rfl rfl (by decide +kernel) ⟨(Nat.le_of_ble_eq_true rfl), (Nat.le_of_ble_eq_true rfl)⟩) ⟨fun a U g mk q => by obtain ⟨q0, q1, qP, qK, qD, qE⟩ := q; exact ⟨q0, q1, qP, va_K.moved (u := U) (U := U.calling g mk a) (Vm.Alike.refl U.vm) qK, qD, ey_blind qE⟩, va_recv hK hPc (ci := 4) (q0 := 0) rfl rfl, fun U hU hW => ⟨rfl, by rw [hU], by rw [hU]; exact hPc, va_K.moved hW.alike hK, hDc.weaken (fun _ _ _ _ => trivial), ey_call hE hS hFc hU hW⟩⟩ rfl rfl hl.1 rfl (lv_room (Nat.le_of_ble_eq_true rfl)) dX6_firstToReckon_98 ⟨(Nat.le_of_ble_eq_true rfl), (Nat.le_of_ble_eq_true rfl)⟩) hS (fun q _ h => hFc q h) hFc (fun r_821 u t H locs ht hvm hw hB hz1 hk1 hS => ?_)
                  obtain ⟨hP1, hD1⟩ := hB
                  rw [ht] at hP1
                  obtain ⟨hP, hD⟩ := bk_join hpm hP hD hk1 hFc (Cs1 := [[(h0, .inr (4, [.int pc0, .ref (r0 0), .ref (r0 1), .ref (r0 2), .ref (r0 3), .ref (r0 4), .ref (r0 5), .ref (r0 6), .int sc_43, .ref (r0 7), .ref (r0 8), .ref (r0 9)])), (r0 0, .inl (cI, 60, .inl f_36)), (r0 1, .inl (cI, 60, .inl f_37)), (r0 2, .inl (cI, 60, .inl f_38)), (r0 3, .inl (cI, 60, .inl f_39)), (r0 4, .inl (cZ, 60, .inl f_40)), (r0 5, .inl (cI, 60, .inl f_41)), (r0 6, .inl (cI, 60, .inl f_42)), (r0 7, .inl (cI, 9, .inl f_46)), (r0 8, .inl (cI, 9, .inl f_48)), (r0 9, .inl (cI, 9, .inl f_49))]]) hP1 hD1
                  have hpm2 : List.Perm (([[(h0, .inr (4, [.int pc0, .ref (r0 0), .ref (r0 1), .ref (r0 2), .ref (r0 3), .ref (r0 4), .ref (r0 5), .ref (r0 6), .int sc_43, .ref (r0 7), .ref (r0 8), .ref (r0 9)])), (r0 0, .inl (cI, 60, .inl f_36)), (r0 1, .inl (cI, 60, .inl f_37)), (r0 2, .inl (cI, 60, .inl f_38)), (r0 3, .inl (cI, 60, .inl f_39)), (r0 4, .inl (cZ, 60, .inl f_40)), (r0 5, .inl (cI, 60, .inl f_41)), (r0 6, .inl (cI, 60, .inl f_42)), (r0 7, .inl (cI, 9, .inl f_46)), (r0 8, .inl (cI, 9, .inl f_48)), (r0 9, .inl (cI, 9, .inl f_49))]] : List va_W) ++ ([] : List va_W)) ([[(h0, .inr (4, [.int pc0, .ref (r0 0), .ref (r0 1), .ref (r0 2), .ref (r0 3), .ref (r0 4), .ref (r0 5), .ref (r0 6), .int sc_43, .ref (r0 7), .ref (r0 8), .ref (r0 9)])), (r0 0, .inl (cI, 60, .inl f_36)), (r0 1, .inl (cI, 60, .inl f_37)), (r0 2, .inl (cI, 60, .inl f_38)), (r0 3, .inl (cI, 60, .inl f_39)), (r0 4, .inl (cZ, 60, .inl f_40)), (r0 5, .inl (cI, 60, .inl f_41)), (r0 6, .inl (cI, 60, .inl f_42)), (r0 7, .inl (cI, 9, .inl f_46)), (r0 8, .inl (cI, 9, .inl f_48)), (r0 9, .inl (cI, 9, .inl f_49))]] : List va_W) := pm_n 1 [0] (by decide) rfl rfl
                  have hP := bk_reP hpm2 hP
                  have hD := bk_reD hpm2 hD
                  have hP : va_P (dC, dI) vwCl (List.flatten [[(h0, .inr (4, [.int pc0, .ref (r0 0), .ref (r0 1), .ref (r0 2), .ref (r0 3), .ref (r0 4), .ref (r0 5), .ref (r0 6), .int sc_43, .ref (r0 7), .ref (r0 8), .ref (r0 9)])), (r0 0, .inl (cI, 60, .inl f_36)), (r0 1, .inl (cI, 60, .inl f_37)), (r0 2, .inl (cI, 60, .inl f_38)), (r0 3, .inl (cI, 60, .inl f_39)), (r0 4, .inl (cZ, 60, .inl f_40)), (r0 5, .inl (cI, 60, .inl f_41)), (r0 6, .inl (cI, 60, .inl f_42)), (r0 7, .inl (cI, 9, .inl f_46)), (r0 8, .inl (cI, 9, .inl f_48)), (r0 9, .inl (cI, 9, .inl f_49))]]) H := hP
                  have hD : va_D A (List.flatten [[(h0, .inr (4, [.int pc0, .ref (r0 0), .ref (r0 1), .ref (r0 2), .ref (r0 3), .ref (r0 4), .ref (r0 5), .ref (r0 6), .int sc_43, .ref (r0 7), .ref (r0 8), .ref (r0 9)])), (r0 0, .inl (cI, 60, .inl f_36)), (r0 1, .inl (cI, 60, .inl f_37)), (r0 2, .inl (cI, 60, .inl f_38)), (r0 3, .inl (cI, 60, .inl f_39)), (r0 4, .inl (cZ, 60, .inl f_40)), (r0 5, .inl (cI, 60, .inl f_41)), (r0 6, .inl (cI, 60, .inl f_42)), (r0 7, .inl (cI, 9, .inl f_46)), (r0 8, .inl (cI, 9, .inl f_48)), (r0 9, .inl (cI, 9, .inl f_49))]]) := hD
                  obtain ⟨hlr_821, hhr_821⟩ := hw
                  refine lv_if_eq (tgt := 132) hx hb dX6_firstToReckon_101 (by decide) (fun c_822 => ?_) (fun c_822 => ?_)
                  · have c_822 : r_821.toInt = 0 := f_eq rfl tI_0 c_822
                    obtain ⟨z_823, ez_823⟩ : ∃ y : Int32, y = g_1 + 1 := ⟨_, rfl⟩
                    have hz_823 : z_823.toInt = g_1.toInt + 1 := by rw [ez_823]; exact t_add rfl tI_1 (by omega) (by omega)
                    refine lv_iinc (v := z_823) (lv' := [(5, .int z_823), (6, .int 1), (4, .int g_2), (0, .ref h0), (1, .int p1), (2, .int p2), (3, .int p3)]) hx hb dX6_firstToReckon_132 hl (k := 1) rfl (by rw [ez_823]; rfl) (by decide) rfl (fun ls hl => ?_)
                    refine lv_goto (tgt := 6) hx hb dX6_firstToReckon_135 (by decide) ?_
                    exact ih_775 z_823 g_2 (by omega) (by omega) (by omega) (by omega) (by omega) (by omega) (by omega) (by omega) _ _ hP hD hS ls (lv_sub hl [0, 2, 3, 4, 5, 6] rfl)
                  · have c_822 : ¬ r_821.toInt = 0 := f_ne rfl tI_0 c_822
                    refine lv_aload_n hx hb dX6_firstToReckon_104 rfl (lv_at hl 3 rfl) ?_
                    refine lv_aload_n hx hb dX6_firstToReckon_105 rfl (lv_at hl 3 rfl) ?_
                    refine va_get (D := (dC, dI)) (ci := 4) (v := .ref (r0 0)) (C := RX6) (T := TX6) (N := 12) hx hb hts iw_X6_firstToReckon_X6 hown hK hP 0 rfl rfl 1 (by decide) (hts (.fieldLink RX6 15 "HungFloors$Papers" "office" "[I") (by decide +kernel)) (fun _ h9 => h9) rfl dX6_firstToReckon_106 ?_
                    refine lv_iload hx hb dX6_firstToReckon_109 (lv_at hl 1 rfl) ?_
                    refine va_iald hx hb hK hP 1 1 rfl rfl (v_in rfl (by omega) (by omega)) dX6_firstToReckon_111 ?_
                    refine lv_topi (fun z_824 ez_824 => ?_)
                    have qz_824 : z_824.toInt = z_812.toInt := by rw [ez_824, ez_812]
                    refine lv_iload_n hx hb dX6_firstToReckon_112 rfl (lv_at hl 4 rfl) ?_
                    refine lv_aload_n hx hb dX6_firstToReckon_113 rfl (lv_at hl 3 rfl) ?_
                    refine va_get (D := (dC, dI)) (ci := 4) (v := .ref (r0 1)) (C := RX6) (T := TX6) (N := 12) hx hb hts iw_X6_firstToReckon_X6 hown hK hP 0 rfl rfl 2 (by decide) (hts (.fieldLink RX6 19 "HungFloors$Papers" "day" "[I") (by decide +kernel)) (fun _ h9 => h9) rfl dX6_firstToReckon_114 ?_
                    refine lv_iload hx hb dX6_firstToReckon_117 (lv_at hl 1 rfl) ?_
                    refine va_iald hx hb hK hP 2 1 rfl rfl (v_in rfl (by omega) (by omega)) dX6_firstToReckon_119 ?_
                    refine lv_topi (fun z_825 ez_825 => ?_)
                    have qz_825 : z_825.toInt = z_791.toInt := by rw [ez_825, ez_791]
                    refine lv_iload_n hx hb dX6_firstToReckon_120 rfl (lv_at hl 6 rfl) ?_
                    have hpm : List.Perm ([[(h0, .inr (4, [.int pc0, .ref (r0 0), .ref (r0 1), .ref (r0 2), .ref (r0 3), .ref (r0 4), .ref (r0 5), .ref (r0 6), .int sc_43, .ref (r0 7), .ref (r0 8), .ref (r0 9)])), (r0 0, .inl (cI, 60, .inl f_36)), (r0 1, .inl (cI, 60, .inl f_37)), (r0 2, .inl (cI, 60, .inl f_38)), (r0 3, .inl (cI, 60, .inl f_39)), (r0 4, .inl (cZ, 60, .inl f_40)), (r0 5, .inl (cI, 60, .inl f_41)), (r0 6, .inl (cI, 60, .inl f_42)), (r0 7, .inl (cI, 9, .inl f_46)), (r0 8, .inl (cI, 9, .inl f_48)), (r0 9, .inl (cI, 9, .inl f_49))]] : List va_W) (([[(h0, .inr (4, [.int pc0, .ref (r0 0), .ref (r0 1), .ref (r0 2), .ref (r0 3), .ref (r0 4), .ref (r0 5), .ref (r0 6), .int sc_43, .ref (r0 7), .ref (r0 8), .ref (r0 9)])), (r0 0, .inl (cI, 60, .inl f_36)), (r0 1, .inl (cI, 60, .inl f_37)), (r0 2, .inl (cI, 60, .inl f_38)), (r0 3, .inl (cI, 60, .inl f_39)), (r0 4, .inl (cZ, 60, .inl f_40)), (r0 5, .inl (cI, 60, .inl f_41)), (r0 6, .inl (cI, 60, .inl f_42)), (r0 7, .inl (cI, 9, .inl f_46)), (r0 8, .inl (cI, 9, .inl f_48)), (r0 9, .inl (cI, 9, .inl f_49))]] : List va_W) ++ ([] : List va_W)) := pm_n 1 [0] (by decide) rfl rfl
                    have hPc := bk_P hpm hP
                    have hDc := bk_D hpm hD
                    have hFc := bk_F hpm hD hS hA
                    refine va_calli (va_runV (As := [.int z_824, .int p1, .int z_825, .int p3]) (rest := []) ⟨hx, hb, hml, hown, hts⟩ (c_X6_hoursUpTo l dC dI ad tN fN cB cI cJ cZ h0 z_824 p1 z_825 p3 r0 pc0 _ ⟨f_36, f_37, f_38, f_39, f_40, f_41, f_42, sc_43, f_46, f_48, f_49, rfl, by omega, by omega, by omega, by omega, hr_47⟩ H.size) (cwV 4 hts gX6_firstToReckon_X6_hoursUpTo rfl rfl rfl (by decide +kernel) ⟨(Nat.le_of_ble_eq_true rfl), (Nat.le_of_ble_eq_true rfl)⟩) ⟨fun a U g mk q => by obtain ⟨q0, q1, qP, qK, qD, qE⟩ := q; exact ⟨q0, q1, qP, va_K.moved (u := U) (U := U.calling g mk a) (Vm.Alike.refl U.vm) qK, qD, ey_blind qE⟩, va_recv hK hPc (ci := 4) (q0 := 0) rfl rfl, fun U hU hW => ⟨rfl, by rw [hU], by rw [hU]; exact hPc, va_K.moved hW.alike hK, hDc.weaken (fun _ _ _ _ => trivial), ey_call hE hS hFc hU hW⟩⟩ rfl rfl hl.1 rfl (lv_room (Nat.le_of_ble_eq_true rfl)) dX6_firstToReckon_121 ⟨(Nat.le_of_ble_eq_true rfl), (Nat.le_of_ble_eq_true rfl)⟩) hS (fun q _ h => hFc q h) hFc (fun r_826 u t H locs ht hvm hw hB hz1 hk1 hS => ?_)
                    obtain ⟨hP1, hD1⟩ := hB
                    rw [ht] at hP1
                    obtain ⟨hP, hD⟩ := bk_join hpm hP hD hk1 hFc (Cs1 := [[(h0, .inr (4, [.int pc0, .ref (r0 0), .ref (r0 1), .ref (r0 2), .ref (r0 3), .ref (r0 4), .ref (r0 5), .ref (r0 6), .int sc_43, .ref (r0 7), .ref (r0 8), .ref (r0 9)])), (r0 0, .inl (cI, 60, .inl f_36)), (r0 1, .inl (cI, 60, .inl f_37)), (r0 2, .inl (cI, 60, .inl f_38)), (r0 3, .inl (cI, 60, .inl f_39)), (r0 4, .inl (cZ, 60, .inl f_40)), (r0 5, .inl (cI, 60, .inl f_41)), (r0 6, .inl (cI, 60, .inl f_42)), (r0 7, .inl (cI, 9, .inl f_46)), (r0 8, .inl (cI, 9, .inl f_48)), (r0 9, .inl (cI, 9, .inl f_49))]]) hP1 hD1
                    have hpm2 : List.Perm (([[(h0, .inr (4, [.int pc0, .ref (r0 0), .ref (r0 1), .ref (r0 2), .ref (r0 3), .ref (r0 4), .ref (r0 5), .ref (r0 6), .int sc_43, .ref (r0 7), .ref (r0 8), .ref (r0 9)])), (r0 0, .inl (cI, 60, .inl f_36)), (r0 1, .inl (cI, 60, .inl f_37)), (r0 2, .inl (cI, 60, .inl f_38)), (r0 3, .inl (cI, 60, .inl f_39)), (r0 4, .inl (cZ, 60, .inl f_40)), (r0 5, .inl (cI, 60, .inl f_41)), (r0 6, .inl (cI, 60, .inl f_42)), (r0 7, .inl (cI, 9, .inl f_46)), (r0 8, .inl (cI, 9, .inl f_48)), (r0 9, .inl (cI, 9, .inl f_49))]] : List va_W) ++ ([] : List va_W)) ([[(h0, .inr (4, [.int pc0, .ref (r0 0), .ref (r0 1), .ref (r0 2), .ref (r0 3), .ref (r0 4), .ref (r0 5), .ref (r0 6), .int sc_43, .ref (r0 7), .ref (r0 8), .ref (r0 9)])), (r0 0, .inl (cI, 60, .inl f_36)), (r0 1, .inl (cI, 60, .inl f_37)), (r0 2, .inl (cI, 60, .inl f_38)), (r0 3, .inl (cI, 60, .inl f_39)), (r0 4, .inl (cZ, 60, .inl f_40)), (r0 5, .inl (cI, 60, .inl f_41)), (r0 6, .inl (cI, 60, .inl f_42)), (r0 7, .inl (cI, 9, .inl f_46)), (r0 8, .inl (cI, 9, .inl f_48)), (r0 9, .inl (cI, 9, .inl f_49))]] : List va_W) := pm_n 1 [0] (by decide) rfl rfl
                    have hP := bk_reP hpm2 hP
                    have hD := bk_reD hpm2 hD
                    have hP : va_P (dC, dI) vwCl (List.flatten [[(h0, .inr (4, [.int pc0, .ref (r0 0), .ref (r0 1), .ref (r0 2), .ref (r0 3), .ref (r0 4), .ref (r0 5), .ref (r0 6), .int sc_43, .ref (r0 7), .ref (r0 8), .ref (r0 9)])), (r0 0, .inl (cI, 60, .inl f_36)), (r0 1, .inl (cI, 60, .inl f_37)), (r0 2, .inl (cI, 60, .inl f_38)), (r0 3, .inl (cI, 60, .inl f_39)), (r0 4, .inl (cZ, 60, .inl f_40)), (r0 5, .inl (cI, 60, .inl f_41)), (r0 6, .inl (cI, 60, .inl f_42)), (r0 7, .inl (cI, 9, .inl f_46)), (r0 8, .inl (cI, 9, .inl f_48)), (r0 9, .inl (cI, 9, .inl f_49))]]) H := hP
                    have hD : va_D A (List.flatten [[(h0, .inr (4, [.int pc0, .ref (r0 0), .ref (r0 1), .ref (r0 2), .ref (r0 3), .ref (r0 4), .ref (r0 5), .ref (r0 6), .int sc_43, .ref (r0 7), .ref (r0 8), .ref (r0 9)])), (r0 0, .inl (cI, 60, .inl f_36)), (r0 1, .inl (cI, 60, .inl f_37)), (r0 2, .inl (cI, 60, .inl f_38)), (r0 3, .inl (cI, 60, .inl f_39)), (r0 4, .inl (cZ, 60, .inl f_40)), (r0 5, .inl (cI, 60, .inl f_41)), (r0 6, .inl (cI, 60, .inl f_42)), (r0 7, .inl (cI, 9, .inl f_46)), (r0 8, .inl (cI, 9, .inl f_48)), (r0 9, .inl (cI, 9, .inl f_49))]]) := hD
                    refine lv_iload_n hx hb dX6_firstToReckon_124 rfl (lv_at hl 5 rfl) ?_
                    refine lv_icmp_lt (tgt := 132) hx hb dX6_firstToReckon_125 (by decide) (fun c_827 => ?_) (fun c_827 => ?_)
                    · have c_827 : r_826.toInt < p2.toInt := f_lt rfl rfl c_827
                      obtain ⟨z_828, ez_828⟩ : ∃ y : Int32, y = g_1 + 1 := ⟨_, rfl⟩
                      have hz_828 : z_828.toInt = g_1.toInt + 1 := by rw [ez_828]; exact t_add rfl tI_1 (by omega) (by omega)
                      refine lv_iinc (v := z_828) (lv' := [(5, .int z_828), (6, .int 1), (4, .int g_2), (0, .ref h0), (1, .int p1), (2, .int p2), (3, .int p3)]) hx hb dX6_firstToReckon_132 hl (k := 1) rfl (by rw [ez_828]; rfl) (by decide) rfl (fun ls hl => ?_)
                      refine lv_goto (tgt := 6) hx hb dX6_firstToReckon_135 (by decide) ?_
                      exact ih_775 z_828 g_2 (by omega) (by omega) (by omega) (by omega) (by omega) (by omega) (by omega) (by omega) _ _ hP hD hS ls (lv_sub hl [0, 2, 3, 4, 5, 6] rfl)
                    · have c_827 : p2.toInt ≤ r_826.toInt := f_nlt rfl rfl c_827
                      refine lv_iload hx hb dX6_firstToReckon_128 (lv_at hl 1 rfl) ?_
                      refine lv_istore (lv' := [(4, .int g_1), (6, .int 1), (5, .int g_1), (0, .ref h0), (1, .int p1), (2, .int p2), (3, .int p3)]) hx hb dX6_firstToReckon_130 hl (by decide) rfl (fun ls hl => ?_)
                      obtain ⟨z_829, ez_829⟩ : ∃ y : Int32, y = g_1 + 1 := ⟨_, rfl⟩
                      have hz_829 : z_829.toInt = g_1.toInt + 1 := by rw [ez_829]; exact t_add rfl tI_1 (by omega) (by omega)
                      refine lv_iinc (v := z_829) (lv' := [(5, .int z_829), (4, .int g_1), (6, .int 1), (0, .ref h0), (1, .int p1), (2, .int p2), (3, .int p3)]) hx hb dX6_firstToReckon_132 hl (k := 2) rfl (by rw [ez_829]; rfl) (by decide) rfl (fun ls hl => ?_)
                      refine lv_goto (tgt := 6) hx hb dX6_firstToReckon_135 (by decide) ?_
                      exact ih_775 z_829 g_1 (by omega) (by omega) (by omega) (by omega) (by omega) (by omega) (by omega) (by omega) _ _ hP hD hS ls (lv_sub hl [0, 1, 3, 4, 5, 6] rfl)
  exact lp_774 _ 0 (-1) (by have := tI_m1; have := tI_0; omega) (by have := tI_m1; have := tI_0; omega) (by have := tI_m1; have := tI_0; omega) (by have := tI_m1; have := tI_0; omega) (by have := tI_m1; have := tI_0; omega) (by have := tI_m1; have := tI_0; omega) (by have := tI_m1; have := tI_0; omega) (Nat.lt_succ_self _) _ _ hP hD hS ls (lv_sub hl [0, 1, 2, 3, 4, 5] rfl)
theorem iw_X6_isHollow_X6 : ∀ w ∈ wsX60, w ∈ wsX6_isHollow := fun _ h => List.mem_cons_of_mem _ (List.mem_append_right _ h)
set_option maxHeartbeats 4000000 in
set_option maxRecDepth 100000 in
theorem c_X6_isHollow (l : Launch) (dC : Nat → ClassId) (dI : Nat → Nat → Nat) (ad : Nat → Nat) (tN : Nat) (fN : Nat → Int64) (cB cI cJ cZ : ClassId) (h0 : Nat) (p1 : Int32) (p2 : Int32) (p3 : Int32) (r0 : Nat → Nat) (pc0 : Int32) (w0 : va_W) (o0 : ok_pap ad cB cI cJ cZ h0 r0 pc0 w0) (sz : Nat) : Met l yX6_isHollow wsX6_isHollow ({ frames := 1, cells := 0, slots := 0, locals := 23 } : Room) (va_Pc [.ref h0, .int p1, .int p2, .int p3] (fun U => U.heap.size = sz ∧ va_P (dC, dI) vwCl (List.flatten [w0]) U.heap ∧ va_K (dC, dI) vwCl [(cB, .byte), (cI, .int), (cJ, .long), (cZ, .boolean)] U ∧ va_D (fun _ => True) (List.flatten [w0]) ∧ ex_Y ad tN fN (va_A (List.flatten [w0]) sz) U)) (va_Qi (fun (r : Int32) (_ : Unit) => 0 ≤ r.toInt ∧ r.toInt ≤ 1) (fun (_ : Unit) (t : State) => va_P (dC, dI) vwCl (List.flatten [w0]) t.heap ∧ va_D (va_A (List.flatten [w0]) sz) (List.flatten [w0])) (va_A (List.flatten [w0]) sz)) 0 0 (va_A (List.flatten [w0]) sz) := by
  refine Met.ofW (cc := cX6_isHollow) (maxL := 7) (ret := (some .boolean)) (by decide) rfl ?_
  intro p e s m args below meth c s₁ B hml hv
  obtain ⟨rfl, hsz, hP, hK, hD0, hE⟩ := hv
  have hx := B.exec
  have hb := B.bytes
  have hr := B.returns
  have hts := atoms_spec (ws := wsX6_isHollow) B.pre
  have hown : s.vm.findClass RX6 = some m.cls := findClass_of_methodNamed B.named
  have hlocks := B.notSynchronized
  subst hsz
  have hD := hD0.self (sz := s.heap.size)
  generalize hAe : va_A (List.flatten [w0]) s.heap.size = A at hD hE ⊢
  have hA : ∀ q : Nat, s.heap.size ≤ q → A q := fun q h => by rw [← hAe]; exact Or.inr h
  have hS : va_S A s.heap s.heap [] := va_S.rf
  have hl := lv_entry ([.ref h0, .int p1, .int p2, .int p3]) (n := 7) (Nat.le_of_ble_eq_true rfl)
  rw [lg_entry_eq]
  generalize (lg_sl ([.ref h0, .int p1, .int p2, .int p3]) ++ List.replicate (7 - (lg_sl ([.ref h0, .int p1, .int p2, .int p3])).length) Slot.unset).toArray = ls at hl ⊢
  have hl : lv_has ls 7 [(0, .ref h0), (1, .int p1), (2, .int p2), (3, .int p3)] := hl
  clear hAe
  refine W_name (fun Q0 hQ0 => ?_)
  refine lv_aload_n hx hb dX6_isHollow_0 rfl (lv_at hl 0 rfl) ?_
  refine lv_iload_n hx hb dX6_isHollow_1 rfl (lv_at hl 1 rfl) ?_
  obtain ⟨f_3, f_4, f_5, f_6, f_7, f_8, f_9, sc_10, f_13, f_15, f_16, rfl, hl_1, hh_2, hl_11, hh_12, hr_14⟩ := o0
  have hpm : List.Perm ([[(h0, .inr (4, [.int pc0, .ref (r0 0), .ref (r0 1), .ref (r0 2), .ref (r0 3), .ref (r0 4), .ref (r0 5), .ref (r0 6), .int sc_10, .ref (r0 7), .ref (r0 8), .ref (r0 9)])), (r0 0, .inl (cI, 60, .inl f_3)), (r0 1, .inl (cI, 60, .inl f_4)), (r0 2, .inl (cI, 60, .inl f_5)), (r0 3, .inl (cI, 60, .inl f_6)), (r0 4, .inl (cZ, 60, .inl f_7)), (r0 5, .inl (cI, 60, .inl f_8)), (r0 6, .inl (cI, 60, .inl f_9)), (r0 7, .inl (cI, 9, .inl f_13)), (r0 8, .inl (cI, 9, .inl f_15)), (r0 9, .inl (cI, 9, .inl f_16))]] : List va_W) (([[(h0, .inr (4, [.int pc0, .ref (r0 0), .ref (r0 1), .ref (r0 2), .ref (r0 3), .ref (r0 4), .ref (r0 5), .ref (r0 6), .int sc_10, .ref (r0 7), .ref (r0 8), .ref (r0 9)])), (r0 0, .inl (cI, 60, .inl f_3)), (r0 1, .inl (cI, 60, .inl f_4)), (r0 2, .inl (cI, 60, .inl f_5)), (r0 3, .inl (cI, 60, .inl f_6)), (r0 4, .inl (cZ, 60, .inl f_7)), (r0 5, .inl (cI, 60, .inl f_8)), (r0 6, .inl (cI, 60, .inl f_9)), (r0 7, .inl (cI, 9, .inl f_13)), (r0 8, .inl (cI, 9, .inl f_15)), (r0 9, .inl (cI, 9, .inl f_16))]] : List va_W) ++ ([] : List va_W)) := pm_n 1 [0] (by decide) rfl rfl
  have hPc := bk_P hpm hP
  have hDc := bk_D hpm hD
  have hFc := bk_F hpm hD hS hA
  refine va_calli (va_runV (As := [.int p1]) (rest := []) ⟨hx, hb, hml, hown, hts⟩ (c_X6_isPaper l dC dI ad tN fN cB cI cJ cZ h0 p1 r0 pc0 _ ⟨f_3, f_4, f_5, f_6, f_7, f_8, f_9, sc_10, f_13, f_15, f_16, rfl, by omega, by omega, by omega, by omega, hr_14⟩ s.heap.size) (cwV 1 hts gX6_isHollow_X6_isPaper rfl rfl rfl (by decide +kernel) ⟨(Nat.le_of_ble_eq_true rfl), (Nat.le_of_ble_eq_true rfl)⟩) ⟨fun a U g mk q => by obtain ⟨q0, q1, qP, qK, qD, qE⟩ := q; exact ⟨q0, q1, qP, va_K.moved (u := U) (U := U.calling g mk a) (Vm.Alike.refl U.vm) qK, qD, ey_blind qE⟩, va_recv hK hPc (ci := 4) (q0 := 0) rfl rfl, fun U hU hW => ⟨rfl, by rw [hU], by rw [hU]; exact hPc, va_K.moved hW.alike hK, hDc.weaken (fun _ _ _ _ => trivial), ey_call hE hS hFc hU hW⟩⟩ rfl rfl hl.1 rfl (lv_room (Nat.le_of_ble_eq_true rfl)) dX6_isHollow_2 ⟨(Nat.le_of_ble_eq_true rfl), (Nat.le_of_ble_eq_true rfl)⟩) hS (fun q _ h => hFc q h) hFc (fun r_17 u t H locs ht hvm hw hB hz1 hk1 hS => ?_)
  obtain ⟨hP1, hD1⟩ := hB
  rw [ht] at hP1
  obtain ⟨hP, hD⟩ := bk_join hpm hP hD hk1 hFc (Cs1 := [[(h0, .inr (4, [.int pc0, .ref (r0 0), .ref (r0 1), .ref (r0 2), .ref (r0 3), .ref (r0 4), .ref (r0 5), .ref (r0 6), .int sc_10, .ref (r0 7), .ref (r0 8), .ref (r0 9)])), (r0 0, .inl (cI, 60, .inl f_3)), (r0 1, .inl (cI, 60, .inl f_4)), (r0 2, .inl (cI, 60, .inl f_5)), (r0 3, .inl (cI, 60, .inl f_6)), (r0 4, .inl (cZ, 60, .inl f_7)), (r0 5, .inl (cI, 60, .inl f_8)), (r0 6, .inl (cI, 60, .inl f_9)), (r0 7, .inl (cI, 9, .inl f_13)), (r0 8, .inl (cI, 9, .inl f_15)), (r0 9, .inl (cI, 9, .inl f_16))]]) hP1 hD1
  have hpm2 : List.Perm (([[(h0, .inr (4, [.int pc0, .ref (r0 0), .ref (r0 1), .ref (r0 2), .ref (r0 3), .ref (r0 4), .ref (r0 5), .ref (r0 6), .int sc_10, .ref (r0 7), .ref (r0 8), .ref (r0 9)])), (r0 0, .inl (cI, 60, .inl f_3)), (r0 1, .inl (cI, 60, .inl f_4)), (r0 2, .inl (cI, 60, .inl f_5)), (r0 3, .inl (cI, 60, .inl f_6)), (r0 4, .inl (cZ, 60, .inl f_7)), (r0 5, .inl (cI, 60, .inl f_8)), (r0 6, .inl (cI, 60, .inl f_9)), (r0 7, .inl (cI, 9, .inl f_13)), (r0 8, .inl (cI, 9, .inl f_15)), (r0 9, .inl (cI, 9, .inl f_16))]] : List va_W) ++ ([] : List va_W)) ([[(h0, .inr (4, [.int pc0, .ref (r0 0), .ref (r0 1), .ref (r0 2), .ref (r0 3), .ref (r0 4), .ref (r0 5), .ref (r0 6), .int sc_10, .ref (r0 7), .ref (r0 8), .ref (r0 9)])), (r0 0, .inl (cI, 60, .inl f_3)), (r0 1, .inl (cI, 60, .inl f_4)), (r0 2, .inl (cI, 60, .inl f_5)), (r0 3, .inl (cI, 60, .inl f_6)), (r0 4, .inl (cZ, 60, .inl f_7)), (r0 5, .inl (cI, 60, .inl f_8)), (r0 6, .inl (cI, 60, .inl f_9)), (r0 7, .inl (cI, 9, .inl f_13)), (r0 8, .inl (cI, 9, .inl f_15)), (r0 9, .inl (cI, 9, .inl f_16))]] : List va_W) := pm_n 1 [0] (by decide) rfl rfl
  have hP := bk_reP hpm2 hP
  have hD := bk_reD hpm2 hD
  have hP : va_P (dC, dI) vwCl (List.flatten [[(h0, .inr (4, [.int pc0, .ref (r0 0), .ref (r0 1), .ref (r0 2), .ref (r0 3), .ref (r0 4), .ref (r0 5), .ref (r0 6), .int sc_10, .ref (r0 7), .ref (r0 8), .ref (r0 9)])), (r0 0, .inl (cI, 60, .inl f_3)), (r0 1, .inl (cI, 60, .inl f_4)), (r0 2, .inl (cI, 60, .inl f_5)), (r0 3, .inl (cI, 60, .inl f_6)), (r0 4, .inl (cZ, 60, .inl f_7)), (r0 5, .inl (cI, 60, .inl f_8)), (r0 6, .inl (cI, 60, .inl f_9)), (r0 7, .inl (cI, 9, .inl f_13)), (r0 8, .inl (cI, 9, .inl f_15)), (r0 9, .inl (cI, 9, .inl f_16))]]) H := hP
  have hD : va_D A (List.flatten [[(h0, .inr (4, [.int pc0, .ref (r0 0), .ref (r0 1), .ref (r0 2), .ref (r0 3), .ref (r0 4), .ref (r0 5), .ref (r0 6), .int sc_10, .ref (r0 7), .ref (r0 8), .ref (r0 9)])), (r0 0, .inl (cI, 60, .inl f_3)), (r0 1, .inl (cI, 60, .inl f_4)), (r0 2, .inl (cI, 60, .inl f_5)), (r0 3, .inl (cI, 60, .inl f_6)), (r0 4, .inl (cZ, 60, .inl f_7)), (r0 5, .inl (cI, 60, .inl f_8)), (r0 6, .inl (cI, 60, .inl f_9)), (r0 7, .inl (cI, 9, .inl f_13)), (r0 8, .inl (cI, 9, .inl f_15)), (r0 9, .inl (cI, 9, .inl f_16))]]) := hD
  rcases hw with ⟨rfl, c_18⟩ | ⟨rfl, c_19, c_20⟩ | ⟨rfl, c_21, c_22⟩
  · refine lv_if_eq (tgt := 26) hx hb dX6_isHollow_5 (by decide) (fun c_23 => ?_) (fun c_23 => absurd c_23 (by decide))
    refine lv_iconst (v := 0) hx hb dX6_isHollow_26 (by decide) ?_
    rw [hQ0]
    exact W.zret (v := 0) hx hb hr (by decide) (fun t ht hW => ⟨⟨0, (), rfl, ⟨by decide, by decide⟩, ⟨by rw [ht]; exact hP, hD⟩⟩, hS.F ht⟩) hS.2.2 dX6_isHollow_27
  · refine lv_if_eq (tgt := 26) hx hb dX6_isHollow_5 (by decide) (fun c_24 => ?_) (fun c_24 => absurd c_24 (by decide))
    refine lv_iconst (v := 0) hx hb dX6_isHollow_26 (by decide) ?_
    rw [hQ0]
    exact W.zret (v := 0) hx hb hr (by decide) (fun t ht hW => ⟨⟨0, (), rfl, ⟨by decide, by decide⟩, ⟨by rw [ht]; exact hP, hD⟩⟩, hS.F ht⟩) hS.2.2 dX6_isHollow_27
  · refine lv_if_eq (tgt := 26) hx hb dX6_isHollow_5 (by decide) (fun c_25 => absurd c_25 (by decide)) (fun c_25 => ?_)
    refine lv_aload_n hx hb dX6_isHollow_8 rfl (lv_at hl 0 rfl) ?_
    refine va_get (D := (dC, dI)) (ci := 4) (v := .ref (r0 4)) (C := RX6) (T := TX6) (N := 12) hx hb hts iw_X6_isHollow_X6 hown hK hP 0 rfl rfl 5 (by decide) (hts (.fieldLink RX6 28 "HungFloors$Papers" "stamped" "[Z") (by decide +kernel)) (fun _ h9 => h9) rfl dX6_isHollow_9 ?_
    refine lv_iload_n hx hb dX6_isHollow_12 rfl (lv_at hl 1 rfl) ?_
    refine va_zald hx hb hK hP 5 3 rfl rfl (v_in rfl (by omega) (by omega)) dX6_isHollow_13 ?_
    refine lv_topi (fun z_26 ez_26 => ?_)
    refine lv_if_eq (tgt := 26) hx hb dX6_isHollow_14 (by decide) (fun c_27 => ?_) (fun c_27 => ?_)
    · have c_27 : z_26.toInt = 0 := f_eq rfl tI_0 c_27
      refine lv_iconst (v := 0) hx hb dX6_isHollow_26 (by decide) ?_
      rw [hQ0]
      exact W.zret (v := 0) hx hb hr (by decide) (fun t ht hW => ⟨⟨0, (), rfl, ⟨by decide, by decide⟩, ⟨by rw [ht]; exact hP, hD⟩⟩, hS.F ht⟩) hS.2.2 dX6_isHollow_27
    · have c_27 : ¬ z_26.toInt = 0 := f_ne rfl tI_0 c_27
      refine lv_aload_n hx hb dX6_isHollow_17 rfl (lv_at hl 0 rfl) ?_
      refine lv_iload_n hx hb dX6_isHollow_18 rfl (lv_at hl 1 rfl) ?_
      refine lv_iload_n hx hb dX6_isHollow_19 rfl (lv_at hl 3 rfl) ?_
      have hpm : List.Perm ([[(h0, .inr (4, [.int pc0, .ref (r0 0), .ref (r0 1), .ref (r0 2), .ref (r0 3), .ref (r0 4), .ref (r0 5), .ref (r0 6), .int sc_10, .ref (r0 7), .ref (r0 8), .ref (r0 9)])), (r0 0, .inl (cI, 60, .inl f_3)), (r0 1, .inl (cI, 60, .inl f_4)), (r0 2, .inl (cI, 60, .inl f_5)), (r0 3, .inl (cI, 60, .inl f_6)), (r0 4, .inl (cZ, 60, .inl f_7)), (r0 5, .inl (cI, 60, .inl f_8)), (r0 6, .inl (cI, 60, .inl f_9)), (r0 7, .inl (cI, 9, .inl f_13)), (r0 8, .inl (cI, 9, .inl f_15)), (r0 9, .inl (cI, 9, .inl f_16))]] : List va_W) (([[(h0, .inr (4, [.int pc0, .ref (r0 0), .ref (r0 1), .ref (r0 2), .ref (r0 3), .ref (r0 4), .ref (r0 5), .ref (r0 6), .int sc_10, .ref (r0 7), .ref (r0 8), .ref (r0 9)])), (r0 0, .inl (cI, 60, .inl f_3)), (r0 1, .inl (cI, 60, .inl f_4)), (r0 2, .inl (cI, 60, .inl f_5)), (r0 3, .inl (cI, 60, .inl f_6)), (r0 4, .inl (cZ, 60, .inl f_7)), (r0 5, .inl (cI, 60, .inl f_8)), (r0 6, .inl (cI, 60, .inl f_9)), (r0 7, .inl (cI, 9, .inl f_13)), (r0 8, .inl (cI, 9, .inl f_15)), (r0 9, .inl (cI, 9, .inl f_16))]] : List va_W) ++ ([] : List va_W)) := pm_n 1 [0] (by decide) rfl rfl
      have hPc := bk_P hpm hP
      have hDc := bk_D hpm hD
      have hFc := bk_F hpm hD hS hA
      refine va_calli (va_runV (As := [.int p1, .int p3]) (rest := []) ⟨hx, hb, hml, hown, hts⟩ (c_X6_isKnown l dC dI ad tN fN cB cI cJ cZ h0 p1 p3 r0 pc0 _ ⟨f_3, f_4, f_5, f_6, f_7, f_8, f_9, sc_10, f_13, f_15, f_16, rfl, by omega, by omega, by omega, by omega, hr_14⟩ H.size (by omega) (by omega)) (cwV 2 hts gX6_isHollow_X6_isKnown rfl rfl rfl (by decide +kernel) ⟨(Nat.le_of_ble_eq_true rfl), (Nat.le_of_ble_eq_true rfl)⟩) ⟨fun a U g mk q => by obtain ⟨q0, q1, qP, qK, qD, qE⟩ := q; exact ⟨q0, q1, qP, va_K.moved (u := U) (U := U.calling g mk a) (Vm.Alike.refl U.vm) qK, qD, ey_blind qE⟩, va_recv hK hPc (ci := 4) (q0 := 0) rfl rfl, fun U hU hW => ⟨rfl, by rw [hU], by rw [hU]; exact hPc, va_K.moved hW.alike hK, hDc.weaken (fun _ _ _ _ => trivial), ey_call hE hS hFc hU hW⟩⟩ rfl rfl hl.1 rfl (lv_room (Nat.le_of_ble_eq_true rfl)) dX6_isHollow_20 ⟨(Nat.le_of_ble_eq_true rfl), (Nat.le_of_ble_eq_true rfl)⟩) hS (fun q _ h => hFc q h) hFc (fun r_28 u t H locs ht hvm hw hB hz1 hk1 hS => ?_)
      obtain ⟨hP1, hD1⟩ := hB
      rw [ht] at hP1
      obtain ⟨hP, hD⟩ := bk_join hpm hP hD hk1 hFc (Cs1 := [[(h0, .inr (4, [.int pc0, .ref (r0 0), .ref (r0 1), .ref (r0 2), .ref (r0 3), .ref (r0 4), .ref (r0 5), .ref (r0 6), .int sc_10, .ref (r0 7), .ref (r0 8), .ref (r0 9)])), (r0 0, .inl (cI, 60, .inl f_3)), (r0 1, .inl (cI, 60, .inl f_4)), (r0 2, .inl (cI, 60, .inl f_5)), (r0 3, .inl (cI, 60, .inl f_6)), (r0 4, .inl (cZ, 60, .inl f_7)), (r0 5, .inl (cI, 60, .inl f_8)), (r0 6, .inl (cI, 60, .inl f_9)), (r0 7, .inl (cI, 9, .inl f_13)), (r0 8, .inl (cI, 9, .inl f_15)), (r0 9, .inl (cI, 9, .inl f_16))]]) hP1 hD1
      have hpm2 : List.Perm (([[(h0, .inr (4, [.int pc0, .ref (r0 0), .ref (r0 1), .ref (r0 2), .ref (r0 3), .ref (r0 4), .ref (r0 5), .ref (r0 6), .int sc_10, .ref (r0 7), .ref (r0 8), .ref (r0 9)])), (r0 0, .inl (cI, 60, .inl f_3)), (r0 1, .inl (cI, 60, .inl f_4)), (r0 2, .inl (cI, 60, .inl f_5)), (r0 3, .inl (cI, 60, .inl f_6)), (r0 4, .inl (cZ, 60, .inl f_7)), (r0 5, .inl (cI, 60, .inl f_8)), (r0 6, .inl (cI, 60, .inl f_9)), (r0 7, .inl (cI, 9, .inl f_13)), (r0 8, .inl (cI, 9, .inl f_15)), (r0 9, .inl (cI, 9, .inl f_16))]] : List va_W) ++ ([] : List va_W)) ([[(h0, .inr (4, [.int pc0, .ref (r0 0), .ref (r0 1), .ref (r0 2), .ref (r0 3), .ref (r0 4), .ref (r0 5), .ref (r0 6), .int sc_10, .ref (r0 7), .ref (r0 8), .ref (r0 9)])), (r0 0, .inl (cI, 60, .inl f_3)), (r0 1, .inl (cI, 60, .inl f_4)), (r0 2, .inl (cI, 60, .inl f_5)), (r0 3, .inl (cI, 60, .inl f_6)), (r0 4, .inl (cZ, 60, .inl f_7)), (r0 5, .inl (cI, 60, .inl f_8)), (r0 6, .inl (cI, 60, .inl f_9)), (r0 7, .inl (cI, 9, .inl f_13)), (r0 8, .inl (cI, 9, .inl f_15)), (r0 9, .inl (cI, 9, .inl f_16))]] : List va_W) := pm_n 1 [0] (by decide) rfl rfl
      have hP := bk_reP hpm2 hP
      have hD := bk_reD hpm2 hD
      have hP : va_P (dC, dI) vwCl (List.flatten [[(h0, .inr (4, [.int pc0, .ref (r0 0), .ref (r0 1), .ref (r0 2), .ref (r0 3), .ref (r0 4), .ref (r0 5), .ref (r0 6), .int sc_10, .ref (r0 7), .ref (r0 8), .ref (r0 9)])), (r0 0, .inl (cI, 60, .inl f_3)), (r0 1, .inl (cI, 60, .inl f_4)), (r0 2, .inl (cI, 60, .inl f_5)), (r0 3, .inl (cI, 60, .inl f_6)), (r0 4, .inl (cZ, 60, .inl f_7)), (r0 5, .inl (cI, 60, .inl f_8)), (r0 6, .inl (cI, 60, .inl f_9)), (r0 7, .inl (cI, 9, .inl f_13)), (r0 8, .inl (cI, 9, .inl f_15)), (r0 9, .inl (cI, 9, .inl f_16))]]) H := hP
      have hD : va_D A (List.flatten [[(h0, .inr (4, [.int pc0, .ref (r0 0), .ref (r0 1), .ref (r0 2), .ref (r0 3), .ref (r0 4), .ref (r0 5), .ref (r0 6), .int sc_10, .ref (r0 7), .ref (r0 8), .ref (r0 9)])), (r0 0, .inl (cI, 60, .inl f_3)), (r0 1, .inl (cI, 60, .inl f_4)), (r0 2, .inl (cI, 60, .inl f_5)), (r0 3, .inl (cI, 60, .inl f_6)), (r0 4, .inl (cZ, 60, .inl f_7)), (r0 5, .inl (cI, 60, .inl f_8)), (r0 6, .inl (cI, 60, .inl f_9)), (r0 7, .inl (cI, 9, .inl f_13)), (r0 8, .inl (cI, 9, .inl f_15)), (r0 9, .inl (cI, 9, .inl f_16))]]) := hD
      obtain ⟨hlr_28, hhr_28⟩ := hw
      refine lv_if_ne (tgt := 28) hx hb dX6_isHollow_23 (by decide) (fun c_29 => ?_) (fun c_29 => ?_)
      · have c_29 : ¬ r_28.toInt = 0 := f_ne rfl tI_0 c_29
        refine lv_iload_n hx hb dX6_isHollow_28 rfl (lv_at hl 2 rfl) ?_
        refine lv_istore (lv' := [(4, .int p2), (0, .ref h0), (1, .int p1), (2, .int p2), (3, .int p3)]) hx hb dX6_isHollow_29 hl (by decide) rfl (fun ls hl => ?_)
        refine lv_iconst (v := 0) hx hb dX6_isHollow_31 (by decide) ?_
        refine lv_istore (lv' := [(5, .int 0), (4, .int p2), (0, .ref h0), (1, .int p1), (2, .int p2), (3, .int p3)]) hx hb dX6_isHollow_32 hl (by decide) rfl (fun ls hl => ?_)
        have lp_603 : ∀ (n : Nat) (g_30 : Int32) (g_31 : Int32), 0 ≤ g_30.toInt → g_30.toInt ≤ 70 → g_30.toInt - pc0.toInt ≤ 0 → (70 - g_30.toInt).toNat < n → ∀ (H : Heap) (locs : List Loc), va_P (dC, dI) vwCl (List.flatten [[(h0, .inr (4, [.int pc0, .ref (r0 0), .ref (r0 1), .ref (r0 2), .ref (r0 3), .ref (r0 4), .ref (r0 5), .ref (r0 6), .int sc_10, .ref (r0 7), .ref (r0 8), .ref (r0 9)])), (r0 0, .inl (cI, 60, .inl f_3)), (r0 1, .inl (cI, 60, .inl f_4)), (r0 2, .inl (cI, 60, .inl f_5)), (r0 3, .inl (cI, 60, .inl f_6)), (r0 4, .inl (cZ, 60, .inl f_7)), (r0 5, .inl (cI, 60, .inl f_8)), (r0 6, .inl (cI, 60, .inl f_9)), (r0 7, .inl (cI, 9, .inl f_13)), (r0 8, .inl (cI, 9, .inl f_15)), (r0 9, .inl (cI, 9, .inl f_16))]]) H → va_D A (List.flatten [[(h0, .inr (4, [.int pc0, .ref (r0 0), .ref (r0 1), .ref (r0 2), .ref (r0 3), .ref (r0 4), .ref (r0 5), .ref (r0 6), .int sc_10, .ref (r0 7), .ref (r0 8), .ref (r0 9)])), (r0 0, .inl (cI, 60, .inl f_3)), (r0 1, .inl (cI, 60, .inl f_4)), (r0 2, .inl (cI, 60, .inl f_5)), (r0 3, .inl (cI, 60, .inl f_6)), (r0 4, .inl (cZ, 60, .inl f_7)), (r0 5, .inl (cI, 60, .inl f_8)), (r0 6, .inl (cI, 60, .inl f_9)), (r0 7, .inl (cI, 9, .inl f_13)), (r0 8, .inl (cI, 9, .inl f_15)), (r0 9, .inl (cI, 9, .inl f_16))]]) → va_S A s.heap H locs → ∀ (ls : Array Slot), lv_has ls 7 [(5, .int g_30), (4, .int g_31), (0, .ref h0), (1, .int p1), (2, .int p2), (3, .int p3)] → W p l e (headSpec wsX6_isHollow ({ frames := 1, cells := 0, slots := 0, locals := 23 } : Room)).room s m ([.ref h0, .int p1, .int p2, .int p3] : List Value).toArray below meth c H locs 0 0 Q0 (F0 m 34 ls []) := by
          intro n
          induction n with
          | zero => intro g_30 g_31 iv_600 iv_601 iv_602 hm; exact absurd hm (Nat.not_lt_zero _)
          | succ n ih_604 =>
            intro g_30 g_31 iv_600 iv_601 iv_602 hm H locs hP hD hS ls hl
            refine lv_iload hx hb dX6_isHollow_34 (lv_at hl 0 rfl) ?_
            refine lv_aload_n hx hb dX6_isHollow_36 rfl (lv_at hl 2 rfl) ?_
            refine va_get (D := (dC, dI)) (ci := 4) (v := .int pc0) (C := RX6) (T := TX6) (N := 12) hx hb hts iw_X6_isHollow_X6 hown hK hP 0 rfl rfl 0 (by decide) (hts (.fieldLink RX6 9 "HungFloors$Papers" "count" "I") (by decide +kernel)) (fun _ h9 => h9) rfl dX6_isHollow_37 ?_
            refine lv_icmp_ge (tgt := 142) hx hb dX6_isHollow_40 (by decide) (fun c_605 => ?_) (fun c_605 => ?_)
            · have c_605 : pc0.toInt ≤ g_30.toInt := f_le rfl rfl c_605
              refine lv_aload_n hx hb dX6_isHollow_142 rfl (lv_at hl 2 rfl) ?_
              refine va_get (D := (dC, dI)) (ci := 4) (v := .ref (r0 3)) (C := RX6) (T := TX6) (N := 12) hx hb hts iw_X6_isHollow_X6 hown hK hP 0 rfl rfl 4 (by decide) (hts (.fieldLink RX6 25 "HungFloors$Papers" "hours" "[I") (by decide +kernel)) (fun _ h9 => h9) rfl dX6_isHollow_143 ?_
              refine lv_iload_n hx hb dX6_isHollow_146 rfl (lv_at hl 3 rfl) ?_
              refine va_iald hx hb hK hP 4 1 rfl rfl (v_in rfl (by omega) (by omega)) dX6_isHollow_147 ?_
              refine lv_topi (fun z_606 ez_606 => ?_)
              refine lv_iload hx hb dX6_isHollow_148 (lv_at hl 1 rfl) ?_
              refine lv_icmp_ge (tgt := 157) hx hb dX6_isHollow_150 (by decide) (fun c_607 => ?_) (fun c_607 => ?_)
              · have c_607 : g_31.toInt ≤ z_606.toInt := f_le rfl rfl c_607
                refine lv_iconst (v := 0) hx hb dX6_isHollow_157 (by decide) ?_
                rw [hQ0]
                exact W.zret (v := 0) hx hb hr (by decide) (fun t ht hW => ⟨⟨0, (), rfl, ⟨by decide, by decide⟩, ⟨by rw [ht]; exact hP, hD⟩⟩, hS.F ht⟩) hS.2.2 dX6_isHollow_158
              · have c_607 : z_606.toInt < g_31.toInt := f_nle rfl rfl c_607
                refine lv_iconst (v := 1) hx hb dX6_isHollow_153 (by decide) ?_
                refine lv_goto (tgt := 158) hx hb dX6_isHollow_154 (by decide) ?_
                rw [hQ0]
                exact W.zret (v := 1) hx hb hr (by decide) (fun t ht hW => ⟨⟨1, (), rfl, ⟨by decide, by decide⟩, ⟨by rw [ht]; exact hP, hD⟩⟩, hS.F ht⟩) hS.2.2 dX6_isHollow_158
            · have c_605 : g_30.toInt < pc0.toInt := f_nle rfl rfl c_605
              refine lv_aload_n hx hb dX6_isHollow_43 rfl (lv_at hl 2 rfl) ?_
              refine va_get (D := (dC, dI)) (ci := 4) (v := .ref (r0 1)) (C := RX6) (T := TX6) (N := 12) hx hb hts iw_X6_isHollow_X6 hown hK hP 0 rfl rfl 2 (by decide) (hts (.fieldLink RX6 19 "HungFloors$Papers" "day" "[I") (by decide +kernel)) (fun _ h9 => h9) rfl dX6_isHollow_44 ?_
              refine lv_iload hx hb dX6_isHollow_47 (lv_at hl 0 rfl) ?_
              refine va_iald hx hb hK hP 2 1 rfl rfl (v_in rfl (by omega) (by omega)) dX6_isHollow_49 ?_
              refine lv_topi (fun z_608 ez_608 => ?_)
              refine lv_aload_n hx hb dX6_isHollow_50 rfl (lv_at hl 2 rfl) ?_
              refine va_get (D := (dC, dI)) (ci := 4) (v := .ref (r0 1)) (C := RX6) (T := TX6) (N := 12) hx hb hts iw_X6_isHollow_X6 hown hK hP 0 rfl rfl 2 (by decide) (hts (.fieldLink RX6 19 "HungFloors$Papers" "day" "[I") (by decide +kernel)) (fun _ h9 => h9) rfl dX6_isHollow_51 ?_
              refine lv_iload_n hx hb dX6_isHollow_54 rfl (lv_at hl 3 rfl) ?_
              refine va_iald hx hb hK hP 2 1 rfl rfl (v_in rfl (by omega) (by omega)) dX6_isHollow_55 ?_
              refine lv_topi (fun z_609 ez_609 => ?_)
              refine lv_icmp_lt (tgt := 81) hx hb dX6_isHollow_56 (by decide) (fun c_610 => ?_) (fun c_610 => ?_)
              · have c_610 : z_608.toInt < z_609.toInt := f_lt rfl rfl c_610
                refine lv_iconst (v := 1) hx hb dX6_isHollow_81 (by decide) ?_
                refine lv_goto (tgt := 86) hx hb dX6_isHollow_82 (by decide) ?_
                refine lv_istore (lv' := [(6, .int 1), (5, .int g_30), (4, .int g_31), (0, .ref h0), (1, .int p1), (2, .int p2), (3, .int p3)]) hx hb dX6_isHollow_86 hl (by decide) rfl (fun ls hl => ?_)
                refine lv_iload hx hb dX6_isHollow_88 (lv_at hl 0 rfl) ?_
                refine lv_if_eq (tgt := 136) hx hb dX6_isHollow_90 (by decide) (fun c_611 => absurd c_611 (by decide)) (fun c_611 => ?_)
                refine lv_aload_n hx hb dX6_isHollow_93 rfl (lv_at hl 3 rfl) ?_
                refine lv_iload hx hb dX6_isHollow_94 (lv_at hl 1 rfl) ?_
                refine lv_aload_n hx hb dX6_isHollow_96 rfl (lv_at hl 3 rfl) ?_
                refine va_get (D := (dC, dI)) (ci := 4) (v := .ref (r0 0)) (C := RX6) (T := TX6) (N := 12) hx hb hts iw_X6_isHollow_X6 hown hK hP 0 rfl rfl 1 (by decide) (hts (.fieldLink RX6 15 "HungFloors$Papers" "office" "[I") (by decide +kernel)) (fun _ h9 => h9) rfl dX6_isHollow_97 ?_
                refine lv_iload_n hx hb dX6_isHollow_100 rfl (lv_at hl 4 rfl) ?_
                refine va_iald hx hb hK hP 1 1 rfl rfl (v_in rfl (by omega) (by omega)) dX6_isHollow_101 ?_
                refine lv_topi (fun z_612 ez_612 => ?_)
                refine lv_aload_n hx hb dX6_isHollow_102 rfl (lv_at hl 3 rfl) ?_
                refine va_get (D := (dC, dI)) (ci := 4) (v := .ref (r0 2)) (C := RX6) (T := TX6) (N := 12) hx hb hts iw_X6_isHollow_X6 hown hK hP 0 rfl rfl 3 (by decide) (hts (.fieldLink RX6 22 "HungFloors$Papers" "drawing" "[I") (by decide +kernel)) (fun _ h9 => h9) rfl dX6_isHollow_103 ?_
                refine lv_iload_n hx hb dX6_isHollow_106 rfl (lv_at hl 4 rfl) ?_
                refine va_iald hx hb hK hP 3 1 rfl rfl (v_in rfl (by omega) (by omega)) dX6_isHollow_107 ?_
                refine lv_topi (fun z_613 ez_613 => ?_)
                have hpm : List.Perm ([[(h0, .inr (4, [.int pc0, .ref (r0 0), .ref (r0 1), .ref (r0 2), .ref (r0 3), .ref (r0 4), .ref (r0 5), .ref (r0 6), .int sc_10, .ref (r0 7), .ref (r0 8), .ref (r0 9)])), (r0 0, .inl (cI, 60, .inl f_3)), (r0 1, .inl (cI, 60, .inl f_4)), (r0 2, .inl (cI, 60, .inl f_5)), (r0 3, .inl (cI, 60, .inl f_6)), (r0 4, .inl (cZ, 60, .inl f_7)), (r0 5, .inl (cI, 60, .inl f_8)), (r0 6, .inl (cI, 60, .inl f_9)), (r0 7, .inl (cI, 9, .inl f_13)), (r0 8, .inl (cI, 9, .inl f_15)), (r0 9, .inl (cI, 9, .inl f_16))]] : List va_W) (([[(h0, .inr (4, [.int pc0, .ref (r0 0), .ref (r0 1), .ref (r0 2), .ref (r0 3), .ref (r0 4), .ref (r0 5), .ref (r0 6), .int sc_10, .ref (r0 7), .ref (r0 8), .ref (r0 9)])), (r0 0, .inl (cI, 60, .inl f_3)), (r0 1, .inl (cI, 60, .inl f_4)), (r0 2, .inl (cI, 60, .inl f_5)), (r0 3, .inl (cI, 60, .inl f_6)), (r0 4, .inl (cZ, 60, .inl f_7)), (r0 5, .inl (cI, 60, .inl f_8)), (r0 6, .inl (cI, 60, .inl f_9)), (r0 7, .inl (cI, 9, .inl f_13)), (r0 8, .inl (cI, 9, .inl f_15)), (r0 9, .inl (cI, 9, .inl f_16))]] : List va_W) ++ ([] : List va_W)) := pm_n 1 [0] (by decide) rfl rfl
                have hPc := bk_P hpm hP
                have hDc := bk_D hpm hD
                have hFc := bk_F hpm hD hS hA
                refine va_calli (va_runV (As := [.int g_30, .int z_612, .int z_613]) (rest := []) ⟨hx, hb, hml, hown, hts⟩ (c_X6_isOf l dC dI ad tN fN cB cI cJ cZ h0 g_30 z_612 z_613 r0 pc0 _ ⟨f_3, f_4, f_5, f_6, f_7, f_8, f_9, sc_10, f_13, f_15, f_16, rfl, by omega, by omega, by omega, by omega, hr_14⟩ H.size (by omega) (by omega)) (cwV 3 hts gX6_isHollow_X6_isOf rfl rfl rfl (by decide +kernel) ⟨(Nat.le_of_ble_eq_true rfl), (Nat.le_of_ble_eq_true rfl)⟩) ⟨fun a U g mk q => by obtain ⟨q0, q1, qP, qK, qD, qE⟩ := q; exact ⟨q0, q1, qP, va_K.moved (u := U) (U := U.calling g mk a) (Vm.Alike.refl U.vm) qK, qD, ey_blind qE⟩, va_recv hK hPc (ci := 4) (q0 := 0) rfl rfl, fun U hU hW => ⟨rfl, by rw [hU], by rw [hU]; exact hPc, va_K.moved hW.alike hK, hDc.weaken (fun _ _ _ _ => trivial), ey_call hE hS hFc hU hW⟩⟩ rfl rfl hl.1 rfl (lv_room (Nat.le_of_ble_eq_true rfl)) dX6_isHollow_108 ⟨(Nat.le_of_ble_eq_true rfl), (Nat.le_of_ble_eq_true rfl)⟩) hS (fun q _ h => hFc q h) hFc (fun r_614 u t H locs ht hvm hw hB hz1 hk1 hS => ?_)
                obtain ⟨hP1, hD1⟩ := hB
                rw [ht] at hP1
                obtain ⟨hP, hD⟩ := bk_join hpm hP hD hk1 hFc (Cs1 := [[(h0, .inr (4, [.int pc0, .ref (r0 0), .ref (r0 1), .ref (r0 2), .ref (r0 3), .ref (r0 4), .ref (r0 5), .ref (r0 6), .int sc_10, .ref (r0 7), .ref (r0 8), .ref (r0 9)])), (r0 0, .inl (cI, 60, .inl f_3)), (r0 1, .inl (cI, 60, .inl f_4)), (r0 2, .inl (cI, 60, .inl f_5)), (r0 3, .inl (cI, 60, .inl f_6)), (r0 4, .inl (cZ, 60, .inl f_7)), (r0 5, .inl (cI, 60, .inl f_8)), (r0 6, .inl (cI, 60, .inl f_9)), (r0 7, .inl (cI, 9, .inl f_13)), (r0 8, .inl (cI, 9, .inl f_15)), (r0 9, .inl (cI, 9, .inl f_16))]]) hP1 hD1
                have hpm2 : List.Perm (([[(h0, .inr (4, [.int pc0, .ref (r0 0), .ref (r0 1), .ref (r0 2), .ref (r0 3), .ref (r0 4), .ref (r0 5), .ref (r0 6), .int sc_10, .ref (r0 7), .ref (r0 8), .ref (r0 9)])), (r0 0, .inl (cI, 60, .inl f_3)), (r0 1, .inl (cI, 60, .inl f_4)), (r0 2, .inl (cI, 60, .inl f_5)), (r0 3, .inl (cI, 60, .inl f_6)), (r0 4, .inl (cZ, 60, .inl f_7)), (r0 5, .inl (cI, 60, .inl f_8)), (r0 6, .inl (cI, 60, .inl f_9)), (r0 7, .inl (cI, 9, .inl f_13)), (r0 8, .inl (cI, 9, .inl f_15)), (r0 9, .inl (cI, 9, .inl f_16))]] : List va_W) ++ ([] : List va_W)) ([[(h0, .inr (4, [.int pc0, .ref (r0 0), .ref (r0 1), .ref (r0 2), .ref (r0 3), .ref (r0 4), .ref (r0 5), .ref (r0 6), .int sc_10, .ref (r0 7), .ref (r0 8), .ref (r0 9)])), (r0 0, .inl (cI, 60, .inl f_3)), (r0 1, .inl (cI, 60, .inl f_4)), (r0 2, .inl (cI, 60, .inl f_5)), (r0 3, .inl (cI, 60, .inl f_6)), (r0 4, .inl (cZ, 60, .inl f_7)), (r0 5, .inl (cI, 60, .inl f_8)), (r0 6, .inl (cI, 60, .inl f_9)), (r0 7, .inl (cI, 9, .inl f_13)), (r0 8, .inl (cI, 9, .inl f_15)), (r0 9, .inl (cI, 9, .inl f_16))]] : List va_W) := pm_n 1 [0] (by decide) rfl rfl
                have hP := bk_reP hpm2 hP
                have hD := bk_reD hpm2 hD
                have hP : va_P (dC, dI) vwCl (List.flatten [[(h0, .inr (4, [.int pc0, .ref (r0 0), .ref (r0 1), .ref (r0 2), .ref (r0 3), .ref (r0 4), .ref (r0 5), .ref (r0 6), .int sc_10, .ref (r0 7), .ref (r0 8), .ref (r0 9)])), (r0 0, .inl (cI, 60, .inl f_3)), (r0 1, .inl (cI, 60, .inl f_4)), (r0 2, .inl (cI, 60, .inl f_5)), (r0 3, .inl (cI, 60, .inl f_6)), (r0 4, .inl (cZ, 60, .inl f_7)), (r0 5, .inl (cI, 60, .inl f_8)), (r0 6, .inl (cI, 60, .inl f_9)), (r0 7, .inl (cI, 9, .inl f_13)), (r0 8, .inl (cI, 9, .inl f_15)), (r0 9, .inl (cI, 9, .inl f_16))]]) H := hP
                have hD : va_D A (List.flatten [[(h0, .inr (4, [.int pc0, .ref (r0 0), .ref (r0 1), .ref (r0 2), .ref (r0 3), .ref (r0 4), .ref (r0 5), .ref (r0 6), .int sc_10, .ref (r0 7), .ref (r0 8), .ref (r0 9)])), (r0 0, .inl (cI, 60, .inl f_3)), (r0 1, .inl (cI, 60, .inl f_4)), (r0 2, .inl (cI, 60, .inl f_5)), (r0 3, .inl (cI, 60, .inl f_6)), (r0 4, .inl (cZ, 60, .inl f_7)), (r0 5, .inl (cI, 60, .inl f_8)), (r0 6, .inl (cI, 60, .inl f_9)), (r0 7, .inl (cI, 9, .inl f_13)), (r0 8, .inl (cI, 9, .inl f_15)), (r0 9, .inl (cI, 9, .inl f_16))]]) := hD
                obtain ⟨hlr_614, hhr_614⟩ := hw
                refine lv_if_eq (tgt := 136) hx hb dX6_isHollow_111 (by decide) (fun c_615 => ?_) (fun c_615 => ?_)
                · have c_615 : r_614.toInt = 0 := f_eq rfl tI_0 c_615
                  obtain ⟨z_616, ez_616⟩ : ∃ y : Int32, y = g_30 + 1 := ⟨_, rfl⟩
                  have hz_616 : z_616.toInt = g_30.toInt + 1 := by rw [ez_616]; exact t_add rfl tI_1 (by omega) (by omega)
                  refine lv_iinc (v := z_616) (lv' := [(5, .int z_616), (6, .int 1), (4, .int g_31), (0, .ref h0), (1, .int p1), (2, .int p2), (3, .int p3)]) hx hb dX6_isHollow_136 hl (k := 1) rfl (by rw [ez_616]; rfl) (by decide) rfl (fun ls hl => ?_)
                  refine lv_goto (tgt := 34) hx hb dX6_isHollow_139 (by decide) ?_
                  exact ih_604 z_616 g_31 (by omega) (by omega) (by omega) (by omega) _ _ hP hD hS ls (lv_sub hl [0, 2, 3, 4, 5, 6] rfl)
                · have c_615 : ¬ r_614.toInt = 0 := f_ne rfl tI_0 c_615
                  refine lv_aload_n hx hb dX6_isHollow_114 rfl (lv_at hl 3 rfl) ?_
                  refine lv_iload hx hb dX6_isHollow_115 (lv_at hl 1 rfl) ?_
                  refine lv_iload_n hx hb dX6_isHollow_117 rfl (lv_at hl 6 rfl) ?_
                  have hpm : List.Perm ([[(h0, .inr (4, [.int pc0, .ref (r0 0), .ref (r0 1), .ref (r0 2), .ref (r0 3), .ref (r0 4), .ref (r0 5), .ref (r0 6), .int sc_10, .ref (r0 7), .ref (r0 8), .ref (r0 9)])), (r0 0, .inl (cI, 60, .inl f_3)), (r0 1, .inl (cI, 60, .inl f_4)), (r0 2, .inl (cI, 60, .inl f_5)), (r0 3, .inl (cI, 60, .inl f_6)), (r0 4, .inl (cZ, 60, .inl f_7)), (r0 5, .inl (cI, 60, .inl f_8)), (r0 6, .inl (cI, 60, .inl f_9)), (r0 7, .inl (cI, 9, .inl f_13)), (r0 8, .inl (cI, 9, .inl f_15)), (r0 9, .inl (cI, 9, .inl f_16))]] : List va_W) (([[(h0, .inr (4, [.int pc0, .ref (r0 0), .ref (r0 1), .ref (r0 2), .ref (r0 3), .ref (r0 4), .ref (r0 5), .ref (r0 6), .int sc_10, .ref (r0 7), .ref (r0 8), .ref (r0 9)])), (r0 0, .inl (cI, 60, .inl f_3)), (r0 1, .inl (cI, 60, .inl f_4)), (r0 2, .inl (cI, 60, .inl f_5)), (r0 3, .inl (cI, 60, .inl f_6)), (r0 4, .inl (cZ, 60, .inl f_7)), (r0 5, .inl (cI, 60, .inl f_8)), (r0 6, .inl (cI, 60, .inl f_9)), (r0 7, .inl (cI, 9, .inl f_13)), (r0 8, .inl (cI, 9, .inl f_15)), (r0 9, .inl (cI, 9, .inl f_16))]] : List va_W) ++ ([] : List va_W)) := pm_n 1 [0] (by decide) rfl rfl
                  have hPc := bk_P hpm hP
                  have hDc := bk_D hpm hD
                  have hFc := bk_F hpm hD hS hA
                  refine va_calli (va_runV (As := [.int g_30, .int p3]) (rest := []) ⟨hx, hb, hml, hown, hts⟩ (c_X6_isKnown l dC dI ad tN fN cB cI cJ cZ h0 g_30 p3 r0 pc0 _ ⟨f_3, f_4, f_5, f_6, f_7, f_8, f_9, sc_10, f_13, f_15, f_16, rfl, by omega, by omega, by omega, by omega, hr_14⟩ H.size (by omega) (by omega)) (cwV 2 hts gX6_isHollow_X6_isKnown rfl rfl rfl (by decide +kernel) ⟨(Nat.le_of_ble_eq_true rfl), (Nat.le_of_ble_eq_true rfl)⟩) ⟨fun a U g mk q => by obtain ⟨q0, q1, qP, qK, qD, qE⟩ := q; exact ⟨q0, q1, qP, va_K.moved (u := U) (U := U.calling g mk a) (Vm.Alike.refl U.vm) qK, qD, ey_blind qE⟩, va_recv hK hPc (ci := 4) (q0 := 0) rfl rfl, fun U hU hW => ⟨rfl, by rw [hU], by rw [hU]; exact hPc, va_K.moved hW.alike hK, hDc.weaken (fun _ _ _ _ => trivial), ey_call hE hS hFc hU hW⟩⟩ rfl rfl hl.1 rfl (lv_room (Nat.le_of_ble_eq_true rfl)) dX6_isHollow_118 ⟨(Nat.le_of_ble_eq_true rfl), (Nat.le_of_ble_eq_true rfl)⟩) hS (fun q _ h => hFc q h) hFc (fun r_617 u t H locs ht hvm hw hB hz1 hk1 hS => ?_)
                  obtain ⟨hP1, hD1⟩ := hB
                  rw [ht] at hP1
                  obtain ⟨hP, hD⟩ := bk_join hpm hP hD hk1 hFc (Cs1 := [[(h0, .inr (4, [.int pc0, .ref (r0 0), .ref (r0 1), .ref (r0 2), .ref (r0 3), .ref (r0 4), .ref (r0 5), .ref (r0 6), .int sc_10, .ref (r0 7), .ref (r0 8), .ref (r0 9)])), (r0 0, .inl (cI, 60, .inl f_3)), (r0 1, .inl (cI, 60, .inl f_4)), (r0 2, .inl (cI, 60, .inl f_5)), (r0 3, .inl (cI, 60, .inl f_6)), (r0 4, .inl (cZ, 60, .inl f_7)), (r0 5, .inl (cI, 60, .inl f_8)), (r0 6, .inl (cI, 60, .inl f_9)), (r0 7, .inl (cI, 9, .inl f_13)), (r0 8, .inl (cI, 9, .inl f_15)), (r0 9, .inl (cI, 9, .inl f_16))]]) hP1 hD1
                  have hpm2 : List.Perm (([[(h0, .inr (4, [.int pc0, .ref (r0 0), .ref (r0 1), .ref (r0 2), .ref (r0 3), .ref (r0 4), .ref (r0 5), .ref (r0 6), .int sc_10, .ref (r0 7), .ref (r0 8), .ref (r0 9)])), (r0 0, .inl (cI, 60, .inl f_3)), (r0 1, .inl (cI, 60, .inl f_4)), (r0 2, .inl (cI, 60, .inl f_5)), (r0 3, .inl (cI, 60, .inl f_6)), (r0 4, .inl (cZ, 60, .inl f_7)), (r0 5, .inl (cI, 60, .inl f_8)), (r0 6, .inl (cI, 60, .inl f_9)), (r0 7, .inl (cI, 9, .inl f_13)), (r0 8, .inl (cI, 9, .inl f_15)), (r0 9, .inl (cI, 9, .inl f_16))]] : List va_W) ++ ([] : List va_W)) ([[(h0, .inr (4, [.int pc0, .ref (r0 0), .ref (r0 1), .ref (r0 2), .ref (r0 3), .ref (r0 4), .ref (r0 5), .ref (r0 6), .int sc_10, .ref (r0 7), .ref (r0 8), .ref (r0 9)])), (r0 0, .inl (cI, 60, .inl f_3)), (r0 1, .inl (cI, 60, .inl f_4)), (r0 2, .inl (cI, 60, .inl f_5)), (r0 3, .inl (cI, 60, .inl f_6)), (r0 4, .inl (cZ, 60, .inl f_7)), (r0 5, .inl (cI, 60, .inl f_8)), (r0 6, .inl (cI, 60, .inl f_9)), (r0 7, .inl (cI, 9, .inl f_13)), (r0 8, .inl (cI, 9, .inl f_15)), (r0 9, .inl (cI, 9, .inl f_16))]] : List va_W) := pm_n 1 [0] (by decide) rfl rfl
                  have hP := bk_reP hpm2 hP
                  have hD := bk_reD hpm2 hD
                  have hP : va_P (dC, dI) vwCl (List.flatten [[(h0, .inr (4, [.int pc0, .ref (r0 0), .ref (r0 1), .ref (r0 2), .ref (r0 3), .ref (r0 4), .ref (r0 5), .ref (r0 6), .int sc_10, .ref (r0 7), .ref (r0 8), .ref (r0 9)])), (r0 0, .inl (cI, 60, .inl f_3)), (r0 1, .inl (cI, 60, .inl f_4)), (r0 2, .inl (cI, 60, .inl f_5)), (r0 3, .inl (cI, 60, .inl f_6)), (r0 4, .inl (cZ, 60, .inl f_7)), (r0 5, .inl (cI, 60, .inl f_8)), (r0 6, .inl (cI, 60, .inl f_9)), (r0 7, .inl (cI, 9, .inl f_13)), (r0 8, .inl (cI, 9, .inl f_15)), (r0 9, .inl (cI, 9, .inl f_16))]]) H := hP
                  have hD : va_D A (List.flatten [[(h0, .inr (4, [.int pc0, .ref (r0 0), .ref (r0 1), .ref (r0 2), .ref (r0 3), .ref (r0 4), .ref (r0 5), .ref (r0 6), .int sc_10, .ref (r0 7), .ref (r0 8), .ref (r0 9)])), (r0 0, .inl (cI, 60, .inl f_3)), (r0 1, .inl (cI, 60, .inl f_4)), (r0 2, .inl (cI, 60, .inl f_5)), (r0 3, .inl (cI, 60, .inl f_6)), (r0 4, .inl (cZ, 60, .inl f_7)), (r0 5, .inl (cI, 60, .inl f_8)), (r0 6, .inl (cI, 60, .inl f_9)), (r0 7, .inl (cI, 9, .inl f_13)), (r0 8, .inl (cI, 9, .inl f_15)), (r0 9, .inl (cI, 9, .inl f_16))]]) := hD
                  obtain ⟨hlr_617, hhr_617⟩ := hw
                  refine lv_if_eq (tgt := 136) hx hb dX6_isHollow_121 (by decide) (fun c_618 => ?_) (fun c_618 => ?_)
                  · have c_618 : r_617.toInt = 0 := f_eq rfl tI_0 c_618
                    obtain ⟨z_619, ez_619⟩ : ∃ y : Int32, y = g_30 + 1 := ⟨_, rfl⟩
                    have hz_619 : z_619.toInt = g_30.toInt + 1 := by rw [ez_619]; exact t_add rfl tI_1 (by omega) (by omega)
                    refine lv_iinc (v := z_619) (lv' := [(5, .int z_619), (6, .int 1), (4, .int g_31), (0, .ref h0), (1, .int p1), (2, .int p2), (3, .int p3)]) hx hb dX6_isHollow_136 hl (k := 1) rfl (by rw [ez_619]; rfl) (by decide) rfl (fun ls hl => ?_)
                    refine lv_goto (tgt := 34) hx hb dX6_isHollow_139 (by decide) ?_
                    exact ih_604 z_619 g_31 (by omega) (by omega) (by omega) (by omega) _ _ hP hD hS ls (lv_sub hl [0, 2, 3, 4, 5, 6] rfl)
                  · have c_618 : ¬ r_617.toInt = 0 := f_ne rfl tI_0 c_618
                    refine lv_iload hx hb dX6_isHollow_124 (lv_at hl 2 rfl) ?_
                    refine lv_aload_n hx hb dX6_isHollow_126 rfl (lv_at hl 3 rfl) ?_
                    refine va_get (D := (dC, dI)) (ci := 4) (v := .ref (r0 3)) (C := RX6) (T := TX6) (N := 12) hx hb hts iw_X6_isHollow_X6 hown hK hP 0 rfl rfl 4 (by decide) (hts (.fieldLink RX6 25 "HungFloors$Papers" "hours" "[I") (by decide +kernel)) (fun _ h9 => h9) rfl dX6_isHollow_127 ?_
                    refine lv_iload hx hb dX6_isHollow_130 (lv_at hl 1 rfl) ?_
                    refine va_iald hx hb hK hP 4 1 rfl rfl (v_in rfl (by omega) (by omega)) dX6_isHollow_132 ?_
                    refine lv_topi (fun z_620 ez_620 => ?_)
                    refine lv_isub hx hb dX6_isHollow_133 ?_
                    refine lv_topi (fun z_621 ez_621 => ?_)
                    refine lv_istore (lv' := [(4, .int z_621), (6, .int 1), (5, .int g_30), (0, .ref h0), (1, .int p1), (2, .int p2), (3, .int p3)]) hx hb dX6_isHollow_134 hl (by decide) rfl (fun ls hl => ?_)
                    obtain ⟨z_622, ez_622⟩ : ∃ y : Int32, y = g_30 + 1 := ⟨_, rfl⟩
                    have hz_622 : z_622.toInt = g_30.toInt + 1 := by rw [ez_622]; exact t_add rfl tI_1 (by omega) (by omega)
                    refine lv_iinc (v := z_622) (lv' := [(5, .int z_622), (4, .int z_621), (6, .int 1), (0, .ref h0), (1, .int p1), (2, .int p2), (3, .int p3)]) hx hb dX6_isHollow_136 hl (k := 2) rfl (by rw [ez_622]; rfl) (by decide) rfl (fun ls hl => ?_)
                    refine lv_goto (tgt := 34) hx hb dX6_isHollow_139 (by decide) ?_
                    exact ih_604 z_622 z_621 (by omega) (by omega) (by omega) (by omega) _ _ hP hD hS ls (lv_sub hl [0, 1, 3, 4, 5, 6] rfl)
              · have c_610 : z_609.toInt ≤ z_608.toInt := f_nlt rfl rfl c_610
                refine lv_aload_n hx hb dX6_isHollow_59 rfl (lv_at hl 2 rfl) ?_
                refine va_get (D := (dC, dI)) (ci := 4) (v := .ref (r0 1)) (C := RX6) (T := TX6) (N := 12) hx hb hts iw_X6_isHollow_X6 hown hK hP 0 rfl rfl 2 (by decide) (hts (.fieldLink RX6 19 "HungFloors$Papers" "day" "[I") (by decide +kernel)) (fun _ h9 => h9) rfl dX6_isHollow_60 ?_
                refine lv_iload hx hb dX6_isHollow_63 (lv_at hl 0 rfl) ?_
                refine va_iald hx hb hK hP 2 1 rfl rfl (v_in rfl (by omega) (by omega)) dX6_isHollow_65 ?_
                refine lv_topi (fun z_623 ez_623 => ?_)
                have qz_623 : z_623.toInt = z_608.toInt := by rw [ez_623, ez_608]
                refine lv_aload_n hx hb dX6_isHollow_66 rfl (lv_at hl 2 rfl) ?_
                refine va_get (D := (dC, dI)) (ci := 4) (v := .ref (r0 1)) (C := RX6) (T := TX6) (N := 12) hx hb hts iw_X6_isHollow_X6 hown hK hP 0 rfl rfl 2 (by decide) (hts (.fieldLink RX6 19 "HungFloors$Papers" "day" "[I") (by decide +kernel)) (fun _ h9 => h9) rfl dX6_isHollow_67 ?_
                refine lv_iload_n hx hb dX6_isHollow_70 rfl (lv_at hl 3 rfl) ?_
                refine va_iald hx hb hK hP 2 1 rfl rfl (v_in rfl (by omega) (by omega)) dX6_isHollow_71 ?_
                refine lv_topi (fun z_624 ez_624 => ?_)
                have qz_624 : z_624.toInt = z_609.toInt := by rw [ez_624, ez_609]
                refine lv_icmp_ne (tgt := 85) hx hb dX6_isHollow_72 (by decide) (fun c_625 => ?_) (fun c_625 => ?_)
                · have c_625 : ¬ z_623.toInt = z_624.toInt := f_ne rfl rfl c_625
                  refine lv_iconst (v := 0) hx hb dX6_isHollow_85 (by decide) ?_
                  refine lv_istore (lv' := [(6, .int 0), (5, .int g_30), (4, .int g_31), (0, .ref h0), (1, .int p1), (2, .int p2), (3, .int p3)]) hx hb dX6_isHollow_86 hl (by decide) rfl (fun ls hl => ?_)
                  refine lv_iload hx hb dX6_isHollow_88 (lv_at hl 0 rfl) ?_
                  refine lv_if_eq (tgt := 136) hx hb dX6_isHollow_90 (by decide) (fun c_626 => ?_) (fun c_626 => absurd c_626 (by decide))
                  obtain ⟨z_627, ez_627⟩ : ∃ y : Int32, y = g_30 + 1 := ⟨_, rfl⟩
                  have hz_627 : z_627.toInt = g_30.toInt + 1 := by rw [ez_627]; exact t_add rfl tI_1 (by omega) (by omega)
                  refine lv_iinc (v := z_627) (lv' := [(5, .int z_627), (6, .int 0), (4, .int g_31), (0, .ref h0), (1, .int p1), (2, .int p2), (3, .int p3)]) hx hb dX6_isHollow_136 hl (k := 1) rfl (by rw [ez_627]; rfl) (by decide) rfl (fun ls hl => ?_)
                  refine lv_goto (tgt := 34) hx hb dX6_isHollow_139 (by decide) ?_
                  exact ih_604 z_627 g_31 (by omega) (by omega) (by omega) (by omega) _ _ hP hD hS ls (lv_sub hl [0, 2, 3, 4, 5, 6] rfl)
                · have c_625 : z_623.toInt = z_624.toInt := f_eq rfl rfl c_625
                  refine lv_iload hx hb dX6_isHollow_75 (lv_at hl 0 rfl) ?_
                  refine lv_iload_n hx hb dX6_isHollow_77 rfl (lv_at hl 3 rfl) ?_
                  refine lv_icmp_ge (tgt := 85) hx hb dX6_isHollow_78 (by decide) (fun c_628 => ?_) (fun c_628 => ?_)
                  · have c_628 : p1.toInt ≤ g_30.toInt := f_le rfl rfl c_628
                    refine lv_iconst (v := 0) hx hb dX6_isHollow_85 (by decide) ?_
                    refine lv_istore (lv' := [(6, .int 0), (5, .int g_30), (4, .int g_31), (0, .ref h0), (1, .int p1), (2, .int p2), (3, .int p3)]) hx hb dX6_isHollow_86 hl (by decide) rfl (fun ls hl => ?_)
                    refine lv_iload hx hb dX6_isHollow_88 (lv_at hl 0 rfl) ?_
                    refine lv_if_eq (tgt := 136) hx hb dX6_isHollow_90 (by decide) (fun c_629 => ?_) (fun c_629 => absurd c_629 (by decide))
                    obtain ⟨z_630, ez_630⟩ : ∃ y : Int32, y = g_30 + 1 := ⟨_, rfl⟩
                    have hz_630 : z_630.toInt = g_30.toInt + 1 := by rw [ez_630]; exact t_add rfl tI_1 (by omega) (by omega)
                    refine lv_iinc (v := z_630) (lv' := [(5, .int z_630), (6, .int 0), (4, .int g_31), (0, .ref h0), (1, .int p1), (2, .int p2), (3, .int p3)]) hx hb dX6_isHollow_136 hl (k := 1) rfl (by rw [ez_630]; rfl) (by decide) rfl (fun ls hl => ?_)
                    refine lv_goto (tgt := 34) hx hb dX6_isHollow_139 (by decide) ?_
                    exact ih_604 z_630 g_31 (by omega) (by omega) (by omega) (by omega) _ _ hP hD hS ls (lv_sub hl [0, 2, 3, 4, 5, 6] rfl)
                  · have c_628 : g_30.toInt < p1.toInt := f_nle rfl rfl c_628
                    refine lv_iconst (v := 1) hx hb dX6_isHollow_81 (by decide) ?_
                    refine lv_goto (tgt := 86) hx hb dX6_isHollow_82 (by decide) ?_
                    refine lv_istore (lv' := [(6, .int 1), (5, .int g_30), (4, .int g_31), (0, .ref h0), (1, .int p1), (2, .int p2), (3, .int p3)]) hx hb dX6_isHollow_86 hl (by decide) rfl (fun ls hl => ?_)
                    refine lv_iload hx hb dX6_isHollow_88 (lv_at hl 0 rfl) ?_
                    refine lv_if_eq (tgt := 136) hx hb dX6_isHollow_90 (by decide) (fun c_631 => absurd c_631 (by decide)) (fun c_631 => ?_)
                    refine lv_aload_n hx hb dX6_isHollow_93 rfl (lv_at hl 3 rfl) ?_
                    refine lv_iload hx hb dX6_isHollow_94 (lv_at hl 1 rfl) ?_
                    refine lv_aload_n hx hb dX6_isHollow_96 rfl (lv_at hl 3 rfl) ?_
                    refine va_get (D := (dC, dI)) (ci := 4) (v := .ref (r0 0)) (C := RX6) (T := TX6) (N := 12) hx hb hts iw_X6_isHollow_X6 hown hK hP 0 rfl rfl 1 (by decide) (hts (.fieldLink RX6 15 "HungFloors$Papers" "office" "[I") (by decide +kernel)) (fun _ h9 => h9) rfl dX6_isHollow_97 ?_
                    refine lv_iload_n hx hb dX6_isHollow_100 rfl (lv_at hl 4 rfl) ?_
                    refine va_iald hx hb hK hP 1 1 rfl rfl (v_in rfl (by omega) (by omega)) dX6_isHollow_101 ?_
                    refine lv_topi (fun z_632 ez_632 => ?_)
                    refine lv_aload_n hx hb dX6_isHollow_102 rfl (lv_at hl 3 rfl) ?_
                    refine va_get (D := (dC, dI)) (ci := 4) (v := .ref (r0 2)) (C := RX6) (T := TX6) (N := 12) hx hb hts iw_X6_isHollow_X6 hown hK hP 0 rfl rfl 3 (by decide) (hts (.fieldLink RX6 22 "HungFloors$Papers" "drawing" "[I") (by decide +kernel)) (fun _ h9 => h9) rfl dX6_isHollow_103 ?_
                    refine lv_iload_n hx hb dX6_isHollow_106 rfl (lv_at hl 4 rfl) ?_
                    refine va_iald hx hb hK hP 3 1 rfl rfl (v_in rfl (by omega) (by omega)) dX6_isHollow_107 ?_
                    refine lv_topi (fun z_633 ez_633 => ?_)
                    have hpm : List.Perm ([[(h0, .inr (4, [.int pc0, .ref (r0 0), .ref (r0 1), .ref (r0 2), .ref (r0 3), .ref (r0 4), .ref (r0 5), .ref (r0 6), .int sc_10, .ref (r0 7), .ref (r0 8), .ref (r0 9)])), (r0 0, .inl (cI, 60, .inl f_3)), (r0 1, .inl (cI, 60, .inl f_4)), (r0 2, .inl (cI, 60, .inl f_5)), (r0 3, .inl (cI, 60, .inl f_6)), (r0 4, .inl (cZ, 60, .inl f_7)), (r0 5, .inl (cI, 60, .inl f_8)), (r0 6, .inl (cI, 60, .inl f_9)), (r0 7, .inl (cI, 9, .inl f_13)), (r0 8, .inl (cI, 9, .inl f_15)), (r0 9, .inl (cI, 9, .inl f_16))]] : List va_W) (([[(h0, .inr (4, [.int pc0, .ref (r0 0), .ref (r0 1), .ref (r0 2), .ref (r0 3), .ref (r0 4), .ref (r0 5), .ref (r0 6), .int sc_10, .ref (r0 7), .ref (r0 8), .ref (r0 9)])), (r0 0, .inl (cI, 60, .inl f_3)), (r0 1, .inl (cI, 60, .inl f_4)), (r0 2, .inl (cI, 60, .inl f_5)), (r0 3, .inl (cI, 60, .inl f_6)), (r0 4, .inl (cZ, 60, .inl f_7)), (r0 5, .inl (cI, 60, .inl f_8)), (r0 6, .inl (cI, 60, .inl f_9)), (r0 7, .inl (cI, 9, .inl f_13)), (r0 8, .inl (cI, 9, .inl f_15)), (r0 9, .inl (cI, 9, .inl f_16))]] : List va_W) ++ ([] : List va_W)) := pm_n 1 [0] (by decide) rfl rfl
                    have hPc := bk_P hpm hP
                    have hDc := bk_D hpm hD
                    have hFc := bk_F hpm hD hS hA
                    refine va_calli (va_runV (As := [.int g_30, .int z_632, .int z_633]) (rest := []) ⟨hx, hb, hml, hown, hts⟩ (c_X6_isOf l dC dI ad tN fN cB cI cJ cZ h0 g_30 z_632 z_633 r0 pc0 _ ⟨f_3, f_4, f_5, f_6, f_7, f_8, f_9, sc_10, f_13, f_15, f_16, rfl, by omega, by omega, by omega, by omega, hr_14⟩ H.size (by omega) (by omega)) (cwV 3 hts gX6_isHollow_X6_isOf rfl rfl rfl (by decide +kernel) ⟨(Nat.le_of_ble_eq_true rfl), (Nat.le_of_ble_eq_true rfl)⟩) ⟨fun a U g mk q => by obtain ⟨q0, q1, qP, qK, qD, qE⟩ := q; exact ⟨q0, q1, qP, va_K.moved (u := U) (U := U.calling g mk a) (Vm.Alike.refl U.vm) qK, qD, ey_blind qE⟩, va_recv hK hPc (ci := 4) (q0 := 0) rfl rfl, fun U hU hW => ⟨rfl, by rw [hU], by rw [hU]; exact hPc, va_K.moved hW.alike hK, hDc.weaken (fun _ _ _ _ => trivial), ey_call hE hS hFc hU hW⟩⟩ rfl rfl hl.1 rfl (lv_room (Nat.le_of_ble_eq_true rfl)) dX6_isHollow_108 ⟨(Nat.le_of_ble_eq_true rfl), (Nat.le_of_ble_eq_true rfl)⟩) hS (fun q _ h => hFc q h) hFc (fun r_634 u t H locs ht hvm hw hB hz1 hk1 hS => ?_)
                    obtain ⟨hP1, hD1⟩ := hB
                    rw [ht] at hP1
                    obtain ⟨hP, hD⟩ := bk_join hpm hP hD hk1 hFc (Cs1 := [[(h0, .inr (4, [.int pc0, .ref (r0 0), .ref (r0 1), .ref (r0 2), .ref (r0 3), .ref (r0 4), .ref (r0 5), .ref (r0 6), .int sc_10, .ref (r0 7), .ref (r0 8), .ref (r0 9)])), (r0 0, .inl (cI, 60, .inl f_3)), (r0 1, .inl (cI, 60, .inl f_4)), (r0 2, .inl (cI, 60, .inl f_5)), (r0 3, .inl (cI, 60, .inl f_6)), (r0 4, .inl (cZ, 60, .inl f_7)), (r0 5, .inl (cI, 60, .inl f_8)), (r0 6, .inl (cI, 60, .inl f_9)), (r0 7, .inl (cI, 9, .inl f_13)), (r0 8, .inl (cI, 9, .inl f_15)), (r0 9, .inl (cI, 9, .inl f_16))]]) hP1 hD1
                    have hpm2 : List.Perm (([[(h0, .inr (4, [.int pc0, .ref (r0 0), .ref (r0 1), .ref (r0 2), .ref (r0 3), .ref (r0 4), .ref (r0 5), .ref (r0 6), .int sc_10, .ref (r0 7), .ref (r0 8), .ref (r0 9)])), (r0 0, .inl (cI, 60, .inl f_3)), (r0 1, .inl (cI, 60, .inl f_4)), (r0 2, .inl (cI, 60, .inl f_5)), (r0 3, .inl (cI, 60, .inl f_6)), (r0 4, .inl (cZ, 60, .inl f_7)), (r0 5, .inl (cI, 60, .inl f_8)), (r0 6, .inl (cI, 60, .inl f_9)), (r0 7, .inl (cI, 9, .inl f_13)), (r0 8, .inl (cI, 9, .inl f_15)), (r0 9, .inl (cI, 9, .inl f_16))]] : List va_W) ++ ([] : List va_W)) ([[(h0, .inr (4, [.int pc0, .ref (r0 0), .ref (r0 1), .ref (r0 2), .ref (r0 3), .ref (r0 4), .ref (r0 5), .ref (r0 6), .int sc_10, .ref (r0 7), .ref (r0 8), .ref (r0 9)])), (r0 0, .inl (cI, 60, .inl f_3)), (r0 1, .inl (cI, 60, .inl f_4)), (r0 2, .inl (cI, 60, .inl f_5)), (r0 3, .inl (cI, 60, .inl f_6)), (r0 4, .inl (cZ, 60, .inl f_7)), (r0 5, .inl (cI, 60, .inl f_8)), (r0 6, .inl (cI, 60, .inl f_9)), (r0 7, .inl (cI, 9, .inl f_13)), (r0 8, .inl (cI, 9, .inl f_15)), (r0 9, .inl (cI, 9, .inl f_16))]] : List va_W) := pm_n 1 [0] (by decide) rfl rfl
                    have hP := bk_reP hpm2 hP
                    have hD := bk_reD hpm2 hD
                    have hP : va_P (dC, dI) vwCl (List.flatten [[(h0, .inr (4, [.int pc0, .ref (r0 0), .ref (r0 1), .ref (r0 2), .ref (r0 3), .ref (r0 4), .ref (r0 5), .ref (r0 6), .int sc_10, .ref (r0 7), .ref (r0 8), .ref (r0 9)])), (r0 0, .inl (cI, 60, .inl f_3)), (r0 1, .inl (cI, 60, .inl f_4)), (r0 2, .inl (cI, 60, .inl f_5)), (r0 3, .inl (cI, 60, .inl f_6)), (r0 4, .inl (cZ, 60, .inl f_7)), (r0 5, .inl (cI, 60, .inl f_8)), (r0 6, .inl (cI, 60, .inl f_9)), (r0 7, .inl (cI, 9, .inl f_13)), (r0 8, .inl (cI, 9, .inl f_15)), (r0 9, .inl (cI, 9, .inl f_16))]]) H := hP
                    have hD : va_D A (List.flatten [[(h0, .inr (4, [.int pc0, .ref (r0 0), .ref (r0 1), .ref (r0 2), .ref (r0 3), .ref (r0 4), .ref (r0 5), .ref (r0 6), .int sc_10, .ref (r0 7), .ref (r0 8), .ref (r0 9)])), (r0 0, .inl (cI, 60, .inl f_3)), (r0 1, .inl (cI, 60, .inl f_4)), (r0 2, .inl (cI, 60, .inl f_5)), (r0 3, .inl (cI, 60, .inl f_6)), (r0 4, .inl (cZ, 60, .inl f_7)), (r0 5, .inl (cI, 60, .inl f_8)), (r0 6, .inl (cI, 60, .inl f_9)), (r0 7, .inl (cI, 9, .inl f_13)), (r0 8, .inl (cI, 9, .inl f_15)), (r0 9, .inl (cI, 9, .inl f_16))]]) := hD
                    obtain ⟨hlr_634, hhr_634⟩ := hw
                    refine lv_if_eq (tgt := 136) hx hb dX6_isHollow_111 (by decide) (fun c_635 => ?_) (fun c_635 => ?_)
                    · have c_635 : r_634.toInt = 0 := f_eq rfl tI_0 c_635
                      obtain ⟨z_636, ez_636⟩ : ∃ y : Int32, y = g_30 + 1 := ⟨_, rfl⟩
                      have hz_636 : z_636.toInt = g_30.toInt + 1 := by rw [ez_636]; exact t_add rfl tI_1 (by omega) (by omega)
                      refine lv_iinc (v := z_636) (lv' := [(5, .int z_636), (6, .int 1), (4, .int g_31), (0, .ref h0), (1, .int p1), (2, .int p2), (3, .int p3)]) hx hb dX6_isHollow_136 hl (k := 1) rfl (by rw [ez_636]; rfl) (by decide) rfl (fun ls hl => ?_)
                      refine lv_goto (tgt := 34) hx hb dX6_isHollow_139 (by decide) ?_
                      exact ih_604 z_636 g_31 (by omega) (by omega) (by omega) (by omega) _ _ hP hD hS ls (lv_sub hl [0, 2, 3, 4, 5, 6] rfl)
                    · have c_635 : ¬ r_634.toInt = 0 := f_ne rfl tI_0 c_635
                      refine lv_aload_n hx hb dX6_isHollow_114 rfl (lv_at hl 3 rfl) ?_
                      refine lv_iload hx hb dX6_isHollow_115 (lv_at hl 1 rfl) ?_
                      refine lv_iload_n hx hb dX6_isHollow_117 rfl (lv_at hl 6 rfl) ?_
                      have hpm : List.Perm ([[(h0, .inr (4, [.int pc0, .ref (r0 0), .ref (r0 1), .ref (r0 2), .ref (r0 3), .ref (r0 4), .ref (r0 5), .ref (r0 6), .int sc_10, .ref (r0 7), .ref (r0 8), .ref (r0 9)])), (r0 0, .inl (cI, 60, .inl f_3)), (r0 1, .inl (cI, 60, .inl f_4)), (r0 2, .inl (cI, 60, .inl f_5)), (r0 3, .inl (cI, 60, .inl f_6)), (r0 4, .inl (cZ, 60, .inl f_7)), (r0 5, .inl (cI, 60, .inl f_8)), (r0 6, .inl (cI, 60, .inl f_9)), (r0 7, .inl (cI, 9, .inl f_13)), (r0 8, .inl (cI, 9, .inl f_15)), (r0 9, .inl (cI, 9, .inl f_16))]] : List va_W) (([[(h0, .inr (4, [.int pc0, .ref (r0 0), .ref (r0 1), .ref (r0 2), .ref (r0 3), .ref (r0 4), .ref (r0 5), .ref (r0 6), .int sc_10, .ref (r0 7), .ref (r0 8), .ref (r0 9)])), (r0 0, .inl (cI, 60, .inl f_3)), (r0 1, .inl (cI, 60, .inl f_4)), (r0 2, .inl (cI, 60, .inl f_5)), (r0 3, .inl (cI, 60, .inl f_6)), (r0 4, .inl (cZ, 60, .inl f_7)), (r0 5, .inl (cI, 60, .inl f_8)), (r0 6, .inl (cI, 60, .inl f_9)), (r0 7, .inl (cI, 9, .inl f_13)), (r0 8, .inl (cI, 9, .inl f_15)), (r0 9, .inl (cI, 9, .inl f_16))]] : List va_W) ++ ([] : List va_W)) := pm_n 1 [0] (by decide) rfl rfl
                      have hPc := bk_P hpm hP
                      have hDc := bk_D hpm hD
                      have hFc := bk_F hpm hD hS hA
                      refine va_calli (va_runV (As := [.int g_30, .int p3]) (rest := []) ⟨hx, hb, hml, hown, hts⟩ (c_X6_isKnown l dC dI ad tN fN cB cI cJ cZ h0 g_30 p3 r0 pc0 _ ⟨f_3, f_4, f_5, f_6, f_7, f_8, f_9, sc_10, f_13, f_15, f_16, rfl, by omega, by omega, by omega, by omega, hr_14⟩ H.size (by omega) (by omega)) (cwV 2 hts gX6_isHollow_X6_isKnown rfl rfl rfl (by decide +kernel) ⟨(Nat.le_of_ble_eq_true rfl), (Nat.le_of_ble_eq_true rfl)⟩) ⟨fun a U g mk q => by obtain ⟨q0, q1, qP, qK, qD, qE⟩ := q; exact ⟨q0, q1, qP, va_K.moved (u := U) (U := U.calling g mk a) (Vm.Alike.refl U.vm) qK, qD, ey_blind qE⟩, va_recv hK hPc (ci := 4) (q0 := 0) rfl rfl, fun U hU hW => ⟨rfl, by rw [hU], by rw [hU]; exact hPc, va_K.moved hW.alike hK, hDc.weaken (fun _ _ _ _ => trivial), ey_call hE hS hFc hU hW⟩⟩ rfl rfl hl.1 rfl (lv_room (Nat.le_of_ble_eq_true rfl)) dX6_isHollow_118 ⟨(Nat.le_of_ble_eq_true rfl), (Nat.le_of_ble_eq_true rfl)⟩) hS (fun q _ h => hFc q h) hFc (fun r_637 u t H locs ht hvm hw hB hz1 hk1 hS => ?_)
                      obtain ⟨hP1, hD1⟩ := hB
                      rw [ht] at hP1
                      obtain ⟨hP, hD⟩ := bk_join hpm hP hD hk1 hFc (Cs1 := [[(h0, .inr (4, [.int pc0, .ref (r0 0), .ref (r0 1), .ref (r0 2), .ref (r0 3), .ref (r0 4), .ref (r0 5), .ref (r0 6), .int sc_10, .ref (r0 7), .ref (r0 8), .ref (r0 9)])), (r0 0, .inl (cI, 60, .inl f_3)), (r0 1, .inl (cI, 60, .inl f_4)), (r0 2, .inl (cI, 60, .inl f_5)), (r0 3, .inl (cI, 60, .inl f_6)), (r0 4, .inl (cZ, 60, .inl f_7)), (r0 5, .inl (cI, 60, .inl f_8)), (r0 6, .inl (cI, 60, .inl f_9)), (r0 7, .inl (cI, 9, .inl f_13)), (r0 8, .inl (cI, 9, .inl f_15)), (r0 9, .inl (cI, 9, .inl f_16))]]) hP1 hD1
                      have hpm2 : List.Perm (([[(h0, .inr (4, [.int pc0, .ref (r0 0), .ref (r0 1), .ref (r0 2), .ref (r0 3), .ref (r0 4), .ref (r0 5), .ref (r0 6), .int sc_10, .ref (r0 7), .ref (r0 8), .ref (r0 9)])), (r0 0, .inl (cI, 60, .inl f_3)), (r0 1, .inl (cI, 60, .inl f_4)), (r0 2, .inl (cI, 60, .inl f_5)), (r0 3, .inl (cI, 60, .inl f_6)), (r0 4, .inl (cZ, 60, .inl f_7)), (r0 5, .inl (cI, 60, .inl f_8)), (r0 6, .inl (cI, 60, .inl f_9)), (r0 7, .inl (cI, 9, .inl f_13)), (r0 8, .inl (cI, 9, .inl f_15)), (r0 9, .inl (cI, 9, .inl f_16))]] : List va_W) ++ ([] : List va_W)) ([[(h0, .inr (4, [.int pc0, .ref (r0 0), .ref (r0 1), .ref (r0 2), .ref (r0 3), .ref (r0 4), .ref (r0 5), .ref (r0 6), .int sc_10, .ref (r0 7), .ref (r0 8), .ref (r0 9)])), (r0 0, .inl (cI, 60, .inl f_3)), (r0 1, .inl (cI, 60, .inl f_4)), (r0 2, .inl (cI, 60, .inl f_5)), (r0 3, .inl (cI, 60, .inl f_6)), (r0 4, .inl (cZ, 60, .inl f_7)), (r0 5, .inl (cI, 60, .inl f_8)), (r0 6, .inl (cI, 60, .inl f_9)), (r0 7, .inl (cI, 9, .inl f_13)), (r0 8, .inl (cI, 9, .inl f_15)), (r0 9, .inl (cI, 9, .inl f_16))]] : List va_W) := pm_n 1 [0] (by decide) rfl rfl
                      have hP := bk_reP hpm2 hP
                      have hD := bk_reD hpm2 hD
                      have hP : va_P (dC, dI) vwCl (List.flatten [[(h0, .inr (4, [.int pc0, .ref (r0 0), .ref (r0 1), .ref (r0 2), .ref (r0 3), .ref (r0 4), .ref (r0 5), .ref (r0 6), .int sc_10, .ref (r0 7), .ref (r0 8), .ref (r0 9)])), (r0 0, .inl (cI, 60, .inl f_3)), (r0 1, .inl (cI, 60, .inl f_4)), (r0 2, .inl (cI, 60, .inl f_5)), (r0 3, .inl (cI, 60, .inl f_6)), (r0 4, .inl (cZ, 60, .inl f_7)), (r0 5, .inl (cI, 60, .inl f_8)), (r0 6, .inl (cI, 60, .inl f_9)), (r0 7, .inl (cI, 9, .inl f_13)), (r0 8, .inl (cI, 9, .inl f_15)), (r0 9, .inl (cI, 9, .inl f_16))]]) H := hP
                      have hD : va_D A (List.flatten [[(h0, .inr (4, [.int pc0, .ref (r0 0), .ref (r0 1), .ref (r0 2), .ref (r0 3), .ref (r0 4), .ref (r0 5), .ref (r0 6), .int sc_10, .ref (r0 7), .ref (r0 8), .ref (r0 9)])), (r0 0, .inl (cI, 60, .inl f_3)), (r0 1, .inl (cI, 60, .inl f_4)), (r0 2, .inl (cI, 60, .inl f_5)), (r0 3, .inl (cI, 60, .inl f_6)), (r0 4, .inl (cZ, 60, .inl f_7)), (r0 5, .inl (cI, 60, .inl f_8)), (r0 6, .inl (cI, 60, .inl f_9)), (r0 7, .inl (cI, 9, .inl f_13)), (r0 8, .inl (cI, 9, .inl f_15)), (r0 9, .inl (cI, 9, .inl f_16))]]) := hD
                      obtain ⟨hlr_637, hhr_637⟩ := hw
                      refine lv_if_eq (tgt := 136) hx hb dX6_isHollow_121 (by decide) (fun c_638 => ?_) (fun c_638 => ?_)
                      · have c_638 : r_637.toInt = 0 := f_eq rfl tI_0 c_638
                        obtain ⟨z_639, ez_639⟩ : ∃ y : Int32, y = g_30 + 1 := ⟨_, rfl⟩
                        have hz_639 : z_639.toInt = g_30.toInt + 1 := by rw [ez_639]; exact t_add rfl tI_1 (by omega) (by omega)
                        refine lv_iinc (v := z_639) (lv' := [(5, .int z_639), (6, .int 1), (4, .int g_31), (0, .ref h0), (1, .int p1), (2, .int p2), (3, .int p3)]) hx hb dX6_isHollow_136 hl (k := 1) rfl (by rw [ez_639]; rfl) (by decide) rfl (fun ls hl => ?_)
                        refine lv_goto (tgt := 34) hx hb dX6_isHollow_139 (by decide) ?_
                        exact ih_604 z_639 g_31 (by omega) (by omega) (by omega) (by omega) _ _ hP hD hS ls (lv_sub hl [0, 2, 3, 4, 5, 6] rfl)
                      · have c_638 : ¬ r_637.toInt = 0 := f_ne rfl tI_0 c_638
                        refine lv_iload hx hb dX6_isHollow_124 (lv_at hl 2 rfl) ?_
                        refine lv_aload_n hx hb dX6_isHollow_126 rfl (lv_at hl 3 rfl) ?_
                        refine va_get (D := (dC, dI)) (ci := 4) (v := .ref (r0 3)) (C := RX6) (T := TX6) (N := 12) hx hb hts iw_X6_isHollow_X6 hown hK hP 0 rfl rfl 4 (by decide) (hts (.fieldLink RX6 25 "HungFloors$Papers" "hours" "[I") (by decide +kernel)) (fun _ h9 => h9) rfl dX6_isHollow_127 ?_
                        refine lv_iload hx hb dX6_isHollow_130 (lv_at hl 1 rfl) ?_
                        refine va_iald hx hb hK hP 4 1 rfl rfl (v_in rfl (by omega) (by omega)) dX6_isHollow_132 ?_
                        refine lv_topi (fun z_640 ez_640 => ?_)
                        refine lv_isub hx hb dX6_isHollow_133 ?_
                        refine lv_topi (fun z_641 ez_641 => ?_)
                        refine lv_istore (lv' := [(4, .int z_641), (6, .int 1), (5, .int g_30), (0, .ref h0), (1, .int p1), (2, .int p2), (3, .int p3)]) hx hb dX6_isHollow_134 hl (by decide) rfl (fun ls hl => ?_)
                        obtain ⟨z_642, ez_642⟩ : ∃ y : Int32, y = g_30 + 1 := ⟨_, rfl⟩
                        have hz_642 : z_642.toInt = g_30.toInt + 1 := by rw [ez_642]; exact t_add rfl tI_1 (by omega) (by omega)
                        refine lv_iinc (v := z_642) (lv' := [(5, .int z_642), (4, .int z_641), (6, .int 1), (0, .ref h0), (1, .int p1), (2, .int p2), (3, .int p3)]) hx hb dX6_isHollow_136 hl (k := 2) rfl (by rw [ez_642]; rfl) (by decide) rfl (fun ls hl => ?_)
                        refine lv_goto (tgt := 34) hx hb dX6_isHollow_139 (by decide) ?_
                        exact ih_604 z_642 z_641 (by omega) (by omega) (by omega) (by omega) _ _ hP hD hS ls (lv_sub hl [0, 1, 3, 4, 5, 6] rfl)
        exact lp_603 _ 0 p2 (by have := tI_0; omega) (by have := tI_0; omega) (by have := tI_0; omega) (Nat.lt_succ_self _) _ _ hP hD hS ls (lv_sub hl [0, 1, 2, 3, 4, 5] rfl)
      · have c_29 : r_28.toInt = 0 := f_eq rfl tI_0 c_29
        refine lv_iconst (v := 0) hx hb dX6_isHollow_26 (by decide) ?_
        rw [hQ0]
        exact W.zret (v := 0) hx hb hr (by decide) (fun t ht hW => ⟨⟨0, (), rfl, ⟨by decide, by decide⟩, ⟨by rw [ht]; exact hP, hD⟩⟩, hS.F ht⟩) hS.2.2 dX6_isHollow_27
