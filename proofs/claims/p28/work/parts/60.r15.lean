theorem iw_X11_fall_X11 : ∀ w ∈ wsX110, w ∈ wsX11_fall := fun _ h => List.mem_cons_of_mem _ (List.mem_append_right _ h)
set_option maxHeartbeats 4000000 in
set_option maxRecDepth 100000 in
theorem c_X11_fall (l : Launch) (dC : Nat → ClassId) (dI : Nat → Nat → Nat) (ad : Nat → Nat) (tN : Nat) (fN : Nat → Int64) (cB cI cJ cZ : ClassId) (h0 : Nat) (p1 : Int32) (p2 : Int32) (r0 : Nat → Nat) (sz0 : Int32) (fk0 : Int32) (en0 : Int32) (tk0 : Int32) (nm0 : Int64) (bk0 : Int32) (rb0 : Int32) (dw0 : Int32) (rl0 : Int32) (sd0 : Int64) (jm0 : Int32) (bd0 : Int64) (gm0 : Int32) (ti0 : Int32) (w0 : va_W) (fl1 : Nat → Int32) (dr1 : Nat → Int32) (rd1 : Nat → Int32) (rf1 : Nat → Int32) (rh1 : Nat → Int32) (w1 : va_W) (fr2 : Nat → Int32) (ho2 : Nat → Int32) (pe2 : Nat → Int32) (he2 : Nat → Int32) (iz2 : Nat → Int32) (wd2 : Nat → Int64) (dn2 : Nat → Int64) (w2 : va_W) (jr3 : Nat → Int32) (jf3 : Nat → Int32) (fd3 : Nat → Int64) (w3 : va_W) (o0 : ok_mo ad cB cI cJ cZ h0 r0 sz0 fk0 en0 tk0 nm0 bk0 rb0 dw0 rl0 sd0 jm0 bd0 gm0 ti0 w0) (o1 : ok_gH ad cB cI cJ cZ r0 fl1 dr1 rd1 rf1 rh1 w1) (o2 : ok_gL ad cB cI cJ cZ r0 fr2 ho2 pe2 he2 iz2 wd2 dn2 w2) (o3 : ok_gJ ad cB cI cJ cZ r0 jr3 jf3 fd3 w3) (sz : Nat) (hq_hb : HF bk0 fl1 dr1 rd1 rf1) : Met l yX11_fall wsX11_fall ({ frames := 5, cells := 0, slots := 0, locals := 127 } : Room) (va_Pc [.ref h0, .int p1, .int p2] (fun U => U.heap.size = sz ∧ va_P (dC, dI) vwCl (List.flatten [w0, w1, w2, w3]) U.heap ∧ va_K (dC, dI) vwCl [(cB, .byte), (cI, .int), (cJ, .long), (cZ, .boolean)] U ∧ va_D (fun _ => True) (List.flatten [w0, w1, w2, w3]) ∧ ex_Y ad tN fN (va_A (List.flatten [w0, w1, w2, w3]) sz) U)) (va_Qi (fun (r : Int32) (_ : Unit) => True) (fun (_ : Unit) (t : State) => ∃ (dw09 : Int32) (rl09 : Int32) (sd09 : Int64) (jm09 : Int32) (bd09 : Int64) (gm09 : Int32) (w09 : va_W) (fr29 : Nat → Int32) (ho29 : Nat → Int32) (pe29 : Nat → Int32) (he29 : Nat → Int32) (iz29 : Nat → Int32) (wd29 : Nat → Int64) (dn29 : Nat → Int64) (w29 : va_W) (jr39 : Nat → Int32) (jf39 : Nat → Int32) (w39 : va_W), ok_mo ad cB cI cJ cZ h0 r0 sz0 fk0 en0 tk0 nm0 bk0 rb0 dw09 rl09 sd09 jm09 bd09 gm09 ti0 w09 ∧ ok_gL ad cB cI cJ cZ r0 fr29 ho29 pe29 he29 iz29 wd29 dn29 w29 ∧ ok_gJ ad cB cI cJ cZ r0 jr39 jf39 fd3 w39 ∧ va_P (dC, dI) vwCl (List.flatten [w09, w1, w29, w39]) t.heap ∧ va_D (va_A (List.flatten [w0, w1, w2, w3]) sz) (List.flatten [w09, w1, w29, w39])) (va_A (List.flatten [w0, w1, w2, w3]) sz)) 0 0 (va_A (List.flatten [w0, w1, w2, w3]) sz) := by
  refine Met.ofW (cc := cX11_fall) (maxL := 3) (ret := (some .int)) (by decide) rfl ?_
  intro p e s m args below meth c s₁ B hml hv
  obtain ⟨rfl, hsz, hP, hK, hD0, hE⟩ := hv
  have hx := B.exec
  have hb := B.bytes
  have hr := B.returns
  have hts := atoms_spec (ws := wsX11_fall) B.pre
  have hown : s.vm.findClass RX11 = some m.cls := findClass_of_methodNamed B.named
  have hlocks := B.notSynchronized
  subst hsz
  have hD := hD0.self (sz := s.heap.size)
  generalize hAe : va_A (List.flatten [w0, w1, w2, w3]) s.heap.size = A at hD hE ⊢
  have hA : ∀ q : Nat, s.heap.size ≤ q → A q := fun q h => by rw [← hAe]; exact Or.inr h
  have hS : va_S A s.heap s.heap [] := va_S.rf
  have hl := lv_entry ([.ref h0, .int p1, .int p2]) (n := 3) (Nat.le_of_ble_eq_true rfl)
  rw [lg_entry_eq]
  generalize (lg_sl ([.ref h0, .int p1, .int p2]) ++ List.replicate (3 - (lg_sl ([.ref h0, .int p1, .int p2])).length) Slot.unset).toArray = ls at hl ⊢
  have hl : lv_has ls 3 [(0, .ref h0), (1, .int p1), (2, .int p2)] := hl
  clear hAe
  refine W_name (fun Q0 hQ0 => ?_)
  obtain ⟨hx_1, hx_2, hx_3, hx_4, hx_5, hx_6, hx_7, hx_8, hx_9, hx_10, hx_11, hx_12, hx_13, hx_14, hx_15, hx_16, hx_17, hx_18, hx_19, hx_20, hx_21, hx_22⟩ := okx_mo o0
  refine lv_aload_n hx hb dX11_fall_0 rfl (lv_at hl 0 rfl) ?_
  refine lv_iload_n hx hb dX11_fall_1 rfl (lv_at hl 1 rfl) ?_
  obtain ⟨tp_23, fp_30, aq_31, nu_38, mv_43, mg_48, su_49, bu_52, fa_55, pp_56, so_61, rfl, hl_24, hh_25, hl_26, hh_27, hl_28, hh_29, hl_32, hh_33, hl_34, hh_35, hl_36, hh_37, hl_39, hh_40, hl_41, hh_42, hl_44, hh_45, hl_46, hh_47, hl_50, hh_51, hl_53, hh_54, hl_57, hh_58, hl_59, hh_60, hl_62, hh_63⟩ := o0
  have hpm : List.Perm ([[(h0, .inr (9, (.ref (r0 0) :: .ref (r0 1) :: .int tp_23 :: .int sz0 :: .int fk0 :: .int fp_30 :: .int aq_31 :: .int en0 :: .int tk0 :: .int nu_38 :: .long nm0 :: .ref (r0 2) :: .ref (r0 3) :: .ref (r0 4) :: .ref (r0 5) :: .ref (r0 6) :: .ref (r0 7) :: .ref (r0 8) :: .ref (r0 9) :: .ref (r0 10) :: .ref (r0 11) :: .ref (r0 12) :: .ref (r0 13) :: .int bk0 :: .int rb0 :: .ref (r0 14) :: .int mv_43 :: .ref (r0 15) :: .ref (r0 16) :: .ref (r0 17) :: .ref (r0 18) :: .ref (r0 19) :: .ref (r0 20) :: .ref (r0 21) :: .ref (r0 22) :: .ref (r0 23) :: .int dw0 :: .int rl0 :: .int mg_48 :: .long su_49 :: .long sd0 :: .ref (r0 24) :: .ref (r0 25) :: .int jm0 :: .long bu_52 :: .long bd0 :: .ref (r0 26) :: .int gm0 :: .int fa_55 :: .ref (r0 27) :: .ref (r0 28) :: .ref (r0 29) :: .ref (r0 30) :: .ref (r0 31) :: .ref (r0 32) :: .ref (r0 33) :: .ref (r0 34) :: .ref (r0 35) :: .ref (r0 36) :: .ref (r0 37) :: .int pp_56 :: .int ti0 :: .ref (r0 38) :: .ref (r0 39) :: .ref (r0 40) :: .int so_61 :: .ref (r0 41) :: .ref (r0 42) :: .ref (r0 43) :: [])))], w1, w2, w3] : List va_W) (([[(h0, .inr (9, (.ref (r0 0) :: .ref (r0 1) :: .int tp_23 :: .int sz0 :: .int fk0 :: .int fp_30 :: .int aq_31 :: .int en0 :: .int tk0 :: .int nu_38 :: .long nm0 :: .ref (r0 2) :: .ref (r0 3) :: .ref (r0 4) :: .ref (r0 5) :: .ref (r0 6) :: .ref (r0 7) :: .ref (r0 8) :: .ref (r0 9) :: .ref (r0 10) :: .ref (r0 11) :: .ref (r0 12) :: .ref (r0 13) :: .int bk0 :: .int rb0 :: .ref (r0 14) :: .int mv_43 :: .ref (r0 15) :: .ref (r0 16) :: .ref (r0 17) :: .ref (r0 18) :: .ref (r0 19) :: .ref (r0 20) :: .ref (r0 21) :: .ref (r0 22) :: .ref (r0 23) :: .int dw0 :: .int rl0 :: .int mg_48 :: .long su_49 :: .long sd0 :: .ref (r0 24) :: .ref (r0 25) :: .int jm0 :: .long bu_52 :: .long bd0 :: .ref (r0 26) :: .int gm0 :: .int fa_55 :: .ref (r0 27) :: .ref (r0 28) :: .ref (r0 29) :: .ref (r0 30) :: .ref (r0 31) :: .ref (r0 32) :: .ref (r0 33) :: .ref (r0 34) :: .ref (r0 35) :: .ref (r0 36) :: .ref (r0 37) :: .int pp_56 :: .int ti0 :: .ref (r0 38) :: .ref (r0 39) :: .ref (r0 40) :: .int so_61 :: .ref (r0 41) :: .ref (r0 42) :: .ref (r0 43) :: [])))], w1] : List va_W) ++ ([w2, w3] : List va_W)) := pm_n 4 [0, 1, 2, 3] (by decide) rfl rfl
  have hPc := bk_P hpm hP
  have hDc := bk_D hpm hD
  have hFc := bk_F hpm hD hS hA
  refine va_calli (va_runV (As := [.int p1]) (rest := []) ⟨hx, hb, hml, hown, hts⟩ (c_X11_isDrawing l dC dI ad tN fN cB cI cJ cZ h0 p1 r0 sz0 fk0 en0 tk0 nm0 bk0 rb0 dw0 rl0 sd0 jm0 bd0 gm0 ti0 _ fl1 dr1 rd1 rf1 rh1 _ ⟨tp_23, fp_30, aq_31, nu_38, mv_43, mg_48, su_49, bu_52, fa_55, pp_56, so_61, rfl, by omega, by omega, by omega, by omega, by omega, by omega, by omega, by omega, by omega, by omega, by omega, by omega, by omega, by omega, by omega, by omega, by omega, by omega, by omega, by omega, by omega, by omega, by omega, by omega, by omega, by omega, by omega, by omega, by omega, by omega⟩ o1 s.heap.size) (cwV 1 hts gX11_fall_X11_isDrawing rfl rfl rfl (by decide +kernel) ⟨(Nat.le_of_ble_eq_true rfl), (Nat.le_of_ble_eq_true rfl)⟩) ⟨fun a U g mk q => by obtain ⟨q0, q1, qP, qK, qD, qE⟩ := q; exact ⟨q0, q1, qP, va_K.moved (u := U) (U := U.calling g mk a) (Vm.Alike.refl U.vm) qK, qD, ey_blind qE⟩, va_recv hK hPc (ci := 9) (q0 := 0) rfl rfl, fun U hU hW => ⟨rfl, by rw [hU], by rw [hU]; exact hPc, va_K.moved hW.alike hK, hDc.weaken (fun _ _ _ _ => trivial), ey_call hE hS hFc hU hW⟩⟩ rfl rfl hl.1 rfl (lv_room (Nat.le_of_ble_eq_true rfl)) dX11_fall_2 ⟨(Nat.le_of_ble_eq_true rfl), (Nat.le_of_ble_eq_true rfl)⟩) hS (fun q _ h => hFc q h) hFc (fun r_64 u t H locs ht hvm hw hB hz1 hk1 hS => ?_)
  obtain ⟨hP1, hD1⟩ := hB
  rw [ht] at hP1
  obtain ⟨hP, hD⟩ := bk_join hpm hP hD hk1 hFc (Cs1 := [[(h0, .inr (9, (.ref (r0 0) :: .ref (r0 1) :: .int tp_23 :: .int sz0 :: .int fk0 :: .int fp_30 :: .int aq_31 :: .int en0 :: .int tk0 :: .int nu_38 :: .long nm0 :: .ref (r0 2) :: .ref (r0 3) :: .ref (r0 4) :: .ref (r0 5) :: .ref (r0 6) :: .ref (r0 7) :: .ref (r0 8) :: .ref (r0 9) :: .ref (r0 10) :: .ref (r0 11) :: .ref (r0 12) :: .ref (r0 13) :: .int bk0 :: .int rb0 :: .ref (r0 14) :: .int mv_43 :: .ref (r0 15) :: .ref (r0 16) :: .ref (r0 17) :: .ref (r0 18) :: .ref (r0 19) :: .ref (r0 20) :: .ref (r0 21) :: .ref (r0 22) :: .ref (r0 23) :: .int dw0 :: .int rl0 :: .int mg_48 :: .long su_49 :: .long sd0 :: .ref (r0 24) :: .ref (r0 25) :: .int jm0 :: .long bu_52 :: .long bd0 :: .ref (r0 26) :: .int gm0 :: .int fa_55 :: .ref (r0 27) :: .ref (r0 28) :: .ref (r0 29) :: .ref (r0 30) :: .ref (r0 31) :: .ref (r0 32) :: .ref (r0 33) :: .ref (r0 34) :: .ref (r0 35) :: .ref (r0 36) :: .ref (r0 37) :: .int pp_56 :: .int ti0 :: .ref (r0 38) :: .ref (r0 39) :: .ref (r0 40) :: .int so_61 :: .ref (r0 41) :: .ref (r0 42) :: .ref (r0 43) :: [])))], w1]) hP1 hD1
  have hpm2 : List.Perm (([[(h0, .inr (9, (.ref (r0 0) :: .ref (r0 1) :: .int tp_23 :: .int sz0 :: .int fk0 :: .int fp_30 :: .int aq_31 :: .int en0 :: .int tk0 :: .int nu_38 :: .long nm0 :: .ref (r0 2) :: .ref (r0 3) :: .ref (r0 4) :: .ref (r0 5) :: .ref (r0 6) :: .ref (r0 7) :: .ref (r0 8) :: .ref (r0 9) :: .ref (r0 10) :: .ref (r0 11) :: .ref (r0 12) :: .ref (r0 13) :: .int bk0 :: .int rb0 :: .ref (r0 14) :: .int mv_43 :: .ref (r0 15) :: .ref (r0 16) :: .ref (r0 17) :: .ref (r0 18) :: .ref (r0 19) :: .ref (r0 20) :: .ref (r0 21) :: .ref (r0 22) :: .ref (r0 23) :: .int dw0 :: .int rl0 :: .int mg_48 :: .long su_49 :: .long sd0 :: .ref (r0 24) :: .ref (r0 25) :: .int jm0 :: .long bu_52 :: .long bd0 :: .ref (r0 26) :: .int gm0 :: .int fa_55 :: .ref (r0 27) :: .ref (r0 28) :: .ref (r0 29) :: .ref (r0 30) :: .ref (r0 31) :: .ref (r0 32) :: .ref (r0 33) :: .ref (r0 34) :: .ref (r0 35) :: .ref (r0 36) :: .ref (r0 37) :: .int pp_56 :: .int ti0 :: .ref (r0 38) :: .ref (r0 39) :: .ref (r0 40) :: .int so_61 :: .ref (r0 41) :: .ref (r0 42) :: .ref (r0 43) :: [])))], w1] : List va_W) ++ ([w2, w3] : List va_W)) ([[(h0, .inr (9, (.ref (r0 0) :: .ref (r0 1) :: .int tp_23 :: .int sz0 :: .int fk0 :: .int fp_30 :: .int aq_31 :: .int en0 :: .int tk0 :: .int nu_38 :: .long nm0 :: .ref (r0 2) :: .ref (r0 3) :: .ref (r0 4) :: .ref (r0 5) :: .ref (r0 6) :: .ref (r0 7) :: .ref (r0 8) :: .ref (r0 9) :: .ref (r0 10) :: .ref (r0 11) :: .ref (r0 12) :: .ref (r0 13) :: .int bk0 :: .int rb0 :: .ref (r0 14) :: .int mv_43 :: .ref (r0 15) :: .ref (r0 16) :: .ref (r0 17) :: .ref (r0 18) :: .ref (r0 19) :: .ref (r0 20) :: .ref (r0 21) :: .ref (r0 22) :: .ref (r0 23) :: .int dw0 :: .int rl0 :: .int mg_48 :: .long su_49 :: .long sd0 :: .ref (r0 24) :: .ref (r0 25) :: .int jm0 :: .long bu_52 :: .long bd0 :: .ref (r0 26) :: .int gm0 :: .int fa_55 :: .ref (r0 27) :: .ref (r0 28) :: .ref (r0 29) :: .ref (r0 30) :: .ref (r0 31) :: .ref (r0 32) :: .ref (r0 33) :: .ref (r0 34) :: .ref (r0 35) :: .ref (r0 36) :: .ref (r0 37) :: .int pp_56 :: .int ti0 :: .ref (r0 38) :: .ref (r0 39) :: .ref (r0 40) :: .int so_61 :: .ref (r0 41) :: .ref (r0 42) :: .ref (r0 43) :: [])))], w1, w2, w3] : List va_W) := pm_n 4 [0, 1, 2, 3] (by decide) rfl rfl
  have hP := bk_reP hpm2 hP
  have hD := bk_reD hpm2 hD
  have hP : va_P (dC, dI) vwCl (List.flatten [[(h0, .inr (9, (.ref (r0 0) :: .ref (r0 1) :: .int tp_23 :: .int sz0 :: .int fk0 :: .int fp_30 :: .int aq_31 :: .int en0 :: .int tk0 :: .int nu_38 :: .long nm0 :: .ref (r0 2) :: .ref (r0 3) :: .ref (r0 4) :: .ref (r0 5) :: .ref (r0 6) :: .ref (r0 7) :: .ref (r0 8) :: .ref (r0 9) :: .ref (r0 10) :: .ref (r0 11) :: .ref (r0 12) :: .ref (r0 13) :: .int bk0 :: .int rb0 :: .ref (r0 14) :: .int mv_43 :: .ref (r0 15) :: .ref (r0 16) :: .ref (r0 17) :: .ref (r0 18) :: .ref (r0 19) :: .ref (r0 20) :: .ref (r0 21) :: .ref (r0 22) :: .ref (r0 23) :: .int dw0 :: .int rl0 :: .int mg_48 :: .long su_49 :: .long sd0 :: .ref (r0 24) :: .ref (r0 25) :: .int jm0 :: .long bu_52 :: .long bd0 :: .ref (r0 26) :: .int gm0 :: .int fa_55 :: .ref (r0 27) :: .ref (r0 28) :: .ref (r0 29) :: .ref (r0 30) :: .ref (r0 31) :: .ref (r0 32) :: .ref (r0 33) :: .ref (r0 34) :: .ref (r0 35) :: .ref (r0 36) :: .ref (r0 37) :: .int pp_56 :: .int ti0 :: .ref (r0 38) :: .ref (r0 39) :: .ref (r0 40) :: .int so_61 :: .ref (r0 41) :: .ref (r0 42) :: .ref (r0 43) :: [])))], w1, w2, w3]) H := hP
  have hD : va_D A (List.flatten [[(h0, .inr (9, (.ref (r0 0) :: .ref (r0 1) :: .int tp_23 :: .int sz0 :: .int fk0 :: .int fp_30 :: .int aq_31 :: .int en0 :: .int tk0 :: .int nu_38 :: .long nm0 :: .ref (r0 2) :: .ref (r0 3) :: .ref (r0 4) :: .ref (r0 5) :: .ref (r0 6) :: .ref (r0 7) :: .ref (r0 8) :: .ref (r0 9) :: .ref (r0 10) :: .ref (r0 11) :: .ref (r0 12) :: .ref (r0 13) :: .int bk0 :: .int rb0 :: .ref (r0 14) :: .int mv_43 :: .ref (r0 15) :: .ref (r0 16) :: .ref (r0 17) :: .ref (r0 18) :: .ref (r0 19) :: .ref (r0 20) :: .ref (r0 21) :: .ref (r0 22) :: .ref (r0 23) :: .int dw0 :: .int rl0 :: .int mg_48 :: .long su_49 :: .long sd0 :: .ref (r0 24) :: .ref (r0 25) :: .int jm0 :: .long bu_52 :: .long bd0 :: .ref (r0 26) :: .int gm0 :: .int fa_55 :: .ref (r0 27) :: .ref (r0 28) :: .ref (r0 29) :: .ref (r0 30) :: .ref (r0 31) :: .ref (r0 32) :: .ref (r0 33) :: .ref (r0 34) :: .ref (r0 35) :: .ref (r0 36) :: .ref (r0 37) :: .int pp_56 :: .int ti0 :: .ref (r0 38) :: .ref (r0 39) :: .ref (r0 40) :: .int so_61 :: .ref (r0 41) :: .ref (r0 42) :: .ref (r0 43) :: [])))], w1, w2, w3]) := hD
  rcases hw with ⟨rfl, c_65, c_66⟩ | ⟨rfl, c_67, c_68, c_69⟩ | ⟨rfl, c_70, c_71, c_72, c_73, c_74⟩
  · refine lv_if_eq (tgt := 17) hx hb dX11_fall_5 (by decide) (fun c_75 => ?_) (fun c_75 => absurd c_75 (by decide))
    refine lv_iconst (v := (-1)) hx hb dX11_fall_17 (by decide) ?_
    rw [hQ0]
    exact W.iret (v := (-1)) hx hb hr (fun t ht hW => ⟨⟨(-1), (), rfl, trivial, ⟨dw0, rl0, sd0, jm0, bd0, gm0, _, fr2, ho2, pe2, he2, iz2, wd2, dn2, _, jr3, jf3, _, ⟨tp_23, fp_30, aq_31, nu_38, mv_43, mg_48, su_49, bu_52, fa_55, pp_56, so_61, rfl, by omega, by omega, by omega, by omega, by omega, by omega, by omega, by omega, by omega, by omega, by omega, by omega, by omega, by omega, by omega, by omega, by omega, by omega, by omega, by omega, by omega, by omega, by omega, by omega, by omega, by omega, by omega, by omega, by omega, by omega⟩, o2, o3, by rw [ht]; exact hP, hD⟩⟩, hS.F ht⟩) hS.2.2 dX11_fall_18
  · obtain ⟨y_76, fy_76⟩ : ∃ y : Int32, y = ((dr1 (bk0 : Int32).toNatClampNeg) - 1) := ⟨_, rfl⟩
    rw [← fy_76] at c_69
    refine lv_if_eq (tgt := 17) hx hb dX11_fall_5 (by decide) (fun c_77 => ?_) (fun c_77 => absurd c_77 (by decide))
    refine lv_iconst (v := (-1)) hx hb dX11_fall_17 (by decide) ?_
    rw [hQ0]
    exact W.iret (v := (-1)) hx hb hr (fun t ht hW => ⟨⟨(-1), (), rfl, trivial, ⟨dw0, rl0, sd0, jm0, bd0, gm0, _, fr2, ho2, pe2, he2, iz2, wd2, dn2, _, jr3, jf3, _, ⟨tp_23, fp_30, aq_31, nu_38, mv_43, mg_48, su_49, bu_52, fa_55, pp_56, so_61, rfl, by omega, by omega, by omega, by omega, by omega, by omega, by omega, by omega, by omega, by omega, by omega, by omega, by omega, by omega, by omega, by omega, by omega, by omega, by omega, by omega, by omega, by omega, by omega, by omega, by omega, by omega, by omega, by omega, by omega, by omega⟩, o2, o3, by rw [ht]; exact hP, hD⟩⟩, hS.F ht⟩) hS.2.2 dX11_fall_18
  · obtain ⟨y_78, fy_78⟩ : ∃ y : Int32, y = ((dr1 (bk0 : Int32).toNatClampNeg) - 1) := ⟨_, rfl⟩
    rw [← fy_78] at c_74
    refine lv_if_eq (tgt := 17) hx hb dX11_fall_5 (by decide) (fun c_79 => absurd c_79 (by decide)) (fun c_79 => ?_)
    refine lv_iload_n hx hb dX11_fall_8 rfl (lv_at hl 2 rfl) ?_
    refine lv_iconst (v := 0) hx hb dX11_fall_9 (by decide) ?_
    refine lv_iconst (v := 1) hx hb dX11_fall_10 (by decide) ?_
    have hpm : List.Perm ([[(h0, .inr (9, (.ref (r0 0) :: .ref (r0 1) :: .int tp_23 :: .int sz0 :: .int fk0 :: .int fp_30 :: .int aq_31 :: .int en0 :: .int tk0 :: .int nu_38 :: .long nm0 :: .ref (r0 2) :: .ref (r0 3) :: .ref (r0 4) :: .ref (r0 5) :: .ref (r0 6) :: .ref (r0 7) :: .ref (r0 8) :: .ref (r0 9) :: .ref (r0 10) :: .ref (r0 11) :: .ref (r0 12) :: .ref (r0 13) :: .int bk0 :: .int rb0 :: .ref (r0 14) :: .int mv_43 :: .ref (r0 15) :: .ref (r0 16) :: .ref (r0 17) :: .ref (r0 18) :: .ref (r0 19) :: .ref (r0 20) :: .ref (r0 21) :: .ref (r0 22) :: .ref (r0 23) :: .int dw0 :: .int rl0 :: .int mg_48 :: .long su_49 :: .long sd0 :: .ref (r0 24) :: .ref (r0 25) :: .int jm0 :: .long bu_52 :: .long bd0 :: .ref (r0 26) :: .int gm0 :: .int fa_55 :: .ref (r0 27) :: .ref (r0 28) :: .ref (r0 29) :: .ref (r0 30) :: .ref (r0 31) :: .ref (r0 32) :: .ref (r0 33) :: .ref (r0 34) :: .ref (r0 35) :: .ref (r0 36) :: .ref (r0 37) :: .int pp_56 :: .int ti0 :: .ref (r0 38) :: .ref (r0 39) :: .ref (r0 40) :: .int so_61 :: .ref (r0 41) :: .ref (r0 42) :: .ref (r0 43) :: [])))], w1, w2, w3] : List va_W) (([] : List va_W) ++ ([[(h0, .inr (9, (.ref (r0 0) :: .ref (r0 1) :: .int tp_23 :: .int sz0 :: .int fk0 :: .int fp_30 :: .int aq_31 :: .int en0 :: .int tk0 :: .int nu_38 :: .long nm0 :: .ref (r0 2) :: .ref (r0 3) :: .ref (r0 4) :: .ref (r0 5) :: .ref (r0 6) :: .ref (r0 7) :: .ref (r0 8) :: .ref (r0 9) :: .ref (r0 10) :: .ref (r0 11) :: .ref (r0 12) :: .ref (r0 13) :: .int bk0 :: .int rb0 :: .ref (r0 14) :: .int mv_43 :: .ref (r0 15) :: .ref (r0 16) :: .ref (r0 17) :: .ref (r0 18) :: .ref (r0 19) :: .ref (r0 20) :: .ref (r0 21) :: .ref (r0 22) :: .ref (r0 23) :: .int dw0 :: .int rl0 :: .int mg_48 :: .long su_49 :: .long sd0 :: .ref (r0 24) :: .ref (r0 25) :: .int jm0 :: .long bu_52 :: .long bd0 :: .ref (r0 26) :: .int gm0 :: .int fa_55 :: .ref (r0 27) :: .ref (r0 28) :: .ref (r0 29) :: .ref (r0 30) :: .ref (r0 31) :: .ref (r0 32) :: .ref (r0 33) :: .ref (r0 34) :: .ref (r0 35) :: .ref (r0 36) :: .ref (r0 37) :: .int pp_56 :: .int ti0 :: .ref (r0 38) :: .ref (r0 39) :: .ref (r0 40) :: .int so_61 :: .ref (r0 41) :: .ref (r0 42) :: .ref (r0 43) :: [])))], w1, w2, w3] : List va_W)) := pm_n 4 [0, 1, 2, 3] (by decide) rfl rfl
    have hPc := bk_P hpm hP
    have hDc := bk_D hpm hD
    have hFc := bk_F hpm hD hS hA
    refine va_calli (va_runS (As := [.int p2, .int 0, .int 1]) (rest := []) ⟨hx, hb, hml, hown, hts⟩ (c_X11_isIn l dC dI ad tN fN cB cI cJ cZ p2 0 1 H.size) (va_cwS 3 hts gX11_fall_X11_isIn rfl rfl rfl (by decide +kernel) ⟨(Nat.le_of_ble_eq_true rfl), (Nat.le_of_ble_eq_true rfl)⟩) ⟨fun a U g mk q => by obtain ⟨q0, q1, qP, qK, qD, qE⟩ := q; exact ⟨q0, q1, qP, va_K.moved (u := U) (U := U.calling g mk a) (Vm.Alike.refl U.vm) qK, qD, ey_blind qE⟩, fun U hU hW => ⟨rfl, by rw [hU], by rw [hU]; exact hPc, va_K.moved hW.alike hK, hDc.weaken (fun _ _ _ _ => trivial), ey_call hE hS hFc hU hW⟩⟩ rfl rfl hl.1 rfl (lv_room (Nat.le_of_ble_eq_true rfl)) dX11_fall_11 ⟨(Nat.le_of_ble_eq_true rfl), (Nat.le_of_ble_eq_true rfl)⟩) hS (fun q _ h => hFc q h) hFc (fun r_80 u t H locs ht hvm hw hB hz1 hk1 hS => ?_)
    obtain ⟨hP1, hD1⟩ := hB
    rw [ht] at hP1
    obtain ⟨hP, hD⟩ := bk_join hpm hP hD hk1 hFc (Cs1 := []) hP1 hD1
    have hpm2 : List.Perm (([] : List va_W) ++ ([[(h0, .inr (9, (.ref (r0 0) :: .ref (r0 1) :: .int tp_23 :: .int sz0 :: .int fk0 :: .int fp_30 :: .int aq_31 :: .int en0 :: .int tk0 :: .int nu_38 :: .long nm0 :: .ref (r0 2) :: .ref (r0 3) :: .ref (r0 4) :: .ref (r0 5) :: .ref (r0 6) :: .ref (r0 7) :: .ref (r0 8) :: .ref (r0 9) :: .ref (r0 10) :: .ref (r0 11) :: .ref (r0 12) :: .ref (r0 13) :: .int bk0 :: .int rb0 :: .ref (r0 14) :: .int mv_43 :: .ref (r0 15) :: .ref (r0 16) :: .ref (r0 17) :: .ref (r0 18) :: .ref (r0 19) :: .ref (r0 20) :: .ref (r0 21) :: .ref (r0 22) :: .ref (r0 23) :: .int dw0 :: .int rl0 :: .int mg_48 :: .long su_49 :: .long sd0 :: .ref (r0 24) :: .ref (r0 25) :: .int jm0 :: .long bu_52 :: .long bd0 :: .ref (r0 26) :: .int gm0 :: .int fa_55 :: .ref (r0 27) :: .ref (r0 28) :: .ref (r0 29) :: .ref (r0 30) :: .ref (r0 31) :: .ref (r0 32) :: .ref (r0 33) :: .ref (r0 34) :: .ref (r0 35) :: .ref (r0 36) :: .ref (r0 37) :: .int pp_56 :: .int ti0 :: .ref (r0 38) :: .ref (r0 39) :: .ref (r0 40) :: .int so_61 :: .ref (r0 41) :: .ref (r0 42) :: .ref (r0 43) :: [])))], w1, w2, w3] : List va_W)) ([[(h0, .inr (9, (.ref (r0 0) :: .ref (r0 1) :: .int tp_23 :: .int sz0 :: .int fk0 :: .int fp_30 :: .int aq_31 :: .int en0 :: .int tk0 :: .int nu_38 :: .long nm0 :: .ref (r0 2) :: .ref (r0 3) :: .ref (r0 4) :: .ref (r0 5) :: .ref (r0 6) :: .ref (r0 7) :: .ref (r0 8) :: .ref (r0 9) :: .ref (r0 10) :: .ref (r0 11) :: .ref (r0 12) :: .ref (r0 13) :: .int bk0 :: .int rb0 :: .ref (r0 14) :: .int mv_43 :: .ref (r0 15) :: .ref (r0 16) :: .ref (r0 17) :: .ref (r0 18) :: .ref (r0 19) :: .ref (r0 20) :: .ref (r0 21) :: .ref (r0 22) :: .ref (r0 23) :: .int dw0 :: .int rl0 :: .int mg_48 :: .long su_49 :: .long sd0 :: .ref (r0 24) :: .ref (r0 25) :: .int jm0 :: .long bu_52 :: .long bd0 :: .ref (r0 26) :: .int gm0 :: .int fa_55 :: .ref (r0 27) :: .ref (r0 28) :: .ref (r0 29) :: .ref (r0 30) :: .ref (r0 31) :: .ref (r0 32) :: .ref (r0 33) :: .ref (r0 34) :: .ref (r0 35) :: .ref (r0 36) :: .ref (r0 37) :: .int pp_56 :: .int ti0 :: .ref (r0 38) :: .ref (r0 39) :: .ref (r0 40) :: .int so_61 :: .ref (r0 41) :: .ref (r0 42) :: .ref (r0 43) :: [])))], w1, w2, w3] : List va_W) := pm_n 4 [0, 1, 2, 3] (by decide) rfl rfl
    have hP := bk_reP hpm2 hP
    have hD := bk_reD hpm2 hD
    have hP : va_P (dC, dI) vwCl (List.flatten [[(h0, .inr (9, (.ref (r0 0) :: .ref (r0 1) :: .int tp_23 :: .int sz0 :: .int fk0 :: .int fp_30 :: .int aq_31 :: .int en0 :: .int tk0 :: .int nu_38 :: .long nm0 :: .ref (r0 2) :: .ref (r0 3) :: .ref (r0 4) :: .ref (r0 5) :: .ref (r0 6) :: .ref (r0 7) :: .ref (r0 8) :: .ref (r0 9) :: .ref (r0 10) :: .ref (r0 11) :: .ref (r0 12) :: .ref (r0 13) :: .int bk0 :: .int rb0 :: .ref (r0 14) :: .int mv_43 :: .ref (r0 15) :: .ref (r0 16) :: .ref (r0 17) :: .ref (r0 18) :: .ref (r0 19) :: .ref (r0 20) :: .ref (r0 21) :: .ref (r0 22) :: .ref (r0 23) :: .int dw0 :: .int rl0 :: .int mg_48 :: .long su_49 :: .long sd0 :: .ref (r0 24) :: .ref (r0 25) :: .int jm0 :: .long bu_52 :: .long bd0 :: .ref (r0 26) :: .int gm0 :: .int fa_55 :: .ref (r0 27) :: .ref (r0 28) :: .ref (r0 29) :: .ref (r0 30) :: .ref (r0 31) :: .ref (r0 32) :: .ref (r0 33) :: .ref (r0 34) :: .ref (r0 35) :: .ref (r0 36) :: .ref (r0 37) :: .int pp_56 :: .int ti0 :: .ref (r0 38) :: .ref (r0 39) :: .ref (r0 40) :: .int so_61 :: .ref (r0 41) :: .ref (r0 42) :: .ref (r0 43) :: [])))], w1, w2, w3]) H := hP
    have hD : va_D A (List.flatten [[(h0, .inr (9, (.ref (r0 0) :: .ref (r0 1) :: .int tp_23 :: .int sz0 :: .int fk0 :: .int fp_30 :: .int aq_31 :: .int en0 :: .int tk0 :: .int nu_38 :: .long nm0 :: .ref (r0 2) :: .ref (r0 3) :: .ref (r0 4) :: .ref (r0 5) :: .ref (r0 6) :: .ref (r0 7) :: .ref (r0 8) :: .ref (r0 9) :: .ref (r0 10) :: .ref (r0 11) :: .ref (r0 12) :: .ref (r0 13) :: .int bk0 :: .int rb0 :: .ref (r0 14) :: .int mv_43 :: .ref (r0 15) :: .ref (r0 16) :: .ref (r0 17) :: .ref (r0 18) :: .ref (r0 19) :: .ref (r0 20) :: .ref (r0 21) :: .ref (r0 22) :: .ref (r0 23) :: .int dw0 :: .int rl0 :: .int mg_48 :: .long su_49 :: .long sd0 :: .ref (r0 24) :: .ref (r0 25) :: .int jm0 :: .long bu_52 :: .long bd0 :: .ref (r0 26) :: .int gm0 :: .int fa_55 :: .ref (r0 27) :: .ref (r0 28) :: .ref (r0 29) :: .ref (r0 30) :: .ref (r0 31) :: .ref (r0 32) :: .ref (r0 33) :: .ref (r0 34) :: .ref (r0 35) :: .ref (r0 36) :: .ref (r0 37) :: .int pp_56 :: .int ti0 :: .ref (r0 38) :: .ref (r0 39) :: .ref (r0 40) :: .int so_61 :: .ref (r0 41) :: .ref (r0 42) :: .ref (r0 43) :: [])))], w1, w2, w3]) := hD
    rcases hw with ⟨rfl, c_81⟩ | ⟨rfl, c_82, c_83⟩ | ⟨rfl, c_84, c_85⟩
    · have := tI_0
      have := tI_1
      refine lv_if_ne (tgt := 19) hx hb dX11_fall_14 (by decide) (fun c_86 => absurd c_86 (by decide)) (fun c_86 => ?_)
      refine lv_iconst (v := (-1)) hx hb dX11_fall_17 (by decide) ?_
      rw [hQ0]
      exact W.iret (v := (-1)) hx hb hr (fun t ht hW => ⟨⟨(-1), (), rfl, trivial, ⟨dw0, rl0, sd0, jm0, bd0, gm0, _, fr2, ho2, pe2, he2, iz2, wd2, dn2, _, jr3, jf3, _, ⟨tp_23, fp_30, aq_31, nu_38, mv_43, mg_48, su_49, bu_52, fa_55, pp_56, so_61, rfl, by omega, by omega, by omega, by omega, by omega, by omega, by omega, by omega, by omega, by omega, by omega, by omega, by omega, by omega, by omega, by omega, by omega, by omega, by omega, by omega, by omega, by omega, by omega, by omega, by omega, by omega, by omega, by omega, by omega, by omega⟩, o2, o3, by rw [ht]; exact hP, hD⟩⟩, hS.F ht⟩) hS.2.2 dX11_fall_18
    · have := tI_0
      have := tI_1
      refine lv_if_ne (tgt := 19) hx hb dX11_fall_14 (by decide) (fun c_87 => absurd c_87 (by decide)) (fun c_87 => ?_)
      refine lv_iconst (v := (-1)) hx hb dX11_fall_17 (by decide) ?_
      rw [hQ0]
      exact W.iret (v := (-1)) hx hb hr (fun t ht hW => ⟨⟨(-1), (), rfl, trivial, ⟨dw0, rl0, sd0, jm0, bd0, gm0, _, fr2, ho2, pe2, he2, iz2, wd2, dn2, _, jr3, jf3, _, ⟨tp_23, fp_30, aq_31, nu_38, mv_43, mg_48, su_49, bu_52, fa_55, pp_56, so_61, rfl, by omega, by omega, by omega, by omega, by omega, by omega, by omega, by omega, by omega, by omega, by omega, by omega, by omega, by omega, by omega, by omega, by omega, by omega, by omega, by omega, by omega, by omega, by omega, by omega, by omega, by omega, by omega, by omega, by omega, by omega⟩, o2, o3, by rw [ht]; exact hP, hD⟩⟩, hS.F ht⟩) hS.2.2 dX11_fall_18
    · have := tI_0
      have := tI_1
      refine lv_if_ne (tgt := 19) hx hb dX11_fall_14 (by decide) (fun c_88 => ?_) (fun c_88 => absurd c_88 (by decide))
      refine lv_aload_n hx hb dX11_fall_19 rfl (lv_at hl 0 rfl) ?_
      refine lv_iload_n hx hb dX11_fall_20 rfl (lv_at hl 1 rfl) ?_
      have hpm : List.Perm ([[(h0, .inr (9, (.ref (r0 0) :: .ref (r0 1) :: .int tp_23 :: .int sz0 :: .int fk0 :: .int fp_30 :: .int aq_31 :: .int en0 :: .int tk0 :: .int nu_38 :: .long nm0 :: .ref (r0 2) :: .ref (r0 3) :: .ref (r0 4) :: .ref (r0 5) :: .ref (r0 6) :: .ref (r0 7) :: .ref (r0 8) :: .ref (r0 9) :: .ref (r0 10) :: .ref (r0 11) :: .ref (r0 12) :: .ref (r0 13) :: .int bk0 :: .int rb0 :: .ref (r0 14) :: .int mv_43 :: .ref (r0 15) :: .ref (r0 16) :: .ref (r0 17) :: .ref (r0 18) :: .ref (r0 19) :: .ref (r0 20) :: .ref (r0 21) :: .ref (r0 22) :: .ref (r0 23) :: .int dw0 :: .int rl0 :: .int mg_48 :: .long su_49 :: .long sd0 :: .ref (r0 24) :: .ref (r0 25) :: .int jm0 :: .long bu_52 :: .long bd0 :: .ref (r0 26) :: .int gm0 :: .int fa_55 :: .ref (r0 27) :: .ref (r0 28) :: .ref (r0 29) :: .ref (r0 30) :: .ref (r0 31) :: .ref (r0 32) :: .ref (r0 33) :: .ref (r0 34) :: .ref (r0 35) :: .ref (r0 36) :: .ref (r0 37) :: .int pp_56 :: .int ti0 :: .ref (r0 38) :: .ref (r0 39) :: .ref (r0 40) :: .int so_61 :: .ref (r0 41) :: .ref (r0 42) :: .ref (r0 43) :: [])))], w1, w2, w3] : List va_W) (([[(h0, .inr (9, (.ref (r0 0) :: .ref (r0 1) :: .int tp_23 :: .int sz0 :: .int fk0 :: .int fp_30 :: .int aq_31 :: .int en0 :: .int tk0 :: .int nu_38 :: .long nm0 :: .ref (r0 2) :: .ref (r0 3) :: .ref (r0 4) :: .ref (r0 5) :: .ref (r0 6) :: .ref (r0 7) :: .ref (r0 8) :: .ref (r0 9) :: .ref (r0 10) :: .ref (r0 11) :: .ref (r0 12) :: .ref (r0 13) :: .int bk0 :: .int rb0 :: .ref (r0 14) :: .int mv_43 :: .ref (r0 15) :: .ref (r0 16) :: .ref (r0 17) :: .ref (r0 18) :: .ref (r0 19) :: .ref (r0 20) :: .ref (r0 21) :: .ref (r0 22) :: .ref (r0 23) :: .int dw0 :: .int rl0 :: .int mg_48 :: .long su_49 :: .long sd0 :: .ref (r0 24) :: .ref (r0 25) :: .int jm0 :: .long bu_52 :: .long bd0 :: .ref (r0 26) :: .int gm0 :: .int fa_55 :: .ref (r0 27) :: .ref (r0 28) :: .ref (r0 29) :: .ref (r0 30) :: .ref (r0 31) :: .ref (r0 32) :: .ref (r0 33) :: .ref (r0 34) :: .ref (r0 35) :: .ref (r0 36) :: .ref (r0 37) :: .int pp_56 :: .int ti0 :: .ref (r0 38) :: .ref (r0 39) :: .ref (r0 40) :: .int so_61 :: .ref (r0 41) :: .ref (r0 42) :: .ref (r0 43) :: [])))], w1, w2, w3] : List va_W) ++ ([] : List va_W)) := pm_n 4 [0, 1, 2, 3] (by decide) rfl rfl
      have hPc := bk_P hpm hP
      have hDc := bk_D hpm hD
      have hFc := bk_F hpm hD hS hA
      refine va_callv (va_runV (As := [.int p1]) (rest := []) ⟨hx, hb, hml, hown, hts⟩ (c_X11_fallAll l dC dI ad tN fN cB cI cJ cZ h0 p1 r0 sz0 fk0 en0 tk0 nm0 bk0 rb0 dw0 rl0 sd0 jm0 bd0 gm0 ti0 _ fl1 dr1 rd1 rf1 rh1 _ fr2 ho2 pe2 he2 iz2 wd2 dn2 _ jr3 jf3 fd3 _ ⟨tp_23, fp_30, aq_31, nu_38, mv_43, mg_48, su_49, bu_52, fa_55, pp_56, so_61, rfl, by omega, by omega, by omega, by omega, by omega, by omega, by omega, by omega, by omega, by omega, by omega, by omega, by omega, by omega, by omega, by omega, by omega, by omega, by omega, by omega, by omega, by omega, by omega, by omega, by omega, by omega, by omega, by omega, by omega, by omega⟩ o1 o2 o3 H.size (by omega) (by omega) hq_hb c_72) (cwV 1 hts gX11_fall_X11_fallAll rfl rfl rfl (by decide +kernel) ⟨(Nat.le_of_ble_eq_true rfl), (Nat.le_of_ble_eq_true rfl)⟩) ⟨fun a U g mk q => by obtain ⟨q0, q1, qP, qK, qD, qE⟩ := q; exact ⟨q0, q1, qP, va_K.moved (u := U) (U := U.calling g mk a) (Vm.Alike.refl U.vm) qK, qD, ey_blind qE⟩, va_recv hK hPc (ci := 9) (q0 := 0) rfl rfl, fun U hU hW => ⟨rfl, by rw [hU], by rw [hU]; exact hPc, va_K.moved hW.alike hK, hDc.weaken (fun _ _ _ _ => trivial), ey_call hE hS hFc hU hW⟩⟩ rfl rfl hl.1 rfl (lv_room (Nat.le_of_ble_eq_true rfl)) dX11_fall_21 ⟨(Nat.le_of_ble_eq_true rfl), (Nat.le_of_ble_eq_true rfl)⟩) hS (fun q _ h => hFc q h) hFc (fun u t H locs ht hvm hw hB hz1 hk1 hS => ?_)
      obtain ⟨rl_92, sd_93, jm_94, bd_95, gm_96, w_90, fx_99, fx_100, fx_101, fx_102, fx_103, fx_104, fx_105, w_97, fx_108, fx_109, w_106, o_91, o_98, o_107, hP1, hD1⟩ := hB
      rw [ht] at hP1
      obtain ⟨hP, hD⟩ := bk_join hpm hP hD hk1 hFc (Cs1 := [w_90, w1, w_97, w_106]) hP1 hD1
      have hpm2 : List.Perm (([w_90, w1, w_97, w_106] : List va_W) ++ ([] : List va_W)) ([w_90, w1, w_97, w_106] : List va_W) := pm_n 4 [0, 1, 2, 3] (by decide) rfl rfl
      have hP := bk_reP hpm2 hP
      have hD := bk_reD hpm2 hD
      have hP : va_P (dC, dI) vwCl (List.flatten [w_90, w1, w_97, w_106]) H := hP
      have hD : va_D A (List.flatten [w_90, w1, w_97, w_106]) := hD
      obtain ⟨hx_110, hx_111, hx_112, hx_113, hx_114, hx_115, hx_116, hx_117, hx_118, hx_119, hx_120, hx_121, hx_122, hx_123, hx_124, hx_125, hx_126, hx_127, hx_128, hx_129, hx_130, hx_131⟩ := okx_mo o_91
      refine lv_iload_n hx hb dX11_fall_24 rfl (lv_at hl 2 rfl) ?_
      refine lv_if_ne (tgt := 35) hx hb dX11_fall_25 (by decide) (fun c_132 => ?_) (fun c_132 => ?_)
      · have c_132 : ¬ p2.toInt = 0 := f_ne rfl tI_0 c_132
        refine lv_aload_n hx hb dX11_fall_35 rfl (lv_at hl 0 rfl) ?_
        obtain ⟨tp_133, fp_140, aq_141, nu_148, mv_153, mg_158, su_159, bu_162, fa_165, pp_166, so_171, rfl, hl_134, hh_135, hl_136, hh_137, hl_138, hh_139, hl_142, hh_143, hl_144, hh_145, hl_146, hh_147, hl_149, hh_150, hl_151, hh_152, hl_154, hh_155, hl_156, hh_157, hl_160, hh_161, hl_163, hh_164, hl_167, hh_168, hl_169, hh_170, hl_172, hh_173⟩ := o_91
        refine va_get (D := (dC, dI)) (ci := 9) (v := .int gm_96) (C := RX11) (T := TX11) (N := 69) hx hb hts iw_X11_fall_X11 hown hK hP 0 rfl rfl 47 (by decide) (hts (.fieldLink RX11 378 "HungFloorsModel" "goneMany" "I") (by decide +kernel)) (fun _ h9 => h9) rfl dX11_fall_36 ?_
        rw [hQ0]
        exact W.iret (v := gm_96) hx hb hr (fun t ht hW => ⟨⟨gm_96, (), rfl, trivial, ⟨p1, rl_92, sd_93, jm_94, bd_95, gm_96, _, fx_99, fx_100, fx_101, fx_102, fx_103, fx_104, fx_105, _, fx_108, fx_109, _, ⟨tp_133, fp_140, aq_141, nu_148, mv_153, mg_158, su_159, bu_162, fa_165, pp_166, so_171, rfl, by omega, by omega, by omega, by omega, by omega, by omega, by omega, by omega, by omega, by omega, by omega, by omega, by omega, by omega, by omega, by omega, by omega, by omega, by omega, by omega, by omega, by omega, by omega, by omega, by omega, by omega, by omega, by omega, by omega, by omega⟩, o_98, o_107, by rw [ht]; exact hP, hD⟩⟩, hS.F ht⟩) hS.2.2 dX11_fall_39
      · have c_132 : p2.toInt = 0 := f_eq rfl tI_0 c_132
        refine lv_aload_n hx hb dX11_fall_28 rfl (lv_at hl 0 rfl) ?_
        obtain ⟨tp_174, fp_181, aq_182, nu_189, mv_194, mg_199, su_200, bu_203, fa_206, pp_207, so_212, rfl, hl_175, hh_176, hl_177, hh_178, hl_179, hh_180, hl_183, hh_184, hl_185, hh_186, hl_187, hh_188, hl_190, hh_191, hl_192, hh_193, hl_195, hh_196, hl_197, hh_198, hl_201, hh_202, hl_204, hh_205, hl_208, hh_209, hl_210, hh_211, hl_213, hh_214⟩ := o_91
        refine va_get (D := (dC, dI)) (ci := 9) (v := .int fa_206) (C := RX11) (T := TX11) (N := 69) hx hb hts iw_X11_fall_X11 hown hK hP 0 rfl rfl 48 (by decide) (hts (.fieldLink RX11 372 "HungFloorsModel" "fallen" "I") (by decide +kernel)) (fun _ h9 => h9) rfl dX11_fall_29 ?_
        refine lv_goto (tgt := 39) hx hb dX11_fall_32 (by decide) ?_
        rw [hQ0]
        exact W.iret (v := fa_206) hx hb hr (fun t ht hW => ⟨⟨fa_206, (), rfl, trivial, ⟨p1, rl_92, sd_93, jm_94, bd_95, gm_96, _, fx_99, fx_100, fx_101, fx_102, fx_103, fx_104, fx_105, _, fx_108, fx_109, _, ⟨tp_174, fp_181, aq_182, nu_189, mv_194, mg_199, su_200, bu_203, fa_206, pp_207, so_212, rfl, by omega, by omega, by omega, by omega, by omega, by omega, by omega, by omega, by omega, by omega, by omega, by omega, by omega, by omega, by omega, by omega, by omega, by omega, by omega, by omega, by omega, by omega, by omega, by omega, by omega, by omega, by omega, by omega, by omega, by omega⟩, o_98, o_107, by rw [ht]; exact hP, hD⟩⟩, hS.F ht⟩) hS.2.2 dX11_fall_39
theorem iw_X11_fault_X11 : ∀ w ∈ wsX110, w ∈ wsX11_fault := fun _ h => List.mem_cons_of_mem _ (List.mem_append_right _ h)
set_option maxHeartbeats 4000000 in
set_option maxRecDepth 100000 in
theorem c_X11_fault (l : Launch) (dC : Nat → ClassId) (dI : Nat → Nat → Nat) (ad : Nat → Nat) (tN : Nat) (fN : Nat → Int64) (cB cI cJ cZ : ClassId) (h0 : Nat) (p1 : Int32) (r0 : Nat → Nat) (sz0 : Int32) (fk0 : Int32) (en0 : Int32) (tk0 : Int32) (nm0 : Int64) (bk0 : Int32) (rb0 : Int32) (dw0 : Int32) (rl0 : Int32) (sd0 : Int64) (jm0 : Int32) (bd0 : Int64) (gm0 : Int32) (ti0 : Int32) (w0 : va_W) (o0 : ok_mo ad cB cI cJ cZ h0 r0 sz0 fk0 en0 tk0 nm0 bk0 rb0 dw0 rl0 sd0 jm0 bd0 gm0 ti0 w0) (sz : Nat) : Met l yX11_fault wsX11_fault ({ frames := 0, cells := 0, slots := 0, locals := 0 } : Room) (va_Pc [.ref h0, .int p1] (fun U => U.heap.size = sz ∧ va_P (dC, dI) vwCl (List.flatten [w0]) U.heap ∧ va_K (dC, dI) vwCl [(cB, .byte), (cI, .int), (cJ, .long), (cZ, .boolean)] U ∧ va_D (fun _ => True) (List.flatten [w0]) ∧ ex_Y ad tN fN (va_A (List.flatten [w0]) sz) U)) (va_Qi (fun (r : Int32) (_ : Unit) => True) (fun (_ : Unit) (t : State) => va_P (dC, dI) vwCl (List.flatten [w0]) t.heap ∧ va_D (va_A (List.flatten [w0]) sz) (List.flatten [w0])) (va_A (List.flatten [w0]) sz)) 0 0 (va_A (List.flatten [w0]) sz) := by
  refine Met.ofW (cc := cX11_fault) (maxL := 2) (ret := (some .int)) (by decide) rfl ?_
  intro p e s m args below meth c s₁ B hml hv
  obtain ⟨rfl, hsz, hP, hK, hD0, hE⟩ := hv
  have hx := B.exec
  have hb := B.bytes
  have hr := B.returns
  have hts := atoms_spec (ws := wsX11_fault) B.pre
  have hown : s.vm.findClass RX11 = some m.cls := findClass_of_methodNamed B.named
  have hlocks := B.notSynchronized
  subst hsz
  have hD := hD0.self (sz := s.heap.size)
  generalize hAe : va_A (List.flatten [w0]) s.heap.size = A at hD hE ⊢
  have hA : ∀ q : Nat, s.heap.size ≤ q → A q := fun q h => by rw [← hAe]; exact Or.inr h
  have hS : va_S A s.heap s.heap [] := va_S.rf
  have hl := lv_entry ([.ref h0, .int p1]) (n := 2) (Nat.le_of_ble_eq_true rfl)
  rw [lg_entry_eq]
  generalize (lg_sl ([.ref h0, .int p1]) ++ List.replicate (2 - (lg_sl ([.ref h0, .int p1])).length) Slot.unset).toArray = ls at hl ⊢
  have hl : lv_has ls 2 [(0, .ref h0), (1, .int p1)] := hl
  clear hAe
  refine W_name (fun Q0 hQ0 => ?_)
  obtain ⟨hx_1, hx_2, hx_3, hx_4, hx_5, hx_6, hx_7, hx_8, hx_9, hx_10, hx_11, hx_12, hx_13, hx_14, hx_15, hx_16, hx_17, hx_18, hx_19, hx_20, hx_21, hx_22⟩ := okx_mo o0
  refine lv_iload_n hx hb dX11_fault_0 rfl (lv_at hl 1 rfl) ?_
  refine lv_if_ne (tgt := 11) hx hb dX11_fault_1 (by decide) (fun c_23 => ?_) (fun c_23 => ?_)
  · have c_23 : ¬ p1.toInt = 0 := f_ne rfl tI_0 c_23
    refine lv_iload_n hx hb dX11_fault_11 rfl (lv_at hl 1 rfl) ?_
    refine lv_iconst (v := 1) hx hb dX11_fault_12 (by decide) ?_
    refine lv_icmp_ne (tgt := 23) hx hb dX11_fault_13 (by decide) (fun c_24 => ?_) (fun c_24 => ?_)
    · have c_24 : ¬ p1.toInt = 1 := f_ne rfl tI_1 c_24
      refine lv_iconst (v := (-1)) hx hb dX11_fault_23 (by decide) ?_
      rw [hQ0]
      exact W.iret (v := (-1)) hx hb hr (fun t ht hW => ⟨⟨(-1), (), rfl, trivial, ⟨by rw [ht]; exact hP, hD⟩⟩, hS.F ht⟩) hS.2.2 dX11_fault_24
    · have c_24 : p1.toInt = 1 := f_eq rfl tI_1 c_24
      refine lv_aload_n hx hb dX11_fault_16 rfl (lv_at hl 0 rfl) ?_
      obtain ⟨tp_25, fp_32, aq_33, nu_40, mv_45, mg_50, su_51, bu_54, fa_57, pp_58, so_63, rfl, hl_26, hh_27, hl_28, hh_29, hl_30, hh_31, hl_34, hh_35, hl_36, hh_37, hl_38, hh_39, hl_41, hh_42, hl_43, hh_44, hl_46, hh_47, hl_48, hh_49, hl_52, hh_53, hl_55, hh_56, hl_59, hh_60, hl_61, hh_62, hl_64, hh_65⟩ := o0
      refine va_get (D := (dC, dI)) (ci := 9) (v := .int fp_32) (C := RX11) (T := TX11) (N := 69) hx hb hts iw_X11_fault_X11 hown hK hP 0 rfl rfl 5 (by decide) (hts (.fieldLink RX11 16 "HungFloorsModel" "faultPlace" "I") (by decide +kernel)) (fun _ h9 => h9) rfl dX11_fault_17 ?_
      refine lv_goto (tgt := 24) hx hb dX11_fault_20 (by decide) ?_
      rw [hQ0]
      exact W.iret (v := fp_32) hx hb hr (fun t ht hW => ⟨⟨fp_32, (), rfl, trivial, ⟨by rw [ht]; exact hP, hD⟩⟩, hS.F ht⟩) hS.2.2 dX11_fault_24
  · have c_23 : p1.toInt = 0 := f_eq rfl tI_0 c_23
    refine lv_aload_n hx hb dX11_fault_4 rfl (lv_at hl 0 rfl) ?_
    obtain ⟨tp_66, fp_73, aq_74, nu_81, mv_86, mg_91, su_92, bu_95, fa_98, pp_99, so_104, rfl, hl_67, hh_68, hl_69, hh_70, hl_71, hh_72, hl_75, hh_76, hl_77, hh_78, hl_79, hh_80, hl_82, hh_83, hl_84, hh_85, hl_87, hh_88, hl_89, hh_90, hl_93, hh_94, hl_96, hh_97, hl_100, hh_101, hl_102, hh_103, hl_105, hh_106⟩ := o0
    refine va_get (D := (dC, dI)) (ci := 9) (v := .int fk0) (C := RX11) (T := TX11) (N := 69) hx hb hts iw_X11_fault_X11 hown hK hP 0 rfl rfl 4 (by decide) (hts (.fieldLink RX11 152 "HungFloorsModel" "faultKind" "I") (by decide +kernel)) (fun _ h9 => h9) rfl dX11_fault_5 ?_
    refine lv_goto (tgt := 24) hx hb dX11_fault_8 (by decide) ?_
    rw [hQ0]
    exact W.iret (v := fk0) hx hb hr (fun t ht hW => ⟨⟨fk0, (), rfl, trivial, ⟨by rw [ht]; exact hP, hD⟩⟩, hS.F ht⟩) hS.2.2 dX11_fault_24
def ok_gU (ad : Nat → Nat) (cB cI cJ cZ : ClassId) (r : Nat → Nat) (tq : Nat → Int32) (w : va_W) : Prop := ∃ (f0 : Nat → Int32), w = [(r 0, .inl (cB, 1620, .inl f0)), (r 1, .inl (cB, 1600, .inl tq))]
theorem sg_eq {t : Nat → Int32} {a b x y : Int32} (h1 : x = (t a.toNatClampNeg) &&& 255) (h2 : y = (t b.toNatClampNeg) &&& 255) (h : a.toInt = b.toInt) : x = y := by
  rw [h1, h2, x_eq.mpr h]
theorem iw_X11_feed_X11 : ∀ w ∈ wsX110, w ∈ wsX11_feed := fun _ h => List.mem_cons_of_mem _ (List.mem_append_right _ h)
set_option maxHeartbeats 4000000 in
set_option maxRecDepth 100000 in
theorem c_X11_feed (l : Launch) (dC : Nat → ClassId) (dI : Nat → Nat → Nat) (ad : Nat → Nat) (tN : Nat) (fN : Nat → Int64) (cB cI cJ cZ : ClassId) (h0 : Nat) (p1 : Int32) (p2 : Int32) (p3 : Int32) (p4 : Int32) (p5 : Int32) (r0 : Nat → Nat) (sz0 : Int32) (fk0 : Int32) (en0 : Int32) (tk0 : Int32) (nm0 : Int64) (bk0 : Int32) (rb0 : Int32) (dw0 : Int32) (rl0 : Int32) (sd0 : Int64) (jm0 : Int32) (bd0 : Int64) (gm0 : Int32) (ti0 : Int32) (w0 : va_W) (tq1 : Nat → Int32) (w1 : va_W) (o0 : ok_mo ad cB cI cJ cZ h0 r0 sz0 fk0 en0 tk0 nm0 bk0 rb0 dw0 rl0 sd0 jm0 bd0 gm0 ti0 w0) (o1 : ok_gU ad cB cI cJ cZ r0 tq1 w1) (sz : Nat) : Met l yX11_feed wsX11_feed ({ frames := 0, cells := 0, slots := 0, locals := 0 } : Room) (va_Pc [.ref h0, .int p1, .int p2, .int p3, .int p4, .int p5] (fun U => U.heap.size = sz ∧ va_P (dC, dI) vwCl (List.flatten [w0, w1]) U.heap ∧ va_K (dC, dI) vwCl [(cB, .byte), (cI, .int), (cJ, .long), (cZ, .boolean)] U ∧ va_D (fun _ => True) (List.flatten [w0, w1]) ∧ ex_Y ad tN fN (va_A (List.flatten [w0, w1]) sz) U)) (va_Qi (fun (r : Int32) (_ : Unit) => -1 ≤ r.toInt ∧ r.toInt ≤ 1600) (fun (_ : Unit) (t : State) => ∃ (w09 : va_W) (w19 : va_W), ok_mo ad cB cI cJ cZ h0 r0 sz0 fk0 en0 tk0 nm0 bk0 rb0 dw0 rl0 sd0 jm0 bd0 gm0 ti0 w09 ∧ ok_gU ad cB cI cJ cZ r0 tq1 w19 ∧ va_P (dC, dI) vwCl (List.flatten [w09, w19]) t.heap ∧ va_D (va_A (List.flatten [w0, w1]) sz) (List.flatten [w09, w19])) (va_A (List.flatten [w0, w1]) sz)) 0 0 (va_A (List.flatten [w0, w1]) sz) := by
  refine Met.ofW (cc := cX11_feed) (maxL := 8) (ret := (some .int)) (by decide) rfl ?_
  intro p e s m args below meth c s₁ B hml hv
  obtain ⟨rfl, hsz, hP, hK, hD0, hE⟩ := hv
  have hx := B.exec
  have hb := B.bytes
  have hr := B.returns
  have hts := atoms_spec (ws := wsX11_feed) B.pre
  have hown : s.vm.findClass RX11 = some m.cls := findClass_of_methodNamed B.named
  have hlocks := B.notSynchronized
  subst hsz
  have hD := hD0.self (sz := s.heap.size)
  generalize hAe : va_A (List.flatten [w0, w1]) s.heap.size = A at hD hE ⊢
  have hA : ∀ q : Nat, s.heap.size ≤ q → A q := fun q h => by rw [← hAe]; exact Or.inr h
  have hS : va_S A s.heap s.heap [] := va_S.rf
  have hl := lv_entry ([.ref h0, .int p1, .int p2, .int p3, .int p4, .int p5]) (n := 8) (Nat.le_of_ble_eq_true rfl)
  rw [lg_entry_eq]
  generalize (lg_sl ([.ref h0, .int p1, .int p2, .int p3, .int p4, .int p5]) ++ List.replicate (8 - (lg_sl ([.ref h0, .int p1, .int p2, .int p3, .int p4, .int p5])).length) Slot.unset).toArray = ls at hl ⊢
  have hl : lv_has ls 8 [(0, .ref h0), (1, .int p1), (2, .int p2), (3, .int p3), (4, .int p4), (5, .int p5)] := hl
  clear hAe
  refine W_name (fun Q0 hQ0 => ?_)
  obtain ⟨hx_1, hx_2, hx_3, hx_4, hx_5, hx_6, hx_7, hx_8, hx_9, hx_10, hx_11, hx_12, hx_13, hx_14, hx_15, hx_16, hx_17, hx_18, hx_19, hx_20, hx_21, hx_22⟩ := okx_mo o0
  refine lv_aload_n hx hb dX11_feed_0 rfl (lv_at hl 0 rfl) ?_
  obtain ⟨tp_23, fp_30, aq_31, nu_38, mv_43, mg_48, su_49, bu_52, fa_55, pp_56, so_61, rfl, hl_24, hh_25, hl_26, hh_27, hl_28, hh_29, hl_32, hh_33, hl_34, hh_35, hl_36, hh_37, hl_39, hh_40, hl_41, hh_42, hl_44, hh_45, hl_46, hh_47, hl_50, hh_51, hl_53, hh_54, hl_57, hh_58, hl_59, hh_60, hl_62, hh_63⟩ := o0
  refine va_get (D := (dC, dI)) (ci := 9) (v := .int tp_23) (C := RX11) (T := TX11) (N := 69) hx hb hts iw_X11_feed_X11 hown hK hP 0 rfl rfl 2 (by decide) (hts (.fieldLink RX11 218 "HungFloorsModel" "taped" "I") (by decide +kernel)) (fun _ h9 => h9) rfl dX11_feed_1 ?_
  refine lv_bipush (v := 20) hx hb dX11_feed_4 (by decide) ?_
  refine lv_iadd hx hb dX11_feed_6 ?_
  refine lv_topi (fun z_64 ez_64 => ?_)
  have hz_64 : z_64.toInt = tp_23.toInt + 20 := by rw [ez_64]; exact t_add rfl tI_20 (by omega) (by omega)
  refine lv_sipush (v := 1600) hx hb dX11_feed_7 (by decide) ?_
  refine lv_icmp_le (tgt := 15) hx hb dX11_feed_10 (by decide) (fun c_65 => ?_) (fun c_65 => ?_)
  · have c_65 : z_64.toInt ≤ 1600 := f_le rfl tI_1600 c_65
    refine lv_iconst (v := 0) hx hb dX11_feed_15 (by decide) ?_
    refine lv_istore (lv' := [(6, .int 0), (0, .ref h0), (1, .int p1), (2, .int p2), (3, .int p3), (4, .int p4), (5, .int p5)]) hx hb dX11_feed_16 hl (by decide) rfl (fun ls hl => ?_)
    obtain ⟨f_78, rfl⟩ := o1
    have lp_366 : ∀ (n : Nat) (g_66 : Int32) (gf_89 : Nat → Int32), 0 ≤ g_66.toInt → g_66.toInt ≤ 70 → (70 - g_66.toInt).toNat < n → ∀ (H : Heap) (locs : List Loc), va_P (dC, dI) vwCl (List.flatten [[(h0, .inr (9, (.ref (r0 0) :: .ref (r0 1) :: .int tp_23 :: .int sz0 :: .int fk0 :: .int fp_30 :: .int aq_31 :: .int en0 :: .int tk0 :: .int nu_38 :: .long nm0 :: .ref (r0 2) :: .ref (r0 3) :: .ref (r0 4) :: .ref (r0 5) :: .ref (r0 6) :: .ref (r0 7) :: .ref (r0 8) :: .ref (r0 9) :: .ref (r0 10) :: .ref (r0 11) :: .ref (r0 12) :: .ref (r0 13) :: .int bk0 :: .int rb0 :: .ref (r0 14) :: .int mv_43 :: .ref (r0 15) :: .ref (r0 16) :: .ref (r0 17) :: .ref (r0 18) :: .ref (r0 19) :: .ref (r0 20) :: .ref (r0 21) :: .ref (r0 22) :: .ref (r0 23) :: .int dw0 :: .int rl0 :: .int mg_48 :: .long su_49 :: .long sd0 :: .ref (r0 24) :: .ref (r0 25) :: .int jm0 :: .long bu_52 :: .long bd0 :: .ref (r0 26) :: .int gm0 :: .int fa_55 :: .ref (r0 27) :: .ref (r0 28) :: .ref (r0 29) :: .ref (r0 30) :: .ref (r0 31) :: .ref (r0 32) :: .ref (r0 33) :: .ref (r0 34) :: .ref (r0 35) :: .ref (r0 36) :: .ref (r0 37) :: .int pp_56 :: .int ti0 :: .ref (r0 38) :: .ref (r0 39) :: .ref (r0 40) :: .int so_61 :: .ref (r0 41) :: .ref (r0 42) :: .ref (r0 43) :: [])))], [(r0 0, .inl (cB, 1620, .inl gf_89)), (r0 1, .inl (cB, 1600, .inl tq1))]]) H → va_D A (List.flatten [[(h0, .inr (9, (.ref (r0 0) :: .ref (r0 1) :: .int tp_23 :: .int sz0 :: .int fk0 :: .int fp_30 :: .int aq_31 :: .int en0 :: .int tk0 :: .int nu_38 :: .long nm0 :: .ref (r0 2) :: .ref (r0 3) :: .ref (r0 4) :: .ref (r0 5) :: .ref (r0 6) :: .ref (r0 7) :: .ref (r0 8) :: .ref (r0 9) :: .ref (r0 10) :: .ref (r0 11) :: .ref (r0 12) :: .ref (r0 13) :: .int bk0 :: .int rb0 :: .ref (r0 14) :: .int mv_43 :: .ref (r0 15) :: .ref (r0 16) :: .ref (r0 17) :: .ref (r0 18) :: .ref (r0 19) :: .ref (r0 20) :: .ref (r0 21) :: .ref (r0 22) :: .ref (r0 23) :: .int dw0 :: .int rl0 :: .int mg_48 :: .long su_49 :: .long sd0 :: .ref (r0 24) :: .ref (r0 25) :: .int jm0 :: .long bu_52 :: .long bd0 :: .ref (r0 26) :: .int gm0 :: .int fa_55 :: .ref (r0 27) :: .ref (r0 28) :: .ref (r0 29) :: .ref (r0 30) :: .ref (r0 31) :: .ref (r0 32) :: .ref (r0 33) :: .ref (r0 34) :: .ref (r0 35) :: .ref (r0 36) :: .ref (r0 37) :: .int pp_56 :: .int ti0 :: .ref (r0 38) :: .ref (r0 39) :: .ref (r0 40) :: .int so_61 :: .ref (r0 41) :: .ref (r0 42) :: .ref (r0 43) :: [])))], [(r0 0, .inl (cB, 1620, .inl gf_89)), (r0 1, .inl (cB, 1600, .inl tq1))]]) → va_S A s.heap H locs → ∀ (ls : Array Slot), lv_has ls 8 [(6, .int g_66), (0, .ref h0), (1, .int p1), (2, .int p2), (3, .int p3), (4, .int p4), (5, .int p5)] → W p l e (headSpec wsX11_feed ({ frames := 0, cells := 0, slots := 0, locals := 0 } : Room)).room s m ([.ref h0, .int p1, .int p2, .int p3, .int p4, .int p5] : List Value).toArray below meth c H locs 0 0 Q0 (F0 m 18 ls []) := by
      intro n
      induction n with
      | zero => intro g_66 gf_89 iv_364 iv_365 hm; exact absurd hm (Nat.not_lt_zero _)
      | succ n ih_367 =>
        intro g_66 gf_89 iv_364 iv_365 hm H locs hP hD hS ls hl
        refine lv_iload hx hb dX11_feed_18 (lv_at hl 0 rfl) ?_
        refine lv_bipush (v := 20) hx hb dX11_feed_20 (by decide) ?_
        refine lv_icmp_ge (tgt := 105) hx hb dX11_feed_22 (by decide) (fun c_368 => ?_) (fun c_368 => ?_)
        · have c_368 : 20 ≤ g_66.toInt := f_le tI_20 rfl c_368
          refine lv_aload_n hx hb dX11_feed_105 rfl (lv_at hl 1 rfl) ?_
          refine lv_dup hx hb dX11_feed_106 rfl ?_
          refine va_get (D := (dC, dI)) (ci := 9) (v := .int tp_23) (C := RX11) (T := TX11) (N := 69) hx hb hts iw_X11_feed_X11 hown hK hP 0 rfl rfl 2 (by decide) (hts (.fieldLink RX11 218 "HungFloorsModel" "taped" "I") (by decide +kernel)) (fun _ h9 => h9) rfl dX11_feed_107 ?_
          refine lv_bipush (v := 20) hx hb dX11_feed_110 (by decide) ?_
          refine lv_iadd hx hb dX11_feed_112 ?_
          refine lv_topi (fun z_369 ez_369 => ?_)
          have hz_369 : z_369.toInt = tp_23.toInt + 20 := by rw [ez_369]; exact t_add rfl tI_20 (by omega) (by omega)
          refine va_put (D := (dC, dI)) (ci := 9) (v := .int z_369) (ty := .int) (C := RX11) (T := TX11) (N := 69) hx hb hts iw_X11_feed_X11 tyX11 tyX11_ok nmX11 hown hK hP hD hS 0 rfl rfl 2 (by decide) (hts (.fieldLink RX11 218 "HungFloorsModel" "taped" "I") (by decide +kernel)) (fun _ h9 => h9) rfl (by decide +kernel) rfl rfl (Nat.le_of_ble_eq_true rfl) dX11_feed_113 (fun H locs hP hD hS => ?_)
          have hP : va_P (dC, dI) vwCl (List.flatten [[(h0, .inr (9, (.ref (r0 0) :: .ref (r0 1) :: .int z_369 :: .int sz0 :: .int fk0 :: .int fp_30 :: .int aq_31 :: .int en0 :: .int tk0 :: .int nu_38 :: .long nm0 :: .ref (r0 2) :: .ref (r0 3) :: .ref (r0 4) :: .ref (r0 5) :: .ref (r0 6) :: .ref (r0 7) :: .ref (r0 8) :: .ref (r0 9) :: .ref (r0 10) :: .ref (r0 11) :: .ref (r0 12) :: .ref (r0 13) :: .int bk0 :: .int rb0 :: .ref (r0 14) :: .int mv_43 :: .ref (r0 15) :: .ref (r0 16) :: .ref (r0 17) :: .ref (r0 18) :: .ref (r0 19) :: .ref (r0 20) :: .ref (r0 21) :: .ref (r0 22) :: .ref (r0 23) :: .int dw0 :: .int rl0 :: .int mg_48 :: .long su_49 :: .long sd0 :: .ref (r0 24) :: .ref (r0 25) :: .int jm0 :: .long bu_52 :: .long bd0 :: .ref (r0 26) :: .int gm0 :: .int fa_55 :: .ref (r0 27) :: .ref (r0 28) :: .ref (r0 29) :: .ref (r0 30) :: .ref (r0 31) :: .ref (r0 32) :: .ref (r0 33) :: .ref (r0 34) :: .ref (r0 35) :: .ref (r0 36) :: .ref (r0 37) :: .int pp_56 :: .int ti0 :: .ref (r0 38) :: .ref (r0 39) :: .ref (r0 40) :: .int so_61 :: .ref (r0 41) :: .ref (r0 42) :: .ref (r0 43) :: [])))], [(r0 0, .inl (cB, 1620, .inl gf_89)), (r0 1, .inl (cB, 1600, .inl tq1))]]) H := hP
          have hD : va_D A (List.flatten [[(h0, .inr (9, (.ref (r0 0) :: .ref (r0 1) :: .int z_369 :: .int sz0 :: .int fk0 :: .int fp_30 :: .int aq_31 :: .int en0 :: .int tk0 :: .int nu_38 :: .long nm0 :: .ref (r0 2) :: .ref (r0 3) :: .ref (r0 4) :: .ref (r0 5) :: .ref (r0 6) :: .ref (r0 7) :: .ref (r0 8) :: .ref (r0 9) :: .ref (r0 10) :: .ref (r0 11) :: .ref (r0 12) :: .ref (r0 13) :: .int bk0 :: .int rb0 :: .ref (r0 14) :: .int mv_43 :: .ref (r0 15) :: .ref (r0 16) :: .ref (r0 17) :: .ref (r0 18) :: .ref (r0 19) :: .ref (r0 20) :: .ref (r0 21) :: .ref (r0 22) :: .ref (r0 23) :: .int dw0 :: .int rl0 :: .int mg_48 :: .long su_49 :: .long sd0 :: .ref (r0 24) :: .ref (r0 25) :: .int jm0 :: .long bu_52 :: .long bd0 :: .ref (r0 26) :: .int gm0 :: .int fa_55 :: .ref (r0 27) :: .ref (r0 28) :: .ref (r0 29) :: .ref (r0 30) :: .ref (r0 31) :: .ref (r0 32) :: .ref (r0 33) :: .ref (r0 34) :: .ref (r0 35) :: .ref (r0 36) :: .ref (r0 37) :: .int pp_56 :: .int ti0 :: .ref (r0 38) :: .ref (r0 39) :: .ref (r0 40) :: .int so_61 :: .ref (r0 41) :: .ref (r0 42) :: .ref (r0 43) :: [])))], [(r0 0, .inl (cB, 1620, .inl gf_89)), (r0 1, .inl (cB, 1600, .inl tq1))]]) := hD
          refine lv_aload_n hx hb dX11_feed_116 rfl (lv_at hl 1 rfl) ?_
          refine va_get (D := (dC, dI)) (ci := 9) (v := .int z_369) (C := RX11) (T := TX11) (N := 69) hx hb hts iw_X11_feed_X11 hown hK hP 0 rfl rfl 2 (by decide) (hts (.fieldLink RX11 218 "HungFloorsModel" "taped" "I") (by decide +kernel)) (fun _ h9 => h9) rfl dX11_feed_117 ?_
          rw [hQ0]
          exact W.iret (v := z_369) hx hb hr (fun t ht hW => ⟨⟨z_369, (), rfl, ⟨by omega, by omega⟩, ⟨_, _, ⟨z_369, fp_30, aq_31, nu_38, mv_43, mg_48, su_49, bu_52, fa_55, pp_56, so_61, rfl, by omega, by omega, by omega, by omega, by omega, by omega, by omega, by omega, by omega, by omega, by omega, by omega, by omega, by omega, by omega, by omega, by omega, by omega, by omega, by omega, by omega, by omega, by omega, by omega, by omega, by omega, by omega, by omega, by omega, by omega⟩, ⟨gf_89, rfl⟩, by rw [ht]; exact hP, hD⟩⟩, hS.F ht⟩) hS.2.2 dX11_feed_120
        · have c_368 : g_66.toInt < 20 := f_nle tI_20 rfl c_368
          refine lv_iload hx hb dX11_feed_25 (lv_at hl 0 rfl) ?_
          refine lv_iconst (v := 4) hx hb dX11_feed_27 (by decide) ?_
          refine lv_icmp_ge (tgt := 35) hx hb dX11_feed_28 (by decide) (fun c_370 => ?_) (fun c_370 => ?_)
          · have c_370 : 4 ≤ g_66.toInt := f_le tI_4 rfl c_370
            refine lv_iload hx hb dX11_feed_35 (lv_at hl 0 rfl) ?_
            refine lv_bipush (v := 8) hx hb dX11_feed_37 (by decide) ?_
            refine lv_icmp_ge (tgt := 46) hx hb dX11_feed_39 (by decide) (fun c_371 => ?_) (fun c_371 => ?_)
            · have c_371 : 8 ≤ g_66.toInt := f_le tI_8 rfl c_371
              refine lv_iload hx hb dX11_feed_46 (lv_at hl 0 rfl) ?_
              refine lv_bipush (v := 12) hx hb dX11_feed_48 (by decide) ?_
              refine lv_icmp_ge (tgt := 57) hx hb dX11_feed_50 (by decide) (fun c_372 => ?_) (fun c_372 => ?_)
              · have c_372 : 12 ≤ g_66.toInt := f_le tI_12 rfl c_372
                refine lv_iload hx hb dX11_feed_57 (lv_at hl 0 rfl) ?_
                refine lv_bipush (v := 16) hx hb dX11_feed_59 (by decide) ?_
                refine lv_icmp_ge (tgt := 69) hx hb dX11_feed_61 (by decide) (fun c_373 => ?_) (fun c_373 => ?_)
                · have c_373 : 16 ≤ g_66.toInt := f_le tI_16 rfl c_373
                  refine lv_iload hx hb dX11_feed_69 (lv_at hl 6 rfl) ?_
                  refine lv_istore (lv' := [(7, .int p5), (6, .int g_66), (0, .ref h0), (1, .int p1), (2, .int p2), (3, .int p3), (4, .int p4), (5, .int p5)]) hx hb dX11_feed_71 hl (by decide) rfl (fun ls hl => ?_)
                  refine lv_aload_n hx hb dX11_feed_73 rfl (lv_at hl 2 rfl) ?_
                  refine va_get (D := (dC, dI)) (ci := 9) (v := .ref (r0 0)) (C := RX11) (T := TX11) (N := 69) hx hb hts iw_X11_feed_X11 hown hK hP 0 rfl rfl 0 (by decide) (hts (.fieldLink RX11 7 "HungFloorsModel" "tape" "[B") (by decide +kernel)) (fun _ h9 => h9) rfl dX11_feed_74 ?_
                  refine lv_aload_n hx hb dX11_feed_77 rfl (lv_at hl 2 rfl) ?_
                  refine va_get (D := (dC, dI)) (ci := 9) (v := .int tp_23) (C := RX11) (T := TX11) (N := 69) hx hb hts iw_X11_feed_X11 hown hK hP 0 rfl rfl 2 (by decide) (hts (.fieldLink RX11 218 "HungFloorsModel" "taped" "I") (by decide +kernel)) (fun _ h9 => h9) rfl dX11_feed_78 ?_
                  refine lv_iload hx hb dX11_feed_81 (lv_at hl 1 rfl) ?_
                  refine lv_iadd hx hb dX11_feed_83 ?_
                  refine lv_topi (fun z_374 ez_374 => ?_)
                  have hz_374 : z_374.toInt = tp_23.toInt + g_66.toInt := by rw [ez_374]; exact t_add rfl rfl (by omega) (by omega)
                  refine lv_iload hx hb dX11_feed_84 (lv_at hl 0 rfl) ?_
                  refine lv_bipush (v := 24) hx hb dX11_feed_86 (by decide) ?_
                  refine lv_bipush (v := 8) hx hb dX11_feed_88 (by decide) ?_
                  refine lv_iload hx hb dX11_feed_90 (lv_at hl 1 rfl) ?_
                  refine lv_iconst (v := 3) hx hb dX11_feed_92 (by decide) ?_
                  refine lv_iand hx hb dX11_feed_93 ?_
                  refine lv_topi (fun z_375 ez_375 => ?_)
                  have hz_375 := t_andc tI_3 (by decide) ez_375
                  have h1z_375 := hz_375.1
                  have h2z_375 := hz_375.2
                  refine lv_imul hx hb dX11_feed_94 ?_
                  refine lv_topi (fun z_376 ez_376 => ?_)
                  have hz_376 : z_376.toInt = 8 * z_375.toInt := by rw [ez_376]; exact t_mul tI_8 rfl (by omega) (by omega)
                  refine lv_isub hx hb dX11_feed_95 ?_
                  refine lv_topi (fun z_377 ez_377 => ?_)
                  have hz_377 : z_377.toInt = 24 - z_376.toInt := by rw [ez_377]; exact t_sub tI_24 rfl (by omega) (by omega)
                  refine lv_ishr hx hb dX11_feed_96 ?_
                  refine lv_topi (fun z_378 ez_378 => ?_)
                  obtain ⟨z_379, ez_379⟩ : ∃ y : Int32, (z_378 : Int32).toInt8.toInt32 = y := ⟨_, rfl⟩
                  refine lv_i2b (v := z_379) hx hb dX11_feed_97 ez_379 ?_
                  refine va_bast hx hb hK hP hD hS 1 0 rfl rfl (v_in rfl (by omega) (by omega)) dX11_feed_98 (fun H locs hP hD hS => ?_)
                  obtain ⟨f_380, hP, hD⟩ : ∃ f_380 : Nat → Int32, va_P (dC, dI) vwCl (List.flatten [[(h0, .inr (9, (.ref (r0 0) :: .ref (r0 1) :: .int tp_23 :: .int sz0 :: .int fk0 :: .int fp_30 :: .int aq_31 :: .int en0 :: .int tk0 :: .int nu_38 :: .long nm0 :: .ref (r0 2) :: .ref (r0 3) :: .ref (r0 4) :: .ref (r0 5) :: .ref (r0 6) :: .ref (r0 7) :: .ref (r0 8) :: .ref (r0 9) :: .ref (r0 10) :: .ref (r0 11) :: .ref (r0 12) :: .ref (r0 13) :: .int bk0 :: .int rb0 :: .ref (r0 14) :: .int mv_43 :: .ref (r0 15) :: .ref (r0 16) :: .ref (r0 17) :: .ref (r0 18) :: .ref (r0 19) :: .ref (r0 20) :: .ref (r0 21) :: .ref (r0 22) :: .ref (r0 23) :: .int dw0 :: .int rl0 :: .int mg_48 :: .long su_49 :: .long sd0 :: .ref (r0 24) :: .ref (r0 25) :: .int jm0 :: .long bu_52 :: .long bd0 :: .ref (r0 26) :: .int gm0 :: .int fa_55 :: .ref (r0 27) :: .ref (r0 28) :: .ref (r0 29) :: .ref (r0 30) :: .ref (r0 31) :: .ref (r0 32) :: .ref (r0 33) :: .ref (r0 34) :: .ref (r0 35) :: .ref (r0 36) :: .ref (r0 37) :: .int pp_56 :: .int ti0 :: .ref (r0 38) :: .ref (r0 39) :: .ref (r0 40) :: .int so_61 :: .ref (r0 41) :: .ref (r0 42) :: .ref (r0 43) :: [])))], [(r0 0, .inl (cB, 1620, .inl f_380)), (r0 1, .inl (cB, 1600, .inl tq1))]]) H ∧ va_D A (List.flatten [[(h0, .inr (9, (.ref (r0 0) :: .ref (r0 1) :: .int tp_23 :: .int sz0 :: .int fk0 :: .int fp_30 :: .int aq_31 :: .int en0 :: .int tk0 :: .int nu_38 :: .long nm0 :: .ref (r0 2) :: .ref (r0 3) :: .ref (r0 4) :: .ref (r0 5) :: .ref (r0 6) :: .ref (r0 7) :: .ref (r0 8) :: .ref (r0 9) :: .ref (r0 10) :: .ref (r0 11) :: .ref (r0 12) :: .ref (r0 13) :: .int bk0 :: .int rb0 :: .ref (r0 14) :: .int mv_43 :: .ref (r0 15) :: .ref (r0 16) :: .ref (r0 17) :: .ref (r0 18) :: .ref (r0 19) :: .ref (r0 20) :: .ref (r0 21) :: .ref (r0 22) :: .ref (r0 23) :: .int dw0 :: .int rl0 :: .int mg_48 :: .long su_49 :: .long sd0 :: .ref (r0 24) :: .ref (r0 25) :: .int jm0 :: .long bu_52 :: .long bd0 :: .ref (r0 26) :: .int gm0 :: .int fa_55 :: .ref (r0 27) :: .ref (r0 28) :: .ref (r0 29) :: .ref (r0 30) :: .ref (r0 31) :: .ref (r0 32) :: .ref (r0 33) :: .ref (r0 34) :: .ref (r0 35) :: .ref (r0 36) :: .ref (r0 37) :: .int pp_56 :: .int ti0 :: .ref (r0 38) :: .ref (r0 39) :: .ref (r0 40) :: .int so_61 :: .ref (r0 41) :: .ref (r0 42) :: .ref (r0 43) :: [])))], [(r0 0, .inl (cB, 1620, .inl f_380)), (r0 1, .inl (cB, 1600, .inl tq1))]]) := ⟨_, hP, hD⟩
                  obtain ⟨z_381, ez_381⟩ : ∃ y : Int32, y = g_66 + 1 := ⟨_, rfl⟩
                  have hz_381 : z_381.toInt = g_66.toInt + 1 := by rw [ez_381]; exact t_add rfl tI_1 (by omega) (by omega)
                  refine lv_iinc (v := z_381) (lv' := [(6, .int z_381), (7, .int p5), (0, .ref h0), (1, .int p1), (2, .int p2), (3, .int p3), (4, .int p4), (5, .int p5)]) hx hb dX11_feed_99 hl (k := 1) rfl (by rw [ez_381]; rfl) (by decide) rfl (fun ls hl => ?_)
                  refine lv_goto (tgt := 18) hx hb dX11_feed_102 (by decide) ?_
                  exact ih_367 z_381 f_380 (by omega) (by omega) (by omega) _ _ hP hD hS ls (lv_sub hl [0, 2, 3, 4, 5, 6, 7] rfl)
                · have c_373 : g_66.toInt < 16 := f_nle tI_16 rfl c_373
                  refine lv_iload hx hb dX11_feed_64 (lv_at hl 5 rfl) ?_
                  refine lv_goto (tgt := 71) hx hb dX11_feed_66 (by decide) ?_
                  refine lv_istore (lv' := [(7, .int p4), (6, .int g_66), (0, .ref h0), (1, .int p1), (2, .int p2), (3, .int p3), (4, .int p4), (5, .int p5)]) hx hb dX11_feed_71 hl (by decide) rfl (fun ls hl => ?_)
                  refine lv_aload_n hx hb dX11_feed_73 rfl (lv_at hl 2 rfl) ?_
                  refine va_get (D := (dC, dI)) (ci := 9) (v := .ref (r0 0)) (C := RX11) (T := TX11) (N := 69) hx hb hts iw_X11_feed_X11 hown hK hP 0 rfl rfl 0 (by decide) (hts (.fieldLink RX11 7 "HungFloorsModel" "tape" "[B") (by decide +kernel)) (fun _ h9 => h9) rfl dX11_feed_74 ?_
                  refine lv_aload_n hx hb dX11_feed_77 rfl (lv_at hl 2 rfl) ?_
                  refine va_get (D := (dC, dI)) (ci := 9) (v := .int tp_23) (C := RX11) (T := TX11) (N := 69) hx hb hts iw_X11_feed_X11 hown hK hP 0 rfl rfl 2 (by decide) (hts (.fieldLink RX11 218 "HungFloorsModel" "taped" "I") (by decide +kernel)) (fun _ h9 => h9) rfl dX11_feed_78 ?_
                  refine lv_iload hx hb dX11_feed_81 (lv_at hl 1 rfl) ?_
                  refine lv_iadd hx hb dX11_feed_83 ?_
                  refine lv_topi (fun z_382 ez_382 => ?_)
                  have hz_382 : z_382.toInt = tp_23.toInt + g_66.toInt := by rw [ez_382]; exact t_add rfl rfl (by omega) (by omega)
                  refine lv_iload hx hb dX11_feed_84 (lv_at hl 0 rfl) ?_
                  refine lv_bipush (v := 24) hx hb dX11_feed_86 (by decide) ?_
                  refine lv_bipush (v := 8) hx hb dX11_feed_88 (by decide) ?_
                  refine lv_iload hx hb dX11_feed_90 (lv_at hl 1 rfl) ?_
                  refine lv_iconst (v := 3) hx hb dX11_feed_92 (by decide) ?_
                  refine lv_iand hx hb dX11_feed_93 ?_
                  refine lv_topi (fun z_383 ez_383 => ?_)
                  have hz_383 := t_andc tI_3 (by decide) ez_383
                  have h1z_383 := hz_383.1
                  have h2z_383 := hz_383.2
                  refine lv_imul hx hb dX11_feed_94 ?_
                  refine lv_topi (fun z_384 ez_384 => ?_)
                  have hz_384 : z_384.toInt = 8 * z_383.toInt := by rw [ez_384]; exact t_mul tI_8 rfl (by omega) (by omega)
                  refine lv_isub hx hb dX11_feed_95 ?_
                  refine lv_topi (fun z_385 ez_385 => ?_)
                  have hz_385 : z_385.toInt = 24 - z_384.toInt := by rw [ez_385]; exact t_sub tI_24 rfl (by omega) (by omega)
                  refine lv_ishr hx hb dX11_feed_96 ?_
                  refine lv_topi (fun z_386 ez_386 => ?_)
                  obtain ⟨z_387, ez_387⟩ : ∃ y : Int32, (z_386 : Int32).toInt8.toInt32 = y := ⟨_, rfl⟩
                  refine lv_i2b (v := z_387) hx hb dX11_feed_97 ez_387 ?_
                  refine va_bast hx hb hK hP hD hS 1 0 rfl rfl (v_in rfl (by omega) (by omega)) dX11_feed_98 (fun H locs hP hD hS => ?_)
                  obtain ⟨f_388, hP, hD⟩ : ∃ f_388 : Nat → Int32, va_P (dC, dI) vwCl (List.flatten [[(h0, .inr (9, (.ref (r0 0) :: .ref (r0 1) :: .int tp_23 :: .int sz0 :: .int fk0 :: .int fp_30 :: .int aq_31 :: .int en0 :: .int tk0 :: .int nu_38 :: .long nm0 :: .ref (r0 2) :: .ref (r0 3) :: .ref (r0 4) :: .ref (r0 5) :: .ref (r0 6) :: .ref (r0 7) :: .ref (r0 8) :: .ref (r0 9) :: .ref (r0 10) :: .ref (r0 11) :: .ref (r0 12) :: .ref (r0 13) :: .int bk0 :: .int rb0 :: .ref (r0 14) :: .int mv_43 :: .ref (r0 15) :: .ref (r0 16) :: .ref (r0 17) :: .ref (r0 18) :: .ref (r0 19) :: .ref (r0 20) :: .ref (r0 21) :: .ref (r0 22) :: .ref (r0 23) :: .int dw0 :: .int rl0 :: .int mg_48 :: .long su_49 :: .long sd0 :: .ref (r0 24) :: .ref (r0 25) :: .int jm0 :: .long bu_52 :: .long bd0 :: .ref (r0 26) :: .int gm0 :: .int fa_55 :: .ref (r0 27) :: .ref (r0 28) :: .ref (r0 29) :: .ref (r0 30) :: .ref (r0 31) :: .ref (r0 32) :: .ref (r0 33) :: .ref (r0 34) :: .ref (r0 35) :: .ref (r0 36) :: .ref (r0 37) :: .int pp_56 :: .int ti0 :: .ref (r0 38) :: .ref (r0 39) :: .ref (r0 40) :: .int so_61 :: .ref (r0 41) :: .ref (r0 42) :: .ref (r0 43) :: [])))], [(r0 0, .inl (cB, 1620, .inl f_388)), (r0 1, .inl (cB, 1600, .inl tq1))]]) H ∧ va_D A (List.flatten [[(h0, .inr (9, (.ref (r0 0) :: .ref (r0 1) :: .int tp_23 :: .int sz0 :: .int fk0 :: .int fp_30 :: .int aq_31 :: .int en0 :: .int tk0 :: .int nu_38 :: .long nm0 :: .ref (r0 2) :: .ref (r0 3) :: .ref (r0 4) :: .ref (r0 5) :: .ref (r0 6) :: .ref (r0 7) :: .ref (r0 8) :: .ref (r0 9) :: .ref (r0 10) :: .ref (r0 11) :: .ref (r0 12) :: .ref (r0 13) :: .int bk0 :: .int rb0 :: .ref (r0 14) :: .int mv_43 :: .ref (r0 15) :: .ref (r0 16) :: .ref (r0 17) :: .ref (r0 18) :: .ref (r0 19) :: .ref (r0 20) :: .ref (r0 21) :: .ref (r0 22) :: .ref (r0 23) :: .int dw0 :: .int rl0 :: .int mg_48 :: .long su_49 :: .long sd0 :: .ref (r0 24) :: .ref (r0 25) :: .int jm0 :: .long bu_52 :: .long bd0 :: .ref (r0 26) :: .int gm0 :: .int fa_55 :: .ref (r0 27) :: .ref (r0 28) :: .ref (r0 29) :: .ref (r0 30) :: .ref (r0 31) :: .ref (r0 32) :: .ref (r0 33) :: .ref (r0 34) :: .ref (r0 35) :: .ref (r0 36) :: .ref (r0 37) :: .int pp_56 :: .int ti0 :: .ref (r0 38) :: .ref (r0 39) :: .ref (r0 40) :: .int so_61 :: .ref (r0 41) :: .ref (r0 42) :: .ref (r0 43) :: [])))], [(r0 0, .inl (cB, 1620, .inl f_388)), (r0 1, .inl (cB, 1600, .inl tq1))]]) := ⟨_, hP, hD⟩
                  obtain ⟨z_389, ez_389⟩ : ∃ y : Int32, y = g_66 + 1 := ⟨_, rfl⟩
                  have hz_389 : z_389.toInt = g_66.toInt + 1 := by rw [ez_389]; exact t_add rfl tI_1 (by omega) (by omega)
                  refine lv_iinc (v := z_389) (lv' := [(6, .int z_389), (7, .int p4), (0, .ref h0), (1, .int p1), (2, .int p2), (3, .int p3), (4, .int p4), (5, .int p5)]) hx hb dX11_feed_99 hl (k := 1) rfl (by rw [ez_389]; rfl) (by decide) rfl (fun ls hl => ?_)
                  refine lv_goto (tgt := 18) hx hb dX11_feed_102 (by decide) ?_
                  exact ih_367 z_389 f_388 (by omega) (by omega) (by omega) _ _ hP hD hS ls (lv_sub hl [0, 2, 3, 4, 5, 6, 7] rfl)
              · have c_372 : g_66.toInt < 12 := f_nle tI_12 rfl c_372
                refine lv_iload_n hx hb dX11_feed_53 rfl (lv_at hl 4 rfl) ?_
                refine lv_goto (tgt := 71) hx hb dX11_feed_54 (by decide) ?_
                refine lv_istore (lv' := [(7, .int p3), (6, .int g_66), (0, .ref h0), (1, .int p1), (2, .int p2), (3, .int p3), (4, .int p4), (5, .int p5)]) hx hb dX11_feed_71 hl (by decide) rfl (fun ls hl => ?_)
                refine lv_aload_n hx hb dX11_feed_73 rfl (lv_at hl 2 rfl) ?_
                refine va_get (D := (dC, dI)) (ci := 9) (v := .ref (r0 0)) (C := RX11) (T := TX11) (N := 69) hx hb hts iw_X11_feed_X11 hown hK hP 0 rfl rfl 0 (by decide) (hts (.fieldLink RX11 7 "HungFloorsModel" "tape" "[B") (by decide +kernel)) (fun _ h9 => h9) rfl dX11_feed_74 ?_
                refine lv_aload_n hx hb dX11_feed_77 rfl (lv_at hl 2 rfl) ?_
                refine va_get (D := (dC, dI)) (ci := 9) (v := .int tp_23) (C := RX11) (T := TX11) (N := 69) hx hb hts iw_X11_feed_X11 hown hK hP 0 rfl rfl 2 (by decide) (hts (.fieldLink RX11 218 "HungFloorsModel" "taped" "I") (by decide +kernel)) (fun _ h9 => h9) rfl dX11_feed_78 ?_
                refine lv_iload hx hb dX11_feed_81 (lv_at hl 1 rfl) ?_
                refine lv_iadd hx hb dX11_feed_83 ?_
                refine lv_topi (fun z_390 ez_390 => ?_)
                have hz_390 : z_390.toInt = tp_23.toInt + g_66.toInt := by rw [ez_390]; exact t_add rfl rfl (by omega) (by omega)
                refine lv_iload hx hb dX11_feed_84 (lv_at hl 0 rfl) ?_
                refine lv_bipush (v := 24) hx hb dX11_feed_86 (by decide) ?_
                refine lv_bipush (v := 8) hx hb dX11_feed_88 (by decide) ?_
                refine lv_iload hx hb dX11_feed_90 (lv_at hl 1 rfl) ?_
                refine lv_iconst (v := 3) hx hb dX11_feed_92 (by decide) ?_
                refine lv_iand hx hb dX11_feed_93 ?_
                refine lv_topi (fun z_391 ez_391 => ?_)
                have hz_391 := t_andc tI_3 (by decide) ez_391
                have h1z_391 := hz_391.1
                have h2z_391 := hz_391.2
                refine lv_imul hx hb dX11_feed_94 ?_
                refine lv_topi (fun z_392 ez_392 => ?_)
                have hz_392 : z_392.toInt = 8 * z_391.toInt := by rw [ez_392]; exact t_mul tI_8 rfl (by omega) (by omega)
                refine lv_isub hx hb dX11_feed_95 ?_
                refine lv_topi (fun z_393 ez_393 => ?_)
                have hz_393 : z_393.toInt = 24 - z_392.toInt := by rw [ez_393]; exact t_sub tI_24 rfl (by omega) (by omega)
                refine lv_ishr hx hb dX11_feed_96 ?_
                refine lv_topi (fun z_394 ez_394 => ?_)
                obtain ⟨z_395, ez_395⟩ : ∃ y : Int32, (z_394 : Int32).toInt8.toInt32 = y := ⟨_, rfl⟩
                refine lv_i2b (v := z_395) hx hb dX11_feed_97 ez_395 ?_
                refine va_bast hx hb hK hP hD hS 1 0 rfl rfl (v_in rfl (by omega) (by omega)) dX11_feed_98 (fun H locs hP hD hS => ?_)
                obtain ⟨f_396, hP, hD⟩ : ∃ f_396 : Nat → Int32, va_P (dC, dI) vwCl (List.flatten [[(h0, .inr (9, (.ref (r0 0) :: .ref (r0 1) :: .int tp_23 :: .int sz0 :: .int fk0 :: .int fp_30 :: .int aq_31 :: .int en0 :: .int tk0 :: .int nu_38 :: .long nm0 :: .ref (r0 2) :: .ref (r0 3) :: .ref (r0 4) :: .ref (r0 5) :: .ref (r0 6) :: .ref (r0 7) :: .ref (r0 8) :: .ref (r0 9) :: .ref (r0 10) :: .ref (r0 11) :: .ref (r0 12) :: .ref (r0 13) :: .int bk0 :: .int rb0 :: .ref (r0 14) :: .int mv_43 :: .ref (r0 15) :: .ref (r0 16) :: .ref (r0 17) :: .ref (r0 18) :: .ref (r0 19) :: .ref (r0 20) :: .ref (r0 21) :: .ref (r0 22) :: .ref (r0 23) :: .int dw0 :: .int rl0 :: .int mg_48 :: .long su_49 :: .long sd0 :: .ref (r0 24) :: .ref (r0 25) :: .int jm0 :: .long bu_52 :: .long bd0 :: .ref (r0 26) :: .int gm0 :: .int fa_55 :: .ref (r0 27) :: .ref (r0 28) :: .ref (r0 29) :: .ref (r0 30) :: .ref (r0 31) :: .ref (r0 32) :: .ref (r0 33) :: .ref (r0 34) :: .ref (r0 35) :: .ref (r0 36) :: .ref (r0 37) :: .int pp_56 :: .int ti0 :: .ref (r0 38) :: .ref (r0 39) :: .ref (r0 40) :: .int so_61 :: .ref (r0 41) :: .ref (r0 42) :: .ref (r0 43) :: [])))], [(r0 0, .inl (cB, 1620, .inl f_396)), (r0 1, .inl (cB, 1600, .inl tq1))]]) H ∧ va_D A (List.flatten [[(h0, .inr (9, (.ref (r0 0) :: .ref (r0 1) :: .int tp_23 :: .int sz0 :: .int fk0 :: .int fp_30 :: .int aq_31 :: .int en0 :: .int tk0 :: .int nu_38 :: .long nm0 :: .ref (r0 2) :: .ref (r0 3) :: .ref (r0 4) :: .ref (r0 5) :: .ref (r0 6) :: .ref (r0 7) :: .ref (r0 8) :: .ref (r0 9) :: .ref (r0 10) :: .ref (r0 11) :: .ref (r0 12) :: .ref (r0 13) :: .int bk0 :: .int rb0 :: .ref (r0 14) :: .int mv_43 :: .ref (r0 15) :: .ref (r0 16) :: .ref (r0 17) :: .ref (r0 18) :: .ref (r0 19) :: .ref (r0 20) :: .ref (r0 21) :: .ref (r0 22) :: .ref (r0 23) :: .int dw0 :: .int rl0 :: .int mg_48 :: .long su_49 :: .long sd0 :: .ref (r0 24) :: .ref (r0 25) :: .int jm0 :: .long bu_52 :: .long bd0 :: .ref (r0 26) :: .int gm0 :: .int fa_55 :: .ref (r0 27) :: .ref (r0 28) :: .ref (r0 29) :: .ref (r0 30) :: .ref (r0 31) :: .ref (r0 32) :: .ref (r0 33) :: .ref (r0 34) :: .ref (r0 35) :: .ref (r0 36) :: .ref (r0 37) :: .int pp_56 :: .int ti0 :: .ref (r0 38) :: .ref (r0 39) :: .ref (r0 40) :: .int so_61 :: .ref (r0 41) :: .ref (r0 42) :: .ref (r0 43) :: [])))], [(r0 0, .inl (cB, 1620, .inl f_396)), (r0 1, .inl (cB, 1600, .inl tq1))]]) := ⟨_, hP, hD⟩
                obtain ⟨z_397, ez_397⟩ : ∃ y : Int32, y = g_66 + 1 := ⟨_, rfl⟩
                have hz_397 : z_397.toInt = g_66.toInt + 1 := by rw [ez_397]; exact t_add rfl tI_1 (by omega) (by omega)
                refine lv_iinc (v := z_397) (lv' := [(6, .int z_397), (7, .int p3), (0, .ref h0), (1, .int p1), (2, .int p2), (3, .int p3), (4, .int p4), (5, .int p5)]) hx hb dX11_feed_99 hl (k := 1) rfl (by rw [ez_397]; rfl) (by decide) rfl (fun ls hl => ?_)
                refine lv_goto (tgt := 18) hx hb dX11_feed_102 (by decide) ?_
                exact ih_367 z_397 f_396 (by omega) (by omega) (by omega) _ _ hP hD hS ls (lv_sub hl [0, 2, 3, 4, 5, 6, 7] rfl)
            · have c_371 : g_66.toInt < 8 := f_nle tI_8 rfl c_371
              refine lv_iload_n hx hb dX11_feed_42 rfl (lv_at hl 3 rfl) ?_
              refine lv_goto (tgt := 71) hx hb dX11_feed_43 (by decide) ?_
              refine lv_istore (lv' := [(7, .int p2), (6, .int g_66), (0, .ref h0), (1, .int p1), (2, .int p2), (3, .int p3), (4, .int p4), (5, .int p5)]) hx hb dX11_feed_71 hl (by decide) rfl (fun ls hl => ?_)
              refine lv_aload_n hx hb dX11_feed_73 rfl (lv_at hl 2 rfl) ?_
              refine va_get (D := (dC, dI)) (ci := 9) (v := .ref (r0 0)) (C := RX11) (T := TX11) (N := 69) hx hb hts iw_X11_feed_X11 hown hK hP 0 rfl rfl 0 (by decide) (hts (.fieldLink RX11 7 "HungFloorsModel" "tape" "[B") (by decide +kernel)) (fun _ h9 => h9) rfl dX11_feed_74 ?_
              refine lv_aload_n hx hb dX11_feed_77 rfl (lv_at hl 2 rfl) ?_
              refine va_get (D := (dC, dI)) (ci := 9) (v := .int tp_23) (C := RX11) (T := TX11) (N := 69) hx hb hts iw_X11_feed_X11 hown hK hP 0 rfl rfl 2 (by decide) (hts (.fieldLink RX11 218 "HungFloorsModel" "taped" "I") (by decide +kernel)) (fun _ h9 => h9) rfl dX11_feed_78 ?_
              refine lv_iload hx hb dX11_feed_81 (lv_at hl 1 rfl) ?_
              refine lv_iadd hx hb dX11_feed_83 ?_
              refine lv_topi (fun z_398 ez_398 => ?_)
              have hz_398 : z_398.toInt = tp_23.toInt + g_66.toInt := by rw [ez_398]; exact t_add rfl rfl (by omega) (by omega)
              refine lv_iload hx hb dX11_feed_84 (lv_at hl 0 rfl) ?_
              refine lv_bipush (v := 24) hx hb dX11_feed_86 (by decide) ?_
              refine lv_bipush (v := 8) hx hb dX11_feed_88 (by decide) ?_
              refine lv_iload hx hb dX11_feed_90 (lv_at hl 1 rfl) ?_
              refine lv_iconst (v := 3) hx hb dX11_feed_92 (by decide) ?_
              refine lv_iand hx hb dX11_feed_93 ?_
              refine lv_topi (fun z_399 ez_399 => ?_)
              have hz_399 := t_andc tI_3 (by decide) ez_399
              have h1z_399 := hz_399.1
              have h2z_399 := hz_399.2
              refine lv_imul hx hb dX11_feed_94 ?_
              refine lv_topi (fun z_400 ez_400 => ?_)
              have hz_400 : z_400.toInt = 8 * z_399.toInt := by rw [ez_400]; exact t_mul tI_8 rfl (by omega) (by omega)
              refine lv_isub hx hb dX11_feed_95 ?_
              refine lv_topi (fun z_401 ez_401 => ?_)
              have hz_401 : z_401.toInt = 24 - z_400.toInt := by rw [ez_401]; exact t_sub tI_24 rfl (by omega) (by omega)
              refine lv_ishr hx hb dX11_feed_96 ?_
              refine lv_topi (fun z_402 ez_402 => ?_)
              obtain ⟨z_403, ez_403⟩ : ∃ y : Int32, (z_402 : Int32).toInt8.toInt32 = y := ⟨_, rfl⟩
              refine lv_i2b (v := z_403) hx hb dX11_feed_97 ez_403 ?_
              refine va_bast hx hb hK hP hD hS 1 0 rfl rfl (v_in rfl (by omega) (by omega)) dX11_feed_98 (fun H locs hP hD hS => ?_)
              obtain ⟨f_404, hP, hD⟩ : ∃ f_404 : Nat → Int32, va_P (dC, dI) vwCl (List.flatten [[(h0, .inr (9, (.ref (r0 0) :: .ref (r0 1) :: .int tp_23 :: .int sz0 :: .int fk0 :: .int fp_30 :: .int aq_31 :: .int en0 :: .int tk0 :: .int nu_38 :: .long nm0 :: .ref (r0 2) :: .ref (r0 3) :: .ref (r0 4) :: .ref (r0 5) :: .ref (r0 6) :: .ref (r0 7) :: .ref (r0 8) :: .ref (r0 9) :: .ref (r0 10) :: .ref (r0 11) :: .ref (r0 12) :: .ref (r0 13) :: .int bk0 :: .int rb0 :: .ref (r0 14) :: .int mv_43 :: .ref (r0 15) :: .ref (r0 16) :: .ref (r0 17) :: .ref (r0 18) :: .ref (r0 19) :: .ref (r0 20) :: .ref (r0 21) :: .ref (r0 22) :: .ref (r0 23) :: .int dw0 :: .int rl0 :: .int mg_48 :: .long su_49 :: .long sd0 :: .ref (r0 24) :: .ref (r0 25) :: .int jm0 :: .long bu_52 :: .long bd0 :: .ref (r0 26) :: .int gm0 :: .int fa_55 :: .ref (r0 27) :: .ref (r0 28) :: .ref (r0 29) :: .ref (r0 30) :: .ref (r0 31) :: .ref (r0 32) :: .ref (r0 33) :: .ref (r0 34) :: .ref (r0 35) :: .ref (r0 36) :: .ref (r0 37) :: .int pp_56 :: .int ti0 :: .ref (r0 38) :: .ref (r0 39) :: .ref (r0 40) :: .int so_61 :: .ref (r0 41) :: .ref (r0 42) :: .ref (r0 43) :: [])))], [(r0 0, .inl (cB, 1620, .inl f_404)), (r0 1, .inl (cB, 1600, .inl tq1))]]) H ∧ va_D A (List.flatten [[(h0, .inr (9, (.ref (r0 0) :: .ref (r0 1) :: .int tp_23 :: .int sz0 :: .int fk0 :: .int fp_30 :: .int aq_31 :: .int en0 :: .int tk0 :: .int nu_38 :: .long nm0 :: .ref (r0 2) :: .ref (r0 3) :: .ref (r0 4) :: .ref (r0 5) :: .ref (r0 6) :: .ref (r0 7) :: .ref (r0 8) :: .ref (r0 9) :: .ref (r0 10) :: .ref (r0 11) :: .ref (r0 12) :: .ref (r0 13) :: .int bk0 :: .int rb0 :: .ref (r0 14) :: .int mv_43 :: .ref (r0 15) :: .ref (r0 16) :: .ref (r0 17) :: .ref (r0 18) :: .ref (r0 19) :: .ref (r0 20) :: .ref (r0 21) :: .ref (r0 22) :: .ref (r0 23) :: .int dw0 :: .int rl0 :: .int mg_48 :: .long su_49 :: .long sd0 :: .ref (r0 24) :: .ref (r0 25) :: .int jm0 :: .long bu_52 :: .long bd0 :: .ref (r0 26) :: .int gm0 :: .int fa_55 :: .ref (r0 27) :: .ref (r0 28) :: .ref (r0 29) :: .ref (r0 30) :: .ref (r0 31) :: .ref (r0 32) :: .ref (r0 33) :: .ref (r0 34) :: .ref (r0 35) :: .ref (r0 36) :: .ref (r0 37) :: .int pp_56 :: .int ti0 :: .ref (r0 38) :: .ref (r0 39) :: .ref (r0 40) :: .int so_61 :: .ref (r0 41) :: .ref (r0 42) :: .ref (r0 43) :: [])))], [(r0 0, .inl (cB, 1620, .inl f_404)), (r0 1, .inl (cB, 1600, .inl tq1))]]) := ⟨_, hP, hD⟩
              obtain ⟨z_405, ez_405⟩ : ∃ y : Int32, y = g_66 + 1 := ⟨_, rfl⟩
              have hz_405 : z_405.toInt = g_66.toInt + 1 := by rw [ez_405]; exact t_add rfl tI_1 (by omega) (by omega)
              refine lv_iinc (v := z_405) (lv' := [(6, .int z_405), (7, .int p2), (0, .ref h0), (1, .int p1), (2, .int p2), (3, .int p3), (4, .int p4), (5, .int p5)]) hx hb dX11_feed_99 hl (k := 1) rfl (by rw [ez_405]; rfl) (by decide) rfl (fun ls hl => ?_)
              refine lv_goto (tgt := 18) hx hb dX11_feed_102 (by decide) ?_
              exact ih_367 z_405 f_404 (by omega) (by omega) (by omega) _ _ hP hD hS ls (lv_sub hl [0, 2, 3, 4, 5, 6, 7] rfl)
          · have c_370 : g_66.toInt < 4 := f_nle tI_4 rfl c_370
            refine lv_iload_n hx hb dX11_feed_31 rfl (lv_at hl 2 rfl) ?_
            refine lv_goto (tgt := 71) hx hb dX11_feed_32 (by decide) ?_
            refine lv_istore (lv' := [(7, .int p1), (6, .int g_66), (0, .ref h0), (1, .int p1), (2, .int p2), (3, .int p3), (4, .int p4), (5, .int p5)]) hx hb dX11_feed_71 hl (by decide) rfl (fun ls hl => ?_)
            refine lv_aload_n hx hb dX11_feed_73 rfl (lv_at hl 2 rfl) ?_
            refine va_get (D := (dC, dI)) (ci := 9) (v := .ref (r0 0)) (C := RX11) (T := TX11) (N := 69) hx hb hts iw_X11_feed_X11 hown hK hP 0 rfl rfl 0 (by decide) (hts (.fieldLink RX11 7 "HungFloorsModel" "tape" "[B") (by decide +kernel)) (fun _ h9 => h9) rfl dX11_feed_74 ?_
            refine lv_aload_n hx hb dX11_feed_77 rfl (lv_at hl 2 rfl) ?_
            refine va_get (D := (dC, dI)) (ci := 9) (v := .int tp_23) (C := RX11) (T := TX11) (N := 69) hx hb hts iw_X11_feed_X11 hown hK hP 0 rfl rfl 2 (by decide) (hts (.fieldLink RX11 218 "HungFloorsModel" "taped" "I") (by decide +kernel)) (fun _ h9 => h9) rfl dX11_feed_78 ?_
            refine lv_iload hx hb dX11_feed_81 (lv_at hl 1 rfl) ?_
            refine lv_iadd hx hb dX11_feed_83 ?_
            refine lv_topi (fun z_406 ez_406 => ?_)
            have hz_406 : z_406.toInt = tp_23.toInt + g_66.toInt := by rw [ez_406]; exact t_add rfl rfl (by omega) (by omega)
            refine lv_iload hx hb dX11_feed_84 (lv_at hl 0 rfl) ?_
            refine lv_bipush (v := 24) hx hb dX11_feed_86 (by decide) ?_
            refine lv_bipush (v := 8) hx hb dX11_feed_88 (by decide) ?_
            refine lv_iload hx hb dX11_feed_90 (lv_at hl 1 rfl) ?_
            refine lv_iconst (v := 3) hx hb dX11_feed_92 (by decide) ?_
            refine lv_iand hx hb dX11_feed_93 ?_
            refine lv_topi (fun z_407 ez_407 => ?_)
            have hz_407 := t_andc tI_3 (by decide) ez_407
            have h1z_407 := hz_407.1
            have h2z_407 := hz_407.2
            refine lv_imul hx hb dX11_feed_94 ?_
            refine lv_topi (fun z_408 ez_408 => ?_)
            have hz_408 : z_408.toInt = 8 * z_407.toInt := by rw [ez_408]; exact t_mul tI_8 rfl (by omega) (by omega)
            refine lv_isub hx hb dX11_feed_95 ?_
            refine lv_topi (fun z_409 ez_409 => ?_)
            have hz_409 : z_409.toInt = 24 - z_408.toInt := by rw [ez_409]; exact t_sub tI_24 rfl (by omega) (by omega)
            refine lv_ishr hx hb dX11_feed_96 ?_
            refine lv_topi (fun z_410 ez_410 => ?_)
            obtain ⟨z_411, ez_411⟩ : ∃ y : Int32, (z_410 : Int32).toInt8.toInt32 = y := ⟨_, rfl⟩
            refine lv_i2b (v := z_411) hx hb dX11_feed_97 ez_411 ?_
            refine va_bast hx hb hK hP hD hS 1 0 rfl rfl (v_in rfl (by omega) (by omega)) dX11_feed_98 (fun H locs hP hD hS => ?_)
            obtain ⟨f_412, hP, hD⟩ : ∃ f_412 : Nat → Int32, va_P (dC, dI) vwCl (List.flatten [[(h0, .inr (9, (.ref (r0 0) :: .ref (r0 1) :: .int tp_23 :: .int sz0 :: .int fk0 :: .int fp_30 :: .int aq_31 :: .int en0 :: .int tk0 :: .int nu_38 :: .long nm0 :: .ref (r0 2) :: .ref (r0 3) :: .ref (r0 4) :: .ref (r0 5) :: .ref (r0 6) :: .ref (r0 7) :: .ref (r0 8) :: .ref (r0 9) :: .ref (r0 10) :: .ref (r0 11) :: .ref (r0 12) :: .ref (r0 13) :: .int bk0 :: .int rb0 :: .ref (r0 14) :: .int mv_43 :: .ref (r0 15) :: .ref (r0 16) :: .ref (r0 17) :: .ref (r0 18) :: .ref (r0 19) :: .ref (r0 20) :: .ref (r0 21) :: .ref (r0 22) :: .ref (r0 23) :: .int dw0 :: .int rl0 :: .int mg_48 :: .long su_49 :: .long sd0 :: .ref (r0 24) :: .ref (r0 25) :: .int jm0 :: .long bu_52 :: .long bd0 :: .ref (r0 26) :: .int gm0 :: .int fa_55 :: .ref (r0 27) :: .ref (r0 28) :: .ref (r0 29) :: .ref (r0 30) :: .ref (r0 31) :: .ref (r0 32) :: .ref (r0 33) :: .ref (r0 34) :: .ref (r0 35) :: .ref (r0 36) :: .ref (r0 37) :: .int pp_56 :: .int ti0 :: .ref (r0 38) :: .ref (r0 39) :: .ref (r0 40) :: .int so_61 :: .ref (r0 41) :: .ref (r0 42) :: .ref (r0 43) :: [])))], [(r0 0, .inl (cB, 1620, .inl f_412)), (r0 1, .inl (cB, 1600, .inl tq1))]]) H ∧ va_D A (List.flatten [[(h0, .inr (9, (.ref (r0 0) :: .ref (r0 1) :: .int tp_23 :: .int sz0 :: .int fk0 :: .int fp_30 :: .int aq_31 :: .int en0 :: .int tk0 :: .int nu_38 :: .long nm0 :: .ref (r0 2) :: .ref (r0 3) :: .ref (r0 4) :: .ref (r0 5) :: .ref (r0 6) :: .ref (r0 7) :: .ref (r0 8) :: .ref (r0 9) :: .ref (r0 10) :: .ref (r0 11) :: .ref (r0 12) :: .ref (r0 13) :: .int bk0 :: .int rb0 :: .ref (r0 14) :: .int mv_43 :: .ref (r0 15) :: .ref (r0 16) :: .ref (r0 17) :: .ref (r0 18) :: .ref (r0 19) :: .ref (r0 20) :: .ref (r0 21) :: .ref (r0 22) :: .ref (r0 23) :: .int dw0 :: .int rl0 :: .int mg_48 :: .long su_49 :: .long sd0 :: .ref (r0 24) :: .ref (r0 25) :: .int jm0 :: .long bu_52 :: .long bd0 :: .ref (r0 26) :: .int gm0 :: .int fa_55 :: .ref (r0 27) :: .ref (r0 28) :: .ref (r0 29) :: .ref (r0 30) :: .ref (r0 31) :: .ref (r0 32) :: .ref (r0 33) :: .ref (r0 34) :: .ref (r0 35) :: .ref (r0 36) :: .ref (r0 37) :: .int pp_56 :: .int ti0 :: .ref (r0 38) :: .ref (r0 39) :: .ref (r0 40) :: .int so_61 :: .ref (r0 41) :: .ref (r0 42) :: .ref (r0 43) :: [])))], [(r0 0, .inl (cB, 1620, .inl f_412)), (r0 1, .inl (cB, 1600, .inl tq1))]]) := ⟨_, hP, hD⟩
            obtain ⟨z_413, ez_413⟩ : ∃ y : Int32, y = g_66 + 1 := ⟨_, rfl⟩
            have hz_413 : z_413.toInt = g_66.toInt + 1 := by rw [ez_413]; exact t_add rfl tI_1 (by omega) (by omega)
            refine lv_iinc (v := z_413) (lv' := [(6, .int z_413), (7, .int p1), (0, .ref h0), (1, .int p1), (2, .int p2), (3, .int p3), (4, .int p4), (5, .int p5)]) hx hb dX11_feed_99 hl (k := 1) rfl (by rw [ez_413]; rfl) (by decide) rfl (fun ls hl => ?_)
            refine lv_goto (tgt := 18) hx hb dX11_feed_102 (by decide) ?_
            exact ih_367 z_413 f_412 (by omega) (by omega) (by omega) _ _ hP hD hS ls (lv_sub hl [0, 2, 3, 4, 5, 6, 7] rfl)
    exact lp_366 _ 0 f_78 (by have := tI_0; omega) (by have := tI_0; omega) (Nat.lt_succ_self _) _ _ hP hD hS ls (lv_sub hl [0, 1, 2, 3, 4, 5, 6] rfl)
  · have c_65 : 1600 < z_64.toInt := f_nle rfl tI_1600 c_65
    refine lv_iconst (v := (-1)) hx hb dX11_feed_13 (by decide) ?_
    rw [hQ0]
    exact W.iret (v := (-1)) hx hb hr (fun t ht hW => ⟨⟨(-1), (), rfl, ⟨by decide, by decide⟩, ⟨_, _, ⟨tp_23, fp_30, aq_31, nu_38, mv_43, mg_48, su_49, bu_52, fa_55, pp_56, so_61, rfl, by omega, by omega, by omega, by omega, by omega, by omega, by omega, by omega, by omega, by omega, by omega, by omega, by omega, by omega, by omega, by omega, by omega, by omega, by omega, by omega, by omega, by omega, by omega, by omega, by omega, by omega, by omega, by omega, by omega, by omega⟩, o1, by rw [ht]; exact hP, hD⟩⟩, hS.F ht⟩) hS.2.2 dX11_feed_14
