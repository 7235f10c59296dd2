theorem iw_X11_isHeld_X11 : ∀ w ∈ wsX110, w ∈ wsX11_isHeld := fun _ h => List.mem_cons_of_mem _ (List.mem_append_right _ h)
set_option maxHeartbeats 4000000 in
set_option maxRecDepth 100000 in
theorem c_X11_isHeld (l : Launch) (dC : Nat → ClassId) (dI : Nat → Nat → Nat) (ad : Nat → Nat) (tN : Nat) (fN : Nat → Int64) (cB cI cJ cZ : ClassId) (h0 : Nat) (p1 : Int32) (p2 : Int32) (r0 : Nat → Nat) (sz0 : Int32) (fk0 : Int32) (en0 : Int32) (tk0 : Int32) (nm0 : Int64) (bk0 : Int32) (rb0 : Int32) (dw0 : Int32) (rl0 : Int32) (sd0 : Int64) (jm0 : Int32) (bd0 : Int64) (gm0 : Int32) (ti0 : Int32) (w0 : va_W) (fr1 : Nat → Int32) (ho1 : Nat → Int32) (pe1 : Nat → Int32) (he1 : Nat → Int32) (iz1 : Nat → Int32) (wd1 : Nat → Int64) (dn1 : Nat → Int64) (w1 : va_W) (o0 : ok_mo ad cB cI cJ cZ h0 r0 sz0 fk0 en0 tk0 nm0 bk0 rb0 dw0 rl0 sd0 jm0 bd0 gm0 ti0 w0) (o1 : ok_gL ad cB cI cJ cZ r0 fr1 ho1 pe1 he1 iz1 wd1 dn1 w1) (sz : Nat) (up11 : 0 ≤ p1.toInt) (up12 : p1.toInt ≤ 9) : Met l yX11_isHeld wsX11_isHeld ({ frames := 0, cells := 0, slots := 0, locals := 0 } : Room) (va_Pc [.ref h0, .int p1, .int p2] (fun U => U.heap.size = sz ∧ va_P (dC, dI) vwCl (List.flatten [w0, w1]) U.heap ∧ va_K (dC, dI) vwCl [(cB, .byte), (cI, .int), (cJ, .long), (cZ, .boolean)] U ∧ va_D (fun _ => True) (List.flatten [w0, w1]) ∧ ex_Y ad tN fN (va_A (List.flatten [w0, w1]) sz) U)) (va_Qi (fun (r : Int32) (_ : Unit) => (r = 0 ∧ ¬ HD iz1 ho1 p1 p2 ∧ (iz1 (p1 : Int32).toNatClampNeg).toInt = 0) ∨ (r = 0 ∧ ¬ HD iz1 ho1 p1 p2 ∧ ¬ (iz1 (p1 : Int32).toNatClampNeg).toInt = 0) ∨ (r = 1 ∧ HD iz1 ho1 p1 p2 ∧ ¬ (iz1 (p1 : Int32).toNatClampNeg).toInt = 0)) (fun (_ : Unit) (t : State) => va_P (dC, dI) vwCl (List.flatten [w0, w1]) t.heap ∧ va_D (va_A (List.flatten [w0, w1]) sz) (List.flatten [w0, w1])) (va_A (List.flatten [w0, w1]) sz)) 0 0 (va_A (List.flatten [w0, w1]) sz) := by
  refine Met.ofW (cc := cX11_isHeld) (maxL := 3) (ret := (some .boolean)) (by decide) rfl ?_
  intro p e s m args below meth c s₁ B hml hv
  obtain ⟨rfl, hsz, hP, hK, hD0, hE⟩ := hv
  have hx := B.exec
  have hb := B.bytes
  have hr := B.returns
  have hts := atoms_spec (ws := wsX11_isHeld) B.pre
  have hown : s.vm.findClass RX11 = some m.cls := findClass_of_methodNamed B.named
  have hlocks := B.notSynchronized
  subst hsz
  have hD := hD0.self (sz := s.heap.size)
  generalize hAe : va_A (List.flatten [w0, w1]) s.heap.size = A at hD hE ⊢
  have hA : ∀ q : Nat, s.heap.size ≤ q → A q := fun q h => by rw [← hAe]; exact Or.inr h
  have hS : va_S A s.heap s.heap [] := va_S.rf
  have hl := lv_entry ([.ref h0, .int p1, .int p2]) (n := 3) (Nat.le_of_ble_eq_true rfl)
  rw [lg_entry_eq]
  generalize (lg_sl ([.ref h0, .int p1, .int p2]) ++ List.replicate (3 - (lg_sl ([.ref h0, .int p1, .int p2])).length) Slot.unset).toArray = ls at hl ⊢
  have hl : lv_has ls 3 [(0, .ref h0), (1, .int p1), (2, .int p2)] := hl
  clear hAe
  refine W_name (fun Q0 hQ0 => ?_)
  obtain ⟨hx_1, hx_2, hx_3, hx_4, hx_5, hx_6, hx_7, hx_8, hx_9, hx_10, hx_11, hx_12, hx_13, hx_14, hx_15, hx_16, hx_17, hx_18, hx_19, hx_20, hx_21, hx_22⟩ := okx_mo o0
  refine lv_aload_n hx hb dX11_isHeld_0 rfl (lv_at hl 0 rfl) ?_
  obtain ⟨tp_23, fp_30, aq_31, nu_38, mv_43, mg_48, su_49, bu_52, fa_55, pp_56, so_61, rfl, hl_24, hh_25, hl_26, hh_27, hl_28, hh_29, hl_32, hh_33, hl_34, hh_35, hl_36, hh_37, hl_39, hh_40, hl_41, hh_42, hl_44, hh_45, hl_46, hh_47, hl_50, hh_51, hl_53, hh_54, hl_57, hh_58, hl_59, hh_60, hl_62, hh_63⟩ := o0
  refine va_get (D := (dC, dI)) (ci := 9) (v := .ref (r0 19)) (C := RX11) (T := TX11) (N := 69) hx hb hts iw_X11_isHeld_X11 hown hK hP 0 rfl rfl 31 (by decide) (hts (.fieldLink RX11 73 "HungFloorsModel" "isRod" "[Z") (by decide +kernel)) (fun _ h9 => h9) rfl dX11_isHeld_1 ?_
  refine lv_iload_n hx hb dX11_isHeld_4 rfl (lv_at hl 1 rfl) ?_
  obtain ⟨f_64, f_68, f_69, rfl, hr_65, hr_66, hr_67⟩ := o1
  refine va_zald hx hb hK hP 6 3 rfl rfl (v_in rfl (by omega) (by omega)) dX11_isHeld_5 ?_
  refine lv_topi (fun z_70 ez_70 => ?_)
  have gz_70 := rg_at hr_67 ez_70
  have g1z_70 := gz_70.1
  have g2z_70 := gz_70.2
  have fz_70 : z_70 = (iz1 (p1 : Int32).toNatClampNeg) := by rw [ez_70]
  refine lv_if_eq (tgt := 27) hx hb dX11_isHeld_6 (by decide) (fun c_71 => ?_) (fun c_71 => ?_)
  · have c_71 : z_70.toInt = 0 := f_eq rfl tI_0 c_71
    refine lv_iconst (v := 0) hx hb dX11_isHeld_27 (by decide) ?_
    rw [hQ0]
    exact W.zret (v := 0) hx hb hr (by decide) (fun t ht hW => ⟨⟨0, (), rfl, Or.inl ⟨rfl, fun h9 => h9.1 (by rw [← ez_70]; exact c_71), (by rw [← fz_70]; exact c_71)⟩, ⟨by rw [ht]; exact hP, hD⟩⟩, hS.F ht⟩) hS.2.2 dX11_isHeld_28
  · have c_71 : ¬ z_70.toInt = 0 := f_ne rfl tI_0 c_71
    refine lv_aload_n hx hb dX11_isHeld_9 rfl (lv_at hl 0 rfl) ?_
    refine va_get (D := (dC, dI)) (ci := 9) (v := .ref (r0 16)) (C := RX11) (T := TX11) (N := 69) hx hb hts iw_X11_isHeld_X11 hown hK hP 0 rfl rfl 28 (by decide) (hts (.fieldLink RX11 64 "HungFloorsModel" "holds" "[I") (by decide +kernel)) (fun _ h9 => h9) rfl dX11_isHeld_10 ?_
    refine lv_iload_n hx hb dX11_isHeld_13 rfl (lv_at hl 1 rfl) ?_
    refine va_iald hx hb hK hP 3 1 rfl rfl (v_in rfl (by omega) (by omega)) dX11_isHeld_14 ?_
    refine lv_topi (fun z_72 ez_72 => ?_)
    have fz_72 : z_72 = (ho1 (p1 : Int32).toNatClampNeg) := by rw [ez_72]
    refine lv_iload_n hx hb dX11_isHeld_15 rfl (lv_at hl 2 rfl) ?_
    refine lv_ishr hx hb dX11_isHeld_16 ?_
    refine lv_topi (fun z_73 ez_73 => ?_)
    refine lv_iconst (v := 1) hx hb dX11_isHeld_17 (by decide) ?_
    refine lv_iand hx hb dX11_isHeld_18 ?_
    refine lv_topi (fun z_74 ez_74 => ?_)
    have hz_74 := t_andc tI_1 (by decide) ez_74
    have h1z_74 := hz_74.1
    have h2z_74 := hz_74.2
    refine lv_iconst (v := 1) hx hb dX11_isHeld_19 (by decide) ?_
    refine lv_icmp_ne (tgt := 27) hx hb dX11_isHeld_20 (by decide) (fun c_75 => ?_) (fun c_75 => ?_)
    · have c_75 : ¬ z_74.toInt = 1 := f_ne rfl tI_1 c_75
      refine lv_iconst (v := 0) hx hb dX11_isHeld_27 (by decide) ?_
      rw [hQ0]
      exact W.zret (v := 0) hx hb hr (by decide) (fun t ht hW => ⟨⟨0, (), rfl, Or.inr (Or.inl ⟨rfl, fun h9 => c_75 (by have h8 := h9.2; rw [← ez_72, ← ez_73, ← ez_74] at h8; exact h8), (by rw [← fz_70]; exact c_71)⟩), ⟨by rw [ht]; exact hP, hD⟩⟩, hS.F ht⟩) hS.2.2 dX11_isHeld_28
    · have c_75 : z_74.toInt = 1 := f_eq rfl tI_1 c_75
      refine lv_iconst (v := 1) hx hb dX11_isHeld_23 (by decide) ?_
      refine lv_goto (tgt := 28) hx hb dX11_isHeld_24 (by decide) ?_
      rw [hQ0]
      exact W.zret (v := 1) hx hb hr (by decide) (fun t ht hW => ⟨⟨1, (), rfl, Or.inr (Or.inr (⟨rfl, ⟨by rw [← ez_70]; exact c_71, by rw [← ez_72, ← ez_73, ← ez_74]; exact c_75⟩, (by rw [← fz_70]; exact c_71)⟩)), ⟨by rw [ht]; exact hP, hD⟩⟩, hS.F ht⟩) hS.2.2 dX11_isHeld_28
