-- ===== end of PART A; then your names; then what follows =====
/-! THE CLAIM OUT OF ONE WALK OF THE LAW'S BODY. Your part is whole_start (and what it stands on); all else here is the same for every law, but numbers. -/
def R_law : String := "HungFloorsLaw"
def lw_P (b : Addr) (xs : List Int32) (args : Array Value) (s : State) : Prop := args = #[.ref b] ∧ s.IntsAt b xs ∧ xs.length ≤ 3072 ∧ (Jvm.Cond.and given_1 narrow_1).before args s = true
def lw_Q (_ : Array Value) (s : State) (o : Outcome) (t : State) : Prop := o = .returned (some (.int 1)) ∧ Framed s o t [] 600000 7302250
def lw_Z (below : List Frame) (a : Array Value) (s : State) : State → Prop := fun t => ∃ o, t.status = .running ∧ Ended t below o ∧ lw_Q a s o t
/-- the law's own end, with 1 on the stack, nothing written that was there before, its room as the claim has it -/
theorem lw_ret {p : Program} {l : Launch} {e : Env} {s : State} {m : MethodId} {below : List Frame} {meth : Method} {c : Code} {b : Nat} (hx : p.tables.exec = Jvm.exec) (hb : c.code = code) (hr : meth.sig.returnType = ret) (hlocks : meth.locks = false) {pc : Nat} {H : Heap} {ls : Array Slot} (hdg : decode code pc = .ok (.ireturn, 1)) : W p l e room_1 s m #[Value.ref b] below meth c H [] 600000 7302250 (lw_Z below #[Value.ref b] s) (F0 m pc ls [.int 1]) := by
  intro T hT X
  obtain ⟨fs, hret, hrun, hended, hW, hframe⟩ := X.leave (v := some (.int 1)) (hlocks := hlocks) (fun h => by rw [hr] at h; cases h)
  have hmeth' : T.vm.method? m = some meth := X.method'
  refine ⟨T.setFrames fs, ?_, .returned (some (.int 1)), hrun, hended, rfl, ⟨_, rfl⟩, hW, hframe⟩
  jvm_step X.here [X.here.top, hx, hb, hdg, hmeth', hr, ret, narrow_b1]
  (try refine ⟨rfl, ?_⟩); (try refine ⟨rfl, ?_⟩)
  first | (intro acts; rw [hret _ acts rfl rfl rfl]) | rw [hret _ _ rfl rfl rfl]
  exact Steps.refl _
/-- what holds at the law's entry: the machine, the code, the tables' words (any of lw_tbl by 'hts w (by decide +kernel)'), the script of L ints xs at the cell b, what the Statement gives of the start (any of its parts by flat_of_before) -/
def lw_At (p : Program) (s : State) (m : MethodId) (meth : Method) (c : Code) (b L : Nat) (xs : Nat → Int32) : Prop :=
  p.tables.exec = Jvm.exec ∧ c.code = code ∧ meth.sig.returnType = ret ∧ c.maxLocals = 4 ∧ s.vm.findClass R_law = some m.cls ∧ (∀ w ∈ lw_tbl, w.before #[Value.ref b] s = true) ∧ va_X b L xs s s.heap ∧ b < s.heap.size ∧ meth.locks = false ∧ (Jvm.Cond.and given_1 narrow_1).before #[Value.ref b] s = true
theorem xs_eq {xs : Nat → Int32} {a b z o : Int32} (h1 : z = xs a.toNatClampNeg) (h2 : o = xs b.toNatClampNeg) (h : a.toInt = b.toInt) : z = o := by
  rw [h1, h2, x_eq.mpr h]
def LW (ad : Nat → Nat) (cB cI cJ cZ cQ : ClassId) (ax am : Nat) (Bs : List va_W) : Prop := ∃ (r0 : Nat → Nat) (pl0 : Nat) (sp0 : Nat) (rd0 : Nat) (fi0 : Nat) (se0 : Nat) (fa0 : Nat) (cr0 : Nat) (ra0 : Nat) (pa0 : Nat) (nw0 : Int32) (w0 : va_W) (r1 : Nat → Nat) (fc1 : Int32) (dc1 : Int32) (rk1 : Nat → Int32) (w1 : va_W) (r2 : Nat → Nat) (fc2 : Int32) (dc2 : Int32) (rk2 : Nat → Int32) (w2 : va_W) (r3 : Nat → Nat) (tk3 : Nat) (rp3 : Nat) (w3 : va_W) (r4 : Nat → Nat) (tx4 : Nat) (w4 : va_W) (r5 : Nat → Nat) (pl5 : Nat) (w5 : va_W) (r6 : Nat → Nat) (pl6 : Nat) (w6 : va_W) (r7 : Nat → Nat) (wc7 : Int32) (w7 : va_W) (r8 : Nat → Nat) (st8 : Nat) (w8 : va_W) (r9 : Nat → Nat) (w9 : va_W) (r10 : Nat → Nat) (pc10 : Int32) (w10 : va_W) (r11 : Nat → Nat) (sz11 : Int32) (fk11 : Int32) (en11 : Int32) (tk11 : Int32) (nm11 : Int64) (bk11 : Int32) (rb11 : Int32) (dw11 : Int32) (rl11 : Int32) (sd11 : Int64) (jm11 : Int32) (bd11 : Int64) (gm11 : Int32) (ti11 : Int32) (w11 : va_W) (tq12 : Nat → Int32) (w12 : va_W) (fl13 : Nat → Int32) (dr13 : Nat → Int32) (rd13 : Nat → Int32) (rf13 : Nat → Int32) (rh13 : Nat → Int32) (w13 : va_W) (fr14 : Nat → Int32) (ho14 : Nat → Int32) (pe14 : Nat → Int32) (he14 : Nat → Int32) (iz14 : Nat → Int32) (wd14 : Nat → Int64) (dn14 : Nat → Int64) (w14 : va_W) (jr15 : Nat → Int32) (jf15 : Nat → Int32) (fd15 : Nat → Int64) (w15 : va_W) (w16 : va_W) (ed17 : Nat → Int64) (w17 : va_W), Bs = [w0, w1, w2, w3, w4, w5, w6, w7, w8, w9, w10, w11, w12, w13, w14, w15, w16, w17] ∧ ok_main ad cB cI cJ cZ ax r0 pl0 sp0 rd0 fi0 se0 fa0 cr0 ra0 pa0 nw0 w0 ∧ ok_plan ad cB cI cJ cZ pl0 r1 fc1 dc1 rk1 w1 ∧ ok_plan ad cB cI cJ cZ sp0 r2 fc2 dc2 rk2 w2 ∧ ok_read ad cB cI cJ cZ rd0 r3 tk3 rp3 w3 ∧ ok_tok ad cB cI cJ cZ tk3 r4 tx4 w4 ∧ ok_frame ad cB cI cJ cZ fi0 r5 pl5 w5 ∧ ok_frame ad cB cI cJ cZ se0 r6 pl6 w6 ∧ ok_fall ad cB cI cJ cZ fa0 r7 wc7 w7 ∧ ok_crowd ad cB cI cJ cZ cQ cr0 r8 st8 w8 ∧ ok_rank ad cB cI cJ cZ ra0 r9 w9 ∧ ok_pap ad cB cI cJ cZ pa0 r10 pc10 w10 ∧ ok_mo ad cB cI cJ cZ am r11 sz11 fk11 en11 tk11 nm11 bk11 rb11 dw11 rl11 sd11 jm11 bd11 gm11 ti11 w11 ∧ ok_gU ad cB cI cJ cZ r11 tq12 w12 ∧ ok_gH ad cB cI cJ cZ r11 fl13 dr13 rd13 rf13 rh13 w13 ∧ ok_gL ad cB cI cJ cZ r11 fr14 ho14 pe14 he14 iz14 wd14 dn14 w14 ∧ ok_gJ ad cB cI cJ cZ r11 jr15 jf15 fd15 w15 ∧ ok_gP ad cB cI cJ cZ r11 w16 ∧ ok_gE ad cB cI cJ cZ r11 ed17 w17 ∧ HF bk11 fl13 dr13 rd13 rf13 ∧ nw0.toInt = ti11.toInt
set_option maxHeartbeats 4000000 in
set_option maxRecDepth 100000 in
theorem c_X10_later_nvr (l : Launch) (dC : Nat → ClassId) (dI : Nat → Nat → Nat) (ad : Nat → Nat) (tN : Nat) (fN : Nat → Int64) (cB cI cJ cZ cQ : ClassId) (h0 : Nat) (p1 : Int32) (r0 : Nat → Nat) (pl0 : Nat) (sp0 : Nat) (rd0 : Nat) (fi0 : Nat) (se0 : Nat) (fa0 : Nat) (cr0 : Nat) (ra0 : Nat) (pa0 : Nat) (nw0 : Int32) (w0 : va_W) (o0 : ok_main ad cB cI cJ cZ h0 r0 pl0 sp0 rd0 fi0 se0 fa0 cr0 ra0 pa0 nw0 w0) (sz : Nat) : Met l yX10_later wsX10_later ({ frames := 0, cells := 0, slots := 0, locals := 0 } : Room) (va_Pc [.ref h0, .int p1] (fun U => U.heap.size = sz ∧ va_P (dC, dI) vwCl (List.flatten [w0]) U.heap ∧ va_K (dC, dI) vwCl [(cB, .byte), (cI, .int), (cJ, .long), (cZ, .boolean), (cQ, .array .long)] U ∧ va_D (fun _ => True) (List.flatten [w0]) ∧ ex_Y ad tN fN (va_A (List.flatten [w0]) sz) U)) (va_Qi (fun (r : Int32) (u : Int32) => -1 ≤ r.toInt ∧ r.toInt ≤ 101000 ∧ ((r.toInt = -1 ∧ u.toInt = nw0.toInt ∧ (p1.toInt < 0 ∨ 1000 < p1.toInt ∨ 100000 < nw0.toInt + p1.toInt)) ∨ (r.toInt = u.toInt ∧ u.toInt = nw0.toInt + p1.toInt ∧ 0 ≤ p1.toInt ∧ p1.toInt ≤ 1000 ∧ nw0.toInt + p1.toInt ≤ 100000))) (fun (u : Int32) (t : State) => ∃ (nw09 : Int32) (w09 : va_W), u = nw09 ∧ ok_main ad cB cI cJ cZ h0 r0 pl0 sp0 rd0 fi0 se0 fa0 cr0 ra0 pa0 nw09 w09 ∧ va_P (dC, dI) vwCl (List.flatten [w09]) t.heap ∧ va_D (va_A (List.flatten [w0]) sz) (List.flatten [w09])) (va_A (List.flatten [w0]) sz)) 0 0 (va_A (List.flatten [w0]) sz) := by
  refine Met.ofW (cc := cX10_later) (maxL := 2) (ret := (some .int)) (by decide) rfl ?_
  intro p e s m args below meth c s₁ B hml hv
  obtain ⟨rfl, hsz, hP, hK, hD0, hE⟩ := hv
  have hx := B.exec
  have hb := B.bytes
  have hr := B.returns
  have hts := atoms_spec (ws := wsX10_later) B.pre
  have hown : s.vm.findClass RX10 = some m.cls := findClass_of_methodNamed B.named
  have hlocks := B.notSynchronized
  subst hsz
  have hD := hD0.self (sz := s.heap.size)
  generalize hAe : va_A (List.flatten [w0]) s.heap.size = A at hD hE ⊢
  have hA : ∀ q : Nat, s.heap.size ≤ q → A q := fun q h => by rw [← hAe]; exact Or.inr h
  have hS : va_S A s.heap s.heap [] := va_S.rf
  have hl := lv_entry ([.ref h0, .int p1]) (n := 2) (Nat.le_of_ble_eq_true rfl)
  rw [lg_entry_eq]
  generalize (lg_sl ([.ref h0, .int p1]) ++ List.replicate (2 - (lg_sl ([.ref h0, .int p1])).length) Slot.unset).toArray = ls at hl ⊢
  have hl : lv_has ls 2 [(0, .ref h0), (1, .int p1)] := hl
  clear hAe
  refine W_name (fun Q0 hQ0 => ?_)
  obtain ⟨hx_1, hx_2⟩ := okx_main o0
  refine lv_iload_n hx hb dX10_later_0 rfl (lv_at hl 1 rfl) ?_
  refine lv_if_lt (tgt := 23) hx hb dX10_later_1 (by decide) (fun c_3 => ?_) (fun c_3 => ?_)
  · have c_3 : p1.toInt < 0 := f_lt rfl tI_0 c_3
    refine lv_iconst (v := (-1)) hx hb dX10_later_23 (by decide) ?_
    rw [hQ0]
    exact W.iret (v := (-1)) hx hb hr (fun t ht hW => ⟨⟨(-1), nw0, rfl, ⟨by decide, by decide, (by have := tI_m1; omega)⟩, ⟨nw0, _, rfl, o0, by rw [ht]; exact hP, hD⟩⟩, hS.F ht⟩) hS.2.2 dX10_later_24
  · have c_3 : 0 ≤ p1.toInt := f_nlt rfl tI_0 c_3
    refine lv_iload_n hx hb dX10_later_4 rfl (lv_at hl 1 rfl) ?_
    refine lv_sipush (v := 1000) hx hb dX10_later_5 (by decide) ?_
    refine lv_icmp_gt (tgt := 23) hx hb dX10_later_8 (by decide) (fun c_4 => ?_) (fun c_4 => ?_)
    · have c_4 : 1000 < p1.toInt := f_lt tI_1000 rfl c_4
      refine lv_iconst (v := (-1)) hx hb dX10_later_23 (by decide) ?_
      rw [hQ0]
      exact W.iret (v := (-1)) hx hb hr (fun t ht hW => ⟨⟨(-1), nw0, rfl, ⟨by decide, by decide, (by have := tI_m1; omega)⟩, ⟨nw0, _, rfl, o0, by rw [ht]; exact hP, hD⟩⟩, hS.F ht⟩) hS.2.2 dX10_later_24
    · have c_4 : p1.toInt ≤ 1000 := f_nlt tI_1000 rfl c_4
      refine lv_aload_n hx hb dX10_later_11 rfl (lv_at hl 0 rfl) ?_
      obtain ⟨f_5, tp_6, f_9, mv_10, rfl, hl_7, hh_8, hl_11, hh_12⟩ := o0
      refine va_get (D := (dC, dI)) (ci := 8) (v := .int nw0) (C := RX10) (T := TX10) (N := 14) hx hb hts iw_X10_later_X10 hown hK hP 0 rfl rfl 13 (by decide) (hts (.fieldLink RX10 79 "HungFloors" "now" "I") (by decide +kernel)) (fun _ h9 => h9) rfl dX10_later_12 ?_
      refine lv_iload_n hx hb dX10_later_15 rfl (lv_at hl 1 rfl) ?_
      refine lv_iadd hx hb dX10_later_16 ?_
      refine lv_topi (fun z_13 ez_13 => ?_)
      have hz_13 : z_13.toInt = nw0.toInt + p1.toInt := by rw [ez_13]; exact t_add rfl rfl (by omega) (by omega)
      have fz_13 : z_13 = (nw0 + p1) := by rw [ez_13]
      refine lv_ldcw hx hb hown (hts (.constant RX10 275 (100000)) (by decide +kernel)) dX10_later_17 ?_
      refine lv_icmp_le (tgt := 25) hx hb dX10_later_20 (by decide) (fun c_14 => ?_) (fun c_14 => ?_)
      · have c_14 : z_13.toInt ≤ 100000 := f_le rfl tI_100000 c_14
        refine lv_aload_n hx hb dX10_later_25 rfl (lv_at hl 0 rfl) ?_
        refine lv_dup hx hb dX10_later_26 rfl ?_
        refine va_get (D := (dC, dI)) (ci := 8) (v := .int nw0) (C := RX10) (T := TX10) (N := 14) hx hb hts iw_X10_later_X10 hown hK hP 0 rfl rfl 13 (by decide) (hts (.fieldLink RX10 79 "HungFloors" "now" "I") (by decide +kernel)) (fun _ h9 => h9) rfl dX10_later_27 ?_
        refine lv_iload_n hx hb dX10_later_30 rfl (lv_at hl 1 rfl) ?_
        refine lv_iadd hx hb dX10_later_31 ?_
        refine lv_topi (fun z_15 ez_15 => ?_)
        have hz_15 : z_15.toInt = nw0.toInt + p1.toInt := by rw [ez_15]; exact t_add rfl rfl (by omega) (by omega)
        have fz_15 : z_15 = (nw0 + p1) := by rw [ez_15]
        refine va_put (D := (dC, dI)) (ci := 8) (v := .int z_15) (ty := .int) (C := RX10) (T := TX10) (N := 14) hx hb hts iw_X10_later_X10 tyX10 tyX10_ok nmX10 hown hK hP hD hS 0 rfl rfl 13 (by decide) (hts (.fieldLink RX10 79 "HungFloors" "now" "I") (by decide +kernel)) (fun _ h9 => h9) rfl (by decide +kernel) rfl rfl (Nat.le_of_ble_eq_true rfl) dX10_later_32 (fun H locs hP hD hS => ?_)
        have hP : va_P (dC, dI) vwCl (List.flatten [[(h0, .inr (8, [.ref (r0 0), .int tp_6, .ref pl0, .ref sp0, .ref rd0, .ref (r0 1), .int mv_10, .ref fi0, .ref se0, .ref fa0, .ref cr0, .ref ra0, .ref pa0, .int z_15])), (r0 0, .inl (cB, 1600, .inl f_5)), (r0 1, .inl (cI, 6, .inl f_9))]]) H := hP
        have hD : va_D A (List.flatten [[(h0, .inr (8, [.ref (r0 0), .int tp_6, .ref pl0, .ref sp0, .ref rd0, .ref (r0 1), .int mv_10, .ref fi0, .ref se0, .ref fa0, .ref cr0, .ref ra0, .ref pa0, .int z_15])), (r0 0, .inl (cB, 1600, .inl f_5)), (r0 1, .inl (cI, 6, .inl f_9))]]) := hD
        refine lv_aload_n hx hb dX10_later_35 rfl (lv_at hl 0 rfl) ?_
        refine va_get (D := (dC, dI)) (ci := 8) (v := .int z_15) (C := RX10) (T := TX10) (N := 14) hx hb hts iw_X10_later_X10 hown hK hP 0 rfl rfl 13 (by decide) (hts (.fieldLink RX10 79 "HungFloors" "now" "I") (by decide +kernel)) (fun _ h9 => h9) rfl dX10_later_36 ?_
        rw [hQ0]
        exact W.iret (v := z_15) hx hb hr (fun t ht hW => ⟨⟨z_15, z_15, rfl, ⟨by omega, by omega, (by omega)⟩, ⟨z_15, _, rfl, ⟨f_5, tp_6, f_9, mv_10, rfl, by omega, by omega, by omega, by omega⟩, by rw [ht]; exact hP, hD⟩⟩, hS.F ht⟩) hS.2.2 dX10_later_39
      · have c_14 : 100000 < z_13.toInt := f_nle rfl tI_100000 c_14
        refine lv_iconst (v := (-1)) hx hb dX10_later_23 (by decide) ?_
        rw [hQ0]
        exact W.iret (v := (-1)) hx hb hr (fun t ht hW => ⟨⟨(-1), nw0, rfl, ⟨by decide, by decide, (by have := tI_m1; omega)⟩, ⟨nw0, _, rfl, ⟨f_5, tp_6, f_9, mv_10, rfl, by omega, by omega, by omega, by omega⟩, by rw [ht]; exact hP, hD⟩⟩, hS.F ht⟩) hS.2.2 dX10_later_24
set_option maxHeartbeats 4000000 in
set_option maxRecDepth 100000 in
theorem c_X11_later_nvr (l : Launch) (dC : Nat → ClassId) (dI : Nat → Nat → Nat) (ad : Nat → Nat) (tN : Nat) (fN : Nat → Int64) (cB cI cJ cZ : ClassId) (h0 : Nat) (p1 : Int32) (r0 : Nat → Nat) (sz0 : Int32) (fk0 : Int32) (en0 : Int32) (tk0 : Int32) (nm0 : Int64) (bk0 : Int32) (rb0 : Int32) (dw0 : Int32) (rl0 : Int32) (sd0 : Int64) (jm0 : Int32) (bd0 : Int64) (gm0 : Int32) (ti0 : Int32) (w0 : va_W) (o0 : ok_mo ad cB cI cJ cZ h0 r0 sz0 fk0 en0 tk0 nm0 bk0 rb0 dw0 rl0 sd0 jm0 bd0 gm0 ti0 w0) (sz : Nat) : Met l yX11_later wsX11_later ({ frames := 1, cells := 0, slots := 0, locals := 22 } : Room) (va_Pc [.ref h0, .int p1] (fun U => U.heap.size = sz ∧ va_P (dC, dI) vwCl (List.flatten [w0]) U.heap ∧ va_K (dC, dI) vwCl [(cB, .byte), (cI, .int), (cJ, .long), (cZ, .boolean)] U ∧ va_D (fun _ => True) (List.flatten [w0]) ∧ ex_Y ad tN fN (va_A (List.flatten [w0]) sz) U)) (va_Qi (fun (r : Int32) (u : Int32) => -1 ≤ r.toInt ∧ r.toInt ≤ 101000 ∧ ((r.toInt = -1 ∧ u.toInt = ti0.toInt ∧ (p1.toInt < 0 ∨ 1000 < p1.toInt ∨ 100000 < ti0.toInt + p1.toInt)) ∨ (r.toInt = u.toInt ∧ u.toInt = ti0.toInt + p1.toInt ∧ 0 ≤ p1.toInt ∧ p1.toInt ≤ 1000 ∧ ti0.toInt + p1.toInt ≤ 100000))) (fun (u : Int32) (t : State) => ∃ (ti09 : Int32) (w09 : va_W), u = ti09 ∧ ok_mo ad cB cI cJ cZ h0 r0 sz0 fk0 en0 tk0 nm0 bk0 rb0 dw0 rl0 sd0 jm0 bd0 gm0 ti09 w09 ∧ va_P (dC, dI) vwCl (List.flatten [w09]) t.heap ∧ va_D (va_A (List.flatten [w0]) sz) (List.flatten [w09])) (va_A (List.flatten [w0]) sz)) 0 0 (va_A (List.flatten [w0]) sz) := by
  refine Met.ofW (cc := cX11_later) (maxL := 2) (ret := (some .int)) (by decide) rfl ?_
  intro p e s m args below meth c s₁ B hml hv
  obtain ⟨rfl, hsz, hP, hK, hD0, hE⟩ := hv
  have hx := B.exec
  have hb := B.bytes
  have hr := B.returns
  have hts := atoms_spec (ws := wsX11_later) B.pre
  have hown : s.vm.findClass RX11 = some m.cls := findClass_of_methodNamed B.named
  have hlocks := B.notSynchronized
  subst hsz
  have hD := hD0.self (sz := s.heap.size)
  generalize hAe : va_A (List.flatten [w0]) s.heap.size = A at hD hE ⊢
  have hA : ∀ q : Nat, s.heap.size ≤ q → A q := fun q h => by rw [← hAe]; exact Or.inr h
  have hS : va_S A s.heap s.heap [] := va_S.rf
  have hl := lv_entry ([.ref h0, .int p1]) (n := 2) (Nat.le_of_ble_eq_true rfl)
  rw [lg_entry_eq]
  generalize (lg_sl ([.ref h0, .int p1]) ++ List.replicate (2 - (lg_sl ([.ref h0, .int p1])).length) Slot.unset).toArray = ls at hl ⊢
  have hl : lv_has ls 2 [(0, .ref h0), (1, .int p1)] := hl
  clear hAe
  refine W_name (fun Q0 hQ0 => ?_)
  obtain ⟨hx_1, hx_2, hx_3, hx_4, hx_5, hx_6, hx_7, hx_8, hx_9, hx_10, hx_11, hx_12, hx_13, hx_14, hx_15, hx_16, hx_17, hx_18, hx_19, hx_20, hx_21, hx_22⟩ := okx_mo o0
  refine lv_iload_n hx hb dX11_later_0 rfl (lv_at hl 1 rfl) ?_
  refine lv_iconst (v := 0) hx hb dX11_later_1 (by decide) ?_
  refine lv_sipush (v := 1000) hx hb dX11_later_2 (by decide) ?_
  have hpm : List.Perm ([w0] : List va_W) (([] : List va_W) ++ ([w0] : List va_W)) := pm_n 1 [0] (by decide) rfl rfl
  have hPc := bk_P hpm hP
  have hDc := bk_D hpm hD
  have hFc := bk_F hpm hD hS hA
  refine va_calli (va_runS (As := [.int p1, .int 0, .int 1000]) (rest := []) ⟨hx, hb, hml, hown, hts⟩ (c_X11_isIn l dC dI ad tN fN cB cI cJ cZ p1 0 1000 s.heap.size) (va_cwS 3 hts gX11_later_X11_isIn rfl rfl rfl (by decide +kernel) ⟨(Nat.le_of_ble_eq_true rfl), (Nat.le_of_ble_eq_true rfl)⟩) ⟨fun a U g mk q => by obtain ⟨q0, q1, qP, qK, qD, qE⟩ := q; exact ⟨q0, q1, qP, va_K.moved (u := U) (U := U.calling g mk a) (Vm.Alike.refl U.vm) qK, qD, ey_blind qE⟩, fun U hU hW => ⟨rfl, by rw [hU], by rw [hU]; exact hPc, va_K.moved hW.alike hK, hDc.weaken (fun _ _ _ _ => trivial), ey_call hE hS hFc hU hW⟩⟩ rfl rfl hl.1 rfl (lv_room (Nat.le_of_ble_eq_true rfl)) dX11_later_5 ⟨(Nat.le_of_ble_eq_true rfl), (Nat.le_of_ble_eq_true rfl)⟩) hS (fun q _ h => hFc q h) hFc (fun r_23 u t H locs ht hvm hw hB hz1 hk1 hS => ?_)
  obtain ⟨hP1, hD1⟩ := hB
  rw [ht] at hP1
  obtain ⟨hP2, hD2⟩ := bk_join hpm hP hD hk1 hFc (Cs1 := []) hP1 hD1
  have hpm2 : List.Perm (([] : List va_W) ++ ([w0] : List va_W)) ([w0] : List va_W) := pm_n 1 [0] (by decide) rfl rfl
  have hP3 := bk_reP hpm2 hP2
  have hD3 := bk_reD hpm2 hD2
  clear hP hD hP1 hD1 hP2 hD2 hpm hpm2 hPc hDc hFc hk1
  have hP := hP3
  have hD := hD3
  clear hP3 hD3
  rcases hw with ⟨rfl, c_24⟩ | ⟨rfl, c_25, c_26⟩ | ⟨rfl, c_27, c_28⟩
  · have := tI_0
    have := tI_1000
    refine lv_if_eq (tgt := 23) hx hb dX11_later_8 (by decide) (fun c_29 => ?_) (fun c_29 => absurd c_29 (by decide))
    refine lv_iconst (v := (-1)) hx hb dX11_later_23 (by decide) ?_
    rw [hQ0]
    exact W.iret (v := (-1)) hx hb hr (fun t ht hW => ⟨⟨(-1), ti0, rfl, ⟨by decide, by decide, (by have := tI_m1; omega)⟩, ⟨ti0, _, rfl, o0, by rw [ht]; exact hP, hD⟩⟩, hS.F ht⟩) hS.2.2 dX11_later_24
  · have := tI_0
    have := tI_1000
    refine lv_if_eq (tgt := 23) hx hb dX11_later_8 (by decide) (fun c_30 => ?_) (fun c_30 => absurd c_30 (by decide))
    refine lv_iconst (v := (-1)) hx hb dX11_later_23 (by decide) ?_
    rw [hQ0]
    exact W.iret (v := (-1)) hx hb hr (fun t ht hW => ⟨⟨(-1), ti0, rfl, ⟨by decide, by decide, (by have := tI_m1; omega)⟩, ⟨ti0, _, rfl, o0, by rw [ht]; exact hP, hD⟩⟩, hS.F ht⟩) hS.2.2 dX11_later_24
  · have := tI_0
    have := tI_1000
    refine lv_if_eq (tgt := 23) hx hb dX11_later_8 (by decide) (fun c_31 => absurd c_31 (by decide)) (fun c_31 => ?_)
    refine lv_aload_n hx hb dX11_later_11 rfl (lv_at hl 0 rfl) ?_
    obtain ⟨tp_32, fp_35, aq_36, nu_39, mv_40, mg_41, su_42, bu_43, fa_44, pp_45, so_48, rfl, hl_33, hh_34, -, -, -, -, hl_37, hh_38, -, -, -, -, -, -, -, -, -, -, -, -, -, -, -, -, hl_46, hh_47, -, -, hl_49, hh_50⟩ := o0
    refine va_get (D := (dC, dI)) (ci := 9) (v := .int ti0) (C := RX11) (T := TX11) (N := 69) hx hb hts iw_X11_later_X11 hown hK hP 0 rfl rfl 61 (by decide) (hts (.fieldLink RX11 402 "HungFloorsModel" "time" "I") (by decide +kernel)) (fun _ h9 => h9) rfl dX11_later_12 ?_
    refine lv_iload_n hx hb dX11_later_15 rfl (lv_at hl 1 rfl) ?_
    refine lv_iadd hx hb dX11_later_16 ?_
    refine lv_topi (fun z_51 ez_51 => ?_)
    have hz_51 : z_51.toInt = ti0.toInt + p1.toInt := by rw [ez_51]; exact t_add rfl rfl (by omega) (by omega)
    have fz_51 : z_51 = (ti0 + p1) := by rw [ez_51]
    refine lv_ldcw hx hb hown (hts (.constant RX11 405 (100000)) (by decide +kernel)) dX11_later_17 ?_
    refine lv_icmp_le (tgt := 25) hx hb dX11_later_20 (by decide) (fun c_52 => ?_) (fun c_52 => ?_)
    · have c_52 : z_51.toInt ≤ 100000 := f_le rfl tI_100000 c_52
      refine lv_aload_n hx hb dX11_later_25 rfl (lv_at hl 0 rfl) ?_
      refine lv_dup hx hb dX11_later_26 rfl ?_
      refine va_get (D := (dC, dI)) (ci := 9) (v := .int ti0) (C := RX11) (T := TX11) (N := 69) hx hb hts iw_X11_later_X11 hown hK hP 0 rfl rfl 61 (by decide) (hts (.fieldLink RX11 402 "HungFloorsModel" "time" "I") (by decide +kernel)) (fun _ h9 => h9) rfl dX11_later_27 ?_
      refine lv_iload_n hx hb dX11_later_30 rfl (lv_at hl 1 rfl) ?_
      refine lv_iadd hx hb dX11_later_31 ?_
      refine lv_topi (fun z_53 ez_53 => ?_)
      have hz_53 : z_53.toInt = ti0.toInt + p1.toInt := by rw [ez_53]; exact t_add rfl rfl (by omega) (by omega)
      have fz_53 : z_53 = (ti0 + p1) := by rw [ez_53]
      refine va_put (D := (dC, dI)) (ci := 9) (v := .int z_53) (ty := .int) (C := RX11) (T := TX11) (N := 69) hx hb hts iw_X11_later_X11 tyX11 tyX11_ok nmX11 hown hK hP hD hS 0 rfl rfl 61 (by decide) (hts (.fieldLink RX11 402 "HungFloorsModel" "time" "I") (by decide +kernel)) (fun _ h9 => h9) rfl (by decide +kernel) rfl rfl (Nat.le_of_ble_eq_true rfl) dX11_later_32 (fun H locs hP hD hS => ?_)
      have hP : va_P (dC, dI) vwCl (List.flatten [[(h0, .inr (9, (.ref (r0 0) :: .ref (r0 1) :: .int tp_32 :: .int sz0 :: .int fk0 :: .int fp_35 :: .int aq_36 :: .int en0 :: .int tk0 :: .int nu_39 :: .long nm0 :: .ref (r0 2) :: .ref (r0 3) :: .ref (r0 4) :: .ref (r0 5) :: .ref (r0 6) :: .ref (r0 7) :: .ref (r0 8) :: .ref (r0 9) :: .ref (r0 10) :: .ref (r0 11) :: .ref (r0 12) :: .ref (r0 13) :: .int bk0 :: .int rb0 :: .ref (r0 14) :: .int mv_40 :: .ref (r0 15) :: .ref (r0 16) :: .ref (r0 17) :: .ref (r0 18) :: .ref (r0 19) :: .ref (r0 20) :: .ref (r0 21) :: .ref (r0 22) :: .ref (r0 23) :: .int dw0 :: .int rl0 :: .int mg_41 :: .long su_42 :: .long sd0 :: .ref (r0 24) :: .ref (r0 25) :: .int jm0 :: .long bu_43 :: .long bd0 :: .ref (r0 26) :: .int gm0 :: .int fa_44 :: .ref (r0 27) :: .ref (r0 28) :: .ref (r0 29) :: .ref (r0 30) :: .ref (r0 31) :: .ref (r0 32) :: .ref (r0 33) :: .ref (r0 34) :: .ref (r0 35) :: .ref (r0 36) :: .ref (r0 37) :: .int pp_45 :: .int z_53 :: .ref (r0 38) :: .ref (r0 39) :: .ref (r0 40) :: .int so_48 :: .ref (r0 41) :: .ref (r0 42) :: .ref (r0 43) :: [])))]]) H := hP
      have hD : va_D A (List.flatten [[(h0, .inr (9, (.ref (r0 0) :: .ref (r0 1) :: .int tp_32 :: .int sz0 :: .int fk0 :: .int fp_35 :: .int aq_36 :: .int en0 :: .int tk0 :: .int nu_39 :: .long nm0 :: .ref (r0 2) :: .ref (r0 3) :: .ref (r0 4) :: .ref (r0 5) :: .ref (r0 6) :: .ref (r0 7) :: .ref (r0 8) :: .ref (r0 9) :: .ref (r0 10) :: .ref (r0 11) :: .ref (r0 12) :: .ref (r0 13) :: .int bk0 :: .int rb0 :: .ref (r0 14) :: .int mv_40 :: .ref (r0 15) :: .ref (r0 16) :: .ref (r0 17) :: .ref (r0 18) :: .ref (r0 19) :: .ref (r0 20) :: .ref (r0 21) :: .ref (r0 22) :: .ref (r0 23) :: .int dw0 :: .int rl0 :: .int mg_41 :: .long su_42 :: .long sd0 :: .ref (r0 24) :: .ref (r0 25) :: .int jm0 :: .long bu_43 :: .long bd0 :: .ref (r0 26) :: .int gm0 :: .int fa_44 :: .ref (r0 27) :: .ref (r0 28) :: .ref (r0 29) :: .ref (r0 30) :: .ref (r0 31) :: .ref (r0 32) :: .ref (r0 33) :: .ref (r0 34) :: .ref (r0 35) :: .ref (r0 36) :: .ref (r0 37) :: .int pp_45 :: .int z_53 :: .ref (r0 38) :: .ref (r0 39) :: .ref (r0 40) :: .int so_48 :: .ref (r0 41) :: .ref (r0 42) :: .ref (r0 43) :: [])))]]) := hD
      refine lv_aload_n hx hb dX11_later_35 rfl (lv_at hl 0 rfl) ?_
      refine va_get (D := (dC, dI)) (ci := 9) (v := .int z_53) (C := RX11) (T := TX11) (N := 69) hx hb hts iw_X11_later_X11 hown hK hP 0 rfl rfl 61 (by decide) (hts (.fieldLink RX11 402 "HungFloorsModel" "time" "I") (by decide +kernel)) (fun _ h9 => h9) rfl dX11_later_36 ?_
      rw [hQ0]
      exact W.iret (v := z_53) hx hb hr (fun t ht hW => ⟨⟨z_53, z_53, rfl, ⟨by omega, by omega, (by omega)⟩, ⟨z_53, _, rfl, ⟨tp_32, fp_35, aq_36, nu_39, mv_40, mg_41, su_42, bu_43, fa_44, pp_45, so_48, rfl, by first | exact hl_33 | omega, by first | exact hh_34 | omega, by first | exact hx_1 | omega, by first | exact hx_2 | omega, by first | exact hx_3 | omega, by first | exact hx_4 | omega, by first | exact hl_37 | omega, by first | exact hh_38 | omega, by first | exact hx_5 | omega, by first | exact hx_6 | omega, by first | exact hx_7 | omega, by first | exact hx_8 | omega, by first | exact hx_9 | omega, by first | exact hx_10 | omega, by first | exact hx_11 | omega, by first | exact hx_12 | omega, by first | exact hx_13 | omega, by first | exact hx_14 | omega, by first | exact hx_15 | omega, by first | exact hx_16 | omega, by first | exact hx_17 | omega, by first | exact hx_18 | omega, by first | exact hx_19 | omega, by first | exact hx_20 | omega, by first | exact hl_46 | omega, by first | exact hh_47 | omega, by omega, by omega, by first | exact hl_49 | omega, by first | exact hh_50 | omega⟩, by rw [ht]; exact hP, hD⟩⟩, hS.F ht⟩) hS.2.2 dX11_later_39
    · have c_52 : 100000 < z_51.toInt := f_nle rfl tI_100000 c_52
      refine lv_iconst (v := (-1)) hx hb dX11_later_23 (by decide) ?_
      rw [hQ0]
      exact W.iret (v := (-1)) hx hb hr (fun t ht hW => ⟨⟨(-1), ti0, rfl, ⟨by decide, by decide, (by have := tI_m1; omega)⟩, ⟨ti0, _, rfl, ⟨tp_32, fp_35, aq_36, nu_39, mv_40, mg_41, su_42, bu_43, fa_44, pp_45, so_48, rfl, by first | exact hl_33 | omega, by first | exact hh_34 | omega, by first | exact hx_1 | omega, by first | exact hx_2 | omega, by first | exact hx_3 | omega, by first | exact hx_4 | omega, by first | exact hl_37 | omega, by first | exact hh_38 | omega, by first | exact hx_5 | omega, by first | exact hx_6 | omega, by first | exact hx_7 | omega, by first | exact hx_8 | omega, by first | exact hx_9 | omega, by first | exact hx_10 | omega, by first | exact hx_11 | omega, by first | exact hx_12 | omega, by first | exact hx_13 | omega, by first | exact hx_14 | omega, by first | exact hx_15 | omega, by first | exact hx_16 | omega, by first | exact hx_17 | omega, by first | exact hx_18 | omega, by first | exact hx_19 | omega, by first | exact hx_20 | omega, by first | exact hl_46 | omega, by first | exact hh_47 | omega, by first | exact hx_21 | omega, by first | exact hx_22 | omega, by first | exact hl_49 | omega, by first | exact hh_50 | omega⟩, by rw [ht]; exact hP, hD⟩⟩, hS.F ht⟩) hS.2.2 dX11_later_24
