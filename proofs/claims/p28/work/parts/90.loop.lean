set_option maxHeartbeats 4000000 in
set_option maxRecDepth 100000 in
theorem law_loop {p : Program} {e : Env} {s : State} {m : MethodId} {below : List Frame} {meth : Method} {c : Code} (l : Launch) {dC : Nat → ClassId} {dI : Nat → Nat → Nat} {ad : Nat → Nat} {tN : Nat} {fN : Nat → Int64} {cB cI cJ cZ cQ : ClassId} {ax am b L : Nat} {xs : Nat → Int32} (C0 : lw_At p s m meth c b L xs) (hL : L ≤ 3072) (hA : ∀ q : Nat, s.heap.size ≤ q → (fun q : Nat => s.heap.size ≤ q) q) (hbA : ¬ (fun q : Nat => s.heap.size ≤ q) b) (hE : ex_Y ad tN fN (fun q : Nat => s.heap.size ≤ q) s) (hK : va_K (dC, dI) vwCl [(cB, .byte), (cI, .int), (cJ, .long), (cZ, .boolean), (cQ, .array .long)] s) : ∀ (n : Nat) (ix : Int32), 0 ≤ ix.toInt → (3072 - ix.toInt).toNat < n → ∀ {Bs : List va_W} {H : Heap} {locs : List Loc}, va_P (dC, dI) vwCl (List.flatten Bs) H → va_D (fun q : Nat => s.heap.size ≤ q) (List.flatten Bs) → va_S (fun q : Nat => s.heap.size ≤ q) s.heap H locs → ∀ {ls : Array Slot}, lv_has ls 4 [(3, .int ix), (2, .ref am), (1, .ref ax), (0, .ref b)] → LW ad cB cI cJ cZ cQ ax am Bs → W p l e room_1 s m #[Value.ref b] below meth c H locs 162 9883 (lw_Z below #[Value.ref b] s) (F0 m 18 ls []) := by
  intro n
  induction n with
  | zero => intro ix hi0 hm; exact absurd hm (Nat.not_lt_zero _)
  | succ n ih =>
    intro ix hi0 hm Bs H locs hP hD hS ls hl hW
    obtain ⟨hx, hb, hr, hml, hown, hts0, hX, hbl, hlocks, hgv⟩ := id C0
    refine lv_iload_n hx hb dL_law_18 rfl (lv_at hl 0 rfl) ?_
    refine lv_aload_n hx hb dL_law_19 rfl (lv_at hl 3 rfl) ?_
    refine va_slen hx hb hX hbl hbA hS dL_law_20 ?_
    refine lv_bipush (v := 6) hx hb dL_law_21 (by decide) ?_
    refine lv_isub hx hb dL_law_23 ?_
    refine lv_topi (fun z0 ez0 => ?_)
    have hLn : (Int32.ofNat L).toInt = (L : Int) := nI_toInt (n := L) (by omega)
    have hz0 : z0.toInt = (L : Int) - 6 := by rw [ez0]; exact t_sub hLn tI_6 (by omega) (by omega)
    refine lv_icmp_gt (tgt := 1227) hx hb dL_law_24 (by decide) (fun c1 => ?_) (fun c1 => ?_)
    · refine lv_iconst (v := 1) hx hb dL_law_1227 (by decide) ?_
      refine va_forget (fun q h => hS.2.2 q h) ?_
      refine W.widen (k := 600000) (n := 7302250) (by omega) (by omega) ?_
      exact lw_ret hx hb hr hlocks dL_law_1228
    · have c1 : ix.toInt ≤ z0.toInt := f_nlt rfl rfl c1
      have kk : ∀ (Bs : List va_W) (H : Heap) (locs : List Loc) (ls : Array Slot), va_P (dC, dI) vwCl (List.flatten Bs) H → va_D (fun q : Nat => s.heap.size ≤ q) (List.flatten Bs) → va_S (fun q : Nat => s.heap.size ≤ q) s.heap H locs → lv_has ls 4 [(3, .int ix), (2, .ref am), (1, .ref ax), (0, .ref b)] → LW ad cB cI cJ cZ cQ ax am Bs → W p l e room_1 s m #[Value.ref b] below meth c H locs 162 9883 (lw_Z below #[Value.ref b] s) (F0 m 1221 ls []) := by
        intro Bs H locs ls hP hD hS hl hW
        obtain ⟨z1, ez1⟩ : ∃ y : Int32, y = ix + 6 := ⟨_, rfl⟩
        have hz1 : z1.toInt = ix.toInt + 6 := by rw [ez1]; exact t_add rfl tI_6 (by omega) (by omega)
        refine lv_iinc (v := z1) (lv' := [(3, .int z1), (2, .ref am), (1, .ref ax), (0, .ref b)]) hx hb dL_law_1221 hl (k := 0) rfl (by rw [ez1]; rfl) (by decide) rfl (fun ls hl => ?_)
        refine lv_goto (tgt := 18) hx hb dL_law_1224 (by decide) ?_
        exact ih z1 (by omega) (by omega) hP hD hS hl hW
      refine lv_aload_n hx hb dL_law_27 rfl (lv_at hl 3 rfl) ?_
      refine lv_iload_n hx hb dL_law_28 rfl (lv_at hl 0 rfl) ?_
      refine va_sld hx hb hX hbl hbA hS (v_in rfl (by omega) (by omega)) dL_law_29 ?_
      refine lv_bipush (v := 31) hx hb dL_law_30 (by decide) ?_
      refine lv_iand hx hb dL_law_32 ?_
      refine lv_topi (fun z ez => ?_)
      obtain ⟨j, hj, ej⟩ := pk_andE (xs ix.toNatClampNeg) (m := 31) 5 (by decide)
      have ez : z = nI j := ez.trans ej
      have h6 : ix.toInt + 6 ≤ (L : Int) := by omega
      have hW2 := hW
      obtain ⟨r0, pl0, sp0, rd0, fi0, se0, fa0, cr0, ra0, pa0, nw0, w0, r1, fc1, dc1, rk1, w1, r2, fc2, dc2, rk2, w2, r3, tk3, rp3, w3, r4, tx4, w4, r5, pl5, w5, r6, pl6, w6, r7, wc7, w7, r8, st8, w8, r9, w9, r10, pc10, w10, r11, sz11, fk11, en11, tk11, nm11, bk11, rb11, dw11, rl11, sd11, jm11, bd11, gm11, ti11, w11, tq12, w12, fl13, dr13, rd13, rf13, rh13, w13, fr14, ho14, pe14, he14, iz14, wd14, dn14, w14, jr15, jf15, fd15, w15, w16, ed17, w17, rfl, o0, o1, o2, o3, o4, o5, o6, o7, o8, o9, o10, o11, o12, o13, o14, o15, o16, o17, hHF, hx0⟩ := hW
      match j, hj, ez with
      | 0, _, ez =>
        subst ez
        refine lv_tableIn (off := 139) (tgt := 172) hx hb dL_law_33 (by decide) (by decide) (by decide) (by decide) ?_
        exact law_0 l C0 hL hA hbA hE hK hi0 h6 o0 o1 o2 o3 o4 o5 o6 o7 o8 o9 o10 o11 o12 o13 o14 o15 o16 o17 hHF hx0 hP hD hS hl kk
      | 1, _, ez =>
        subst ez
        refine lv_tableIn (off := 202) (tgt := 235) hx hb dL_law_33 (by decide) (by decide) (by decide) (by decide) ?_
        exact law_1 l C0 hL hA hbA hE hK hi0 h6 o0 o1 o2 o3 o4 o5 o6 o7 o8 o9 o10 o11 o12 o13 o14 o15 o16 o17 hHF hx0 hP hD hS hl kk
      | 2, _, ez =>
        subst ez
        refine lv_tableIn (off := 225) (tgt := 258) hx hb dL_law_33 (by decide) (by decide) (by decide) (by decide) ?_
        exact law_2 l C0 hL hA hbA hE hK hi0 h6 o0 o1 o2 o3 o4 o5 o6 o7 o8 o9 o10 o11 o12 o13 o14 o15 o16 o17 hHF hx0 hP hD hS hl kk
      | 3, _, ez =>
        subst ez
        refine lv_tableIn (off := 238) (tgt := 271) hx hb dL_law_33 (by decide) (by decide) (by decide) (by decide) ?_
        exact law_3 l C0 hL hA hbA hE hK hi0 h6 o0 o1 o2 o3 o4 o5 o6 o7 o8 o9 o10 o11 o12 o13 o14 o15 o16 o17 hHF hx0 hP hD hS hl kk
      | 4, _, ez =>
        subst ez
        refine lv_tableIn (off := 261) (tgt := 294) hx hb dL_law_33 (by decide) (by decide) (by decide) (by decide) ?_
        exact law_4 l C0 hL hA hbA hE hK hi0 h6 o0 o1 o2 o3 o4 o5 o6 o7 o8 o9 o10 o11 o12 o13 o14 o15 o16 o17 hHF hx0 hP hD hS hl kk
      | 5, _, ez =>
        subst ez
        refine lv_tableIn (off := 294) (tgt := 327) hx hb dL_law_33 (by decide) (by decide) (by decide) (by decide) ?_
        exact law_5 l C0 hL hA hbA hE hK hi0 h6 o0 o1 o2 o3 o4 o5 o6 o7 o8 o9 o10 o11 o12 o13 o14 o15 o16 o17 hHF hx0 hP hD hS hl kk
      | 6, _, ez =>
        subst ez
        refine lv_tableIn (off := 317) (tgt := 350) hx hb dL_law_33 (by decide) (by decide) (by decide) (by decide) ?_
        exact law_6 l C0 hL hA hbA hE hK hi0 h6 o0 o1 o2 o3 o4 o5 o6 o7 o8 o9 o10 o11 o12 o13 o14 o15 o16 o17 hHF hx0 hP hD hS hl kk
      | 7, _, ez =>
        subst ez
        refine lv_tableIn (off := 340) (tgt := 373) hx hb dL_law_33 (by decide) (by decide) (by decide) (by decide) ?_
        exact law_7 l C0 hL hA hbA hE hK hi0 h6 o0 o1 o2 o3 o4 o5 o6 o7 o8 o9 o10 o11 o12 o13 o14 o15 o16 o17 hHF hx0 hP hD hS hl kk
      | 8, _, ez =>
        subst ez
        refine lv_tableIn (off := 383) (tgt := 416) hx hb dL_law_33 (by decide) (by decide) (by decide) (by decide) ?_
        exact law_8 l C0 hL hA hbA hE hK hi0 h6 o0 o1 o2 o3 o4 o5 o6 o7 o8 o9 o10 o11 o12 o13 o14 o15 o16 o17 hHF hx0 hP hD hS hl kk
      | 9, _, ez =>
        subst ez
        refine lv_tableIn (off := 426) (tgt := 459) hx hb dL_law_33 (by decide) (by decide) (by decide) (by decide) ?_
        exact law_9 l C0 hL hA hbA hE hK hi0 h6 o0 o1 o2 o3 o4 o5 o6 o7 o8 o9 o10 o11 o12 o13 o14 o15 o16 o17 hHF hx0 hP hD hS hl kk
      | 10, _, ez =>
        subst ez
        refine lv_tableIn (off := 469) (tgt := 502) hx hb dL_law_33 (by decide) (by decide) (by decide) (by decide) ?_
        exact law_10 l C0 hL hA hbA hE hK hi0 h6 o0 o1 o2 o3 o4 o5 o6 o7 o8 o9 o10 o11 o12 o13 o14 o15 o16 o17 hHF hx0 hP hD hS hl kk
      | 11, _, ez =>
        subst ez
        refine lv_tableIn (off := 492) (tgt := 525) hx hb dL_law_33 (by decide) (by decide) (by decide) (by decide) ?_
        exact law_11 l C0 hL hA hbA hE hK hi0 h6 o0 o1 o2 o3 o4 o5 o6 o7 o8 o9 o10 o11 o12 o13 o14 o15 o16 o17 hHF hx0 hP hD hS hl kk
      | 12, _, ez =>
        subst ez
        refine lv_tableIn (off := 515) (tgt := 548) hx hb dL_law_33 (by decide) (by decide) (by decide) (by decide) ?_
        exact law_12 l C0 hL hA hbA hE hK hi0 h6 o0 o1 o2 o3 o4 o5 o6 o7 o8 o9 o10 o11 o12 o13 o14 o15 o16 o17 hHF hx0 hP hD hS hl kk
      | 13, _, ez =>
        subst ez
        refine lv_tableIn (off := 548) (tgt := 581) hx hb dL_law_33 (by decide) (by decide) (by decide) (by decide) ?_
        exact law_13 l C0 hL hA hbA hE hK hi0 h6 o0 o1 o2 o3 o4 o5 o6 o7 o8 o9 o10 o11 o12 o13 o14 o15 o16 o17 hHF hx0 hP hD hS hl kk
      | 14, _, ez =>
        subst ez
        refine lv_tableIn (off := 581) (tgt := 614) hx hb dL_law_33 (by decide) (by decide) (by decide) (by decide) ?_
        exact law_14 l C0 hL hA hbA hE hK hi0 h6 o0 o1 o2 o3 o4 o5 o6 o7 o8 o9 o10 o11 o12 o13 o14 o15 o16 o17 hHF hx0 hP hD hS hl kk
      | 15, _, ez =>
        subst ez
        refine lv_tableIn (off := 624) (tgt := 657) hx hb dL_law_33 (by decide) (by decide) (by decide) (by decide) ?_
        exact law_15 l C0 hL hA hbA hE hK hi0 h6 o0 o1 o2 o3 o4 o5 o6 o7 o8 o9 o10 o11 o12 o13 o14 o15 o16 o17 hHF hx0 hP hD hS hl kk
      | 16, _, ez =>
        subst ez
        refine lv_tableIn (off := 637) (tgt := 670) hx hb dL_law_33 (by decide) (by decide) (by decide) (by decide) ?_
        exact law_16 l C0 hL hA hbA hE hK hi0 h6 o0 o1 o2 o3 o4 o5 o6 o7 o8 o9 o10 o11 o12 o13 o14 o15 o16 o17 hHF hx0 hP hD hS hl kk
      | 17, _, ez =>
        subst ez
        refine lv_tableIn (off := 670) (tgt := 703) hx hb dL_law_33 (by decide) (by decide) (by decide) (by decide) ?_
        exact law_17 l C0 hL hA hbA hE hK hi0 h6 o0 o1 o2 o3 o4 o5 o6 o7 o8 o9 o10 o11 o12 o13 o14 o15 o16 o17 hHF hx0 hP hD hS hl kk
      | 18, _, ez =>
        subst ez
        refine lv_tableIn (off := 703) (tgt := 736) hx hb dL_law_33 (by decide) (by decide) (by decide) (by decide) ?_
        exact law_18 l C0 hL hA hbA hE hK hi0 h6 o0 o1 o2 o3 o4 o5 o6 o7 o8 o9 o10 o11 o12 o13 o14 o15 o16 o17 hHF hx0 hP hD hS hl kk
      | 19, _, ez =>
        subst ez
        refine lv_tableIn (off := 756) (tgt := 789) hx hb dL_law_33 (by decide) (by decide) (by decide) (by decide) ?_
        exact law_19 l C0 hL hA hbA hE hK hi0 h6 o0 o1 o2 o3 o4 o5 o6 o7 o8 o9 o10 o11 o12 o13 o14 o15 o16 o17 hHF hx0 hP hD hS hl kk
      | 20, _, ez =>
        subst ez
        refine lv_tableIn (off := 789) (tgt := 822) hx hb dL_law_33 (by decide) (by decide) (by decide) (by decide) ?_
        exact law_20 l C0 hL hA hbA hE hK hi0 h6 o0 o1 o2 o3 o4 o5 o6 o7 o8 o9 o10 o11 o12 o13 o14 o15 o16 o17 hHF hx0 hP hD hS hl kk
      | 21, _, ez =>
        subst ez
        refine lv_tableIn (off := 812) (tgt := 845) hx hb dL_law_33 (by decide) (by decide) (by decide) (by decide) ?_
        exact law_21 l C0 hL hA hbA hE hK hi0 h6 o0 o1 o2 o3 o4 o5 o6 o7 o8 o9 o10 o11 o12 o13 o14 o15 o16 o17 hHF hx0 hP hD hS hl kk
      | 22, _, ez =>
        subst ez
        refine lv_tableIn (off := 845) (tgt := 878) hx hb dL_law_33 (by decide) (by decide) (by decide) (by decide) ?_
        exact law_22 l C0 hL hA hbA hE hK hi0 h6 o0 o1 o2 o3 o4 o5 o6 o7 o8 o9 o10 o11 o12 o13 o14 o15 o16 o17 hHF hx0 hP hD hS hl kk
      | 23, _, ez =>
        subst ez
        refine lv_tableIn (off := 888) (tgt := 921) hx hb dL_law_33 (by decide) (by decide) (by decide) (by decide) ?_
        exact law_23 l C0 hL hA hbA hE hK hi0 h6 o0 o1 o2 o3 o4 o5 o6 o7 o8 o9 o10 o11 o12 o13 o14 o15 o16 o17 hHF hx0 hP hD hS hl kk
      | 24, _, ez =>
        subst ez
        refine lv_tableIn (off := 921) (tgt := 954) hx hb dL_law_33 (by decide) (by decide) (by decide) (by decide) ?_
        exact law_24 l C0 hL hA hbA hE hK hi0 h6 o0 o1 o2 o3 o4 o5 o6 o7 o8 o9 o10 o11 o12 o13 o14 o15 o16 o17 hHF hx0 hP hD hS hl kk
      | 25, _, ez =>
        subst ez
        refine lv_tableIn (off := 1000) (tgt := 1033) hx hb dL_law_33 (by decide) (by decide) (by decide) (by decide) ?_
        exact law_25 l C0 hL hA hbA hE hK hi0 h6 o0 o1 o2 o3 o4 o5 o6 o7 o8 o9 o10 o11 o12 o13 o14 o15 o16 o17 hHF hx0 hP hD hS hl kk
      | 26, _, ez =>
        subst ez
        refine lv_tableIn (off := 1023) (tgt := 1056) hx hb dL_law_33 (by decide) (by decide) (by decide) (by decide) ?_
        exact law_26 l C0 hL hA hbA hE hK hi0 h6 o0 o1 o2 o3 o4 o5 o6 o7 o8 o9 o10 o11 o12 o13 o14 o15 o16 o17 hHF hx0 hP hD hS hl kk
      | 27, _, ez =>
        subst ez
        refine lv_tableIn (off := 1046) (tgt := 1079) hx hb dL_law_33 (by decide) (by decide) (by decide) (by decide) ?_
        exact law_27 l C0 hL hA hbA hE hK hi0 h6 o0 o1 o2 o3 o4 o5 o6 o7 o8 o9 o10 o11 o12 o13 o14 o15 o16 o17 hHF hx0 hP hD hS hl kk
      | 28, _, ez =>
        subst ez
        refine lv_tableIn (off := 1099) (tgt := 1132) hx hb dL_law_33 (by decide) (by decide) (by decide) (by decide) ?_
        exact law_28 l C0 hL hA hbA hE hK hi0 h6 o0 o1 o2 o3 o4 o5 o6 o7 o8 o9 o10 o11 o12 o13 o14 o15 o16 o17 hHF hx0 hP hD hS hl kk
      | 29, _, ez =>
        subst ez
        refine lv_tableIn (off := 1142) (tgt := 1175) hx hb dL_law_33 (by decide) (by decide) (by decide) (by decide) ?_
        exact law_29 l C0 hL hA hbA hE hK hi0 h6 o0 o1 o2 o3 o4 o5 o6 o7 o8 o9 o10 o11 o12 o13 o14 o15 o16 o17 hHF hx0 hP hD hS hl kk
      | 30, _, ez =>
        subst ez
        refine lv_tableIn (off := 1165) (tgt := 1198) hx hb dL_law_33 (by decide) (by decide) (by decide) (by decide) ?_
        exact law_30 l C0 hL hA hbA hE hK hi0 h6 o0 o1 o2 o3 o4 o5 o6 o7 o8 o9 o10 o11 o12 o13 o14 o15 o16 o17 hHF hx0 hP hD hS hl kk
      | 31, _, ez =>
        subst ez
        refine lv_tableOut (tgt := 1221) hx hb dL_law_33 (by decide) (by decide) ?_
        exact kk _ _ _ _ hP hD hS hl hW2
      | j + 32, h, _ => exact absurd h (by omega)
