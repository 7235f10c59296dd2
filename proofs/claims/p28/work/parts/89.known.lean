theorem ex_startY {s : State} {b : Nat} (hts : ∀ w ∈ lw_tbl, w.before #[Value.ref b] s = true) (hgv : (Jvm.Cond.and given_1 narrow_1).before #[Value.ref b] s = true) : ∃ (ad : Nat → Nat) (tN : Nat) (fN : Nat → Int64), ex_Y ad tN fN (fun q : Nat => s.heap.size ≤ q) s ∧ ex_N s := by
  have hA : ∀ a : Nat, a < s.heap.size → ¬ (fun q : Nat => s.heap.size ≤ q) a := fun a h => Nat.not_le.mpr h
  have hini := hts (.initialized "HungFloors$Kind") (List.mem_of_getElem? (i := 85) (by decide +kernel))
  have hl0 := hts (.laysStatic "HungFloors$Kind" "WORD" "LHungFloors$Kind;") (List.mem_of_getElem? (i := 502) (by decide +kernel))
  have hx0 : (Cond.exactly (.static "HungFloors$Kind" "WORD" "LHungFloors$Kind;") "HungFloors$Kind").before #[Value.ref b] s = true := flat_of_before _ hgv _ (by decide +kernel)
  have hl1 := hts (.laysStatic "HungFloors$Kind" "NUMBER" "LHungFloors$Kind;") (List.mem_of_getElem? (i := 510) (by decide +kernel))
  have hx1 : (Cond.exactly (.static "HungFloors$Kind" "NUMBER" "LHungFloors$Kind;") "HungFloors$Kind").before #[Value.ref b] s = true := flat_of_before _ hgv _ (by decide +kernel)
  have hl2 := hts (.laysStatic "HungFloors$Kind" "SIGN" "LHungFloors$Kind;") (List.mem_of_getElem? (i := 512) (by decide +kernel))
  have hx2 : (Cond.exactly (.static "HungFloors$Kind" "SIGN" "LHungFloors$Kind;") "HungFloors$Kind").before #[Value.ref b] s = true := flat_of_before _ hgv _ (by decide +kernel)
  have hl3 := hts (.laysStatic "HungFloors$Kind" "END" "LHungFloors$Kind;") (List.mem_of_getElem? (i := 177) (by decide +kernel))
  have hx3 : (Cond.exactly (.static "HungFloors$Kind" "END" "LHungFloors$Kind;") "HungFloors$Kind").before #[Value.ref b] s = true := flat_of_before _ hgv _ (by decide +kernel)
  have hl4 := hts (.laysStatic "HungFloors$Kind" "NOTHING" "LHungFloors$Kind;") (List.mem_of_getElem? (i := 504) (by decide +kernel))
  have hx4 : (Cond.exactly (.static "HungFloors$Kind" "NOTHING" "LHungFloors$Kind;") "HungFloors$Kind").before #[Value.ref b] s = true := flat_of_before _ hgv _ (by decide +kernel)
  have hn30 : (Cond.not (.eq (.static "HungFloors$Kind" "END" "LHungFloors$Kind;") (.static "HungFloors$Kind" "WORD" "LHungFloors$Kind;"))).before #[Value.ref b] s = true := flat_of_before _ hgv _ (by decide +kernel)
  have hn34 : (Cond.not (.eq (.static "HungFloors$Kind" "END" "LHungFloors$Kind;") (.static "HungFloors$Kind" "NOTHING" "LHungFloors$Kind;"))).before #[Value.ref b] s = true := flat_of_before _ hgv _ (by decide +kernel)
  have hn04 : (Cond.not (.eq (.static "HungFloors$Kind" "WORD" "LHungFloors$Kind;") (.static "HungFloors$Kind" "NOTHING" "LHungFloors$Kind;"))).before #[Value.ref b] s = true := flat_of_before _ hgv _ (by decide +kernel)
  have hn31 : (Cond.not (.eq (.static "HungFloors$Kind" "END" "LHungFloors$Kind;") (.static "HungFloors$Kind" "NUMBER" "LHungFloors$Kind;"))).before #[Value.ref b] s = true := flat_of_before _ hgv _ (by decide +kernel)
  have hn01 : (Cond.not (.eq (.static "HungFloors$Kind" "WORD" "LHungFloors$Kind;") (.static "HungFloors$Kind" "NUMBER" "LHungFloors$Kind;"))).before #[Value.ref b] s = true := flat_of_before _ hgv _ (by decide +kernel)
  have hn41 : (Cond.not (.eq (.static "HungFloors$Kind" "NOTHING" "LHungFloors$Kind;") (.static "HungFloors$Kind" "NUMBER" "LHungFloors$Kind;"))).before #[Value.ref b] s = true := flat_of_before _ hgv _ (by decide +kernel)
  have hn32 : (Cond.not (.eq (.static "HungFloors$Kind" "END" "LHungFloors$Kind;") (.static "HungFloors$Kind" "SIGN" "LHungFloors$Kind;"))).before #[Value.ref b] s = true := flat_of_before _ hgv _ (by decide +kernel)
  have hn02 : (Cond.not (.eq (.static "HungFloors$Kind" "WORD" "LHungFloors$Kind;") (.static "HungFloors$Kind" "SIGN" "LHungFloors$Kind;"))).before #[Value.ref b] s = true := flat_of_before _ hgv _ (by decide +kernel)
  have hn42 : (Cond.not (.eq (.static "HungFloors$Kind" "NOTHING" "LHungFloors$Kind;") (.static "HungFloors$Kind" "SIGN" "LHungFloors$Kind;"))).before #[Value.ref b] s = true := flat_of_before _ hgv _ (by decide +kernel)
  have hn12 : (Cond.not (.eq (.static "HungFloors$Kind" "NUMBER" "LHungFloors$Kind;") (.static "HungFloors$Kind" "SIGN" "LHungFloors$Kind;"))).before #[Value.ref b] s = true := flat_of_before _ hgv _ (by decide +kernel)
  obtain ⟨ad, hEn⟩ := va_Enof (args := #[Value.ref b]) (s := s) (E := "HungFloors$Kind") (d := "LHungFloors$Kind;") (nm := ["WORD", "NUMBER", "SIGN", "END", "NOTHING"]) (F := []) (A := fun q : Nat => s.heap.size ≤ q)
    (fun i hi => match i, hi with | 0, _ => hl0 | 1, _ => hl1 | 2, _ => hl2 | 3, _ => hl3 | 4, _ => hl4 | i + 5, h => absurd h (by show ¬ i + 5 < 5; omega)) hini
    (fun i hi => match i, hi with | 0, _ => hx0 | 1, _ => hx1 | 2, _ => hx2 | 3, _ => hx3 | 4, _ => hx4 | i + 5, h => absurd h (by show ¬ i + 5 < 5; omega))
    (fun q hq => absurd hq List.not_mem_nil)
    (fun i j hi hj hne => match i, j, hi, hj, hne with | 0, 0, _, _, hne => absurd rfl hne | 0, 1, _, _, _ => Or.inl hn01 | 0, 2, _, _, _ => Or.inl hn02 | 0, 3, _, _, _ => Or.inr hn30 | 0, 4, _, _, _ => Or.inl hn04 | 1, 0, _, _, _ => Or.inr hn01 | 1, 1, _, _, hne => absurd rfl hne | 1, 2, _, _, _ => Or.inl hn12 | 1, 3, _, _, _ => Or.inr hn31 | 1, 4, _, _, _ => Or.inr hn41 | 2, 0, _, _, _ => Or.inr hn02 | 2, 1, _, _, _ => Or.inr hn12 | 2, 2, _, _, hne => absurd rfl hne | 2, 3, _, _, _ => Or.inr hn32 | 2, 4, _, _, _ => Or.inr hn42 | 3, 0, _, _, _ => Or.inl hn30 | 3, 1, _, _, _ => Or.inl hn31 | 3, 2, _, _, _ => Or.inl hn32 | 3, 3, _, _, hne => absurd rfl hne | 3, 4, _, _, _ => Or.inl hn34 | 4, 0, _, _, _ => Or.inr hn04 | 4, 1, _, _, _ => Or.inl hn41 | 4, 2, _, _, _ => Or.inl hn42 | 4, 3, _, _, _ => Or.inr hn34 | 4, 4, _, _, hne => absurd rfl hne  | i + 5, _, h, _, _ => absurd h (by show ¬ i + 5 < 5; omega) | _, j + 5, _, h, _ => absurd h (by show ¬ j + 5 < 5; omega)) hA
  have ha : (Cond.arrayOf (.static "HungFloors$HouseReader" "NO_NAMES" "[J") .long).before #[Value.ref b] s = true := flat_of_before _ hgv _ (by decide +kernel)
  have hn : (Cond.eq (.length (.static "HungFloors$HouseReader" "NO_NAMES" "[J")) (.int 9)).before #[Value.ref b] s = true := flat_of_before _ hgv _ (by decide +kernel)
  have he0 : (Cond.eq (.elem (.static "HungFloors$HouseReader" "NO_NAMES" "[J") (.int 0)) (.long 439905906546)).before #[Value.ref b] s = true := flat_of_before _ hgv _ (by decide +kernel)
  have he1 : (Cond.eq (.elem (.static "HungFloors$HouseReader" "NO_NAMES" "[J") (.int 1)) (.long 131277443786867)).before #[Value.ref b] s = true := flat_of_before _ hgv _ (by decide +kernel)
  have he2 : (Cond.eq (.elem (.static "HungFloors$HouseReader" "NO_NAMES" "[J") (.int 2)) (.long 6513006)).before #[Value.ref b] s = true := flat_of_before _ hgv _ (by decide +kernel)
  have he3 : (Cond.eq (.elem (.static "HungFloors$HouseReader" "NO_NAMES" "[J") (.int 3)) (.long 126943688025203)).before #[Value.ref b] s = true := flat_of_before _ hgv _ (by decide +kernel)
  have he4 : (Cond.eq (.elem (.static "HungFloors$HouseReader" "NO_NAMES" "[J") (.int 4)) (.long 28273260611858023)).before #[Value.ref b] s = true := flat_of_before _ hgv _ (by decide +kernel)
  have he5 : (Cond.eq (.elem (.static "HungFloors$HouseReader" "NO_NAMES" "[J") (.int 5)) (.long 7499620)).before #[Value.ref b] s = true := flat_of_before _ hgv _ (by decide +kernel)
  have he6 : (Cond.eq (.elem (.static "HungFloors$HouseReader" "NO_NAMES" "[J") (.int 6)) (.long 1718775661)).before #[Value.ref b] s = true := flat_of_before _ hgv _ (by decide +kernel)
  have he7 : (Cond.eq (.elem (.static "HungFloors$HouseReader" "NO_NAMES" "[J") (.int 7)) (.long 1919905638)).before #[Value.ref b] s = true := flat_of_before _ hgv _ (by decide +kernel)
  have he8 : (Cond.eq (.elem (.static "HungFloors$HouseReader" "NO_NAMES" "[J") (.int 8)) (.long 25209)).before #[Value.ref b] s = true := flat_of_before _ hgv _ (by decide +kernel)
  obtain ⟨tN, hv, hT⟩ := va_Tof (args := #[Value.ref b]) (s := s) (tm := (.static "HungFloors$HouseReader" "NO_NAMES" "[J")) (ty := .long) (N := 9) (f := fun j => .long ((fun j => List.getD ([439905906546, 131277443786867, 6513006, 126943688025203, 28273260611858023, 7499620, 1718775661, 1919905638, 25209] : List Int64) j 0) j)) (A := fun q : Nat => s.heap.size ≤ q) (by decide) ha (va_eqv hn rfl) (fun j hj => match j, hj with | 0, _ => va_eqv he0 rfl | 1, _ => va_eqv he1 rfl | 2, _ => va_eqv he2 rfl | 3, _ => va_eqv he3 rfl | 4, _ => va_eqv he4 rfl | 5, _ => va_eqv he5 rfl | 6, _ => va_eqv he6 rfl | 7, _ => va_eqv he7 rfl | 8, _ => va_eqv he8 rfl | j + 9, h => absurd h (by omega)) hA
  have hZ := va_Zof (hts (.laysStatic "HungFloors$HouseReader" "NO_NAMES" "[J") (List.mem_of_getElem? (i := 549) (by decide +kernel))) (hts (.initialized "HungFloors$HouseReader") (List.mem_of_getElem? (i := 82) (by decide +kernel))) hv hA
  have hAO : va_AOA .long s := hts (.arrayOver (.array .long)) (List.mem_of_getElem? (i := 321) (by decide +kernel))
  have hN : ex_N s := ⟨va_Nw.of rfl (hts (.methodLinkNest RX10 19 yX7_init "HungFloors") (List.mem_of_getElem? (i := 106) (by decide +kernel))), va_Nw.of rfl (hts (.methodLinkNest RX10 29 yX4_init "HungFloors") (List.mem_of_getElem? (i := 166) (by decide +kernel))), va_Nw.of rfl (hts (.methodLinkNest RX10 43 yX3_init "HungFloors") (List.mem_of_getElem? (i := 223) (by decide +kernel))), va_Nw.of rfl (hts (.methodLinkNest RX10 53 yX1_init "HungFloors") (List.mem_of_getElem? (i := 297) (by decide +kernel))), va_Nw.of rfl (hts (.methodLinkNest RX10 60 yX0_init "HungFloors") (List.mem_of_getElem? (i := 316) (by decide +kernel))), va_Nw.of rfl (hts (.methodLinkNest RX10 67 yX8_init "HungFloors") (List.mem_of_getElem? (i := 354) (by decide +kernel))), va_Nw.of rfl (hts (.methodLinkNest RX10 74 yX6_init "HungFloors") (List.mem_of_getElem? (i := 373) (by decide +kernel))), va_Nw.of rfl (hts (.methodLinkNest RX2 11 yX10_isPart "HungFloors") (List.mem_of_getElem? (i := 756) (by decide +kernel))), va_Nw.of rfl (hts (.methodLinkNest RX3 11 yX7_init "HungFloors") (List.mem_of_getElem? (i := 228) (by decide +kernel))), va_Nw.of rfl (hts (.methodLinkNest RX4 11 yX9_init "HungFloors") (List.mem_of_getElem? (i := 172) (by decide +kernel))), va_Nw.of rfl (hts (.methodLinkNest RX4 20 yX7_init "HungFloors") (List.mem_of_getElem? (i := 205) (by decide +kernel))), hAO⟩
  exact ⟨ad, tN, (fun j => List.getD ([439905906546, 131277443786867, 6513006, 126943688025203, 28273260611858023, 7499620, 1718775661, 1919905638, 25209] : List Int64) j 0), ⟨hN.2.2.2.2.2.2.2.1, hEn, hZ, hT⟩, hN⟩
theorem ex_known {s : State} {b : Nat} (hts : ∀ w ∈ lw_tbl, w.before #[Value.ref b] s = true) (hAO : va_AOA .long s) : ∃ (dC : Nat → ClassId) (dI : Nat → Nat → Nat) (cB cI cJ cZ cQ : ClassId), va_K (dC, dI) vwCl [(cB, .byte), (cI, .int), (cJ, .long), (cZ, .boolean), (cQ, .array .long)] s := by
  obtain ⟨c0, iS0, hKn0⟩ := u_known (C := RX0) (T := TX0) (N := 9) (n := 9) hts inX0 (hts (.instantiable RX0 9) (List.mem_of_getElem? (i := 315) (by decide +kernel)))
  obtain ⟨c1, iS1, hKn1⟩ := u_known (C := RX1) (T := TX1) (N := 3) (n := 3) hts inX1 (hts (.instantiable RX1 3) (List.mem_of_getElem? (i := 296) (by decide +kernel)))
  obtain ⟨c2, iS2, hKn2⟩ := u_known (C := RX3) (T := TX3) (N := 16) (n := 16) hts inX3 (hts (.instantiable RX3 16) (List.mem_of_getElem? (i := 222) (by decide +kernel)))
  obtain ⟨c3, iS3, hKn3⟩ := u_known (C := RX4) (T := TX4) (N := 4) (n := 4) hts inX4 (hts (.instantiable RX4 4) (List.mem_of_getElem? (i := 165) (by decide +kernel)))
  obtain ⟨c4, iS4, hKn4⟩ := u_known (C := RX6) (T := TX6) (N := 12) (n := 12) hts inX6 (hts (.instantiable RX6 12) (List.mem_of_getElem? (i := 372) (by decide +kernel)))
  obtain ⟨c5, iS5, hKn5⟩ := u_known (C := RX7) (T := TX7) (N := 12) (n := 12) hts inX7 (hts (.instantiable RX7 12) (List.mem_of_getElem? (i := 105) (by decide +kernel)))
  obtain ⟨c6, iS6, hKn6⟩ := u_known (C := RX8) (T := TX8) (N := 4) (n := 4) hts inX8 (hts (.instantiable RX8 4) (List.mem_of_getElem? (i := 353) (by decide +kernel)))
  obtain ⟨c7, iS7, hKn7⟩ := u_known (C := RX9) (T := TX9) (N := 7) (n := 7) hts inX9 (hts (.instantiable RX9 7) (List.mem_of_getElem? (i := 171) (by decide +kernel)))
  obtain ⟨c8, iS8, hKn8⟩ := u_known (C := RX10) (T := TX10) (N := 14) (n := 14) hts inX10 (hts (.instantiable RX10 14) (List.mem_of_getElem? (i := 97) (by decide +kernel)))
  obtain ⟨c9, iS9, hKn9⟩ := u_known (C := RX11) (T := TX11) (N := 69) (n := 69) hts inX11 (hts (.instantiable RX11 69) (List.mem_of_getElem? (i := 1054) (by decide +kernel)))
  obtain ⟨cB, kcB, qcB, fcB, gcB, hcB⟩ := Cond.arrayClass_spec (hts (.arrayClass .byte) (List.mem_of_getElem? (i := 161) (by decide +kernel)))
  obtain ⟨cI, kcI, qcI, fcI, gcI, hcI⟩ := Cond.arrayClass_spec (hts (.arrayClass .int) (List.mem_of_getElem? (i := 163) (by decide +kernel)))
  obtain ⟨cJ, kcJ, qcJ, fcJ, gcJ, hcJ⟩ := Cond.arrayClass_spec (hts (.arrayClass .long) (List.mem_of_getElem? (i := 162) (by decide +kernel)))
  obtain ⟨cZ, kcZ, qcZ, fcZ, gcZ, hcZ⟩ := Cond.arrayClass_spec (hts (.arrayClass .boolean) (List.mem_of_getElem? (i := 418) (by decide +kernel)))
  obtain ⟨comp, cQ, kQ, hcomp, -, hkQ, hkindQ, hnameQ⟩ := arrayOverA_spec hAO
  refine ⟨fun k => List.getD [c0, c1, c2, c3, c4, c5, c6, c7, c8, c9] k c0, fun k => List.getD [iS0, iS1, iS2, iS3, iS4, iS5, iS6, iS7, iS8, iS9] k iS0, cB, cI, cJ, cZ, cQ, ?_, ?_⟩
  · intro k q hq
    match k, hq with
    | 0, hq => cases hq; exact hKn0
    | 1, hq => cases hq; exact hKn1
    | 2, hq => cases hq; exact hKn2
    | 3, hq => cases hq; exact hKn3
    | 4, hq => cases hq; exact hKn4
    | 5, hq => cases hq; exact hKn5
    | 6, hq => cases hq; exact hKn6
    | 7, hq => cases hq; exact hKn7
    | 8, hq => cases hq; exact hKn8
    | 9, hq => cases hq; exact hKn9
    | k + 10, hq => simp [vwCl] at hq
  · intro k q hq
    match k, hq with
    | 0, hq => cases hq; exact ⟨fun n z => ⟨fun k h => (by cases h), kcB, gcB, qcB, hcB⟩, fcB⟩
    | 1, hq => cases hq; exact ⟨fun n z => ⟨fun k h => (by cases h), kcI, gcI, qcI, hcI⟩, fcI⟩
    | 2, hq => cases hq; exact ⟨fun n z => ⟨fun k h => (by cases h), kcJ, gcJ, qcJ, hcJ⟩, fcJ⟩
    | 3, hq => cases hq; exact ⟨fun n z => ⟨fun k h => (by cases h), kcZ, gcZ, qcZ, hcZ⟩, fcZ⟩
    | 4, hq => cases hq; exact ⟨fun n z => ⟨fun k h => (by cases h), kQ, hkQ, comp, hkindQ⟩, hnameQ⟩
    | k + 5, hq => simp at hq
