theorem lt6 : ∀ n, n < 6 → Int32.ofNat n - 6 < 0 := by decide
/-- what the walk takes along of the start: the nest mates' links, arrays over rows of longs, Kind.END -/
theorem ex_start {s : State} {b : Nat} (hts : ∀ w ∈ lw_tbl, w.before #[Value.ref b] s = true) (hgv : (Jvm.Cond.and given_1 narrow_1).before #[Value.ref b] s = true) : ∃ kE : Nat, ex_X kE (fun q : Nat => s.heap.size ≤ q) s := by
  have hex : (Cond.exactly (.static "HungFloors$Kind" "END" "LHungFloors$Kind;") "HungFloors$Kind").before #[Value.ref b] s = true := flat_of_before _ hgv _ (by decide +kernel)
  obtain ⟨a2, -, -, -, q1, -⟩ := Cond.exactly_spec (args := #[Value.ref b]) (first := s) (o := none) (s := s) (idx := []) (t := .static "HungFloors$Kind" "END" "LHungFloors$Kind;") (cls := "HungFloors$Kind") hex
  have hAO : va_AOA .long s := hts (.arrayOver (.array .long)) (List.mem_of_getElem? (i := 321) (by decide +kernel))
  exact ⟨a2, ⟨va_Nw.of rfl (hts (.methodLinkNest RX10 19 yX7_init "HungFloors") (List.mem_of_getElem? (i := 106) (by decide +kernel))), va_Nw.of rfl (hts (.methodLinkNest RX10 29 yX4_init "HungFloors") (List.mem_of_getElem? (i := 166) (by decide +kernel))), va_Nw.of rfl (hts (.methodLinkNest RX10 43 yX3_init "HungFloors") (List.mem_of_getElem? (i := 223) (by decide +kernel))), va_Nw.of rfl (hts (.methodLinkNest RX10 53 yX1_init "HungFloors") (List.mem_of_getElem? (i := 297) (by decide +kernel))), va_Nw.of rfl (hts (.methodLinkNest RX10 60 yX0_init "HungFloors") (List.mem_of_getElem? (i := 316) (by decide +kernel))), va_Nw.of rfl (hts (.methodLinkNest RX10 67 yX8_init "HungFloors") (List.mem_of_getElem? (i := 354) (by decide +kernel))), va_Nw.of rfl (hts (.methodLinkNest RX10 74 yX6_init "HungFloors") (List.mem_of_getElem? (i := 373) (by decide +kernel))), va_Nw.of rfl (hts (.methodLinkNest RX2 11 yX10_isPart "HungFloors") (List.mem_of_getElem? (i := 756) (by decide +kernel))), va_Nw.of rfl (hts (.methodLinkNest RX3 11 yX7_init "HungFloors") (List.mem_of_getElem? (i := 228) (by decide +kernel))), va_Nw.of rfl (hts (.methodLinkNest RX4 11 yX9_init "HungFloors") (List.mem_of_getElem? (i := 172) (by decide +kernel))), va_Nw.of rfl (hts (.methodLinkNest RX4 20 yX7_init "HungFloors") (List.mem_of_getElem? (i := 205) (by decide +kernel))), hAO⟩, va_Zof (hts (.laysStatic "HungFloors$Kind" "END" "LHungFloors$Kind;") (List.mem_of_getElem? (i := 177) (by decide +kernel))) (hts (.initialized "HungFloors$Kind") (List.mem_of_getElem? (i := 85) (by decide +kernel))) q1 (fun a h => Nat.not_le.mpr h)⟩
theorem ex_known {s : State} {b : Nat} (hts : ∀ w ∈ lw_tbl, w.before #[Value.ref b] s = true) : ∃ (dC : Nat → ClassId) (dI : Nat → Nat → Nat), va_K (dC, dI) vwCl [] s := by
  obtain ⟨c0, iS0, hKn0⟩ := u_known (C := RX0) (T := TX0) (N := 9) (n := 9) hts inX0 (hts (.instantiable RX0 9) (List.mem_of_getElem? (i := 315) (by decide +kernel)))
  obtain ⟨c1, iS1, hKn1⟩ := u_known (C := RX1) (T := TX1) (N := 3) (n := 3) hts inX1 (hts (.instantiable RX1 3) (List.mem_of_getElem? (i := 296) (by decide +kernel)))
  obtain ⟨c2, iS2, hKn2⟩ := u_known (C := RX3) (T := TX3) (N := 16) (n := 16) hts inX3 (hts (.instantiable RX3 16) (List.mem_of_getElem? (i := 222) (by decide +kernel)))
  obtain ⟨c3, iS3, hKn3⟩ := u_known (C := RX4) (T := TX4) (N := 4) (n := 4) hts inX4 (hts (.instantiable RX4 4) (List.mem_of_getElem? (i := 165) (by decide +kernel)))
  obtain ⟨c4, iS4, hKn4⟩ := u_known (C := RX6) (T := TX6) (N := 12) (n := 12) hts inX6 (hts (.instantiable RX6 12) (List.mem_of_getElem? (i := 372) (by decide +kernel)))
  obtain ⟨c5, iS5, hKn5⟩ := u_known (C := RX7) (T := TX7) (N := 12) (n := 12) hts inX7 (hts (.instantiable RX7 12) (List.mem_of_getElem? (i := 105) (by decide +kernel)))
  obtain ⟨c6, iS6, hKn6⟩ := u_known (C := RX8) (T := TX8) (N := 4) (n := 4) hts inX8 (hts (.instantiable RX8 4) (List.mem_of_getElem? (i := 353) (by decide +kernel)))
  obtain ⟨c7, iS7, hKn7⟩ := u_known (C := RX9) (T := TX9) (N := 7) (n := 7) hts inX9 (hts (.instantiable RX9 7) (List.mem_of_getElem? (i := 171) (by decide +kernel)))
  obtain ⟨c8, iS8, hKn8⟩ := u_known (C := RX10) (T := TX10) (N := 14) (n := 14) hts inX10 (hts (.instantiable RX10 14) (List.mem_of_getElem? (i := 97) (by decide +kernel)))
  obtain ⟨c9, iS9, hKn9⟩ := u_known (C := RX11) (T := TX11) (N := 69) (n := 69) hts inX11 (hts (.instantiable RX11 69) (List.mem_of_getElem? (i := 1054) (by decide +kernel)))
  refine ⟨fun k => List.getD [c0, c1, c2, c3, c4, c5, c6, c7, c8, c9] k c0, fun k => List.getD [iS0, iS1, iS2, iS3, iS4, iS5, iS6, iS7, iS8, iS9] k iS0, ?_, fun k q h => by simp at h⟩
  intro k q hq
  match k, hq with
  | 0, hq => cases hq; exact hKn0
  | 1, hq => cases hq; exact hKn1
  | 2, hq => cases hq; exact hKn2
  | 3, hq => cases hq; exact hKn3
  | 4, hq => cases hq; exact hKn4
  | 5, hq => cases hq; exact hKn5
  | 6, hq => cases hq; exact hKn6
  | 7, hq => cases hq; exact hKn7
  | 8, hq => cases hq; exact hKn8
  | 9, hq => cases hq; exact hKn9
  | k + 10, hq => simp [vwCl] at hq
