/-! worlds in blocks: a block is a list of cells (an object with its arrays); calls take some of the blocks -/
theorem bP_iff {D : va_G} {cl : List vw_C} {ws : va_W} {H : Heap} : va_P D cl ws H ↔ ∀ q ∈ ws, va_at D cl q H := by
  constructor
  · intro h q hq
    obtain ⟨k, hk⟩ := List.mem_iff_getElem?.mp hq
    exact h k q hk
  · intro h k q hk
    exact h q (List.mem_of_getElem? hk)
theorem bD_iff {A : Nat → Prop} {ws : va_W} : va_D A ws ↔ (ws.map Prod.fst).Nodup ∧ ∀ q ∈ ws, A q.1 := by
  constructor
  · intro h
    refine ⟨?_, fun q hq => ?_⟩
    · rw [List.Nodup, List.pairwise_iff_getElem]
      intro i j hi hj hij e
      rw [List.length_map] at hi hj
      rw [List.getElem_map, List.getElem_map] at e
      have := h.1 i j ws[i] ws[j] (List.getElem?_eq_getElem hi) (List.getElem?_eq_getElem hj) e
      omega
    · obtain ⟨k, hk⟩ := List.mem_iff_getElem?.mp hq
      exact h.2 k q hk
  · rintro ⟨h1, h2⟩
    rw [List.Nodup, List.pairwise_iff_getElem] at h1
    refine ⟨fun i j x y hi hj e => ?_, fun k q hk => h2 q (List.mem_of_getElem? hk)⟩
    obtain ⟨hil, hx⟩ := List.getElem?_eq_some_iff.mp hi
    obtain ⟨hjl, hy⟩ := List.getElem?_eq_some_iff.mp hj
    rcases Nat.lt_trichotomy i j with q | q | q
    · exact absurd (by rw [List.getElem_map, List.getElem_map, hx, hy]; exact e) (h1 i j (by simpa using hil) (by simpa using hjl) q)
    · exact q
    · exact absurd (by rw [List.getElem_map, List.getElem_map, hx, hy]; exact e.symm) (h1 j i (by simpa using hjl) (by simpa using hil) q)
theorem bk_P {D : va_G} {cl : List vw_C} {H : Heap} {Bs Cs Rs : List va_W} (hp : Bs.Perm (Cs ++ Rs)) (hP : va_P D cl Bs.flatten H) : va_P D cl Cs.flatten H := by
  refine bP_iff.mpr fun q hq => bP_iff.mp hP q (hp.flatten.mem_iff.mpr ?_)
  rw [List.flatten_append]
  exact List.mem_append_left _ hq
theorem bk_D2 {A : Nat → Prop} {Bs Cs Rs : List va_W} (hp : Bs.Perm (Cs ++ Rs)) (hD : va_D A Bs.flatten) : va_D A (Cs.flatten ++ Rs.flatten) := by
  obtain ⟨h1, h2⟩ := bD_iff.mp hD
  have hf : Bs.flatten.Perm (Cs.flatten ++ Rs.flatten) := by
    have := hp.flatten
    rwa [List.flatten_append] at this
  exact bD_iff.mpr ⟨(hf.map Prod.fst).nodup_iff.mp h1, fun q hq => h2 q (hf.mem_iff.mpr hq)⟩
theorem bk_D {A : Nat → Prop} {Bs Cs Rs : List va_W} (hp : Bs.Perm (Cs ++ Rs)) (hD : va_D A Bs.flatten) : va_D A Cs.flatten := by
  obtain ⟨h1, h2⟩ := bD_iff.mp (bk_D2 hp hD)
  rw [List.map_append] at h1
  exact bD_iff.mpr ⟨(List.nodup_append.mp h1).1, fun q hq => h2 q (List.mem_append_left _ hq)⟩
theorem bk_A {ws : va_W} {sz q : Nat} : va_A ws sz q ↔ (∃ x ∈ ws, x.1 = q) ∨ sz ≤ q := by
  unfold va_A
  constructor
  · rintro (⟨k, e, h⟩ | h)
    · exact Or.inl ⟨_, List.mem_of_getElem? h, rfl⟩
    · exact Or.inr h
  · rintro (⟨x, hx, rfl⟩ | h)
    · obtain ⟨k, hk⟩ := List.mem_iff_getElem?.mp hx
      exact Or.inl ⟨k, x.2, hk⟩
    · exact Or.inr h
theorem bk_F {A0 : Nat → Prop} {Bs Cs Rs : List va_W} {H0 H : Heap} {locs : List Loc} (hp : Bs.Perm (Cs ++ Rs)) (hD : va_D A0 Bs.flatten) (hS : va_S A0 H0 H locs) (hA : ∀ q, H0.size ≤ q → A0 q) : ∀ q, va_A Cs.flatten H.size q → A0 q := by
  intro q hq
  rcases bk_A.mp hq with ⟨x, hx, rfl⟩ | h
  · exact (bD_iff.mp (bk_D hp hD)).2 x hx
  · exact hA q (Nat.le_trans hS.1 h)
theorem bk_join {A0 : Nat → Prop} {D : va_G} {cl : List vw_C} {Bs Cs Rs Cs1 : List va_W} {H H1 : Heap} (hp : Bs.Perm (Cs ++ Rs)) (hP : va_P D cl Bs.flatten H) (hD : va_D A0 Bs.flatten)
    (hk : ∀ q : Nat, q < H.size → ¬ va_A Cs.flatten H.size q → H1[q]? = H[q]?) (hF : ∀ q, va_A Cs.flatten H.size q → A0 q) (hP1 : va_P D cl Cs1.flatten H1) (hD1 : va_D (va_A Cs.flatten H.size) Cs1.flatten) : va_P D cl (Cs1 ++ Rs).flatten H1 ∧ va_D A0 (Cs1 ++ Rs).flatten := by
  have hR : va_P D cl Rs.flatten H := bk_P (Rs := Cs) (hp.trans List.perm_append_comm) hP
  obtain ⟨d1, d2⟩ := bD_iff.mp (bk_D2 hp hD)
  rw [List.map_append] at d1
  obtain ⟨n1, n2, n3⟩ := List.nodup_append.mp d1
  obtain ⟨e1, e2⟩ := bD_iff.mp hD1
  have hlt : ∀ x ∈ Rs.flatten, x.1 < H.size := fun x hx => (bP_iff.mp hR x hx).lt
  have hne : ∀ x ∈ Rs.flatten, ¬ va_A Cs.flatten H.size x.1 := fun x hx ha => by
    rcases bk_A.mp ha with ⟨y, hy, e⟩ | h
    · exact n3 y.1 (List.mem_map.mpr ⟨y, hy, rfl⟩) x.1 (List.mem_map.mpr ⟨x, hx, rfl⟩) e
    · exact absurd h (Nat.not_le.mpr (hlt x hx))
  rw [List.flatten_append]
  refine ⟨bP_iff.mpr fun q hq => ?_, bD_iff.mpr ⟨?_, fun q hq => ?_⟩⟩
  · rcases List.mem_append.mp hq with h | h
    · exact bP_iff.mp hP1 q h
    · exact (bP_iff.mp hR q h).kept (hk q.1 (hlt q h) (hne q h))
  · rw [List.map_append]
    refine List.nodup_append.mpr ⟨e1, n2, ?_⟩
    intro a ha b hb e
    obtain ⟨x, hx, rfl⟩ := List.mem_map.mp ha
    obtain ⟨y, hy, rfl⟩ := List.mem_map.mp hb
    exact hne y hy (e ▸ e2 x hx)
  · rcases List.mem_append.mp hq with h | h
    · exact hF _ (e2 q h)
    · exact d2 q (List.mem_append_right _ h)
theorem bk_reP {D : va_G} {cl : List vw_C} {H : Heap} {Bs Ds : List va_W} (hp : Bs.Perm Ds) (hP : va_P D cl Bs.flatten H) : va_P D cl Ds.flatten H := bk_P (Rs := []) (by rw [List.append_nil]; exact hp) hP
theorem bk_reD {A : Nat → Prop} {Bs Ds : List va_W} (hp : Bs.Perm Ds) (hD : va_D A Bs.flatten) : va_D A Ds.flatten := bk_D (Rs := []) (by rw [List.append_nil]; exact hp) hD
theorem pm_of {Bs Ds : List va_W} (σ : List Nat) (h : σ.Perm (List.range Bs.length)) (hd : σ.map (fun i => Bs.getD i []) = Ds) : Bs.Perm Ds := by
  have h1 := h.map (fun i => Bs.getD i [])
  rw [hd] at h1
  have h2 : (List.range Bs.length).map (fun i => Bs.getD i []) = Bs := by
    apply List.ext_getElem
    · simp
    · intro i h3 h4
      simp [List.getD, List.getElem?_eq_getElem h4]
  rw [h2] at h1
  exact h1.symm
