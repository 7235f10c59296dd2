/-! ints by their values: what comparisons and sums say, for omega -/
theorem x_lt {a b : Int32} : a < b ↔ a.toInt < b.toInt := Int32.lt_iff_toInt_lt
theorem x_le {a b : Int32} : a ≤ b ↔ a.toInt ≤ b.toInt := Int32.le_iff_toInt_le
theorem x_eq {a b : Int32} : a = b ↔ a.toInt = b.toInt := Int32.toInt_inj.symm
theorem f_lt {x y : Int32} {a b : Int} (hx : x.toInt = a) (hy : y.toInt = b) (h : x < y) : a < b := by rw [← hx, ← hy]; exact x_lt.mp h
theorem f_nlt {x y : Int32} {a b : Int} (hx : x.toInt = a) (hy : y.toInt = b) (h : ¬ x < y) : b ≤ a := by
  rw [x_lt, hx, hy] at h; omega
theorem f_le {x y : Int32} {a b : Int} (hx : x.toInt = a) (hy : y.toInt = b) (h : x ≤ y) : a ≤ b := by rw [← hx, ← hy]; exact x_le.mp h
theorem f_nle {x y : Int32} {a b : Int} (hx : x.toInt = a) (hy : y.toInt = b) (h : ¬ x ≤ y) : b < a := by
  rw [x_le, hx, hy] at h; omega
theorem f_eq {x y : Int32} {a b : Int} (hx : x.toInt = a) (hy : y.toInt = b) (h : x = y) : a = b := by rw [← hx, ← hy, h]
theorem f_ne {x y : Int32} {a b : Int} (hx : x.toInt = a) (hy : y.toInt = b) (h : ¬ x = y) : ¬ a = b := by
  rw [x_eq, hx, hy] at h; exact h
theorem t_rng (x : Int32) : -2147483648 ≤ x.toInt ∧ x.toInt ≤ 2147483647 := by
  have h1 := Int32.le_toInt x
  have h2 := Int32.toInt_lt x
  omega
theorem bmod_in {a : Int} (h1 : -2147483648 ≤ a) (h2 : a ≤ 2147483647) : a.bmod (2 ^ 32) = a := by
  rw [Int.bmod_eq_of_le] <;> omega
theorem t_add {x y : Int32} {a b : Int} (hx : x.toInt = a) (hy : y.toInt = b) (h1 : -2147483648 ≤ a + b) (h2 : a + b ≤ 2147483647) : (x + y).toInt = a + b := by
  rw [Int32.toInt_add, hx, hy]; exact bmod_in h1 h2
theorem t_sub {x y : Int32} {a b : Int} (hx : x.toInt = a) (hy : y.toInt = b) (h1 : -2147483648 ≤ a - b) (h2 : a - b ≤ 2147483647) : (x - y).toInt = a - b := by
  rw [Int32.toInt_sub, hx, hy]; exact bmod_in h1 h2
theorem t_mul {x y : Int32} {a b : Int} (hx : x.toInt = a) (hy : y.toInt = b) (h1 : -2147483648 ≤ a * b) (h2 : a * b ≤ 2147483647) : (x * y).toInt = a * b := by
  rw [Int32.toInt_mul, hx, hy]; exact bmod_in h1 h2
def rg (lo hi : Int) (f : Nat → Int32) : Prop := ∀ i, lo ≤ (f i).toInt ∧ (f i).toInt ≤ hi
theorem rg_at {lo hi : Int} {f : Nat → Int32} {z : Int32} {i : Nat} (h : rg lo hi f) (e : z = f i) : lo ≤ z.toInt ∧ z.toInt ≤ hi := by rw [e]; exact h i
theorem rg_upd {lo hi : Int} {f : Nat → Int32} {k : Nat} {v : Int32} (h : rg lo hi f) (h1 : lo ≤ v.toInt) (h2 : v.toInt ≤ hi) : rg lo hi (upd f k v) := by
  intro i
  by_cases e : i = k
  · subst e; rw [pk_us]; exact ⟨h1, h2⟩
  · rw [pk_un e]; exact h i
theorem rg_0 {lo hi : Int} (h1 : lo ≤ 0) (h2 : 0 ≤ hi) : rg lo hi (fun _ => 0) := fun _ => ⟨by show lo ≤ (0 : Int32).toInt; rw [show (0 : Int32).toInt = 0 by decide]; exact h1, by show (0 : Int32).toInt ≤ hi; rw [show (0 : Int32).toInt = 0 by decide]; exact h2⟩
theorem v_in {x : Int32} {n : Nat} {a : Int} (hx : x.toInt = a) (h1 : 0 ≤ a) (h2 : a < n) : vp_in x n := vp_in_iff.mpr ⟨by rw [hx]; exact h1, by rw [hx]; exact h2⟩
theorem ex_P0 {D : va_G} {cl : List vw_C} {H : Heap} : va_P D cl [] H := fun k q h => by simp at h
theorem ex_D0 {A : Nat → Prop} : va_D A [] := ⟨fun i j p q h => by simp at h, fun k q h => by simp at h⟩
theorem t_shl1 {y z : Int32} (h1 : 0 ≤ y.toInt) (h2 : y.toInt ≤ 10) (e : z = (1 : Int32) <<< (y &&& 31)) : 1 ≤ z.toInt ∧ z.toInt ≤ 1024 := by
  have hlt : ¬ y < 0 := fun h => by have := x_lt.mp h; rw [show (0 : Int32).toInt = 0 by decide] at this; omega
  obtain ⟨j, hj, rfl⟩ := nI_of hlt
  have hj2 : (nI j).toInt = (j : Int) := nI_toInt hj
  have hj3 : j < 11 := by omega
  have hall : ∀ j, j < 11 → 1 ≤ ((1 : Int32) <<< (nI j &&& 31)).toInt ∧ ((1 : Int32) <<< (nI j &&& 31)).toInt ≤ 1024 := by decide
  rw [e]
  exact hall j hj3
theorem lc_ne {x : Int64} {z : Int32} (e : z = lg_cmp x 0) (h : ¬ z = 0) : ¬ x = 0 := by
  intro h0; rw [e, h0] at h; exact absurd h (by decide)
theorem lc_lt {x : Int64} {z : Int32} (e : z = lg_cmp x 0) (h : 0 < z) : ¬ x = 0 := by
  intro h0; rw [e, h0] at h; exact absurd h (by decide)
theorem lc_nle {x : Int64} {z : Int32} (e : z = lg_cmp x 0) (h : ¬ z ≤ 0) : ¬ x = 0 := by
  intro h0; rw [e, h0] at h; exact absurd h (by decide)
theorem lc_lt2 {x : Int64} {z : Int32} (e : z = lg_cmp x 0) (h : z < 0) : ¬ x = 0 := by
  intro h0; rw [e, h0] at h; exact absurd h (by decide)
theorem lc_nle2 {x : Int64} {z : Int32} (e : z = lg_cmp x 0) (h : ¬ 0 ≤ z) : ¬ x = 0 := by
  intro h0; rw [e, h0] at h; exact absurd h (by decide)
theorem m_min {x y z : Int32} {a b : Int} (hx : x.toInt = a) (hy : y.toInt = b) (e : z = if y < x then y else x) : z.toInt ≤ a ∧ z.toInt ≤ b ∧ (z.toInt = a ∨ z.toInt = b) := by
  by_cases h : y < x
  · rw [if_pos h] at e
    have := f_lt hy hx h
    rw [e, hy]; omega
  · rw [if_neg h] at e
    have := f_nlt hy hx h
    rw [e, hx]; omega
theorem m_max {x y z : Int32} {a b : Int} (hx : x.toInt = a) (hy : y.toInt = b) (e : z = if x < y then y else x) : a ≤ z.toInt ∧ b ≤ z.toInt ∧ (z.toInt = a ∨ z.toInt = b) := by
  by_cases h : x < y
  · rw [if_pos h] at e
    have := f_lt hx hy h
    rw [e, hy]; omega
  · rw [if_neg h] at e
    have := f_nlt hx hy h
    rw [e, hx]; omega
theorem z_nar {v : Int32} (h1 : 0 ≤ v.toInt) (h2 : v.toInt ≤ 1) : narrow .boolean (.int v) = .int v := by
  have h : v = 0 ∨ v = 1 := by
    rcases (show v.toInt = 0 ∨ v.toInt = 1 by omega) with q | q
    · exact Or.inl (x_eq.mpr (by rw [q]; decide))
    · exact Or.inr (x_eq.mpr (by rw [q]; decide))
  rcases h with rfl | rfl <;> decide
theorem pm_n {Bs Ds : List va_W} (n : Nat) (σ : List Nat) (h : σ.Perm (List.range n)) (hn : Bs.length = n) (hd : σ.map (fun i => Bs.getD i []) = Ds) : Bs.Perm Ds := pm_of σ (by rw [hn]; exact h) hd

theorem tI_m2 : (-2 : Int32).toInt = -2 := by decide
theorem tI_m1 : (-1 : Int32).toInt = -1 := by decide
theorem tI_0 : (0 : Int32).toInt = 0 := by decide
theorem tI_1 : (1 : Int32).toInt = 1 := by decide
theorem tI_2 : (2 : Int32).toInt = 2 := by decide
theorem tI_3 : (3 : Int32).toInt = 3 := by decide
theorem tI_4 : (4 : Int32).toInt = 4 := by decide
theorem tI_5 : (5 : Int32).toInt = 5 := by decide
theorem tI_6 : (6 : Int32).toInt = 6 := by decide
theorem tI_7 : (7 : Int32).toInt = 7 := by decide
theorem tI_8 : (8 : Int32).toInt = 8 := by decide
theorem tI_9 : (9 : Int32).toInt = 9 := by decide
theorem tI_10 : (10 : Int32).toInt = 10 := by decide
theorem tI_11 : (11 : Int32).toInt = 11 := by decide
theorem tI_12 : (12 : Int32).toInt = 12 := by decide
theorem tI_13 : (13 : Int32).toInt = 13 := by decide
theorem tI_14 : (14 : Int32).toInt = 14 := by decide
theorem tI_15 : (15 : Int32).toInt = 15 := by decide
theorem tI_16 : (16 : Int32).toInt = 16 := by decide
theorem tI_17 : (17 : Int32).toInt = 17 := by decide
theorem tI_18 : (18 : Int32).toInt = 18 := by decide
theorem tI_19 : (19 : Int32).toInt = 19 := by decide
theorem tI_20 : (20 : Int32).toInt = 20 := by decide
theorem tI_21 : (21 : Int32).toInt = 21 := by decide
theorem tI_22 : (22 : Int32).toInt = 22 := by decide
theorem tI_23 : (23 : Int32).toInt = 23 := by decide
theorem tI_24 : (24 : Int32).toInt = 24 := by decide
theorem tI_25 : (25 : Int32).toInt = 25 := by decide
theorem tI_26 : (26 : Int32).toInt = 26 := by decide
theorem tI_27 : (27 : Int32).toInt = 27 := by decide
theorem tI_28 : (28 : Int32).toInt = 28 := by decide
theorem tI_29 : (29 : Int32).toInt = 29 := by decide
theorem tI_30 : (30 : Int32).toInt = 30 := by decide
theorem tI_31 : (31 : Int32).toInt = 31 := by decide
theorem tI_32 : (32 : Int32).toInt = 32 := by decide
theorem tI_33 : (33 : Int32).toInt = 33 := by decide
theorem tI_34 : (34 : Int32).toInt = 34 := by decide
theorem tI_35 : (35 : Int32).toInt = 35 := by decide
theorem tI_36 : (36 : Int32).toInt = 36 := by decide
theorem tI_37 : (37 : Int32).toInt = 37 := by decide
theorem tI_38 : (38 : Int32).toInt = 38 := by decide
theorem tI_39 : (39 : Int32).toInt = 39 := by decide
theorem tI_40 : (40 : Int32).toInt = 40 := by decide
theorem tI_60 : (60 : Int32).toInt = 60 := by decide
theorem tI_63 : (63 : Int32).toInt = 63 := by decide
theorem tI_70 : (70 : Int32).toInt = 70 := by decide
theorem tI_99 : (99 : Int32).toInt = 99 := by decide
theorem tI_100 : (100 : Int32).toInt = 100 := by decide
theorem tI_180 : (180 : Int32).toInt = 180 := by decide
theorem tI_200 : (200 : Int32).toInt = 200 := by decide
theorem tI_252645135 : (252645135 : Int32).toInt = 252645135 := by decide
theorem tI_858993459 : (858993459 : Int32).toInt = 858993459 := by decide
theorem tI_1431655765 : (1431655765 : Int32).toInt = 1431655765 := by decide
def ex_Y (ad : Nat → Nat) (tN : Nat) (fN : Nat → Int64) (A : Nat → Prop) (U : State) : Prop := va_Nw (.methodLinkNest RX2 11 yX10_isPart "HungFloors") U ∧ va_En "HungFloors$Kind" "LHungFloors$Kind;" ["WORD", "NUMBER", "SIGN", "END", "NOTHING"] [] ad A U U.heap ∧ va_Z "HungFloors$HouseReader" "NO_NAMES" "[J" (.ref tN) A U U.heap ∧ va_T .long tN 9 (fun j => .long (fN j)) A U U.heap
theorem ey_call {ad : Nat → Nat} {tN : Nat} {fN : Nat → Int64} {A0 A1 : Nat → Prop} {s U : State} {H : Heap} {locs : List Loc} (h : ex_Y ad tN fN A0 s) (hS : va_S A0 s.heap H locs) (hF : ∀ q, A1 q → A0 q) (hU : U.heap = H) (hW : s.WarmedH U.vm) : ex_Y ad tN fN A1 U := by
  obtain ⟨h1, h2, h3, h4⟩ := h
  refine ⟨va_Nw.warmM hW h1, ?_, ?_, ?_⟩
  · rw [hU]; exact va_En.moved hW.alike ((va_En.kept h2 hS.2.1).narrow hF)
  · rw [hU]; exact ((va_Z.kept h3 hS.2.1).narrow hF).moved hW.alike
  · rw [hU]; exact va_T.moved hW.alike ((va_T.kept h4 hS.2.1).narrow hF)
theorem ey_blind {ad : Nat → Nat} {tN : Nat} {fN : Nat → Int64} {A : Nat → Prop} {U : State} {g : JFrame} {mk : MethodId} {a : Array Value} (h : ex_Y ad tN fN A U) : ex_Y ad tN fN A (U.calling g mk a) := by
  obtain ⟨h1, h2, h3, h4⟩ := h
  exact ⟨va_Nw.same rfl rfl h1, va_En.moved (Vm.Alike.refl U.vm) h2, va_Z.moved (Vm.Alike.refl U.vm) h3, va_T.moved (Vm.Alike.refl U.vm) h4⟩
section WNM
variable {p : Program} {l : Launch} {e : Env} {R : Room} {s : State} {m : MethodId} {args : Array Value} {below : List Frame} {meth : Method} {c : Code} {H : Heap} {locs : List Loc} {cells slots : Nat} {Q : State → Prop} {g : JFrame}
theorem W_name (k : ∀ Q0 : State → Prop, Q0 = Q → W p l e R s m args below meth c H locs cells slots Q0 g) : W p l e R s m args below meth c H locs cells slots Q g := k Q rfl
end WNM
theorem i2l_ne {x : Int32} {z : Int64} (e : x.toInt64 = z) (h : ¬ x.toInt = 0) : ¬ z = 0 := by
  intro h0
  apply h
  have h1 : z.toInt = 0 := by rw [h0]; decide
  rw [← e, Int32.toInt_toInt64] at h1
  exact h1
def ok_plan (ad : Nat → Nat) (cB cI cJ cZ : ClassId) (a : Nat) (r : Nat → Nat) (fc : Int32) (dc : Int32) (rk : Nat → Int32) (w : va_W) : Prop := ∃ (f0 : Nat → Int64) (f1 : Nat → Int32) (f2 : Nat → Int32) (f3 : Nat → Int32) (f4 : Nat → Int64) (f6 : Nat → Int64) (f7 : Nat → Int32) (f8 : Nat → Int32) (f9 : Nat → Int32), w = [(a, .inr (5, [.int fc, .ref (r 0), .ref (r 1), .ref (r 2), .ref (r 3), .int dc, .ref (r 4), .ref (r 5), .ref (r 6), .ref (r 7), .ref (r 8), .ref (r 9)])), (r 0, .inl (cJ, 6, .inr (.inl f0))), (r 1, .inl (cI, 6, .inl f1)), (r 2, .inl (cI, 6, .inl f2)), (r 3, .inl (cI, 6, .inl f3)), (r 4, .inl (cJ, 4, .inr (.inl f4))), (r 5, .inl (cI, 4, .inl rk)), (r 6, .inl (cJ, 40, .inr (.inl f6))), (r 7, .inl (cI, 40, .inl f7)), (r 8, .inl (cI, 40, .inl f8)), (r 9, .inl (cI, 40, .inl f9))] ∧ 0 ≤ fc.toInt ∧ fc.toInt ≤ 6 ∧ 0 ≤ dc.toInt ∧ dc.toInt ≤ 4 ∧ rg (0) 10 rk ∧ rg (-1) 5 f7
def ok_frame (ad : Nat → Nat) (cB cI cJ cZ : ClassId) (a : Nat) (r : Nat → Nat) (pl : Nat) (w : va_W) : Prop := ∃ (fr : Int32) (dr : Int32) (rc : Int32) (f0 : Nat → Int32) (f1 : Nat → Int32) (gn : Int32) (f2 : Nat → Int32) (f3 : Nat → Int64) (f4 : Nat → Int64) (f5 : Nat → Int64) (f6 : Nat → Int64) (sc : Int64) (jc : Int32) (f7 : Nat → Int32) (f8 : Nat → Int32), w = [(a, .inr (2, [.ref pl, .int fr, .int dr, .int rc, .ref (r 0), .ref (r 1), .int gn, .ref (r 2), .ref (r 3), .ref (r 4), .ref (r 5), .ref (r 6), .long sc, .int jc, .ref (r 7), .ref (r 8)])), (r 0, .inl (cI, 10, .inl f0)), (r 1, .inl (cI, 10, .inl f1)), (r 2, .inl (cI, 6, .inl f2)), (r 3, .inl (cJ, 6, .inr (.inl f3))), (r 4, .inl (cJ, 6, .inr (.inl f4))), (r 5, .inl (cJ, 6, .inr (.inl f5))), (r 6, .inl (cJ, 10, .inr (.inl f6))), (r 7, .inl (cI, 70, .inl f7)), (r 8, .inl (cI, 70, .inl f8))] ∧ 0 ≤ fr.toInt ∧ fr.toInt ≤ 30 ∧ 0 ≤ dr.toInt ∧ dr.toInt ≤ 3 ∧ 0 ≤ rc.toInt ∧ rc.toInt ≤ 10 ∧ rg (-1) 5 f0 ∧ 0 ≤ jc.toInt ∧ jc.toInt ≤ 70 ∧ rg (0) 9 f7 ∧ rg (-1) 5 f8
def ok_fall (ad : Nat → Nat) (cB cI cJ cZ : ClassId) (a : Nat) (r : Nat → Nat) (wc : Int32) (w : va_W) : Prop := ∃ (fn : Int32) (f0 : Nat → Int32), w = [(a, .inr (1, [.int fn, .int wc, .ref (r 0)])), (r 0, .inl (cI, 70, .inl f0))] ∧ 0 ≤ wc.toInt ∧ wc.toInt ≤ 70
def ok_rank (ad : Nat → Nat) (cB cI cJ cZ : ClassId) (a : Nat) (r : Nat → Nat) (w : va_W) : Prop := ∃ (ct : Int32) (f0 : Nat → Int32) (f1 : Nat → Int64) (f2 : Nat → Int64), w = [(a, .inr (6, [.int ct, .ref (r 0), .ref (r 1), .ref (r 2)])), (r 0, .inl (cI, 180, .inl f0)), (r 1, .inl (cJ, 180, .inr (.inl f1))), (r 2, .inl (cJ, 180, .inr (.inl f2)))] ∧ 0 ≤ ct.toInt ∧ ct.toInt ≤ 180
def ok_pap (ad : Nat → Nat) (cB cI cJ cZ : ClassId) (a : Nat) (r : Nat → Nat) (pc : Int32) (w : va_W) : Prop := ∃ (f0 : Nat → Int32) (f1 : Nat → Int32) (f2 : Nat → Int32) (f3 : Nat → Int32) (f4 : Nat → Int32) (f5 : Nat → Int32) (f6 : Nat → Int32) (sc : Int32) (f7 : Nat → Int32) (f8 : Nat → Int32) (f9 : Nat → Int32), w = [(a, .inr (4, [.int pc, .ref (r 0), .ref (r 1), .ref (r 2), .ref (r 3), .ref (r 4), .ref (r 5), .ref (r 6), .int sc, .ref (r 7), .ref (r 8), .ref (r 9)])), (r 0, .inl (cI, 60, .inl f0)), (r 1, .inl (cI, 60, .inl f1)), (r 2, .inl (cI, 60, .inl f2)), (r 3, .inl (cI, 60, .inl f3)), (r 4, .inl (cZ, 60, .inl f4)), (r 5, .inl (cI, 60, .inl f5)), (r 6, .inl (cI, 60, .inl f6)), (r 7, .inl (cI, 9, .inl f7)), (r 8, .inl (cI, 9, .inl f8)), (r 9, .inl (cI, 9, .inl f9))] ∧ 0 ≤ pc.toInt ∧ pc.toInt ≤ 60 ∧ 0 ≤ sc.toInt ∧ sc.toInt ≤ 9 ∧ rg (0) 59 f7
def ok_tok (ad : Nat → Nat) (cB cI cJ cZ : ClassId) (a : Nat) (r : Nat → Nat) (tx : Nat) (w : va_W) : Prop := ∃ (ln : Int32) (ap : Int32) (kd : Nat) (sa : Int32) (wd : Int64) (nu : Int32), w = [(a, .inr (7, [.ref tx, .int ln, .int ap, .ref (ad kd), .int sa, .long wd, .int nu]))] ∧ 0 ≤ ln.toInt ∧ ln.toInt ≤ 1600 ∧ 0 ≤ ap.toInt ∧ ap.toInt ≤ 1600
def ok_read (ad : Nat → Nat) (cB cI cJ cZ : ClassId) (a : Nat) (r : Nat → Nat) (tk : Nat) (rp : Nat) (w : va_W) : Prop := ∃ (fk : Int32) (fp : Int32), w = [(a, .inr (3, [.ref tk, .ref rp, .int fk, .int fp]))]
def ok_main (ad : Nat → Nat) (cB cI cJ cZ : ClassId) (a : Nat) (r : Nat → Nat) (pl : Nat) (sp : Nat) (rd : Nat) (fi : Nat) (se : Nat) (fa : Nat) (cr : Nat) (ra : Nat) (pa : Nat) (w : va_W) : Prop := ∃ (f0 : Nat → Int32) (tp : Int32) (f1 : Nat → Int32) (mv : Int32) (nw : Int32), w = [(a, .inr (8, [.ref (r 0), .int tp, .ref pl, .ref sp, .ref rd, .ref (r 1), .int mv, .ref fi, .ref se, .ref fa, .ref cr, .ref ra, .ref pa, .int nw])), (r 0, .inl (cB, 1600, .inl f0)), (r 1, .inl (cI, 6, .inl f1))] ∧ 0 ≤ tp.toInt ∧ tp.toInt ≤ 1600
