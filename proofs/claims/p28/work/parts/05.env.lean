/-! ints by their values: what comparisons and sums say, for omega -/
theorem x_lt {a b : Int32} : a < b ↔ a.toInt < b.toInt := Int32.lt_iff_toInt_lt
theorem x_le {a b : Int32} : a ≤ b ↔ a.toInt ≤ b.toInt := Int32.le_iff_toInt_le
theorem x_eq {a b : Int32} : a = b ↔ a.toInt = b.toInt := Int32.toInt_inj.symm
theorem f_lt {x y : Int32} {a b : Int} (hx : x.toInt = a) (hy : y.toInt = b) (h : x < y) : a < b := by rw [← hx, ← hy]; exact x_lt.mp h
theorem f_nlt {x y : Int32} {a b : Int} (hx : x.toInt = a) (hy : y.toInt = b) (h : ¬ x < y) : b ≤ a := by
  rw [x_lt, hx, hy] at h; omega
theorem f_le {x y : Int32} {a b : Int} (hx : x.toInt = a) (hy : y.toInt = b) (h : x ≤ y) : a ≤ b := by rw [← hx, ← hy]; exact x_le.mp h
theorem f_nle {x y : Int32} {a b : Int} (hx : x.toInt = a) (hy : y.toInt = b) (h : ¬ x ≤ y) : b < a := by
  rw [x_le, hx, hy] at h; omega
theorem f_eq {x y : Int32} {a b : Int} (hx : x.toInt = a) (hy : y.toInt = b) (h : x = y) : a = b := by rw [← hx, ← hy, h]
theorem f_ne {x y : Int32} {a b : Int} (hx : x.toInt = a) (hy : y.toInt = b) (h : ¬ x = y) : ¬ a = b := by
  rw [x_eq, hx, hy] at h; exact h
theorem t_rng (x : Int32) : -2147483648 ≤ x.toInt ∧ x.toInt ≤ 2147483647 := by
  have h1 := Int32.le_toInt x
  have h2 := Int32.toInt_lt x
  omega
theorem bmod_in {a : Int} (h1 : -2147483648 ≤ a) (h2 : a ≤ 2147483647) : a.bmod (2 ^ 32) = a := by
  rw [Int.bmod_eq_of_le] <;> omega
theorem t_add {x y : Int32} {a b : Int} (hx : x.toInt = a) (hy : y.toInt = b) (h1 : -2147483648 ≤ a + b) (h2 : a + b ≤ 2147483647) : (x + y).toInt = a + b := by
  rw [Int32.toInt_add, hx, hy]; exact bmod_in h1 h2
theorem t_sub {x y : Int32} {a b : Int} (hx : x.toInt = a) (hy : y.toInt = b) (h1 : -2147483648 ≤ a - b) (h2 : a - b ≤ 2147483647) : (x - y).toInt = a - b := by
  rw [Int32.toInt_sub, hx, hy]; exact bmod_in h1 h2
theorem t_mul {x y : Int32} {a b : Int} (hx : x.toInt = a) (hy : y.toInt = b) (h1 : -2147483648 ≤ a * b) (h2 : a * b ≤ 2147483647) : (x * y).toInt = a * b := by
  rw [Int32.toInt_mul, hx, hy]; exact bmod_in h1 h2
def rg (lo hi : Int) (f : Nat → Int32) : Prop := ∀ i, lo ≤ (f i).toInt ∧ (f i).toInt ≤ hi
theorem rg_at {lo hi : Int} {f : Nat → Int32} {z : Int32} {i : Nat} (h : rg lo hi f) (e : z = f i) : lo ≤ z.toInt ∧ z.toInt ≤ hi := by rw [e]; exact h i
theorem rg_upd {lo hi : Int} {f : Nat → Int32} {k : Nat} {v : Int32} (h : rg lo hi f) (h1 : lo ≤ v.toInt) (h2 : v.toInt ≤ hi) : rg lo hi (upd f k v) := by
  intro i
  by_cases e : i = k
  · subst e; rw [pk_us]; exact ⟨h1, h2⟩
  · rw [pk_un e]; exact h i
theorem rg_0 {lo hi : Int} (h1 : lo ≤ 0) (h2 : 0 ≤ hi) : rg lo hi (fun _ => 0) := fun _ => ⟨by show lo ≤ (0 : Int32).toInt; rw [show (0 : Int32).toInt = 0 by decide]; exact h1, by show (0 : Int32).toInt ≤ hi; rw [show (0 : Int32).toInt = 0 by decide]; exact h2⟩
theorem v_in {x : Int32} {n : Nat} {a : Int} (hx : x.toInt = a) (h1 : 0 ≤ a) (h2 : a < n) : vp_in x n := vp_in_iff.mpr ⟨by rw [hx]; exact h1, by rw [hx]; exact h2⟩
theorem ex_P0 {D : va_G} {cl : List vw_C} {H : Heap} : va_P D cl [] H := fun k q h => by simp at h
theorem ex_D0 {A : Nat → Prop} : va_D A [] := ⟨fun i j p q h => by simp at h, fun k q h => by simp at h⟩
theorem t_shl1 {y z : Int32} (h1 : 0 ≤ y.toInt) (h2 : y.toInt ≤ 10) (e : z = (1 : Int32) <<< (y &&& 31)) : 1 ≤ z.toInt ∧ z.toInt ≤ 1024 := by
  have hlt : ¬ y < 0 := fun h => by have := x_lt.mp h; rw [show (0 : Int32).toInt = 0 by decide] at this; omega
  obtain ⟨j, hj, rfl⟩ := nI_of hlt
  have hj2 : (nI j).toInt = (j : Int) := nI_toInt hj
  have hj3 : j < 11 := by omega
  have hall : ∀ j, j < 11 → 1 ≤ ((1 : Int32) <<< (nI j &&& 31)).toInt ∧ ((1 : Int32) <<< (nI j &&& 31)).toInt ≤ 1024 := by decide
  rw [e]
  exact hall j hj3
theorem lc_ne {x : Int64} {z : Int32} (e : z = lg_cmp x 0) (h : ¬ z = 0) : ¬ x = 0 := by
  intro h0; rw [e, h0] at h; exact absurd h (by decide)
theorem lc_lt {x : Int64} {z : Int32} (e : z = lg_cmp x 0) (h : 0 < z) : ¬ x = 0 := by
  intro h0; rw [e, h0] at h; exact absurd h (by decide)
theorem lc_nle {x : Int64} {z : Int32} (e : z = lg_cmp x 0) (h : ¬ z ≤ 0) : ¬ x = 0 := by
  intro h0; rw [e, h0] at h; exact absurd h (by decide)
theorem lc_lt2 {x : Int64} {z : Int32} (e : z = lg_cmp x 0) (h : z < 0) : ¬ x = 0 := by
  intro h0; rw [e, h0] at h; exact absurd h (by decide)
theorem lc_nle2 {x : Int64} {z : Int32} (e : z = lg_cmp x 0) (h : ¬ 0 ≤ z) : ¬ x = 0 := by
  intro h0; rw [e, h0] at h; exact absurd h (by decide)
theorem m_min {x y z : Int32} {a b : Int} (hx : x.toInt = a) (hy : y.toInt = b) (e : z = if y < x then y else x) : z.toInt ≤ a ∧ z.toInt ≤ b ∧ (z.toInt = a ∨ z.toInt = b) := by
  by_cases h : y < x
  · rw [if_pos h] at e
    have := f_lt hy hx h
    rw [e, hy]; omega
  · rw [if_neg h] at e
    have := f_nlt hy hx h
    rw [e, hx]; omega
theorem m_max {x y z : Int32} {a b : Int} (hx : x.toInt = a) (hy : y.toInt = b) (e : z = if x < y then y else x) : a ≤ z.toInt ∧ b ≤ z.toInt ∧ (z.toInt = a ∨ z.toInt = b) := by
  by_cases h : x < y
  · rw [if_pos h] at e
    have := f_lt hx hy h
    rw [e, hy]; omega
  · rw [if_neg h] at e
    have := f_nlt hx hy h
    rw [e, hx]; omega
theorem z_nar {v : Int32} (h1 : 0 ≤ v.toInt) (h2 : v.toInt ≤ 1) : narrow .boolean (.int v) = .int v := by
  have h : v = 0 ∨ v = 1 := by
    rcases (show v.toInt = 0 ∨ v.toInt = 1 by omega) with q | q
    · exact Or.inl (x_eq.mpr (by rw [q]; decide))
    · exact Or.inr (x_eq.mpr (by rw [q]; decide))
  rcases h with rfl | rfl <;> decide
theorem pm_n {Bs Ds : List va_W} (n : Nat) (σ : List Nat) (h : σ.Perm (List.range n)) (hn : Bs.length = n) (hd : σ.map (fun i => Bs.getD i []) = Ds) : Bs.Perm Ds := pm_of σ (by rw [hn]; exact h) hd

theorem tI_m50 : (-50 : Int32).toInt = -50 := by decide
theorem tI_m49 : (-49 : Int32).toInt = -49 := by decide
theorem tI_m48 : (-48 : Int32).toInt = -48 := by decide
theorem tI_m47 : (-47 : Int32).toInt = -47 := by decide
theorem tI_m46 : (-46 : Int32).toInt = -46 := by decide
theorem tI_m45 : (-45 : Int32).toInt = -45 := by decide
theorem tI_m44 : (-44 : Int32).toInt = -44 := by decide
theorem tI_m43 : (-43 : Int32).toInt = -43 := by decide
theorem tI_m42 : (-42 : Int32).toInt = -42 := by decide
theorem tI_m41 : (-41 : Int32).toInt = -41 := by decide
theorem tI_m40 : (-40 : Int32).toInt = -40 := by decide
theorem tI_m39 : (-39 : Int32).toInt = -39 := by decide
theorem tI_m38 : (-38 : Int32).toInt = -38 := by decide
theorem tI_m37 : (-37 : Int32).toInt = -37 := by decide
theorem tI_m36 : (-36 : Int32).toInt = -36 := by decide
theorem tI_m35 : (-35 : Int32).toInt = -35 := by decide
theorem tI_m34 : (-34 : Int32).toInt = -34 := by decide
theorem tI_m33 : (-33 : Int32).toInt = -33 := by decide
theorem tI_m32 : (-32 : Int32).toInt = -32 := by decide
theorem tI_m31 : (-31 : Int32).toInt = -31 := by decide
theorem tI_m30 : (-30 : Int32).toInt = -30 := by decide
theorem tI_m29 : (-29 : Int32).toInt = -29 := by decide
theorem tI_m28 : (-28 : Int32).toInt = -28 := by decide
theorem tI_m27 : (-27 : Int32).toInt = -27 := by decide
theorem tI_m26 : (-26 : Int32).toInt = -26 := by decide
theorem tI_m25 : (-25 : Int32).toInt = -25 := by decide
theorem tI_m24 : (-24 : Int32).toInt = -24 := by decide
theorem tI_m23 : (-23 : Int32).toInt = -23 := by decide
theorem tI_m22 : (-22 : Int32).toInt = -22 := by decide
theorem tI_m21 : (-21 : Int32).toInt = -21 := by decide
theorem tI_m20 : (-20 : Int32).toInt = -20 := by decide
theorem tI_m19 : (-19 : Int32).toInt = -19 := by decide
theorem tI_m18 : (-18 : Int32).toInt = -18 := by decide
theorem tI_m17 : (-17 : Int32).toInt = -17 := by decide
theorem tI_m16 : (-16 : Int32).toInt = -16 := by decide
theorem tI_m15 : (-15 : Int32).toInt = -15 := by decide
theorem tI_m14 : (-14 : Int32).toInt = -14 := by decide
theorem tI_m13 : (-13 : Int32).toInt = -13 := by decide
theorem tI_m12 : (-12 : Int32).toInt = -12 := by decide
theorem tI_m11 : (-11 : Int32).toInt = -11 := by decide
theorem tI_m10 : (-10 : Int32).toInt = -10 := by decide
theorem tI_m9 : (-9 : Int32).toInt = -9 := by decide
theorem tI_m8 : (-8 : Int32).toInt = -8 := by decide
theorem tI_m7 : (-7 : Int32).toInt = -7 := by decide
theorem tI_m6 : (-6 : Int32).toInt = -6 := by decide
theorem tI_m5 : (-5 : Int32).toInt = -5 := by decide
theorem tI_m4 : (-4 : Int32).toInt = -4 := by decide
theorem tI_m3 : (-3 : Int32).toInt = -3 := by decide
theorem tI_m2 : (-2 : Int32).toInt = -2 := by decide
theorem tI_m1 : (-1 : Int32).toInt = -1 := by decide
theorem tI_0 : (0 : Int32).toInt = 0 := by decide
theorem tI_1 : (1 : Int32).toInt = 1 := by decide
theorem tI_2 : (2 : Int32).toInt = 2 := by decide
theorem tI_3 : (3 : Int32).toInt = 3 := by decide
theorem tI_4 : (4 : Int32).toInt = 4 := by decide
theorem tI_5 : (5 : Int32).toInt = 5 := by decide
theorem tI_6 : (6 : Int32).toInt = 6 := by decide
theorem tI_7 : (7 : Int32).toInt = 7 := by decide
theorem tI_8 : (8 : Int32).toInt = 8 := by decide
theorem tI_9 : (9 : Int32).toInt = 9 := by decide
theorem tI_10 : (10 : Int32).toInt = 10 := by decide
theorem tI_11 : (11 : Int32).toInt = 11 := by decide
theorem tI_12 : (12 : Int32).toInt = 12 := by decide
theorem tI_13 : (13 : Int32).toInt = 13 := by decide
theorem tI_14 : (14 : Int32).toInt = 14 := by decide
theorem tI_15 : (15 : Int32).toInt = 15 := by decide
theorem tI_16 : (16 : Int32).toInt = 16 := by decide
theorem tI_17 : (17 : Int32).toInt = 17 := by decide
theorem tI_18 : (18 : Int32).toInt = 18 := by decide
theorem tI_19 : (19 : Int32).toInt = 19 := by decide
theorem tI_20 : (20 : Int32).toInt = 20 := by decide
theorem tI_21 : (21 : Int32).toInt = 21 := by decide
theorem tI_22 : (22 : Int32).toInt = 22 := by decide
theorem tI_23 : (23 : Int32).toInt = 23 := by decide
theorem tI_24 : (24 : Int32).toInt = 24 := by decide
theorem tI_25 : (25 : Int32).toInt = 25 := by decide
theorem tI_26 : (26 : Int32).toInt = 26 := by decide
theorem tI_27 : (27 : Int32).toInt = 27 := by decide
theorem tI_28 : (28 : Int32).toInt = 28 := by decide
theorem tI_29 : (29 : Int32).toInt = 29 := by decide
theorem tI_30 : (30 : Int32).toInt = 30 := by decide
theorem tI_31 : (31 : Int32).toInt = 31 := by decide
theorem tI_32 : (32 : Int32).toInt = 32 := by decide
theorem tI_33 : (33 : Int32).toInt = 33 := by decide
theorem tI_34 : (34 : Int32).toInt = 34 := by decide
theorem tI_35 : (35 : Int32).toInt = 35 := by decide
theorem tI_36 : (36 : Int32).toInt = 36 := by decide
theorem tI_37 : (37 : Int32).toInt = 37 := by decide
theorem tI_38 : (38 : Int32).toInt = 38 := by decide
theorem tI_39 : (39 : Int32).toInt = 39 := by decide
theorem tI_40 : (40 : Int32).toInt = 40 := by decide
theorem tI_41 : (41 : Int32).toInt = 41 := by decide
theorem tI_42 : (42 : Int32).toInt = 42 := by decide
theorem tI_43 : (43 : Int32).toInt = 43 := by decide
theorem tI_44 : (44 : Int32).toInt = 44 := by decide
theorem tI_45 : (45 : Int32).toInt = 45 := by decide
theorem tI_46 : (46 : Int32).toInt = 46 := by decide
theorem tI_47 : (47 : Int32).toInt = 47 := by decide
theorem tI_48 : (48 : Int32).toInt = 48 := by decide
theorem tI_49 : (49 : Int32).toInt = 49 := by decide
theorem tI_50 : (50 : Int32).toInt = 50 := by decide
theorem tI_51 : (51 : Int32).toInt = 51 := by decide
theorem tI_52 : (52 : Int32).toInt = 52 := by decide
theorem tI_53 : (53 : Int32).toInt = 53 := by decide
theorem tI_54 : (54 : Int32).toInt = 54 := by decide
theorem tI_55 : (55 : Int32).toInt = 55 := by decide
theorem tI_56 : (56 : Int32).toInt = 56 := by decide
theorem tI_57 : (57 : Int32).toInt = 57 := by decide
theorem tI_58 : (58 : Int32).toInt = 58 := by decide
theorem tI_59 : (59 : Int32).toInt = 59 := by decide
theorem tI_60 : (60 : Int32).toInt = 60 := by decide
theorem tI_61 : (61 : Int32).toInt = 61 := by decide
theorem tI_62 : (62 : Int32).toInt = 62 := by decide
theorem tI_63 : (63 : Int32).toInt = 63 := by decide
theorem tI_64 : (64 : Int32).toInt = 64 := by decide
theorem tI_65 : (65 : Int32).toInt = 65 := by decide
theorem tI_66 : (66 : Int32).toInt = 66 := by decide
theorem tI_67 : (67 : Int32).toInt = 67 := by decide
theorem tI_68 : (68 : Int32).toInt = 68 := by decide
theorem tI_69 : (69 : Int32).toInt = 69 := by decide
theorem tI_70 : (70 : Int32).toInt = 70 := by decide
theorem tI_71 : (71 : Int32).toInt = 71 := by decide
theorem tI_72 : (72 : Int32).toInt = 72 := by decide
theorem tI_73 : (73 : Int32).toInt = 73 := by decide
theorem tI_74 : (74 : Int32).toInt = 74 := by decide
theorem tI_75 : (75 : Int32).toInt = 75 := by decide
theorem tI_76 : (76 : Int32).toInt = 76 := by decide
theorem tI_77 : (77 : Int32).toInt = 77 := by decide
theorem tI_78 : (78 : Int32).toInt = 78 := by decide
theorem tI_79 : (79 : Int32).toInt = 79 := by decide
theorem tI_80 : (80 : Int32).toInt = 80 := by decide
theorem tI_81 : (81 : Int32).toInt = 81 := by decide
theorem tI_82 : (82 : Int32).toInt = 82 := by decide
theorem tI_83 : (83 : Int32).toInt = 83 := by decide
theorem tI_84 : (84 : Int32).toInt = 84 := by decide
theorem tI_85 : (85 : Int32).toInt = 85 := by decide
theorem tI_86 : (86 : Int32).toInt = 86 := by decide
theorem tI_87 : (87 : Int32).toInt = 87 := by decide
theorem tI_88 : (88 : Int32).toInt = 88 := by decide
theorem tI_89 : (89 : Int32).toInt = 89 := by decide
theorem tI_90 : (90 : Int32).toInt = 90 := by decide
theorem tI_91 : (91 : Int32).toInt = 91 := by decide
theorem tI_92 : (92 : Int32).toInt = 92 := by decide
theorem tI_93 : (93 : Int32).toInt = 93 := by decide
theorem tI_94 : (94 : Int32).toInt = 94 := by decide
theorem tI_95 : (95 : Int32).toInt = 95 := by decide
theorem tI_96 : (96 : Int32).toInt = 96 := by decide
theorem tI_97 : (97 : Int32).toInt = 97 := by decide
theorem tI_98 : (98 : Int32).toInt = 98 := by decide
theorem tI_99 : (99 : Int32).toInt = 99 := by decide
theorem tI_100 : (100 : Int32).toInt = 100 := by decide
theorem tI_101 : (101 : Int32).toInt = 101 := by decide
theorem tI_102 : (102 : Int32).toInt = 102 := by decide
theorem tI_103 : (103 : Int32).toInt = 103 := by decide
theorem tI_104 : (104 : Int32).toInt = 104 := by decide
theorem tI_105 : (105 : Int32).toInt = 105 := by decide
theorem tI_106 : (106 : Int32).toInt = 106 := by decide
theorem tI_107 : (107 : Int32).toInt = 107 := by decide
theorem tI_108 : (108 : Int32).toInt = 108 := by decide
theorem tI_109 : (109 : Int32).toInt = 109 := by decide
theorem tI_110 : (110 : Int32).toInt = 110 := by decide
theorem tI_111 : (111 : Int32).toInt = 111 := by decide
theorem tI_112 : (112 : Int32).toInt = 112 := by decide
theorem tI_113 : (113 : Int32).toInt = 113 := by decide
theorem tI_114 : (114 : Int32).toInt = 114 := by decide
theorem tI_115 : (115 : Int32).toInt = 115 := by decide
theorem tI_116 : (116 : Int32).toInt = 116 := by decide
theorem tI_117 : (117 : Int32).toInt = 117 := by decide
theorem tI_118 : (118 : Int32).toInt = 118 := by decide
theorem tI_119 : (119 : Int32).toInt = 119 := by decide
theorem tI_120 : (120 : Int32).toInt = 120 := by decide
theorem tI_121 : (121 : Int32).toInt = 121 := by decide
theorem tI_122 : (122 : Int32).toInt = 122 := by decide
theorem tI_123 : (123 : Int32).toInt = 123 := by decide
theorem tI_124 : (124 : Int32).toInt = 124 := by decide
theorem tI_125 : (125 : Int32).toInt = 125 := by decide
theorem tI_126 : (126 : Int32).toInt = 126 := by decide
theorem tI_127 : (127 : Int32).toInt = 127 := by decide
theorem tI_128 : (128 : Int32).toInt = 128 := by decide
theorem tI_129 : (129 : Int32).toInt = 129 := by decide
theorem tI_130 : (130 : Int32).toInt = 130 := by decide
theorem tI_131 : (131 : Int32).toInt = 131 := by decide
theorem tI_132 : (132 : Int32).toInt = 132 := by decide
theorem tI_133 : (133 : Int32).toInt = 133 := by decide
theorem tI_134 : (134 : Int32).toInt = 134 := by decide
theorem tI_135 : (135 : Int32).toInt = 135 := by decide
theorem tI_136 : (136 : Int32).toInt = 136 := by decide
theorem tI_137 : (137 : Int32).toInt = 137 := by decide
theorem tI_138 : (138 : Int32).toInt = 138 := by decide
theorem tI_139 : (139 : Int32).toInt = 139 := by decide
theorem tI_140 : (140 : Int32).toInt = 140 := by decide
theorem tI_141 : (141 : Int32).toInt = 141 := by decide
theorem tI_142 : (142 : Int32).toInt = 142 := by decide
theorem tI_143 : (143 : Int32).toInt = 143 := by decide
theorem tI_144 : (144 : Int32).toInt = 144 := by decide
theorem tI_145 : (145 : Int32).toInt = 145 := by decide
theorem tI_146 : (146 : Int32).toInt = 146 := by decide
theorem tI_147 : (147 : Int32).toInt = 147 := by decide
theorem tI_148 : (148 : Int32).toInt = 148 := by decide
theorem tI_149 : (149 : Int32).toInt = 149 := by decide
theorem tI_150 : (150 : Int32).toInt = 150 := by decide
theorem tI_151 : (151 : Int32).toInt = 151 := by decide
theorem tI_152 : (152 : Int32).toInt = 152 := by decide
theorem tI_153 : (153 : Int32).toInt = 153 := by decide
theorem tI_154 : (154 : Int32).toInt = 154 := by decide
theorem tI_155 : (155 : Int32).toInt = 155 := by decide
theorem tI_156 : (156 : Int32).toInt = 156 := by decide
theorem tI_157 : (157 : Int32).toInt = 157 := by decide
theorem tI_158 : (158 : Int32).toInt = 158 := by decide
theorem tI_159 : (159 : Int32).toInt = 159 := by decide
theorem tI_160 : (160 : Int32).toInt = 160 := by decide
theorem tI_161 : (161 : Int32).toInt = 161 := by decide
theorem tI_162 : (162 : Int32).toInt = 162 := by decide
theorem tI_163 : (163 : Int32).toInt = 163 := by decide
theorem tI_164 : (164 : Int32).toInt = 164 := by decide
theorem tI_165 : (165 : Int32).toInt = 165 := by decide
theorem tI_166 : (166 : Int32).toInt = 166 := by decide
theorem tI_167 : (167 : Int32).toInt = 167 := by decide
theorem tI_168 : (168 : Int32).toInt = 168 := by decide
theorem tI_169 : (169 : Int32).toInt = 169 := by decide
theorem tI_170 : (170 : Int32).toInt = 170 := by decide
theorem tI_171 : (171 : Int32).toInt = 171 := by decide
theorem tI_172 : (172 : Int32).toInt = 172 := by decide
theorem tI_173 : (173 : Int32).toInt = 173 := by decide
theorem tI_174 : (174 : Int32).toInt = 174 := by decide
theorem tI_175 : (175 : Int32).toInt = 175 := by decide
theorem tI_176 : (176 : Int32).toInt = 176 := by decide
theorem tI_177 : (177 : Int32).toInt = 177 := by decide
theorem tI_178 : (178 : Int32).toInt = 178 := by decide
theorem tI_179 : (179 : Int32).toInt = 179 := by decide
theorem tI_180 : (180 : Int32).toInt = 180 := by decide
theorem tI_181 : (181 : Int32).toInt = 181 := by decide
theorem tI_182 : (182 : Int32).toInt = 182 := by decide
theorem tI_183 : (183 : Int32).toInt = 183 := by decide
theorem tI_184 : (184 : Int32).toInt = 184 := by decide
theorem tI_185 : (185 : Int32).toInt = 185 := by decide
theorem tI_186 : (186 : Int32).toInt = 186 := by decide
theorem tI_187 : (187 : Int32).toInt = 187 := by decide
theorem tI_188 : (188 : Int32).toInt = 188 := by decide
theorem tI_189 : (189 : Int32).toInt = 189 := by decide
theorem tI_190 : (190 : Int32).toInt = 190 := by decide
theorem tI_191 : (191 : Int32).toInt = 191 := by decide
theorem tI_192 : (192 : Int32).toInt = 192 := by decide
theorem tI_193 : (193 : Int32).toInt = 193 := by decide
theorem tI_194 : (194 : Int32).toInt = 194 := by decide
theorem tI_195 : (195 : Int32).toInt = 195 := by decide
theorem tI_196 : (196 : Int32).toInt = 196 := by decide
theorem tI_197 : (197 : Int32).toInt = 197 := by decide
theorem tI_198 : (198 : Int32).toInt = 198 := by decide
theorem tI_199 : (199 : Int32).toInt = 199 := by decide
theorem tI_200 : (200 : Int32).toInt = 200 := by decide
theorem tI_201 : (201 : Int32).toInt = 201 := by decide
theorem tI_202 : (202 : Int32).toInt = 202 := by decide
theorem tI_203 : (203 : Int32).toInt = 203 := by decide
theorem tI_204 : (204 : Int32).toInt = 204 := by decide
theorem tI_205 : (205 : Int32).toInt = 205 := by decide
theorem tI_206 : (206 : Int32).toInt = 206 := by decide
theorem tI_207 : (207 : Int32).toInt = 207 := by decide
theorem tI_208 : (208 : Int32).toInt = 208 := by decide
theorem tI_209 : (209 : Int32).toInt = 209 := by decide
theorem tI_210 : (210 : Int32).toInt = 210 := by decide
theorem tI_211 : (211 : Int32).toInt = 211 := by decide
theorem tI_212 : (212 : Int32).toInt = 212 := by decide
theorem tI_213 : (213 : Int32).toInt = 213 := by decide
theorem tI_214 : (214 : Int32).toInt = 214 := by decide
theorem tI_215 : (215 : Int32).toInt = 215 := by decide
theorem tI_216 : (216 : Int32).toInt = 216 := by decide
theorem tI_217 : (217 : Int32).toInt = 217 := by decide
theorem tI_218 : (218 : Int32).toInt = 218 := by decide
theorem tI_219 : (219 : Int32).toInt = 219 := by decide
theorem tI_220 : (220 : Int32).toInt = 220 := by decide
theorem tI_221 : (221 : Int32).toInt = 221 := by decide
theorem tI_222 : (222 : Int32).toInt = 222 := by decide
theorem tI_223 : (223 : Int32).toInt = 223 := by decide
theorem tI_224 : (224 : Int32).toInt = 224 := by decide
theorem tI_225 : (225 : Int32).toInt = 225 := by decide
theorem tI_226 : (226 : Int32).toInt = 226 := by decide
theorem tI_227 : (227 : Int32).toInt = 227 := by decide
theorem tI_228 : (228 : Int32).toInt = 228 := by decide
theorem tI_229 : (229 : Int32).toInt = 229 := by decide
theorem tI_230 : (230 : Int32).toInt = 230 := by decide
theorem tI_231 : (231 : Int32).toInt = 231 := by decide
theorem tI_232 : (232 : Int32).toInt = 232 := by decide
theorem tI_233 : (233 : Int32).toInt = 233 := by decide
theorem tI_234 : (234 : Int32).toInt = 234 := by decide
theorem tI_235 : (235 : Int32).toInt = 235 := by decide
theorem tI_236 : (236 : Int32).toInt = 236 := by decide
theorem tI_237 : (237 : Int32).toInt = 237 := by decide
theorem tI_238 : (238 : Int32).toInt = 238 := by decide
theorem tI_239 : (239 : Int32).toInt = 239 := by decide
theorem tI_240 : (240 : Int32).toInt = 240 := by decide
theorem tI_241 : (241 : Int32).toInt = 241 := by decide
theorem tI_242 : (242 : Int32).toInt = 242 := by decide
theorem tI_243 : (243 : Int32).toInt = 243 := by decide
theorem tI_244 : (244 : Int32).toInt = 244 := by decide
theorem tI_245 : (245 : Int32).toInt = 245 := by decide
theorem tI_246 : (246 : Int32).toInt = 246 := by decide
theorem tI_247 : (247 : Int32).toInt = 247 := by decide
theorem tI_248 : (248 : Int32).toInt = 248 := by decide
theorem tI_249 : (249 : Int32).toInt = 249 := by decide
theorem tI_250 : (250 : Int32).toInt = 250 := by decide
theorem tI_251 : (251 : Int32).toInt = 251 := by decide
theorem tI_252 : (252 : Int32).toInt = 252 := by decide
theorem tI_253 : (253 : Int32).toInt = 253 := by decide
theorem tI_254 : (254 : Int32).toInt = 254 := by decide
theorem tI_255 : (255 : Int32).toInt = 255 := by decide
theorem tI_256 : (256 : Int32).toInt = 256 := by decide
theorem tI_257 : (257 : Int32).toInt = 257 := by decide
theorem tI_258 : (258 : Int32).toInt = 258 := by decide
theorem tI_259 : (259 : Int32).toInt = 259 := by decide
theorem tI_260 : (260 : Int32).toInt = 260 := by decide
theorem tI_261 : (261 : Int32).toInt = 261 := by decide
theorem tI_262 : (262 : Int32).toInt = 262 := by decide
theorem tI_263 : (263 : Int32).toInt = 263 := by decide
theorem tI_264 : (264 : Int32).toInt = 264 := by decide
theorem tI_265 : (265 : Int32).toInt = 265 := by decide
theorem tI_266 : (266 : Int32).toInt = 266 := by decide
theorem tI_267 : (267 : Int32).toInt = 267 := by decide
theorem tI_268 : (268 : Int32).toInt = 268 := by decide
theorem tI_269 : (269 : Int32).toInt = 269 := by decide
theorem tI_270 : (270 : Int32).toInt = 270 := by decide
theorem tI_271 : (271 : Int32).toInt = 271 := by decide
theorem tI_272 : (272 : Int32).toInt = 272 := by decide
theorem tI_273 : (273 : Int32).toInt = 273 := by decide
theorem tI_274 : (274 : Int32).toInt = 274 := by decide
theorem tI_275 : (275 : Int32).toInt = 275 := by decide
theorem tI_276 : (276 : Int32).toInt = 276 := by decide
theorem tI_277 : (277 : Int32).toInt = 277 := by decide
theorem tI_278 : (278 : Int32).toInt = 278 := by decide
theorem tI_279 : (279 : Int32).toInt = 279 := by decide
theorem tI_280 : (280 : Int32).toInt = 280 := by decide
theorem tI_281 : (281 : Int32).toInt = 281 := by decide
theorem tI_282 : (282 : Int32).toInt = 282 := by decide
theorem tI_283 : (283 : Int32).toInt = 283 := by decide
theorem tI_284 : (284 : Int32).toInt = 284 := by decide
theorem tI_285 : (285 : Int32).toInt = 285 := by decide
theorem tI_286 : (286 : Int32).toInt = 286 := by decide
theorem tI_287 : (287 : Int32).toInt = 287 := by decide
theorem tI_288 : (288 : Int32).toInt = 288 := by decide
theorem tI_289 : (289 : Int32).toInt = 289 := by decide
theorem tI_290 : (290 : Int32).toInt = 290 := by decide
theorem tI_291 : (291 : Int32).toInt = 291 := by decide
theorem tI_292 : (292 : Int32).toInt = 292 := by decide
theorem tI_293 : (293 : Int32).toInt = 293 := by decide
theorem tI_294 : (294 : Int32).toInt = 294 := by decide
theorem tI_295 : (295 : Int32).toInt = 295 := by decide
theorem tI_296 : (296 : Int32).toInt = 296 := by decide
theorem tI_297 : (297 : Int32).toInt = 297 := by decide
theorem tI_298 : (298 : Int32).toInt = 298 := by decide
theorem tI_299 : (299 : Int32).toInt = 299 := by decide
theorem tI_511 : (511 : Int32).toInt = 511 := by decide
theorem tI_512 : (512 : Int32).toInt = 512 := by decide
theorem tI_513 : (513 : Int32).toInt = 513 := by decide
theorem tI_999 : (999 : Int32).toInt = 999 := by decide
theorem tI_1000 : (1000 : Int32).toInt = 1000 := by decide
theorem tI_1023 : (1023 : Int32).toInt = 1023 := by decide
theorem tI_1024 : (1024 : Int32).toInt = 1024 := by decide
theorem tI_1599 : (1599 : Int32).toInt = 1599 := by decide
theorem tI_1600 : (1600 : Int32).toInt = 1600 := by decide
theorem tI_1601 : (1601 : Int32).toInt = 1601 := by decide
theorem tI_1619 : (1619 : Int32).toInt = 1619 := by decide
theorem tI_1620 : (1620 : Int32).toInt = 1620 := by decide
theorem tI_9999 : (9999 : Int32).toInt = 9999 := by decide
theorem tI_100000 : (100000 : Int32).toInt = 100000 := by decide
theorem tI_252645135 : (252645135 : Int32).toInt = 252645135 := by decide
theorem tI_858993459 : (858993459 : Int32).toInt = 858993459 := by decide
theorem tI_1431655765 : (1431655765 : Int32).toInt = 1431655765 := by decide
def ex_Y (ad : Nat → Nat) (tN : Nat) (fN : Nat → Int64) (A : Nat → Prop) (U : State) : Prop := va_Nw (.methodLinkNest RX2 11 yX10_isPart "HungFloors") U ∧ va_En "HungFloors$Kind" "LHungFloors$Kind;" ["WORD", "NUMBER", "SIGN", "END", "NOTHING"] [] ad A U U.heap ∧ va_Z "HungFloors$HouseReader" "NO_NAMES" "[J" (.ref tN) A U U.heap ∧ va_T .long tN 9 (fun j => .long (fN j)) A U U.heap
theorem ey_call {ad : Nat → Nat} {tN : Nat} {fN : Nat → Int64} {A0 A1 : Nat → Prop} {s U : State} {H : Heap} {locs : List Loc} (h : ex_Y ad tN fN A0 s) (hS : va_S A0 s.heap H locs) (hF : ∀ q, A1 q → A0 q) (hU : U.heap = H) (hW : s.WarmedH U.vm) : ex_Y ad tN fN A1 U := by
  obtain ⟨h1, h2, h3, h4⟩ := h
  refine ⟨va_Nw.warmM hW h1, ?_, ?_, ?_⟩
  · rw [hU]; exact va_En.moved hW.alike ((va_En.kept h2 hS.2.1).narrow hF)
  · rw [hU]; exact ((va_Z.kept h3 hS.2.1).narrow hF).moved hW.alike
  · rw [hU]; exact va_T.moved hW.alike ((va_T.kept h4 hS.2.1).narrow hF)
theorem ey_blind {ad : Nat → Nat} {tN : Nat} {fN : Nat → Int64} {A : Nat → Prop} {U : State} {g : JFrame} {mk : MethodId} {a : Array Value} (h : ex_Y ad tN fN A U) : ex_Y ad tN fN A (U.calling g mk a) := by
  obtain ⟨h1, h2, h3, h4⟩ := h
  exact ⟨va_Nw.same rfl rfl h1, va_En.moved (Vm.Alike.refl U.vm) h2, va_Z.moved (Vm.Alike.refl U.vm) h3, va_T.moved (Vm.Alike.refl U.vm) h4⟩
section WNM
variable {p : Program} {l : Launch} {e : Env} {R : Room} {s : State} {m : MethodId} {args : Array Value} {below : List Frame} {meth : Method} {c : Code} {H : Heap} {locs : List Loc} {cells slots : Nat} {Q : State → Prop} {g : JFrame}
theorem W_name (k : ∀ Q0 : State → Prop, Q0 = Q → W p l e R s m args below meth c H locs cells slots Q0 g) : W p l e R s m args below meth c H locs cells slots Q g := k Q rfl
end WNM
theorem i2l_ne {x : Int32} {z : Int64} (e : x.toInt64 = z) (h : ¬ x.toInt = 0) : ¬ z = 0 := by
  intro h0
  apply h
  have h1 : z.toInt = 0 := by rw [h0]; decide
  rw [← e, Int32.toInt_toInt64] at h1
  exact h1
section ALR
variable {p : Program} {l : Launch} {e : Env} {R : Room} {s : State} {m : MethodId} {args : Array Value} {below : List Frame} {meth : Method} {c : Code} {H : Heap} {locs : List Loc} {cells slots : Nat} {Q : State → Prop}
variable {cc : ByteArray} {pc : Nat} {ls : Array Slot} {rest : List Value} {D : va_G} {cl : List vw_C} {a : Nat} {tys : List (ClassId × FieldType)} {ws : va_W}
/-- a row out of an array of rows of longs -/
theorem va_aldr (hexec : p.tables.exec = Jvm.exec) (hb : c.code = cc) (hK : va_K D cl tys s) (hP : va_P D cl ws H) (q0 t0 : Nat) {cA : ClassId} {n : Nat} {f : Nat → Option Nat} (ha : ws[q0]? = some (a, .inl (cA, n, .inr (.inr (.inr (.inr f)))))) (ht : tys[t0]? = some (cA, .array .long)) {i : Int32} (hin : vp_in i n) (k : Nat) (hk : i.toInt = (k : Int)) {b : Nat} (hf : f k = some b) (hdg : decode cc pc = .ok (.aaload, 1))
    (kk : W p l e R s m args below meth c H locs cells slots Q (F0 m (pc + 1) ls (.ref b :: rest))) : W p l e R s m args below meth c H locs cells slots Q (F0 m pc ls (.int i :: .ref a :: rest)) := by
  have hlt : i.toNatClampNeg < n := Nat.not_le.mp fun q => hin (Or.inr q)
  have hi : i.toNatClampNeg = k := by
    show i.toInt.toNat = k
    rw [hk]; rfl
  have hv : va_rf (f i.toNatClampNeg) = .ref b := by rw [hi, hf]; rfl
  exact W.aald (v := .ref b) (ty := .array .long) hexec hb (hP q0 _ ha) ((hK.2 t0 _ ht).1 n (fun j => va_rf (f j))) rfl (fun q => by cases q) (by show ¬ (i < 0 ∨ (arrV _ _ _).slots.size ≤ _); rw [arrV_size]; exact hin) (by show (arrV _ _ _).slots[_]? = _; rw [arrV_read _ _ hlt, hv]) rfl rfl hdg kk
end ALR
theorem t_shr1 {x z : Int32} (h1 : 0 ≤ x.toInt) (h2 : x.toInt ≤ 512) (e : z = x >>> ((1 : Int32) &&& 31)) : 0 ≤ z.toInt ∧ z.toInt ≤ x.toInt / 2 := by
  have hlt : ¬ x < 0 := fun h => by have := x_lt.mp h; rw [show (0 : Int32).toInt = 0 by decide] at this; omega
  obtain ⟨j, hj, rfl⟩ := nI_of hlt
  have hj2 : (nI j).toInt = (j : Int) := nI_toInt hj
  have hj3 : j < 513 := by omega
  have hall : ∀ j, j < 513 → 0 ≤ (nI j >>> ((1 : Int32) &&& 31)).toInt ∧ (nI j >>> ((1 : Int32) &&& 31)).toInt ≤ (j : Int) / 2 := by decide +kernel
  rw [e, hj2]
  exact hall j hj3
theorem bc63 {x z1 z2 z3 z4 z5 z6 z7 z8 z9 z10 z11 z12 z13 z14 z15 : Int32} (h1 : 0 ≤ x.toInt) (h2 : x.toInt ≤ 63) (e0 : z1 = (x.toUInt32 >>> ((1 : Int32).toUInt32 &&& Int32.toUInt32 31)).toInt32) (e1 : z2 = z1 &&& 1431655765) (e2 : z3 = x - z2) (e3 : z4 = z3 &&& 858993459) (e4 : z5 = (z3.toUInt32 >>> ((2 : Int32).toUInt32 &&& Int32.toUInt32 31)).toInt32) (e5 : z6 = z5 &&& 858993459) (e6 : z7 = z4 + z6) (e7 : z8 = (z7.toUInt32 >>> ((4 : Int32).toUInt32 &&& Int32.toUInt32 31)).toInt32) (e8 : z9 = z7 + z8) (e9 : z10 = z9 &&& 252645135) (e10 : z11 = (z10.toUInt32 >>> ((8 : Int32).toUInt32 &&& Int32.toUInt32 31)).toInt32) (e11 : z12 = z10 + z11) (e12 : z13 = (z12.toUInt32 >>> ((16 : Int32).toUInt32 &&& Int32.toUInt32 31)).toInt32) (e13 : z14 = z12 + z13) (e14 : z15 = z14 &&& 63) : 0 ≤ z15.toInt ∧ z15.toInt ≤ 6 := by
  have hlt : ¬ x < 0 := fun h => by have := x_lt.mp h; rw [show (0 : Int32).toInt = 0 by decide] at this; omega
  obtain ⟨j, hj, rfl⟩ := nI_of hlt
  have hj2 : (nI j).toInt = (j : Int) := nI_toInt hj
  have hj3 : j < 64 := by omega
  subst e14 e13 e12 e11 e10 e9 e8 e7 e6 e5 e4 e3 e2 e1 e0
  clear hlt hj hj2 h1 h2
  revert j
  decide +kernel
theorem t_shl5 {y z : Int32} (h1 : 0 ≤ y.toInt) (h2 : y.toInt ≤ 5) (e : z = (1 : Int32) <<< (y &&& 31)) : 1 ≤ z.toInt ∧ z.toInt ≤ 32 := by
  have hlt : ¬ y < 0 := fun h => by have := x_lt.mp h; rw [show (0 : Int32).toInt = 0 by decide] at this; omega
  obtain ⟨j, hj, rfl⟩ := nI_of hlt
  have hj2 : (nI j).toInt = (j : Int) := nI_toInt hj
  have hj3 : j < 6 := by omega
  have hall : ∀ j, j < 6 → 1 ≤ ((1 : Int32) <<< (nI j &&& 31)).toInt ∧ ((1 : Int32) <<< (nI j &&& 31)).toInt ≤ 32 := by decide
  rw [e]
  exact hall j hj3
theorem t_or63 {x y z : Int32} (h1 : 0 ≤ x.toInt) (h2 : x.toInt ≤ 63) (h3 : 0 ≤ y.toInt) (h4 : y.toInt ≤ 63) (e : z = x ||| y) : 0 ≤ z.toInt ∧ z.toInt ≤ 63 := by
  have hlx : ¬ x < 0 := fun h => by have := x_lt.mp h; rw [show (0 : Int32).toInt = 0 by decide] at this; omega
  have hly : ¬ y < 0 := fun h => by have := x_lt.mp h; rw [show (0 : Int32).toInt = 0 by decide] at this; omega
  obtain ⟨j, hj, rfl⟩ := nI_of hlx
  obtain ⟨k, hk, rfl⟩ := nI_of hly
  have hj2 : (nI j).toInt = (j : Int) := nI_toInt hj
  have hk2 : (nI k).toInt = (k : Int) := nI_toInt hk
  have hj3 : j < 64 := by omega
  have hk3 : k < 64 := by omega
  have hall : ∀ j, j < 64 → ∀ k, k < 64 → 0 ≤ (nI j ||| nI k).toInt ∧ (nI j ||| nI k).toInt ≤ 63 := by decide +kernel
  rw [e]
  exact hall j hj3 k hk3
def ok_plan (ad : Nat → Nat) (cB cI cJ cZ : ClassId) (a : Nat) (r : Nat → Nat) (fc : Int32) (dc : Int32) (rk : Nat → Int32) (w : va_W) : Prop := ∃ (f0 : Nat → Int64) (f1 : Nat → Int32) (f2 : Nat → Int32) (f3 : Nat → Int32) (f4 : Nat → Int64) (f6 : Nat → Int64) (f7 : Nat → Int32) (f8 : Nat → Int32) (f9 : Nat → Int32), w = [(a, .inr (5, [.int fc, .ref (r 0), .ref (r 1), .ref (r 2), .ref (r 3), .int dc, .ref (r 4), .ref (r 5), .ref (r 6), .ref (r 7), .ref (r 8), .ref (r 9)])), (r 0, .inl (cJ, 6, .inr (.inl f0))), (r 1, .inl (cI, 6, .inl f1)), (r 2, .inl (cI, 6, .inl f2)), (r 3, .inl (cI, 6, .inl f3)), (r 4, .inl (cJ, 4, .inr (.inl f4))), (r 5, .inl (cI, 4, .inl rk)), (r 6, .inl (cJ, 40, .inr (.inl f6))), (r 7, .inl (cI, 40, .inl f7)), (r 8, .inl (cI, 40, .inl f8)), (r 9, .inl (cI, 40, .inl f9))] ∧ 0 ≤ fc.toInt ∧ fc.toInt ≤ 6 ∧ 0 ≤ dc.toInt ∧ dc.toInt ≤ 4 ∧ rg (0) 10 rk ∧ rg (-1) 5 f7 ∧ rg (0) 63 f8
def ok_frame (ad : Nat → Nat) (cB cI cJ cZ : ClassId) (a : Nat) (r : Nat → Nat) (pl : Nat) (w : va_W) : Prop := ∃ (fr : Int32) (dr : Int32) (rc : Int32) (f0 : Nat → Int32) (f1 : Nat → Int32) (gn : Int32) (f2 : Nat → Int32) (f3 : Nat → Int64) (f4 : Nat → Int64) (f5 : Nat → Int64) (f6 : Nat → Int64) (sc : Int64) (jc : Int32) (f7 : Nat → Int32) (f8 : Nat → Int32), w = [(a, .inr (2, [.ref pl, .int fr, .int dr, .int rc, .ref (r 0), .ref (r 1), .int gn, .ref (r 2), .ref (r 3), .ref (r 4), .ref (r 5), .ref (r 6), .long sc, .int jc, .ref (r 7), .ref (r 8)])), (r 0, .inl (cI, 10, .inl f0)), (r 1, .inl (cI, 10, .inl f1)), (r 2, .inl (cI, 6, .inl f2)), (r 3, .inl (cJ, 6, .inr (.inl f3))), (r 4, .inl (cJ, 6, .inr (.inl f4))), (r 5, .inl (cJ, 6, .inr (.inl f5))), (r 6, .inl (cJ, 10, .inr (.inl f6))), (r 7, .inl (cI, 70, .inl f7)), (r 8, .inl (cI, 70, .inl f8))] ∧ 0 ≤ fr.toInt ∧ fr.toInt ≤ 30 ∧ 0 ≤ dr.toInt ∧ dr.toInt ≤ 3 ∧ 0 ≤ rc.toInt ∧ rc.toInt ≤ 10 ∧ rg (-1) 5 f0 ∧ 0 ≤ jc.toInt ∧ jc.toInt ≤ 70 ∧ rg (0) 9 f7 ∧ rg (-1) 5 f8
def ok_fall (ad : Nat → Nat) (cB cI cJ cZ : ClassId) (a : Nat) (r : Nat → Nat) (wc : Int32) (w : va_W) : Prop := ∃ (fn : Int32) (f0 : Nat → Int32), w = [(a, .inr (1, [.int fn, .int wc, .ref (r 0)])), (r 0, .inl (cI, 70, .inl f0))] ∧ 0 ≤ wc.toInt ∧ wc.toInt ≤ 70
def ok_rank (ad : Nat → Nat) (cB cI cJ cZ : ClassId) (a : Nat) (r : Nat → Nat) (w : va_W) : Prop := ∃ (ct : Int32) (f0 : Nat → Int32) (f1 : Nat → Int64) (f2 : Nat → Int64), w = [(a, .inr (6, [.int ct, .ref (r 0), .ref (r 1), .ref (r 2)])), (r 0, .inl (cI, 180, .inl f0)), (r 1, .inl (cJ, 180, .inr (.inl f1))), (r 2, .inl (cJ, 180, .inr (.inl f2)))] ∧ 0 ≤ ct.toInt ∧ ct.toInt ≤ 180
def ok_pap (ad : Nat → Nat) (cB cI cJ cZ : ClassId) (a : Nat) (r : Nat → Nat) (pc : Int32) (w : va_W) : Prop := ∃ (f0 : Nat → Int32) (f1 : Nat → Int32) (f2 : Nat → Int32) (f3 : Nat → Int32) (f4 : Nat → Int32) (f5 : Nat → Int32) (f6 : Nat → Int32) (sc : Int32) (f7 : Nat → Int32) (f8 : Nat → Int32) (f9 : Nat → Int32), w = [(a, .inr (4, [.int pc, .ref (r 0), .ref (r 1), .ref (r 2), .ref (r 3), .ref (r 4), .ref (r 5), .ref (r 6), .int sc, .ref (r 7), .ref (r 8), .ref (r 9)])), (r 0, .inl (cI, 60, .inl f0)), (r 1, .inl (cI, 60, .inl f1)), (r 2, .inl (cI, 60, .inl f2)), (r 3, .inl (cI, 60, .inl f3)), (r 4, .inl (cZ, 60, .inl f4)), (r 5, .inl (cI, 60, .inl f5)), (r 6, .inl (cI, 60, .inl f6)), (r 7, .inl (cI, 9, .inl f7)), (r 8, .inl (cI, 9, .inl f8)), (r 9, .inl (cI, 9, .inl f9))] ∧ 0 ≤ pc.toInt ∧ pc.toInt ≤ 60 ∧ 0 ≤ sc.toInt ∧ sc.toInt ≤ 9 ∧ rg (0) 59 f7
def ok_tok (ad : Nat → Nat) (cB cI cJ cZ : ClassId) (a : Nat) (r : Nat → Nat) (tx : Nat) (w : va_W) : Prop := ∃ (ln : Int32) (ap : Int32) (kd : Nat) (sa : Int32) (wd : Int64) (nu : Int32), w = [(a, .inr (7, [.ref tx, .int ln, .int ap, .ref (ad kd), .int sa, .long wd, .int nu]))] ∧ 0 ≤ ln.toInt ∧ ln.toInt ≤ 1600 ∧ 0 ≤ ap.toInt ∧ ap.toInt ≤ 1600
def ok_read (ad : Nat → Nat) (cB cI cJ cZ : ClassId) (a : Nat) (r : Nat → Nat) (tk : Nat) (rp : Nat) (w : va_W) : Prop := ∃ (fk : Int32) (fp : Int32), w = [(a, .inr (3, [.ref tk, .ref rp, .int fk, .int fp]))]
def ok_main (ad : Nat → Nat) (cB cI cJ cZ : ClassId) (a : Nat) (r : Nat → Nat) (pl : Nat) (sp : Nat) (rd : Nat) (fi : Nat) (se : Nat) (fa : Nat) (cr : Nat) (ra : Nat) (pa : Nat) (nw : Int32) (w : va_W) : Prop := ∃ (f0 : Nat → Int32) (tp : Int32) (f1 : Nat → Int32) (mv : Int32), w = [(a, .inr (8, [.ref (r 0), .int tp, .ref pl, .ref sp, .ref rd, .ref (r 1), .int mv, .ref fi, .ref se, .ref fa, .ref cr, .ref ra, .ref pa, .int nw])), (r 0, .inl (cB, 1600, .inl f0)), (r 1, .inl (cI, 6, .inl f1))] ∧ 0 ≤ tp.toInt ∧ tp.toInt ≤ 1600 ∧ 0 ≤ nw.toInt ∧ nw.toInt ≤ 100000
def ok_crowd (ad : Nat → Nat) (cB cI cJ cZ cQ : ClassId) (a : Nat) (r : Nat → Nat) (st : Nat) (w : va_W) : Prop := ∃ (f1 : Nat → Int64) (f2 : Nat → Int64) (f3 : Nat → Int64) (f4 : Nat → Int64) (f5 : Nat → Int64) (f6 : Nat → Int64) (f7 : Nat → Int64) (f9 : Nat → Int64) (f10 : Nat → Int64) (f11 : Nat → Int64) (f12 : Nat → Int64) (f13 : Nat → Int64) (f14 : Nat → Int64) (f15 : Nat → Int64) (ck : Int32) (fn : Int32) (f16 : Nat → Int32) (bd : Int64) (al : Int64), w = [(a, .inr (0, [.ref (r 0), .ref (r 8), .ref (r 15), .int ck, .ref st, .int fn, .ref (r 16), .long bd, .long al])), (r 0, .inl (cQ, 7, .inr (.inr (.inr (.inr (fun j => some (r (j + 1)))))))), (r 1, .inl (cJ, 16, .inr (.inl f1))), (r 2, .inl (cJ, 16, .inr (.inl f2))), (r 3, .inl (cJ, 16, .inr (.inl f3))), (r 4, .inl (cJ, 16, .inr (.inl f4))), (r 5, .inl (cJ, 16, .inr (.inl f5))), (r 6, .inl (cJ, 16, .inr (.inl f6))), (r 7, .inl (cJ, 16, .inr (.inl f7))), (r 8, .inl (cQ, 6, .inr (.inr (.inr (.inr (fun j => some (r (j + 9)))))))), (r 9, .inl (cJ, 16, .inr (.inl f9))), (r 10, .inl (cJ, 16, .inr (.inl f10))), (r 11, .inl (cJ, 16, .inr (.inl f11))), (r 12, .inl (cJ, 16, .inr (.inl f12))), (r 13, .inl (cJ, 16, .inr (.inl f13))), (r 14, .inl (cJ, 16, .inr (.inl f14))), (r 15, .inl (cJ, 16, .inr (.inl f15))), (r 16, .inl (cI, 7, .inl f16))] ∧ 0 ≤ ck.toInt ∧ ck.toInt ≤ 16 ∧ 0 ≤ fn.toInt ∧ fn.toInt ≤ 6
