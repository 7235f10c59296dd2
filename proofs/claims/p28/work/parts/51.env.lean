theorem t_andc {x y z : Int32} {c : Int} (hy : y.toInt = c) (hc : 0 ≤ c) (e : z = x &&& y) : 0 ≤ z.toInt ∧ z.toInt ≤ c := by
  have hy1 : y.toBitVec.toInt = c := hy
  have hy2 : (y.toBitVec.toNat : Int) = c := by
    rw [← hy1]
    rw [BitVec.toInt_eq_toNat_of_msb]
    rcases hm : y.toBitVec.msb with _ | _
    · rfl
    · have := BitVec.toInt_neg_of_msb_true hm
      omega
  have hz : z.toBitVec.toNat ≤ y.toBitVec.toNat := by
    rw [e]
    show (x.toBitVec &&& y.toBitVec).toNat ≤ _
    rw [BitVec.toNat_and]
    exact Nat.and_le_right
  have hcb : c < 2147483648 := by
    have := (t_rng y).2
    rw [hy] at this
    omega
  have hz2 : z.toInt = (z.toBitVec.toNat : Int) := by
    show z.toBitVec.toInt = _
    exact BitVec.toInt_eq_toNat_of_lt (by omega)
  omega
theorem t_andcl {x y z : Int32} {c : Int} (hx : x.toInt = c) (hc : 0 ≤ c) (e : z = x &&& y) : 0 ≤ z.toInt ∧ z.toInt ≤ c := t_andc hx hc (by rw [e, Int32.and_comm])
def ms (fk tk en : Int32) : Int := (if fk.toInt = 0 then 4000 else 0) + (3300 - 2 * en.toInt - (if tk.toInt = 0 then 1 else 0))
theorem ms_lt {fk tk en fk' tk' en' : Int32} {n : Nat} (hm : (ms fk tk en).toNat < n + 1) (h1 : fk.toInt = 0) (h2 : ¬ tk.toInt = 0) (h0 : 0 ≤ en.toInt) (h00 : en.toInt ≤ 1601) (h3 : 0 ≤ en'.toInt) (h4 : en'.toInt ≤ 1601) (h : 1 ≤ fk'.toInt ∨ en.toInt < en'.toInt ∨ (tk'.toInt = 0 ∧ en.toInt ≤ en'.toInt)) : (ms fk' tk' en').toNat < n := by
  unfold ms at hm ⊢
  rw [if_pos h1, if_neg h2] at hm
  by_cases a : fk'.toInt = 0
  · rw [if_pos a]
    by_cases b : tk'.toInt = 0
    · rw [if_pos b]; omega
    · rw [if_neg b]; omega
  · rw [if_neg a]
    by_cases b : tk'.toInt = 0
    · rw [if_pos b]; omega
    · rw [if_neg b]; omega
/-- floors that are told can bear something -/
def HC (fl fC : Nat → Int32) : Prop := ∀ b f : Nat, b < 2 → (f : Int) < (fl b).toInt → 1 ≤ (fC (6 * b + f)).toInt
/-- rods that are told can bear something -/
def HR (dr rd rC : Nat → Int32) : Prop := ∀ b d r : Nat, b < 2 → (d : Int) < (dr b).toInt → (r : Int) < (rd (4 * b + d)).toInt → 1 ≤ (rC (10 * (4 * b + d) + r)).toInt
/-- rods of a bank hang from floors of it, or from the roof -/
def HF (b : Int32) (fl dr rd rf : Nat → Int32) : Prop := ∀ d r : Nat, (d : Int) < (dr b.toNatClampNeg).toInt → (r : Int) < (rd (4 * b.toNatClampNeg + d)).toInt → (rf (10 * (4 * b.toNatClampNeg + d) + r)).toInt < (fl b.toNatClampNeg).toInt
theorem cl_nat {x : Int32} (h : 0 ≤ x.toInt) : ((x.toNatClampNeg : Nat) : Int) = x.toInt := by
  show ((x.toInt.toNat : Nat) : Int) = _
  omega
theorem HC_zero {fl fC fl' : Nat → Int32} {rb : Int32} (h : HC fl fC) (q2 : fl' = upd fl rb.toNatClampNeg 0) : HC fl' fC := by
  intro b f hb hf
  rw [q2] at hf
  by_cases e : b = rb.toNatClampNeg
  · rw [e, pk_us] at hf
    have : (0 : Int32).toInt = 0 := by decide
    omega
  · rw [pk_un e] at hf
    exact h b f hb hf
theorem HR_zero {dr rd rC dr' : Nat → Int32} {rb : Int32} (h : HR dr rd rC) (q2 : dr' = upd dr rb.toNatClampNeg 0) : HR dr' rd rC := by
  intro b d r hb hd hr
  rw [q2] at hd
  by_cases e : b = rb.toNatClampNeg
  · rw [e, pk_us] at hd
    have : (0 : Int32).toInt = 0 := by decide
    omega
  · rw [pk_un e] at hd
    exact h b d r hb hd hr
theorem HC_floor {fl fC fl' fC' : Nat → Int32} {rb n k v n1 : Int32} (h : HC fl fC) (hfl : rg 0 6 fl) (hrb : 0 ≤ rb.toInt) (en : n = fl rb.toNatClampNeg) (hn : n.toInt ≤ 5) (hk : k.toInt = 6 * rb.toInt + n.toInt) (hv : 1 ≤ v.toInt) (hn1 : n1.toInt = n.toInt + 1) (q1 : fC' = upd fC k.toNatClampNeg v) (q2 : fl' = upd fl rb.toNatClampNeg n1) : HC fl' fC' := by
  have hn0 : 0 ≤ n.toInt := by rw [en]; exact (hfl _).1
  have h1 := cl_nat hrb
  have h2 : ((k.toNatClampNeg : Nat) : Int) = k.toInt := cl_nat (by omega)
  intro b f hb hf
  rw [q2] at hf
  rw [q1]
  by_cases e : b = rb.toNatClampNeg
  · rw [e, pk_us] at hf
    by_cases e2 : 6 * b + f = k.toNatClampNeg
    · rw [e2, pk_us]; exact hv
    · rw [pk_un e2]
      refine h b f hb ?_
      rw [e, ← en]
      omega
  · rw [pk_un e] at hf
    have := (hfl b).2
    rw [pk_un (by omega)]
    exact h b f hb hf
theorem HR_drawing {dr rd rC dr' rd' : Nat → Int32} {rb n k n1 : Int32} (h : HR dr rd rC) (hdr : rg 0 4 dr) (hrb : 0 ≤ rb.toInt) (en : n = dr rb.toNatClampNeg) (hn : n.toInt ≤ 3) (hk : k.toInt = 4 * rb.toInt + n.toInt) (hn1 : n1.toInt = n.toInt + 1) (q1 : rd' = upd rd k.toNatClampNeg 0) (q2 : dr' = upd dr rb.toNatClampNeg n1) : HR dr' rd' rC := by
  have hn0 : 0 ≤ n.toInt := by rw [en]; exact (hdr _).1
  have h1 := cl_nat hrb
  have h2 : ((k.toNatClampNeg : Nat) : Int) = k.toInt := cl_nat (by omega)
  intro b d r hb hd hr
  rw [q2] at hd
  rw [q1] at hr
  by_cases e2 : 4 * b + d = k.toNatClampNeg
  · rw [e2, pk_us] at hr
    have : (0 : Int32).toInt = 0 := by decide
    omega
  · rw [pk_un e2] at hr
    by_cases e : b = rb.toNatClampNeg
    · rw [e, pk_us] at hd
      refine h b d r hb ?_ hr
      rw [e, ← en]
      omega
    · rw [pk_un e] at hd
      exact h b d r hb hd hr
theorem HR_rod {dr rd rC rd' rC' : Nat → Int32} {rb n dd m k v m1 : Int32} (h : HR dr rd rC) (hdr : rg 0 4 dr) (hrd : rg 0 10 rd) (hrb : 0 ≤ rb.toInt) (en : n = dr rb.toNatClampNeg) (hn1 : 1 ≤ n.toInt) (hdd : dd.toInt = 4 * rb.toInt + n.toInt - 1) (em : m = rd dd.toNatClampNeg) (hm : m.toInt ≤ 9) (hk : k.toInt = 10 * dd.toInt + m.toInt) (hv : 1 ≤ v.toInt) (hm1 : m1.toInt = m.toInt + 1) (q1 : rC' = upd rC k.toNatClampNeg v) (q2 : rd' = upd rd dd.toNatClampNeg m1) : HR dr rd' rC' := by
  have hm0 : 0 ≤ m.toInt := by rw [em]; exact (hrd _).1
  have hn4 : n.toInt ≤ 4 := by rw [en]; exact (hdr _).2
  have h1 := cl_nat hrb
  have h3 : ((dd.toNatClampNeg : Nat) : Int) = dd.toInt := cl_nat (by omega)
  have h2 : ((k.toNatClampNeg : Nat) : Int) = k.toInt := cl_nat (by omega)
  intro b d r hb hd hr
  rw [q2] at hr
  rw [q1]
  by_cases e2 : 4 * b + d = dd.toNatClampNeg
  · rw [e2, pk_us] at hr
    by_cases e3 : 10 * (4 * b + d) + r = k.toNatClampNeg
    · rw [e3, pk_us]; exact hv
    · rw [pk_un e3]
      refine h b d r hb hd ?_
      rw [e2, ← em]
      omega
  · rw [pk_un e2] at hr
    have := (hrd (4 * b + d)).2
    rw [pk_un (by omega)]
    exact h b d r hb hd hr
theorem HF_zero {fl dr rd rf dr' : Nat → Int32} {rb : Int32} (q2 : dr' = upd dr rb.toNatClampNeg 0) : HF rb fl dr' rd rf := by
  intro d r hd hr
  rw [q2, pk_us] at hd
  have : (0 : Int32).toInt = 0 := by decide
  omega
theorem bn_ne {rb bk : Int32} (h1 : 0 ≤ rb.toInt) (h2 : 0 ≤ bk.toInt) (h : rb.toInt + bk.toInt = 1) : ¬ bk.toNatClampNeg = rb.toNatClampNeg := by
  have a := cl_nat h1
  have b := cl_nat h2
  omega
/-- what the other bank sees of changes at this one: nothing -/
theorem HF_other0 {fl dr rd rf fl' dr' : Nat → Int32} {rb bk : Int32} {v w : Int32} (h : HF bk fl dr rd rf) (hne : ¬ bk.toNatClampNeg = rb.toNatClampNeg) (q1 : fl' = upd fl rb.toNatClampNeg v) (q2 : dr' = upd dr rb.toNatClampNeg w) : HF bk fl' dr' rd rf := by
  intro d r hd hr
  rw [q2, pk_un hne] at hd
  rw [q1, pk_un hne]
  exact h d r hd hr
theorem HF_floorO {fl dr rd rf fl' : Nat → Int32} {rb bk : Int32} {v : Int32} (h : HF bk fl dr rd rf) (hne : ¬ bk.toNatClampNeg = rb.toNatClampNeg) (q1 : fl' = upd fl rb.toNatClampNeg v) : HF bk fl' dr rd rf := by
  intro d r hd hr
  rw [q1, pk_un hne]
  exact h d r hd hr
theorem HF_floorS {fl dr rd rf fl' : Nat → Int32} {rb : Int32} {n n1 : Int32} (h : HF rb fl dr rd rf) (en : n = fl rb.toNatClampNeg) (hn1 : n1.toInt = n.toInt + 1) (q1 : fl' = upd fl rb.toNatClampNeg n1) : HF rb fl' dr rd rf := by
  intro d r hd hr
  rw [q1, pk_us]
  have := h d r hd hr
  rw [← en] at this
  omega
theorem HF_drawO {fl dr rd rf dr' rd' : Nat → Int32} {rb bk n k n1 : Int32} (h : HF bk fl dr rd rf) (hdr : rg 0 4 dr) (hrb : 0 ≤ rb.toInt) (hbk : 0 ≤ bk.toInt) (hs : rb.toInt + bk.toInt = 1) (en : n = dr rb.toNatClampNeg) (hn : n.toInt ≤ 3) (hk : k.toInt = 4 * rb.toInt + n.toInt) (q1 : rd' = upd rd k.toNatClampNeg 0) (q2 : dr' = upd dr rb.toNatClampNeg n1) : HF bk fl dr' rd' rf := by
  have hn0 : 0 ≤ n.toInt := by rw [en]; exact (hdr _).1
  have h1 := cl_nat hrb
  have h4 := cl_nat hbk
  have h2 : ((k.toNatClampNeg : Nat) : Int) = k.toInt := cl_nat (by omega)
  have hne := bn_ne hrb hbk hs
  intro d r hd hr
  rw [q2, pk_un hne] at hd
  have := (hdr bk.toNatClampNeg).2
  rw [q1, pk_un (by omega)] at hr
  exact h d r hd hr
theorem HF_drawS {fl dr rd rf dr' rd' : Nat → Int32} {rb n k n1 : Int32} (h : HF rb fl dr rd rf) (hdr : rg 0 4 dr) (hrb : 0 ≤ rb.toInt) (en : n = dr rb.toNatClampNeg) (hn : n.toInt ≤ 3) (hk : k.toInt = 4 * rb.toInt + n.toInt) (hn1 : n1.toInt = n.toInt + 1) (q1 : rd' = upd rd k.toNatClampNeg 0) (q2 : dr' = upd dr rb.toNatClampNeg n1) : HF rb fl dr' rd' rf := by
  have hn0 : 0 ≤ n.toInt := by rw [en]; exact (hdr _).1
  have h1 := cl_nat hrb
  have h2 : ((k.toNatClampNeg : Nat) : Int) = k.toInt := cl_nat (by omega)
  intro d r hd hr
  rw [q2, pk_us] at hd
  rw [q1] at hr
  by_cases e2 : 4 * rb.toNatClampNeg + d = k.toNatClampNeg
  · rw [e2, pk_us] at hr
    have : (0 : Int32).toInt = 0 := by decide
    omega
  · rw [pk_un e2] at hr
    refine h d r ?_ hr
    rw [← en]
    omega
theorem HF_rodO {fl dr rd rf rd' rf' : Nat → Int32} {rb bk n dd m k m1 : Int32} (h : HF bk fl dr rd rf) (hdr : rg 0 4 dr) (hrd : rg 0 10 rd) (hrb : 0 ≤ rb.toInt) (hbk : 0 ≤ bk.toInt) (hs : rb.toInt + bk.toInt = 1) (en : n = dr rb.toNatClampNeg) (hn1 : 1 ≤ n.toInt) (hdd : dd.toInt = 4 * rb.toInt + n.toInt - 1) (em : m = rd dd.toNatClampNeg) (hm : m.toInt ≤ 9) (hk : k.toInt = 10 * dd.toInt + m.toInt) (q1 : ∀ i, ¬ i = k.toNatClampNeg → rf' i = rf i) (q2 : rd' = upd rd dd.toNatClampNeg m1) : HF bk fl dr rd' rf' := by
  have hm0 : 0 ≤ m.toInt := by rw [em]; exact (hrd _).1
  have hn4 : n.toInt ≤ 4 := by rw [en]; exact (hdr _).2
  have h1 := cl_nat hrb
  have h4 := cl_nat hbk
  have h3 : ((dd.toNatClampNeg : Nat) : Int) = dd.toInt := cl_nat (by omega)
  have h2 : ((k.toNatClampNeg : Nat) : Int) = k.toInt := cl_nat (by omega)
  intro d r hd hr
  have := (hdr bk.toNatClampNeg).2
  have e2 : ¬ 4 * bk.toNatClampNeg + d = dd.toNatClampNeg := by omega
  rw [q2, pk_un e2] at hr
  have := (hrd (4 * bk.toNatClampNeg + d)).2
  rw [q1 _ (by omega)]
  exact h d r hd hr
theorem HF_rodS {fl dr rd rf rd' rf' : Nat → Int32} {rb n dd m k m1 : Int32} (h : HF rb fl dr rd rf) (hdr : rg 0 4 dr) (hrd : rg 0 10 rd) (hrb : 0 ≤ rb.toInt) (en : n = dr rb.toNatClampNeg) (hn1 : 1 ≤ n.toInt) (hdd : dd.toInt = 4 * rb.toInt + n.toInt - 1) (em : m = rd dd.toNatClampNeg) (hm : m.toInt ≤ 9) (hk : k.toInt = 10 * dd.toInt + m.toInt) (hm1 : m1.toInt = m.toInt + 1) (hx : (rf' k.toNatClampNeg).toInt < (fl rb.toNatClampNeg).toInt) (q1 : ∀ i, ¬ i = k.toNatClampNeg → rf' i = rf i) (q2 : rd' = upd rd dd.toNatClampNeg m1) : HF rb fl dr rd' rf' := by
  have hm0 : 0 ≤ m.toInt := by rw [em]; exact (hrd _).1
  have h1 := cl_nat hrb
  have h3 : ((dd.toNatClampNeg : Nat) : Int) = dd.toInt := cl_nat (by omega)
  have h2 : ((k.toNatClampNeg : Nat) : Int) = k.toInt := cl_nat (by omega)
  intro d r hd hr
  rw [q2] at hr
  by_cases e3 : 10 * (4 * rb.toNatClampNeg + d) + r = k.toNatClampNeg
  · rw [e3]; exact hx
  · rw [q1 _ e3]
    refine h d r hd ?_
    by_cases e2 : 4 * rb.toNatClampNeg + d = dd.toNatClampNeg
    · rw [e2, pk_us] at hr
      rw [e2, ← em]
      omega
    · rw [pk_un e2] at hr
      exact hr
theorem lc_eq {x y : Int64} {z : Int32} (e : z = lg_cmp x y) (h : z.toInt = 0) : x = y := by
  have hz : z = 0 := x_eq.mpr (by rw [h]; decide)
  rw [e] at hz
  unfold lg_cmp at hz
  split at hz
  · exact absurd hz (by decide)
  · split at hz
    · assumption
    · exact absurd hz (by decide)
theorem b64_in {a : Int} (h1 : -9223372036854775808 ≤ a) (h2 : a ≤ 9223372036854775807) : a.bmod (2 ^ 64) = a := by
  rw [Int.bmod_eq_of_le] <;> omega
theorem r64 (x : Int64) : -9223372036854775808 ≤ x.toInt ∧ x.toInt ≤ 9223372036854775807 := by
  have h1 := Int64.le_toInt x
  have h2 := Int64.toInt_lt x
  omega
theorem z64 {x : Int64} (h : x.toInt = 0) : x = 0 := Int64.toInt_inj.mp (by rw [h]; rfl)
theorem nz64 {x : Int64} (h : ¬ x = 0) : ¬ x.toInt = 0 := fun h0 => h (z64 h0)
/-- the rest of a division, as the machine takes it -/
theorem rm_toInt (x y : Int64) : (x - x / y * y).toInt = x.toInt.tmod y.toInt := by
  rw [Int64.toInt_sub, Int64.toInt_mul, Int64.toInt_div, Int.bmod_mul_bmod, Int.sub_bmod_bmod]
  have e : x.toInt - x.toInt.tdiv y.toInt * y.toInt = x.toInt.tmod y.toInt := by
    rw [Int.tmod_def, Int.mul_comm]
  rw [e]
  have h1 : (x.toInt.tmod y.toInt).natAbs ≤ x.toInt.natAbs := by
    rw [Int.natAbs_tmod]; exact Nat.mod_le _ _
  have hx := r64 x
  apply b64_in
  · omega
  · by_cases h0 : 0 ≤ x.toInt
    · omega
    · have h2 : 0 ≤ (-x.toInt).tmod y.toInt := Int.tmod_nonneg _ (by omega)
      rw [Int.neg_tmod] at h2
      omega
theorem cm_lt {p q r : Int64} (e : r = p - p / q * q) (h : ¬ q = 0) : r.toInt.natAbs < q.toInt.natAbs := by
  rw [e, rm_toInt, Int.natAbs_tmod]
  apply Nat.mod_lt
  have := nz64 h
  omega
theorem cm_gcd {p q r : Int64} (e : r = p - p / q * q) : Int.gcd q.toInt r.toInt = Int.gcd p.toInt q.toInt := by
  rw [e, rm_toInt]
  show Nat.gcd q.toInt.natAbs (p.toInt.tmod q.toInt).natAbs = Nat.gcd p.toInt.natAbs q.toInt.natAbs
  rw [Int.natAbs_tmod, Nat.gcd_comm p.toInt.natAbs q.toInt.natAbs, Nat.gcd_rec q.toInt.natAbs p.toInt.natAbs]
  exact Nat.gcd_comm _ _
theorem cm_zero {p q : Int64} (h : q = 0) : Int.gcd p.toInt q.toInt = p.toInt.natAbs := by
  rw [h]
  show Nat.gcd p.toInt.natAbs 0 = _
  exact Nat.gcd_zero_right _
theorem cm_nz {a b g : Int64} (h : Int.gcd a.toInt b.toInt = g.toInt.natAbs) (hb : ¬ b = 0) : ¬ g = 0 := by
  intro h0
  rw [h0] at h
  have h1 : Nat.gcd a.toInt.natAbs b.toInt.natAbs = 0 := h
  have h2 := (Nat.gcd_eq_zero_iff.mp h1).2
  exact nz64 hb (by omega)
theorem cm_nz' {a b g : Int64} (h : Int.gcd a.toInt b.toInt = g.toInt.natAbs) (ha : ¬ a = 0) : ¬ g = 0 := by
  intro h0
  rw [h0] at h
  have h1 : Nat.gcd a.toInt.natAbs b.toInt.natAbs = 0 := h
  have h2 := (Nat.gcd_eq_zero_iff.mp h1).1
  exact nz64 ha (by omega)
theorem im_lt {p q one mm r : Int64} (e1 : one = p / q) (e2 : mm = one * q) (e3 : r = p - mm) (h : ¬ q = 0) : r.toInt.natAbs < q.toInt.natAbs := cm_lt (by rw [e3, e2, e1]) h
/-- a lower part of a fraction: not 0, and it divides P -/
def DV (P : Nat) (x : Int64) : Prop := ¬ x = 0 ∧ x.toInt.natAbs ∣ P
def AD (x y : Int64) : Prop := ∃ P : Nat, 0 < P ∧ P ≤ 1000000000 ∧ DV P x ∧ DV P y
/-- a lower part that is not too great -/
def DN (B : Nat) (x : Int64) : Prop := ¬ x = 0 ∧ x.toInt.natAbs ≤ B
theorem DV_le {P : Nat} {x : Int64} (hP : 0 < P) (h : DV P x) : x.toInt.natAbs ≤ P := Nat.le_of_dvd hP h.2
theorem DV_DN {P B : Nat} {x : Int64} (hP : 0 < P) (hB : P ≤ B) (h : DV P x) : DN B x := ⟨h.1, Nat.le_trans (DV_le hP h) hB⟩
theorem dv_toInt {x g : Int64} (hx : x.toInt.natAbs ≤ 1000000000000) : (x / g).toInt = x.toInt.tdiv g.toInt := by
  rw [Int64.toInt_div]
  have := Int.natAbs_tdiv_le_natAbs x.toInt g.toInt
  apply b64_in <;> omega
theorem dv_abs {x g : Int64} (hx : x.toInt.natAbs ≤ 1000000000000) : (x / g).toInt.natAbs = x.toInt.natAbs / g.toInt.natAbs := by
  rw [dv_toInt hx, Int.natAbs_tdiv]
  rfl
theorem ml_abs {x y : Int64} (h : x.toInt.natAbs * y.toInt.natAbs ≤ 1000000000000000) : (x * y).toInt.natAbs = x.toInt.natAbs * y.toInt.natAbs := by
  rw [Int64.toInt_mul]
  have e := Int.natAbs_mul x.toInt y.toInt
  rw [b64_in (by omega) (by omega), e]
theorem ad_b {P : Nat} {x y g q b : Int64} (hP : 0 < P) (hPm : P ≤ 1000000000) (hx : DV P x) (hy : DV P y) (hg : Int.gcd x.toInt y.toInt = g.toInt.natAbs) (e1 : q = x / g) (e2 : b = q * y) : DV P b := by
  have hg' : Nat.gcd x.toInt.natAbs y.toInt.natAbs = g.toInt.natAbs := hg
  have hxl := DV_le hP hx
  have hq : q.toInt.natAbs = x.toInt.natAbs / Nat.gcd x.toInt.natAbs y.toInt.natAbs := by rw [e1, dv_abs (by omega), hg']
  have hl : q.toInt.natAbs * y.toInt.natAbs = Nat.lcm x.toInt.natAbs y.toInt.natAbs := by
    rw [hq, Nat.lcm_eq_mul_div, Nat.mul_comm x.toInt.natAbs y.toInt.natAbs, Nat.mul_div_assoc _ (Nat.gcd_dvd_left _ _), Nat.mul_comm]
  have hd : Nat.lcm x.toInt.natAbs y.toInt.natAbs ∣ P := Nat.lcm_dvd hx.2 hy.2
  have hle := Nat.le_of_dvd hP hd
  have hb : b.toInt.natAbs = Nat.lcm x.toInt.natAbs y.toInt.natAbs := by rw [e2, ml_abs (by omega), hl]
  refine ⟨fun h0 => ?_, by rw [hb]; exact hd⟩
  rw [h0] at hb
  have h9 : Nat.lcm x.toInt.natAbs y.toInt.natAbs = 0 := hb.symm
  have h8 : x.toInt.natAbs ∣ Nat.lcm x.toInt.natAbs y.toInt.natAbs := Nat.dvd_lcm_left _ _
  have h7 : y.toInt.natAbs ∣ Nat.lcm x.toInt.natAbs y.toInt.natAbs := Nat.dvd_lcm_right _ _
  have hx0 := nz64 hx.1
  have hy0 := nz64 hy.1
  have h6 : 0 < Nat.lcm x.toInt.natAbs y.toInt.natAbs := Nat.lcm_pos (by omega) (by omega)
  omega
theorem ad_q {P : Nat} {a b l q : Int64} (hP : 0 < P) (hPm : P ≤ 1000000000) (hb : DV P b) (hl : Int.gcd a.toInt b.toInt = l.toInt.natAbs) (e : q = b / l) : DV P q := by
  have hl' : Nat.gcd a.toInt.natAbs b.toInt.natAbs = l.toInt.natAbs := hl
  have hbl := DV_le hP hb
  have hq : q.toInt.natAbs = b.toInt.natAbs / l.toInt.natAbs := by rw [e, dv_abs (by omega)]
  have hd : l.toInt.natAbs ∣ b.toInt.natAbs := by rw [← hl']; exact Nat.gcd_dvd_right _ _
  have hb0 := nz64 hb.1
  have hpos : 0 < b.toInt.natAbs / l.toInt.natAbs := Nat.div_pos (Nat.le_of_dvd (by omega) hd) (Nat.pos_of_dvd_of_pos hd (by omega))
  refine ⟨fun h0 => ?_, ?_⟩
  · rw [h0] at hq
    have : (0 : Int64).toInt.natAbs = 0 := rfl
    omega
  · rw [hq]
    exact Nat.dvd_trans (Nat.div_dvd_of_dvd hd) hb.2
theorem DN_q {B : Nat} {a b l q : Int64} (hB : B ≤ 1000000000000) (hb : DN B b) (hl : Int.gcd a.toInt b.toInt = l.toInt.natAbs) (e : q = b / l) : DN B q := by
  have hl' : Nat.gcd a.toInt.natAbs b.toInt.natAbs = l.toInt.natAbs := hl
  have hbl := hb.2
  have hq : q.toInt.natAbs = b.toInt.natAbs / l.toInt.natAbs := by rw [e, dv_abs (by omega)]
  have hd : l.toInt.natAbs ∣ b.toInt.natAbs := by rw [← hl']; exact Nat.gcd_dvd_right _ _
  have hb0 := nz64 hb.1
  have hpos : 0 < b.toInt.natAbs / l.toInt.natAbs := Nat.div_pos (Nat.le_of_dvd (by omega) hd) (Nat.pos_of_dvd_of_pos hd (by omega))
  refine ⟨fun h0 => ?_, ?_⟩
  · rw [h0] at hq
    have : (0 : Int64).toInt.natAbs = 0 := rfl
    omega
  · rw [hq]
    exact Nat.le_trans (Nat.div_le_self _ _) hbl
theorem DN_mul {B C : Nat} {x y z : Int64} {h : Int32} (hx : DN B x) (h1 : 1 ≤ h.toInt) (h2 : h.toInt ≤ C) (hBC : B * C ≤ 1000000000000000) (ey : h.toInt64 = y) (e : z = x * y) : DN (B * C) z := by
  have hy : y.toInt.natAbs = h.toInt.natAbs := by rw [← ey, Int32.toInt_toInt64]
  have hle : x.toInt.natAbs * y.toInt.natAbs ≤ B * C := Nat.mul_le_mul hx.2 (by omega)
  have hz : z.toInt.natAbs = x.toInt.natAbs * y.toInt.natAbs := by rw [e, ml_abs (by omega)]
  have hx0 := nz64 hx.1
  refine ⟨fun h0 => ?_, by omega⟩
  rw [h0] at hz
  have h9 : 0 < x.toInt.natAbs * y.toInt.natAbs := Nat.mul_pos (by omega) (by omega)
  have : (0 : Int64).toInt.natAbs = 0 := rfl
  omega
theorem DV_mul {P : Nat} {x y z : Int64} {h : Int32} (hP : 0 < P) (hx : DV P x) (h1 : 1 ≤ h.toInt) (hb : P * h.toInt.natAbs ≤ 1000000000) (ey : h.toInt64 = y) (e : z = x * y) : DV (P * h.toInt.natAbs) z := by
  have hy : y.toInt.natAbs = h.toInt.natAbs := by rw [← ey, Int32.toInt_toInt64]
  have hle : x.toInt.natAbs * y.toInt.natAbs ≤ P * h.toInt.natAbs := by rw [hy]; exact Nat.mul_le_mul (DV_le hP hx) (Nat.le_refl _)
  have hz : z.toInt.natAbs = x.toInt.natAbs * y.toInt.natAbs := by rw [e, ml_abs (by omega)]
  have hx0 := nz64 hx.1
  refine ⟨fun h0 => ?_, by rw [hz, hy]; exact Nat.mul_dvd_mul hx.2 (Nat.dvd_refl _)⟩
  rw [h0] at hz
  have h9 : 0 < x.toInt.natAbs * y.toInt.natAbs := Nat.mul_pos (by omega) (by omega)
  have : (0 : Int64).toInt.natAbs = 0 := rfl
  omega
theorem DV_up {P h : Nat} {x : Int64} (hx : DV P x) : DV (P * h) x := ⟨hx.1, Nat.dvd_trans hx.2 (Nat.dvd_mul_right _ _)⟩
theorem DV_one {P : Nat} : DV P 1 := ⟨by decide, by show (1 : Int64).toInt.natAbs ∣ P; rw [show (1 : Int64).toInt.natAbs = 1 by decide]; exact Nat.one_dvd _⟩
theorem DV_ten {P : Nat} (h : 10 ∣ P) : DV P 10 := ⟨by decide, by show (10 : Int64).toInt.natAbs ∣ P; rw [show (10 : Int64).toInt.natAbs = 10 by decide]; exact h⟩
/-- a joint's fraction can be reckoned -/
def BO (jr jf he : Nat → Int32) (wd dn : Nat → Int64) (j : Int32) : Prop := ((jf j.toNatClampNeg).toInt < 0 → DN 10000000 (dn (jr j.toNatClampNeg).toNatClampNeg)) ∧ (0 ≤ (jf j.toNatClampNeg).toInt → DN 1000000 (wd (jf j.toNatClampNeg).toNatClampNeg) ∧ 1 ≤ (he (jf j.toNatClampNeg).toNatClampNeg).toInt ∧ (he (jf j.toNatClampNeg).toNatClampNeg).toInt ≤ 10)
theorem cl4 {z b d : Int32} (h : z.toInt = 4 * b.toInt + d.toInt) (hb : 0 ≤ b.toInt) (hd : 0 ≤ d.toInt) : z.toNatClampNeg = 4 * b.toNatClampNeg + d.toNatClampNeg := by
  have h1 := cl_nat hb
  have h2 := cl_nat hd
  have h3 : ((z.toNatClampNeg : Nat) : Int) = z.toInt := cl_nat (by omega)
  omega
theorem HC_at {fl fC : Nat → Int32} {bk f z v : Int32} (h : HC fl fC) (hb0 : 0 ≤ bk.toInt) (hb1 : bk.toInt ≤ 1) (hz : z.toInt = 6 * bk.toInt + f.toInt) (hf0 : 0 ≤ f.toInt) (hf : f.toInt < (fl bk.toNatClampNeg).toInt) (e : v = fC z.toNatClampNeg) : 1 ≤ v.toInt := by
  have h1 := cl_nat hb0
  have h2 := cl_nat hf0
  have h3 : ((z.toNatClampNeg : Nat) : Int) = z.toInt := cl_nat (by omega)
  have h4 := h bk.toNatClampNeg f.toNatClampNeg (by omega) (by omega)
  rw [e, show z.toNatClampNeg = 6 * bk.toNatClampNeg + f.toNatClampNeg by omega]
  exact h4
theorem HR_at {dr rd rC : Nat → Int32} {bk d r z v : Int32} (h : HR dr rd rC) (hb0 : 0 ≤ bk.toInt) (hb1 : bk.toInt ≤ 1) (hd0 : 0 ≤ d.toInt) (hr0 : 0 ≤ r.toInt) (hz : z.toInt = 10 * (4 * bk.toInt + d.toInt) + r.toInt) (hd : d.toInt < (dr bk.toNatClampNeg).toInt) (hr : r.toInt < (rd (4 * bk.toNatClampNeg + d.toNatClampNeg)).toInt) (e : v = rC z.toNatClampNeg) : 1 ≤ v.toInt := by
  have h1 := cl_nat hb0
  have h2 := cl_nat hd0
  have h5 := cl_nat hr0
  have h3 : ((z.toNatClampNeg : Nat) : Int) = z.toInt := cl_nat (by omega)
  have h4 := h bk.toNatClampNeg d.toNatClampNeg r.toNatClampNeg (by omega) (by omega) (by omega)
  rw [e, show z.toNatClampNeg = 10 * (4 * bk.toNatClampNeg + d.toNatClampNeg) + r.toNatClampNeg by omega]
  exact h4
/-- a floor is held by a rod that is there -/
def HD (iz ho : Nat → Int32) (r f : Int32) : Prop := ¬ (iz r.toNatClampNeg).toInt = 0 ∧ ((ho r.toNatClampNeg >>> (f &&& 31)) &&& 1).toInt = 1
/-- a joint is there -/
def TH (iz ho jr jf : Nat → Int32) (j : Int32) : Prop := ((jf j.toNatClampNeg).toInt < 0 → ¬ (iz (jr j.toNatClampNeg).toNatClampNeg).toInt = 0) ∧ (0 ≤ (jf j.toNatClampNeg).toInt → HD iz ho (jr j.toNatClampNeg) (jf j.toNatClampNeg))
/-- what is reckoned -/
def RK (iz ho he : Nat → Int32) (wd dn : Nat → Int64) (rl : Int32) (fm : Int) : Prop := (∀ r f : Int32, 0 ≤ r.toInt → r.toInt < rl.toInt → 0 ≤ f.toInt → f.toInt < fm → HD iz ho r f → 1 ≤ (he f.toNatClampNeg).toInt) ∧ (∀ f : Int32, 0 ≤ f.toInt → f.toInt < fm → DN 1000000 (wd f.toNatClampNeg)) ∧ (∀ r : Int32, 0 ≤ r.toInt → r.toInt < rl.toInt → DN 10000000 (dn r.toNatClampNeg))
/-- the joints' shape -/
def JS (jr jf : Nat → Int32) (jm rl : Int32) (fm : Int) : Prop := ∀ j : Int32, 0 ≤ j.toInt → j.toInt < jm.toInt → (jr j.toNatClampNeg).toInt < rl.toInt ∧ (jf j.toNatClampNeg).toInt < fm
/-- what is laid -/
def LD (fl dr rd fr : Nat → Int32) (bk dw rl : Int32) : Prop := dw.toInt < (dr bk.toNatClampNeg).toInt ∧ rl.toInt ≤ (rd (4 * bk.toNatClampNeg + dw.toNatClampNeg)).toInt ∧ ∀ r : Int32, 0 ≤ r.toInt → r.toInt < rl.toInt → (fr r.toNatClampNeg).toInt < (fl bk.toNatClampNeg).toInt
def CO (fl dr rd fr jr jf : Nat → Int32) (bk dw j : Int32) : Prop := dw.toInt < (dr bk.toNatClampNeg).toInt ∧ (jr j.toNatClampNeg).toInt < (rd (4 * bk.toNatClampNeg + dw.toNatClampNeg)).toInt ∧ (fr (jr j.toNatClampNeg).toNatClampNeg).toInt < (fl bk.toNatClampNeg).toInt ∧ (jf j.toNatClampNeg).toInt < (fl bk.toNatClampNeg).toInt
theorem BO_of {iz ho he jr jf : Nat → Int32} {wd dn : Nat → Int64} {jm rl j : Int32} {fm : Int} (h : RK iz ho he wd dn rl fm) (hj : JS jr jf jm rl fm) (hr : rg 0 9 jr) (hh : rg 0 10 he) (h0 : 0 ≤ j.toInt) (h1 : j.toInt < jm.toInt) (ht : TH iz ho jr jf j) : BO jr jf he wd dn j := by
  have hs := hj j h0 h1
  have hr0 := (hr j.toNatClampNeg).1
  refine ⟨fun _ => h.2.2 _ hr0 hs.1, fun hf => ⟨h.2.1 _ hf hs.2, h.1 _ _ hr0 hs.1 hf hs.2 (ht.2 hf), (hh _).2⟩⟩
theorem CO_of {fl dr rd fr jr jf : Nat → Int32} {bk dw jm rl j : Int32} (h : LD fl dr rd fr bk dw rl) (hj : JS jr jf jm rl (fl bk.toNatClampNeg).toInt) (hr : rg 0 9 jr) (h0 : 0 ≤ j.toInt) (h1 : j.toInt < jm.toInt) : CO fl dr rd fr jr jf bk dw j := by
  have hs := hj j h0 h1
  have hr0 := (hr j.toNatClampNeg).1
  have h2 := h.2.1
  exact ⟨h.1, by omega, h.2.2 _ hr0 hs.1, hs.2⟩
theorem ul_s {f : Nat → Int64} {k : Nat} {x : Int64} : vp_updL f k x k = x := if_pos rfl
theorem ul_n {f : Nat → Int64} {k j : Nat} {x : Int64} (h : ¬ j = k) : vp_updL f k x j = f j := if_neg h
theorem tn_inj {a b : Int32} (h1 : 0 ≤ a.toInt) (h2 : 0 ≤ b.toInt) (h : a.toNatClampNeg = b.toNatClampNeg) : a = b := by
  have := cl_nat h1
  have := cl_nat h2
  exact x_eq.mpr (by omega)
/-- what is laid of the rods before r -/
def LA (fr iz ho rh : Nat → Int32) (bk d r : Int32) (fm : Int) : Prop := ∀ q : Int32, 0 ≤ q.toInt → q.toInt < r.toInt → (fr q.toNatClampNeg).toInt < fm ∧ ¬ (iz q.toNatClampNeg).toInt = 0 ∧ ho q.toNatClampNeg = rh (10 * (4 * bk.toNatClampNeg + d.toNatClampNeg) + q.toNatClampNeg)
theorem LA_0 {fr iz ho rh : Nat → Int32} {bk d : Int32} {fm : Int} : LA fr iz ho rh bk d 0 fm := fun q h1 h2 => by
  rw [show (0 : Int32).toInt = 0 by decide] at h2
  omega
theorem LA_step {fr iz ho rh fr' iz' ho' : Nat → Int32} {bk d r r1 v w n1 n2 : Int32} {fm : Int} (h : LA fr iz ho rh bk d r fm) (h0 : 0 ≤ r.toInt) (h1 : r1.toInt = r.toInt + 1) (hb : 0 ≤ bk.toInt) (hd : 0 ≤ d.toInt) (q1 : fr' = upd fr r.toNatClampNeg v) (q2 : iz' = upd iz r.toNatClampNeg (vp_nar .boolean 1)) (q3 : ho' = upd ho r.toNatClampNeg w) (hv : v.toInt < fm) (hn : n2.toInt = 10 * (4 * bk.toInt + d.toInt) + r.toInt) (hw : w = rh n2.toNatClampNeg) : LA fr' iz' ho' rh bk d r1 fm := by
  intro q hq0 hq1
  by_cases e : q.toNatClampNeg = r.toNatClampNeg
  · have e2 := tn_inj hq0 h0 e
    subst e2
    rw [q1, q2, q3, pk_us, pk_us, pk_us]
    have a := cl_nat hb
    have b := cl_nat hd
    have c := cl_nat h0
    have dd : ((n2.toNatClampNeg : Nat) : Int) = n2.toInt := cl_nat (by omega)
    refine ⟨hv, by decide, ?_⟩
    rw [hw, show n2.toNatClampNeg = 10 * (4 * bk.toNatClampNeg + d.toNatClampNeg) + q.toNatClampNeg by omega]
  · rw [q1, q2, q3, pk_un e, pk_un e, pk_un e]
    refine h q hq0 ?_
    have a := cl_nat h0
    have b := cl_nat hq0
    omega
theorem HF_at {fl dr rd rf : Nat → Int32} {bk d r z v : Int32} (h : HF bk fl dr rd rf) (hb0 : 0 ≤ bk.toInt) (hd0 : 0 ≤ d.toInt) (hr0 : 0 ≤ r.toInt) (hz : z.toInt = 10 * (4 * bk.toInt + d.toInt) + r.toInt) (hd : d.toInt < (dr bk.toNatClampNeg).toInt) (hr : r.toInt < (rd (4 * bk.toNatClampNeg + d.toNatClampNeg)).toInt) (e : v = rf z.toNatClampNeg) : v.toInt < (fl bk.toNatClampNeg).toInt := by
  have h1 := cl_nat hb0
  have h2 := cl_nat hd0
  have h5 := cl_nat hr0
  have h3 : ((z.toNatClampNeg : Nat) : Int) = z.toInt := cl_nat (by omega)
  have h4 := h d.toNatClampNeg r.toNatClampNeg (by omega) (by omega)
  rw [e, show z.toNatClampNeg = 10 * (4 * bk.toNatClampNeg + d.toNatClampNeg) + r.toNatClampNeg by omega]
  exact h4
/-- the joints that are laid -/
def LJ (jr jf rh : Nat → Int32) (bk d jm : Int32) (rl fm : Int) : Prop := ∀ j : Int32, 0 ≤ j.toInt → j.toInt < jm.toInt → (jr j.toNatClampNeg).toInt < rl ∧ (jf j.toNatClampNeg).toInt < fm ∧ (0 ≤ (jf j.toNatClampNeg).toInt → ((rh (10 * (4 * bk.toNatClampNeg + d.toNatClampNeg) + (jr j.toNatClampNeg).toNatClampNeg) >>> ((jf j.toNatClampNeg) &&& 31)) &&& 1).toInt = 1)
theorem LJ_0 {jr jf rh : Nat → Int32} {bk d : Int32} {rl fm : Int} : LJ jr jf rh bk d 0 rl fm := fun q h1 h2 => by
  rw [show (0 : Int32).toInt = 0 by decide] at h2
  omega
theorem LJ_step {jr jf rh jr' jf' : Nat → Int32} {bk d jm jm1 r f : Int32} {rl fm : Int} (h : LJ jr jf rh bk d jm rl fm) (h0 : 0 ≤ jm.toInt) (h1 : jm1.toInt = jm.toInt + 1) (q1 : jr' = upd jr jm.toNatClampNeg r) (q2 : jf' = upd jf jm.toNatClampNeg f) (hr : r.toInt < rl) (hf : f.toInt < fm) (hx : 0 ≤ f.toInt → ((rh (10 * (4 * bk.toNatClampNeg + d.toNatClampNeg) + r.toNatClampNeg) >>> (f &&& 31)) &&& 1).toInt = 1) : LJ jr' jf' rh bk d jm1 rl fm := by
  intro j hj0 hj1
  by_cases e : j.toNatClampNeg = jm.toNatClampNeg
  · rw [q1, q2, e, pk_us, pk_us]
    exact ⟨hr, hf, hx⟩
  · rw [q1, q2, pk_un e, pk_un e]
    refine h j hj0 ?_
    have a := cl_nat h0
    have b := cl_nat hj0
    omega
theorem LJ_bit {rh : Nat → Int32} {bk d r f n v z3 z4 : Int32} (hb0 : 0 ≤ bk.toInt) (hd0 : 0 ≤ d.toInt) (hr0 : 0 ≤ r.toInt) (hn : n.toInt = 10 * (4 * bk.toInt + d.toInt) + r.toInt) (e1 : v = rh n.toNatClampNeg) (e3 : z3 = v >>> (f &&& 31)) (e4 : z4 = z3 &&& 1) (h : z4.toInt = 1) : ((rh (10 * (4 * bk.toNatClampNeg + d.toNatClampNeg) + r.toNatClampNeg) >>> (f &&& 31)) &&& 1).toInt = 1 := by
  have h1 := cl_nat hb0
  have h2 := cl_nat hd0
  have h5 := cl_nat hr0
  have h3 : ((n.toNatClampNeg : Nat) : Int) = n.toInt := cl_nat (by omega)
  rw [show 10 * (4 * bk.toNatClampNeg + d.toNatClampNeg) + r.toNatClampNeg = n.toNatClampNeg by omega, ← e1, ← e3, ← e4]
  exact h
theorem JS_of {jr jf rh : Nat → Int32} {bk d jm rl : Int32} {fm x : Int} (h : LJ jr jf rh bk d jm x fm) (e : rl.toInt = x) : JS jr jf jm rl fm := fun j h0 h1 => ⟨by rw [e]; exact (h j h0 h1).1, (h j h0 h1).2.1⟩
/-- every joint is there -/
def AT (iz ho jr jf : Nat → Int32) (jm : Int32) : Prop := ∀ j : Int32, 0 ≤ j.toInt → j.toInt < jm.toInt → TH iz ho jr jf j
theorem AT_of {fr iz ho rh jr jf : Nat → Int32} {bk d jm rl : Int32} {fm fm' x : Int} (ha : LA fr iz ho rh bk d rl fm) (h : LJ jr jf rh bk d jm x fm') (e : rl.toInt = x) (hr : rg 0 9 jr) : AT iz ho jr jf jm := by
  intro j h0 h1
  have hj := h j h0 h1
  have hl := ha (jr j.toNatClampNeg) (hr _).1 (by rw [e]; exact hj.1)
  refine ⟨fun _ => hl.2.1, fun hf => ⟨hl.2.1, ?_⟩⟩
  rw [hl.2.2]
  exact hj.2.2 hf
theorem LD_of {fl dr rd fr iz ho rh : Nat → Int32} {bk d rl : Int32} (ha : LA fr iz ho rh bk d rl (fl bk.toNatClampNeg).toInt) (hd : d.toInt < (dr bk.toNatClampNeg).toInt) (e : rl = rd (4 * bk.toNatClampNeg + d.toNatClampNeg)) : LD fl dr rd fr bk d rl := ⟨hd, by rw [e]; exact Int.le_refl _, fun r h0 h1 => (ha r h0 h1).1⟩
def RA (dn : Nat → Int64) (r : Int32) : Prop := ∀ q : Int32, 0 ≤ q.toInt → q.toInt < r.toInt → dn q.toNatClampNeg = 1
theorem RA_0 {dn : Nat → Int64} : RA dn 0 := fun q h1 h2 => by
  rw [show (0 : Int32).toInt = 0 by decide] at h2
  omega
theorem RA_step {dn dn' : Nat → Int64} {r r1 : Int32} (h : RA dn r) (h0 : 0 ≤ r.toInt) (h1 : r1.toInt = r.toInt + 1) (q1 : dn' = vp_updL dn r.toNatClampNeg 1) : RA dn' r1 := by
  intro q hq0 hq1
  by_cases e : q.toNatClampNeg = r.toNatClampNeg
  · rw [q1, e, ul_s]
  · rw [q1, ul_n e]
    refine h q hq0 ?_
    have a := cl_nat h0
    have b := cl_nat hq0
    omega
/-- the floors below f are reckoned -/
def RG (iz ho he : Nat → Int32) (wd : Nat → Int64) (rl : Int32) (fm : Int) (f : Int32) : Prop := ∀ g : Int32, f.toInt < g.toInt → 0 ≤ g.toInt → g.toInt < fm → DN 1000000 (wd g.toNatClampNeg) ∧ ∀ r : Int32, 0 ≤ r.toInt → r.toInt < rl.toInt → HD iz ho r g → 1 ≤ (he g.toNatClampNeg).toInt
def RP (dn : Nat → Int64) (rl : Int32) (P : Nat) : Prop := ∀ r : Int32, 0 ≤ r.toInt → r.toInt < rl.toInt → DV P (dn r.toNatClampNeg)
def RB (iz ho he : Nat → Int32) (wd dn : Nat → Int64) (rl : Int32) (fm : Int) (f : Int32) : Prop := (∃ P : Nat, 0 < P ∧ P ≤ 10 ^ (6 - f.toInt).toNat ∧ 10 ∣ P ∧ RP dn rl P) ∧ RG iz ho he wd rl fm f
theorem RB_0 {iz ho he : Nat → Int32} {wd dn : Nat → Int64} {rl r f : Int32} {fm : Int} (h : RA dn r) (hr : rl.toInt ≤ r.toInt) (hf : f.toInt = fm - 1) (hf5 : f.toInt ≤ 5) : RB iz ho he wd dn rl fm f := by
  refine ⟨⟨10, by omega, ?_, Nat.dvd_refl _, fun q h0 h1 => ?_⟩, fun g h1 h2 h3 => by omega⟩
  · have h1 : 1 ≤ (6 - f.toInt).toNat := by omega
    calc 10 = 10 ^ 1 := by decide
      _ ≤ 10 ^ (6 - f.toInt).toNat := Nat.pow_le_pow_right (by omega) h1
  · rw [h q h0 (by omega)]
    exact DV_one
theorem pw6 {P : Nat} {f : Int32} (h : P ≤ 10 ^ (6 - f.toInt).toNat) (h0 : 0 ≤ f.toInt) : P ≤ 1000000 := by
  have h1 : (6 - f.toInt).toNat ≤ 6 := by omega
  have h2 : 10 ^ (6 - f.toInt).toNat ≤ 10 ^ 6 := Nat.pow_le_pow_right (by omega) h1
  have h3 : (10 : Nat) ^ 6 = 1000000 := by decide
  omega
/-- the rods before r that hold the floor f are counted -/
def RC (iz ho he : Nat → Int32) (r f : Int32) : Prop := (he f.toNatClampNeg).toInt ≤ r.toInt ∧ ∀ q : Int32, 0 ≤ q.toInt → q.toInt < r.toInt → HD iz ho q f → 1 ≤ (he f.toNatClampNeg).toInt
theorem RC_0 {iz ho he he' : Nat → Int32} {f : Int32} (q1 : he' = upd he f.toNatClampNeg 0) : RC iz ho he' 0 f := by
  have h0 : (0 : Int32).toInt = 0 := by decide
  refine ⟨by rw [q1, pk_us]; exact Int.le_refl _, fun q h1 h2 => by rw [h0] at h2; omega⟩
theorem RC_step {iz ho he he' : Nat → Int32} {r r1 f v z : Int32} (h : RC iz ho he r f) (h0 : 0 ≤ r.toInt) (h1 : r1.toInt = r.toInt + 1) (ez : z = he f.toNatClampNeg) (hz : 0 ≤ z.toInt) (q1 : he' = upd he f.toNatClampNeg v) (hv : v.toInt = z.toInt + 1) : RC iz ho he' r1 f := by
  have hh := h.1
  rw [← ez] at hh
  refine ⟨by rw [q1, pk_us]; omega, fun q h2 h3 h4 => by rw [q1, pk_us]; omega⟩
theorem RC_skip {iz ho he he' : Nat → Int32} {r r1 f v z : Int32} (h : RC iz ho he r f) (h0 : 0 ≤ r.toInt) (h1 : r1.toInt = r.toInt + 1) (ez : z = he f.toNatClampNeg) (q1 : he' = upd he f.toNatClampNeg v) (hv : v.toInt = z.toInt) (hn : ¬ HD iz ho r f) : RC iz ho he' r1 f := by
  have hh := h.1
  rw [← ez] at hh
  refine ⟨by rw [q1, pk_us]; omega, fun q h2 h3 h4 => ?_⟩
  rw [q1, pk_us, hv, ez]
  by_cases e : q.toNatClampNeg = r.toNatClampNeg
  · have e2 := tn_inj h2 h0 e
    subst e2
    exact absurd h4 hn
  · have a := cl_nat h0
    have b := cl_nat h2
    exact h.2 q h2 (by omega) h4
theorem RG_he {iz ho he he' : Nat → Int32} {wd : Nat → Int64} {rl f v : Int32} {fm : Int} (h : RG iz ho he wd rl fm f) (h0 : 0 ≤ f.toInt) (q1 : he' = upd he f.toNatClampNeg v) : RG iz ho he' wd rl fm f := by
  intro g h1 h2 h3
  have a := cl_nat h0
  have b := cl_nat h2
  obtain ⟨x, y⟩ := h g h1 h2 h3
  refine ⟨x, fun r h5 h6 h7 => ?_⟩
  rw [q1, pk_un (by omega)]
  exact y r h5 h6 h7
theorem RG_wd {iz ho he : Nat → Int32} {wd wd' : Nat → Int64} {rl r f f1 : Int32} {fm : Int} {v : Int64} (h : RG iz ho he wd rl fm f) (h0 : 0 ≤ f.toInt) (h1 : f1.toInt = f.toInt - 1) (q1 : wd' = vp_updL wd f.toNatClampNeg v) (hv : DN 1000000 v) (hc : RC iz ho he r f) (hr : rl.toInt ≤ r.toInt) : RG iz ho he wd' rl fm f1 := by
  intro g h2 h3 h4
  by_cases e : g.toNatClampNeg = f.toNatClampNeg
  · have e2 := tn_inj h3 h0 e
    subst e2
    refine ⟨by rw [q1, ul_s]; exact hv, fun r h5 h6 h7 => hc.2 r h5 (by omega) h7⟩
  · have a := cl_nat h0
    have b := cl_nat h3
    obtain ⟨x, y⟩ := h g (by omega) h3 h4
    exact ⟨by rw [q1, ul_n e]; exact x, y⟩
theorem RP_up {dn : Nat → Int64} {rl : Int32} {P h : Nat} (hh : RP dn rl P) : RP dn rl (P * h) := fun r h0 h1 => DV_up (hh r h0 h1)
theorem RP_set {dn dn' : Nat → Int64} {rl r : Int32} {P : Nat} {v : Int64} (h : RP dn rl P) (q1 : dn' = vp_updL dn r.toNatClampNeg v) (hv : DV P v) : RP dn' rl P := by
  intro q h0 h1
  by_cases e : q.toNatClampNeg = r.toNatClampNeg
  · rw [q1, e, ul_s]; exact hv
  · rw [q1, ul_n e]; exact h q h0 h1
theorem mx_eq {h : Int32} (h1 : 1 ≤ h.toInt) : max 1 h.toInt.natAbs = h.toInt.natAbs := by omega
theorem mx_le {P : Nat} {f f1 h : Int32} (hP : P ≤ 10 ^ (6 - f.toInt).toNat) (hf : f1.toInt = f.toInt - 1) (hf5 : f.toInt ≤ 5) (h0 : 0 ≤ h.toInt) (h10 : h.toInt ≤ 10) : P * max 1 h.toInt.natAbs ≤ 10 ^ (6 - f1.toInt).toNat := by
  have e : (6 - f1.toInt).toNat = (6 - f.toInt).toNat + 1 := by omega
  rw [e, Nat.pow_succ]
  exact Nat.mul_le_mul hP (by omega)
theorem mx_9 {P : Nat} {h : Int32} (hP : P ≤ 1000000) (h0 : 0 ≤ h.toInt) (h10 : h.toInt ≤ 10) : P * max 1 h.toInt.natAbs ≤ 1000000000 := by
  have : P * max 1 h.toInt.natAbs ≤ 1000000 * 10 := Nat.mul_le_mul hP (by omega)
  omega
theorem DV_mx {P : Nat} {x y z : Int64} {h : Int32} (hP : 0 < P) (hP6 : P ≤ 1000000) (hx : DV P x) (h1 : 1 ≤ h.toInt) (h10 : h.toInt ≤ 10) (ey : h.toInt64 = y) (e : z = x * y) : DV (P * max 1 h.toInt.natAbs) z := by
  have h9 := mx_9 hP6 (by omega) h10
  rw [mx_eq h1] at h9 ⊢
  exact DV_mul hP hx h1 h9 ey e
theorem RB_next {iz ho he : Nat → Int32} {wd dn : Nat → Int64} {rl f f1 h : Int32} {fm : Int} {P : Nat} (hP0 : 0 < P) (hP1 : P ≤ 10 ^ (6 - f.toInt).toNat) (hP2 : 10 ∣ P) (hf : f1.toInt = f.toInt - 1) (hf5 : f.toInt ≤ 5) (h0 : 0 ≤ h.toInt) (h10 : h.toInt ≤ 10) (hd : RP dn rl (P * max 1 h.toInt.natAbs)) (hg : RG iz ho he wd rl fm f1) : RB iz ho he wd dn rl fm f1 :=
  ⟨⟨P * max 1 h.toInt.natAbs, Nat.mul_pos hP0 (by omega), mx_le hP1 hf hf5 h0 h10, Nat.dvd_trans hP2 (Nat.dvd_mul_right _ _), hd⟩, hg⟩
theorem RK_of {iz ho he : Nat → Int32} {wd dn : Nat → Int64} {rl f : Int32} {fm : Int} (h : RB iz ho he wd dn rl fm f) (hf : f.toInt = -1) : RK iz ho he wd dn rl fm := by
  obtain ⟨⟨P, hP0, hP1, -, hP3⟩, hG⟩ := h
  have h7 : P ≤ 10000000 := by
    rw [hf] at hP1
    have : (10 : Nat) ^ (6 - (-1 : Int)).toNat = 10000000 := by decide
    omega
  exact ⟨fun r f h1 h2 h3 h4 h5 => (hG f (by omega) h3 h4).2 r h1 h2 h5, fun f h1 h2 => (hG f (by omega) h1 h2).1, fun r h1 h2 => DV_DN hP0 h7 (hP3 r h1 h2)⟩
/-! counting joints -/
def JF (v : Int32) : Nat → Nat
  | 0 => 1
  | k + 1 => JF v k + (if ((v >>> (nI k &&& 31)) &&& 1).toInt = 0 then 0 else 1)
def JG (v f : Int32) : Int := if f.toInt < 0 then 0 else (JF v f.toNatClampNeg : Int)
def JR (rh : Nat → Int32) (base fm : Nat) : Nat → Nat
  | 0 => 0
  | r + 1 => JR rh base fm r + JF (rh (base + r)) fm
def JQ (rh : Nat → Int32) (bk d : Int32) (fm : Int) (r : Int32) : Int := (JR rh (10 * (4 * bk.toNatClampNeg + d.toNatClampNeg)) fm.toNat r.toNatClampNeg : Int)
theorem nI_self {f : Int32} (h : 0 ≤ f.toInt) : nI f.toNatClampNeg = f := Int32.ofNat_toNatClampNeg f (x_le.mpr (by rw [show (0 : Int32).toInt = 0 by decide]; exact h))
theorem tn_succ {a b : Int32} (h : b.toInt = a.toInt + 1) (h0 : 0 ≤ a.toInt) : b.toNatClampNeg = a.toNatClampNeg + 1 := by
  have h1 := cl_nat h0
  have h2 : ((b.toNatClampNeg : Nat) : Int) = b.toInt := cl_nat (by omega)
  omega
theorem JQ_0 {rh : Nat → Int32} {bk d : Int32} {fm : Int} : (0 : Int32).toInt = JQ rh bk d fm 0 := by
  show (0 : Int32).toInt = ((0 : Nat) : Int)
  decide
theorem JG_m {q : Int} {v jm : Int32} (h : jm.toInt = q) : jm.toInt = q + JG v (-1) := by
  have : JG v (-1) = 0 := if_pos (by decide)
  omega
theorem JG_a {q : Int} {v f f1 jm jm1 : Int32} (h : jm.toInt = q + JG v f) (hf : f.toInt = -1) (hf1 : f1.toInt = f.toInt + 1) (hj : jm1.toInt = jm.toInt + 1) : jm1.toInt = q + JG v f1 := by
  have h1 : JG v f = 0 := if_pos (by omega)
  have h2 : JG v f1 = (JF v f1.toNatClampNeg : Int) := if_neg (by omega)
  have h3 : f1.toNatClampNeg = 0 := by
    have : ((f1.toNatClampNeg : Nat) : Int) = f1.toInt := cl_nat (by omega)
    omega
  rw [h3] at h2
  have h4 : JF v 0 = 1 := rfl
  omega
theorem JF_s {v f f1 : Int32} (hf : 0 ≤ f.toInt) (hf1 : f1.toInt = f.toInt + 1) : JG v f1 = JG v f + (if ((v >>> (f &&& 31)) &&& 1).toInt = 0 then 0 else 1) := by
  have h1 : JG v f = (JF v f.toNatClampNeg : Int) := if_neg (by omega)
  have h2 : JG v f1 = (JF v f1.toNatClampNeg : Int) := if_neg (by omega)
  rw [h1, h2, tn_succ hf1 hf]
  show ((JF v f.toNatClampNeg + (if ((v >>> (nI f.toNatClampNeg &&& 31)) &&& 1).toInt = 0 then 0 else 1) : Nat) : Int) = _
  rw [nI_self hf]
  by_cases e : ((v >>> (f &&& 31)) &&& 1).toInt = 0
  · rw [if_pos e, if_pos e]; omega
  · rw [if_neg e, if_neg e]; omega
theorem JG_v {rh : Nat → Int32} {bk d r f n v z3 z4 : Int32} (hb0 : 0 ≤ bk.toInt) (hd0 : 0 ≤ d.toInt) (hr0 : 0 ≤ r.toInt) (hn : n.toInt = 10 * (4 * bk.toInt + d.toInt) + r.toInt) (e1 : v = rh n.toNatClampNeg) (e3 : z3 = v >>> (f &&& 31)) (e4 : z4 = z3 &&& 1) : ((rh (10 * (4 * bk.toNatClampNeg + d.toNatClampNeg) + r.toNatClampNeg) >>> (f &&& 31)) &&& 1) = z4 := by
  have h1 := cl_nat hb0
  have h2 := cl_nat hd0
  have h5 := cl_nat hr0
  have h3 : ((n.toNatClampNeg : Nat) : Int) = n.toInt := cl_nat (by omega)
  rw [show 10 * (4 * bk.toNatClampNeg + d.toNatClampNeg) + r.toNatClampNeg = n.toNatClampNeg by omega, ← e1, ← e3, ← e4]
theorem JG_b {q : Int} {v f f1 jm jm1 z4 : Int32} (h : jm.toInt = q + JG v f) (hf : 0 ≤ f.toInt) (hf1 : f1.toInt = f.toInt + 1) (hj : jm1.toInt = jm.toInt + 1) (e : ((v >>> (f &&& 31)) &&& 1) = z4) (hz : ¬ z4.toInt = 0) : jm1.toInt = q + JG v f1 := by
  have := JF_s (v := v) hf hf1
  rw [e, if_neg hz] at this
  omega
theorem JG_c {q : Int} {v f f1 jm z4 : Int32} (h : jm.toInt = q + JG v f) (hf : 0 ≤ f.toInt) (hf1 : f1.toInt = f.toInt + 1) (e : ((v >>> (f &&& 31)) &&& 1) = z4) (hz : z4.toInt = 0) : jm.toInt = q + JG v f1 := by
  have := JF_s (v := v) hf hf1
  rw [e, if_pos hz] at this
  omega
theorem JQ_s {rh : Nat → Int32} {bk d r r1 f jm : Int32} {fm : Int} (h : jm.toInt = JQ rh bk d fm r + JG (rh (10 * (4 * bk.toNatClampNeg + d.toNatClampNeg) + r.toNatClampNeg)) f) (hr : 0 ≤ r.toInt) (hr1 : r1.toInt = r.toInt + 1) (hf0 : 0 ≤ f.toInt) (hf : f.toInt = fm) : jm.toInt = JQ rh bk d fm r1 := by
  have h1 : JG (rh (10 * (4 * bk.toNatClampNeg + d.toNatClampNeg) + r.toNatClampNeg)) f = (JF (rh (10 * (4 * bk.toNatClampNeg + d.toNatClampNeg) + r.toNatClampNeg)) f.toNatClampNeg : Int) := if_neg (by omega)
  have h2 : f.toNatClampNeg = fm.toNat := by
    have : ((f.toNatClampNeg : Nat) : Int) = f.toInt := cl_nat hf0
    omega
  have h3 : JQ rh bk d fm r1 = ((JR rh (10 * (4 * bk.toNatClampNeg + d.toNatClampNeg)) fm.toNat r.toNatClampNeg + JF (rh (10 * (4 * bk.toNatClampNeg + d.toNatClampNeg) + r.toNatClampNeg)) fm.toNat : Nat) : Int) := by
    show ((JR rh _ _ r1.toNatClampNeg : Nat) : Int) = _
    rw [tn_succ hr1 hr]
    rfl
  have h4 : JQ rh bk d fm r = ((JR rh (10 * (4 * bk.toNatClampNeg + d.toNatClampNeg)) fm.toNat r.toNatClampNeg : Nat) : Int) := rfl
  rw [h2] at h1
  omega
theorem JQ_end {rh : Nat → Int32} {bk d r x jm : Int32} {fm : Int} (h : jm.toInt = JQ rh bk d fm r) (e : r.toInt = x.toInt) : jm.toInt = JQ rh bk d fm x := by
  rw [← x_eq.mpr e]
  exact h
/-- lower parts that are kept are not 0 -/
def FD (fd : Nat → Int64) (j : Int32) : Prop := ∀ q : Int32, 0 ≤ q.toInt → q.toInt < j.toInt → ¬ fd q.toNatClampNeg = 0
theorem FD_0 {fd : Nat → Int64} : FD fd 0 := fun q h1 h2 => by
  rw [show (0 : Int32).toInt = 0 by decide] at h2
  omega
theorem FD_step {fd fd' : Nat → Int64} {j j1 : Int32} {x : Int64} (h : FD fd j) (h0 : 0 ≤ j.toInt) (h1 : j1.toInt = j.toInt + 1) (q1 : fd' = vp_updL fd j.toNatClampNeg x) (hx : ¬ x = 0) : FD fd' j1 := by
  intro q hq0 hq1
  by_cases e : q.toNatClampNeg = j.toNatClampNeg
  · rw [q1, e, ul_s]; exact hx
  · rw [q1, ul_n e]
    refine h q hq0 ?_
    have a := cl_nat h0
    have b := cl_nat hq0
    omega
/-! people that stand -/
def PZ (p : Int32) (pe : Nat → Int32) (f : Int32) : Prop := p.toInt = 0 → ∀ i : Nat, (i : Int) < f.toInt → pe i = 0
theorem PZ_0 {p : Int32} {pe : Nat → Int32} : PZ p pe 0 := fun _ i h => by
  rw [show (0 : Int32).toInt = 0 by decide] at h
  omega
theorem PZ_v {p f : Int32} {pe : Nat → Int32} (h : ¬ p.toInt = 0) : PZ p pe f := fun h0 => absurd h0 h
theorem PZ_step {p f f1 : Int32} {pe pe' : Nat → Int32} (h : PZ p pe f) (h0 : 0 ≤ f.toInt) (h1 : f1.toInt = f.toInt + 1) (q : pe' = upd pe f.toNatClampNeg 0) : PZ p pe' f1 := by
  intro hp i hi
  by_cases e : i = f.toNatClampNeg
  · rw [q, e, pk_us]
  · rw [q, pk_un e]
    refine h hp i ?_
    have a := cl_nat h0
    omega
def PS (pe : Nat → Int32) : Prop := 0 ≤ (pe 0).toInt ∧ 0 ≤ (pe 1).toInt ∧ 0 ≤ (pe 2).toInt ∧ 0 ≤ (pe 3).toInt ∧ 0 ≤ (pe 4).toInt ∧ 0 ≤ (pe 5).toInt ∧ (pe 0).toInt + (pe 1).toInt + (pe 2).toInt + (pe 3).toInt + (pe 4).toInt + (pe 5).toInt ≤ 10
def PM (pe : Nat → Int32) : Int := 161051 * (pe 0).toInt + 14641 * (pe 1).toInt + 1331 * (pe 2).toInt + 121 * (pe 3).toInt + 11 * (pe 4).toInt + (pe 5).toInt
theorem PM_nn {pe : Nat → Int32} (h : PS pe) : 0 ≤ PM pe := by
  obtain ⟨h0, h1, h2, h3, h4, h5, h6⟩ := h
  unfold PM
  omega
theorem PS_zero {pe : Nat → Int32} (h : PZ 0 pe 6) : PS pe := by
  have hz := h (by decide)
  have e6 : (6 : Int32).toInt = 6 := by decide
  have e0 : (0 : Int32).toInt = 0 := by decide
  have a0 := hz 0 (by omega)
  have a1 := hz 1 (by omega)
  have a2 := hz 2 (by omega)
  have a3 := hz 3 (by omega)
  have a4 := hz 4 (by omega)
  have a5 := hz 5 (by omega)
  unfold PS
  rw [a0, a1, a2, a3, a4, a5]
  omega
theorem PS_one {pe pe' : Nat → Int32} {n : Int32} (h : PZ 0 pe 6) (h0 : 0 ≤ n.toInt) (h1 : n.toInt ≤ 10) (q : pe' = upd pe (0 : Int32).toNatClampNeg n) : PS pe' := by
  have hz := h (by decide)
  have e6 : (6 : Int32).toInt = 6 := by decide
  have e0 : (0 : Int32).toInt = 0 := by decide
  have a1 := hz 1 (by omega)
  have a2 := hz 2 (by omega)
  have a3 := hz 3 (by omega)
  have a4 := hz 4 (by omega)
  have a5 := hz 5 (by omega)
  have k0 : (0 : Int32).toNatClampNeg = 0 := by decide
  rw [k0] at q
  unfold PS
  rw [q, pk_us, pk_un (by decide), pk_un (by decide), pk_un (by decide), pk_un (by decide), pk_un (by decide), a1, a2, a3, a4, a5]
  omega
theorem six {f : Int32} (h0 : 0 ≤ f.toInt) (h5 : f.toInt ≤ 5) : f.toNatClampNeg = 0 ∨ f.toNatClampNeg = 1 ∨ f.toNatClampNeg = 2 ∨ f.toNatClampNeg = 3 ∨ f.toNatClampNeg = 4 ∨ f.toNatClampNeg = 5 := by
  have := cl_nat h0
  omega
theorem PS_at {pe : Nat → Int32} {f z : Int32} (h : PS pe) (h0 : 0 ≤ f.toInt) (h5 : f.toInt ≤ 5) (e : z = pe f.toNatClampNeg) : 0 ≤ z.toInt ∧ z.toInt ≤ 10 := by
  obtain ⟨a0, a1, a2, a3, a4, a5, a6⟩ := h
  rcases six h0 h5 with q | q | q | q | q | q <;> rw [q] at e <;> subst e <;> omega
def NZ (pe : Nat → Int32) (f l : Int32) : Prop := ∀ g : Int32, f.toInt < g.toInt → g.toInt < l.toInt → (pe g.toNatClampNeg).toInt = 0
theorem NZ_0 {pe : Nat → Int32} {f l : Int32} (h : f.toInt = l.toInt - 1) : NZ pe f l := fun g h1 h2 => by omega
theorem NZ_step {pe : Nat → Int32} {f f1 l z : Int32} (h : NZ pe f l) (h1 : f1.toInt = f.toInt - 1) (h0 : 0 ≤ f.toInt) (e : z = pe f.toNatClampNeg) (hz : z.toInt = 0) : NZ pe f1 l := by
  intro g h2 h3
  by_cases q : g.toInt = f.toInt
  · rw [x_eq.mpr q, ← e]; exact hz
  · exact h g (by omega) h3
/-- somebody stands ahead of the last floor -/
def NX (pe : Nat → Int32) (fm : Int) : Prop := ∃ g : Int32, 0 ≤ g.toInt ∧ g.toInt < fm - 1 ∧ ¬ (pe g.toNatClampNeg).toInt = 0
theorem NX_no {pe : Nat → Int32} {f l : Int32} {fm : Int} (h : NZ pe f l) (hf : f.toInt < 0) (hl : l.toInt = fm - 1) : ¬ NX pe fm := by
  intro ⟨g, h0, h1, h2⟩
  exact h2 (h g (by omega) (by omega))
theorem NS_load {pe pa : Nat → Int32} {l f z : Int32} (q : pa = upd pe l.toNatClampNeg 0) (e : z = pa f.toNatClampNeg) (h0 : 0 ≤ f.toInt) (h1 : f.toInt < l.toInt) : z = pe f.toNatClampNeg := by
  have a := cl_nat h0
  have b : ((l.toNatClampNeg : Nat) : Int) = l.toInt := cl_nat (by omega)
  rw [e, q, pk_un (by omega)]
theorem NS_step {pe pa pb pc : Nat → Int32} {l f k v w z r : Int32} (hp : PS pe) (hn : NZ pe f l) (hf0 : 0 ≤ f.toInt) (hfl : f.toInt < l.toInt) (hl5 : l.toInt ≤ 5) (ea : pa = upd pe l.toNatClampNeg 0) (ez : z = pe f.toNatClampNeg) (hz : ¬ z.toInt = 0) (hv : v.toInt = z.toInt - 1) (eb : pb = upd pa f.toNatClampNeg v) (er : r = pe l.toNatClampNeg) (hw : w.toInt = r.toInt + 1) (hk : k.toInt = f.toInt + 1) (ec : pc = upd pb k.toNatClampNeg w) : PS pc ∧ PM pc < PM pe := by
  have hkn := tn_succ hk hf0
  have hfn := cl_nat hf0
  have hln : ((l.toNatClampNeg : Nat) : Int) = l.toInt := cl_nat (by omega)
  have e0 : (0 : Int32).toInt = 0 := by decide
  have hg : ∀ j : Nat, f.toNatClampNeg < j → j < l.toNatClampNeg → (pe j).toInt = 0 := by
    intro j h1 h2
    have h3 : (nI j).toInt = (j : Int) := nI_toInt (by omega)
    have h4 := hn (nI j) (by omega) (by omega)
    have h5 : (nI j).toNatClampNeg = j := nI_clamp (by omega)
    rw [h5] at h4
    exact h4
  rw [hkn] at ec
  have hlt : f.toNatClampNeg < l.toNatClampNeg := by omega
  have hl6 : l.toNatClampNeg ≤ 5 := by omega
  have ezi := congrArg Int32.toInt ez
  have eri := congrArg Int32.toInt er
  clear ez er hn hkn hk
  generalize f.toNatClampNeg = i at ezi hfn hg ec eb hlt
  generalize l.toNatClampNeg = j at eri hln hg ea hlt hl6
  obtain ⟨a0, a1, a2, a3, a4, a5, a6⟩ := hp
  unfold PS PM
  rcases (show j = 1 ∨ j = 2 ∨ j = 3 ∨ j = 4 ∨ j = 5 by omega) with q | q | q | q | q <;> subst q
  · obtain rfl : i = 0 := by omega
    have c0 : pc 0 = v := by rw [ec, eb, ea]; rfl
    have c1 : pc 1 = w := by rw [ec, eb, ea]; rfl
    have c2 : pc 2 = pe 2 := by rw [ec, eb, ea]; rfl
    have c3 : pc 3 = pe 3 := by rw [ec, eb, ea]; rfl
    have c4 : pc 4 = pe 4 := by rw [ec, eb, ea]; rfl
    have c5 : pc 5 = pe 5 := by rw [ec, eb, ea]; rfl
    rw [c0, c1, c2, c3, c4, c5]
    omega
  · rcases (show i = 0 ∨ i = 1 by omega) with q | q <;> subst q
    · have g1 := hg 1 (by omega) (by omega)
      have c0 : pc 0 = v := by rw [ec, eb, ea]; rfl
      have c1 : pc 1 = w := by rw [ec, eb, ea]; rfl
      have c2 : pc 2 = 0 := by rw [ec, eb, ea]; rfl
      have c3 : pc 3 = pe 3 := by rw [ec, eb, ea]; rfl
      have c4 : pc 4 = pe 4 := by rw [ec, eb, ea]; rfl
      have c5 : pc 5 = pe 5 := by rw [ec, eb, ea]; rfl
      rw [c0, c1, c2, c3, c4, c5]
      omega
    · have c0 : pc 0 = pe 0 := by rw [ec, eb, ea]; rfl
      have c1 : pc 1 = v := by rw [ec, eb, ea]; rfl
      have c2 : pc 2 = w := by rw [ec, eb, ea]; rfl
      have c3 : pc 3 = pe 3 := by rw [ec, eb, ea]; rfl
      have c4 : pc 4 = pe 4 := by rw [ec, eb, ea]; rfl
      have c5 : pc 5 = pe 5 := by rw [ec, eb, ea]; rfl
      rw [c0, c1, c2, c3, c4, c5]
      omega
  · rcases (show i = 0 ∨ i = 1 ∨ i = 2 by omega) with q | q | q <;> subst q
    · have g1 := hg 1 (by omega) (by omega)
      have g2 := hg 2 (by omega) (by omega)
      have c0 : pc 0 = v := by rw [ec, eb, ea]; rfl
      have c1 : pc 1 = w := by rw [ec, eb, ea]; rfl
      have c2 : pc 2 = pe 2 := by rw [ec, eb, ea]; rfl
      have c3 : pc 3 = 0 := by rw [ec, eb, ea]; rfl
      have c4 : pc 4 = pe 4 := by rw [ec, eb, ea]; rfl
      have c5 : pc 5 = pe 5 := by rw [ec, eb, ea]; rfl
      rw [c0, c1, c2, c3, c4, c5]
      omega
    · have g2 := hg 2 (by omega) (by omega)
      have c0 : pc 0 = pe 0 := by rw [ec, eb, ea]; rfl
      have c1 : pc 1 = v := by rw [ec, eb, ea]; rfl
      have c2 : pc 2 = w := by rw [ec, eb, ea]; rfl
      have c3 : pc 3 = 0 := by rw [ec, eb, ea]; rfl
      have c4 : pc 4 = pe 4 := by rw [ec, eb, ea]; rfl
      have c5 : pc 5 = pe 5 := by rw [ec, eb, ea]; rfl
      rw [c0, c1, c2, c3, c4, c5]
      omega
    · have c0 : pc 0 = pe 0 := by rw [ec, eb, ea]; rfl
      have c1 : pc 1 = pe 1 := by rw [ec, eb, ea]; rfl
      have c2 : pc 2 = v := by rw [ec, eb, ea]; rfl
      have c3 : pc 3 = w := by rw [ec, eb, ea]; rfl
      have c4 : pc 4 = pe 4 := by rw [ec, eb, ea]; rfl
      have c5 : pc 5 = pe 5 := by rw [ec, eb, ea]; rfl
      rw [c0, c1, c2, c3, c4, c5]
      omega
  · rcases (show i = 0 ∨ i = 1 ∨ i = 2 ∨ i = 3 by omega) with q | q | q | q <;> subst q
    · have g1 := hg 1 (by omega) (by omega)
      have g2 := hg 2 (by omega) (by omega)
      have g3 := hg 3 (by omega) (by omega)
      have c0 : pc 0 = v := by rw [ec, eb, ea]; rfl
      have c1 : pc 1 = w := by rw [ec, eb, ea]; rfl
      have c2 : pc 2 = pe 2 := by rw [ec, eb, ea]; rfl
      have c3 : pc 3 = pe 3 := by rw [ec, eb, ea]; rfl
      have c4 : pc 4 = 0 := by rw [ec, eb, ea]; rfl
      have c5 : pc 5 = pe 5 := by rw [ec, eb, ea]; rfl
      rw [c0, c1, c2, c3, c4, c5]
      omega
    · have g2 := hg 2 (by omega) (by omega)
      have g3 := hg 3 (by omega) (by omega)
      have c0 : pc 0 = pe 0 := by rw [ec, eb, ea]; rfl
      have c1 : pc 1 = v := by rw [ec, eb, ea]; rfl
      have c2 : pc 2 = w := by rw [ec, eb, ea]; rfl
      have c3 : pc 3 = pe 3 := by rw [ec, eb, ea]; rfl
      have c4 : pc 4 = 0 := by rw [ec, eb, ea]; rfl
      have c5 : pc 5 = pe 5 := by rw [ec, eb, ea]; rfl
      rw [c0, c1, c2, c3, c4, c5]
      omega
    · have g3 := hg 3 (by omega) (by omega)
      have c0 : pc 0 = pe 0 := by rw [ec, eb, ea]; rfl
      have c1 : pc 1 = pe 1 := by rw [ec, eb, ea]; rfl
      have c2 : pc 2 = v := by rw [ec, eb, ea]; rfl
      have c3 : pc 3 = w := by rw [ec, eb, ea]; rfl
      have c4 : pc 4 = 0 := by rw [ec, eb, ea]; rfl
      have c5 : pc 5 = pe 5 := by rw [ec, eb, ea]; rfl
      rw [c0, c1, c2, c3, c4, c5]
      omega
    · have c0 : pc 0 = pe 0 := by rw [ec, eb, ea]; rfl
      have c1 : pc 1 = pe 1 := by rw [ec, eb, ea]; rfl
      have c2 : pc 2 = pe 2 := by rw [ec, eb, ea]; rfl
      have c3 : pc 3 = v := by rw [ec, eb, ea]; rfl
      have c4 : pc 4 = w := by rw [ec, eb, ea]; rfl
      have c5 : pc 5 = pe 5 := by rw [ec, eb, ea]; rfl
      rw [c0, c1, c2, c3, c4, c5]
      omega
  · rcases (show i = 0 ∨ i = 1 ∨ i = 2 ∨ i = 3 ∨ i = 4 by omega) with q | q | q | q | q <;> subst q
    · have g1 := hg 1 (by omega) (by omega)
      have g2 := hg 2 (by omega) (by omega)
      have g3 := hg 3 (by omega) (by omega)
      have g4 := hg 4 (by omega) (by omega)
      have c0 : pc 0 = v := by rw [ec, eb, ea]; rfl
      have c1 : pc 1 = w := by rw [ec, eb, ea]; rfl
      have c2 : pc 2 = pe 2 := by rw [ec, eb, ea]; rfl
      have c3 : pc 3 = pe 3 := by rw [ec, eb, ea]; rfl
      have c4 : pc 4 = pe 4 := by rw [ec, eb, ea]; rfl
      have c5 : pc 5 = 0 := by rw [ec, eb, ea]; rfl
      rw [c0, c1, c2, c3, c4, c5]
      omega
    · have g2 := hg 2 (by omega) (by omega)
      have g3 := hg 3 (by omega) (by omega)
      have g4 := hg 4 (by omega) (by omega)
      have c0 : pc 0 = pe 0 := by rw [ec, eb, ea]; rfl
      have c1 : pc 1 = v := by rw [ec, eb, ea]; rfl
      have c2 : pc 2 = w := by rw [ec, eb, ea]; rfl
      have c3 : pc 3 = pe 3 := by rw [ec, eb, ea]; rfl
      have c4 : pc 4 = pe 4 := by rw [ec, eb, ea]; rfl
      have c5 : pc 5 = 0 := by rw [ec, eb, ea]; rfl
      rw [c0, c1, c2, c3, c4, c5]
      omega
    · have g3 := hg 3 (by omega) (by omega)
      have g4 := hg 4 (by omega) (by omega)
      have c0 : pc 0 = pe 0 := by rw [ec, eb, ea]; rfl
      have c1 : pc 1 = pe 1 := by rw [ec, eb, ea]; rfl
      have c2 : pc 2 = v := by rw [ec, eb, ea]; rfl
      have c3 : pc 3 = w := by rw [ec, eb, ea]; rfl
      have c4 : pc 4 = pe 4 := by rw [ec, eb, ea]; rfl
      have c5 : pc 5 = 0 := by rw [ec, eb, ea]; rfl
      rw [c0, c1, c2, c3, c4, c5]
      omega
    · have g4 := hg 4 (by omega) (by omega)
      have c0 : pc 0 = pe 0 := by rw [ec, eb, ea]; rfl
      have c1 : pc 1 = pe 1 := by rw [ec, eb, ea]; rfl
      have c2 : pc 2 = pe 2 := by rw [ec, eb, ea]; rfl
      have c3 : pc 3 = v := by rw [ec, eb, ea]; rfl
      have c4 : pc 4 = w := by rw [ec, eb, ea]; rfl
      have c5 : pc 5 = 0 := by rw [ec, eb, ea]; rfl
      rw [c0, c1, c2, c3, c4, c5]
      omega
    · have c0 : pc 0 = pe 0 := by rw [ec, eb, ea]; rfl
      have c1 : pc 1 = pe 1 := by rw [ec, eb, ea]; rfl
      have c2 : pc 2 = pe 2 := by rw [ec, eb, ea]; rfl
      have c3 : pc 3 = pe 3 := by rw [ec, eb, ea]; rfl
      have c4 : pc 4 = v := by rw [ec, eb, ea]; rfl
      have c5 : pc 5 = w := by rw [ec, eb, ea]; rfl
      rw [c0, c1, c2, c3, c4, c5]
      omega
/-- how far the stands are from the last -/
def OM (on : Int32) (pe : Nat → Int32) : Int := if on.toInt = 0 then 0 else 1 + PM pe
theorem OM_0 {on : Int32} {pe pe' : Nat → Int32} {n : Nat} (hm : (OM on pe).toNat < n + 1) (h : ¬ on.toInt = 0) (hp : PS pe) : (OM 0 pe').toNat < n := by
  have h1 : OM on pe = 1 + PM pe := if_neg h
  have h2 : OM 0 pe' = 0 := if_pos (by decide)
  have h3 := PM_nn hp
  rw [h1] at hm
  rw [h2]
  omega
theorem OM_1 {on : Int32} {pe pe' : Nat → Int32} {n : Nat} (hm : (OM on pe).toNat < n + 1) (h : ¬ on.toInt = 0) (hp' : PS pe') (hl : PM pe' < PM pe) : (OM 1 pe').toNat < n := by
  have h1 : OM on pe = 1 + PM pe := if_neg h
  have h2 : OM 1 pe' = 1 + PM pe' := if_neg (by decide)
  have h3 := PM_nn hp'
  rw [h1] at hm
  rw [h2]
  omega
def OF (o : Int64) (i : Int32) : Prop := 1 ≤ o.toInt ∧ o.toInt ≤ 54 ^ i.toNatClampNeg
theorem OF_0 : OF 1 0 := ⟨by decide, by decide⟩
theorem OF_nz {o : Int64} {i : Int32} (h : OF o i) : ¬ o = 0 := fun h0 => by
  have h1 := h.1
  rw [h0, show (0 : Int64).toInt = 0 by decide] at h1
  omega
theorem OF_step {o o1 y : Int64} {i i1 a : Int32} (h : OF o i) (hi : 0 ≤ i.toInt) (hi9 : i.toInt ≤ 9) (h1 : i1.toInt = i.toInt + 1) (ha : 1 ≤ a.toInt) (ha2 : a.toInt ≤ 54) (ey : a.toInt64 = y) (e : o1 = o * y) : OF o1 i1 := by
  obtain ⟨h3, h4⟩ := h
  have hy : y.toInt = a.toInt := by rw [← ey, Int32.toInt_toInt64]
  have hn := cl_nat hi
  have h9 : i.toNatClampNeg ≤ 9 := by omega
  have hall : ∀ k, k < 10 → (54 : Int) ^ k ≤ 3904305912313344 := by decide +kernel
  have hp1 := hall i.toNatClampNeg (by omega)
  have hle : o.toInt * y.toInt ≤ 54 ^ i.toNatClampNeg * 54 := by
    rw [hy]
    exact Int.mul_le_mul h4 ha2 (by omega) (by omega)
  have hge : 1 ≤ o.toInt * y.toInt := by
    have : (1 : Int) * 1 ≤ o.toInt * y.toInt := Int.mul_le_mul h3 (by omega) (by omega) (by omega)
    omega
  have ht : o1.toInt = o.toInt * y.toInt := by
    rw [e, Int64.toInt_mul]
    exact b64_in (by omega) (by omega)
  refine ⟨by omega, ?_⟩
  rw [ht, tn_succ h1 hi, Int.pow_succ]
  exact hle
/-! what falls -/
def MN (iz iz' : Nat → Int32) : Prop := ∀ i : Nat, ¬ (iz' i).toInt = 0 → ¬ (iz i).toInt = 0
theorem MN_rf {iz : Nat → Int32} : MN iz iz := fun _ h => h
theorem MN_set {iz iz1 iz2 : Nat → Int32} {k : Nat} (h : MN iz iz1) (q : iz2 = upd iz1 k (vp_nar .boolean 0)) : MN iz iz2 := by
  intro i hi
  by_cases e : i = k
  · rw [q, e, pk_us] at hi
    exact absurd (by decide) hi
  · rw [q, pk_un e] at hi
    exact h i hi
def HM (ho ho' : Nat → Int32) : Prop := ∀ (i : Nat) (f : Int32), 0 ≤ f.toInt → f.toInt ≤ 5 → ((ho' i >>> (f &&& 31)) &&& 1).toInt = 1 → ((ho i >>> (f &&& 31)) &&& 1).toInt = 1
theorem TH_mono {iz iz' ho ho' jr jf : Nat → Int32} {j : Int32} (hi : MN iz iz') (hh : HM ho ho') (hf : rg (-1) 5 jf) (h : TH iz' ho' jr jf j) : TH iz ho jr jf j := by
  refine ⟨fun a => hi _ (h.1 a), fun a => ?_⟩
  obtain ⟨h1, h2⟩ := h.2 a
  exact ⟨hi _ h1, hh _ _ a (hf _).2 h2⟩
noncomputable def CT (iz ho jr jf : Nat → Int32) : Nat → Nat
  | 0 => 0
  | k + 1 => CT iz ho jr jf k + (@ite _ (TH iz ho jr jf (nI k)) (Classical.propDecidable _) 1 0)
theorem CT_s0 {iz ho jr jf : Nat → Int32} {k : Nat} (h : ¬ TH iz ho jr jf (nI k)) : CT iz ho jr jf (k + 1) = CT iz ho jr jf k := by
  show CT iz ho jr jf k + (@ite _ (TH iz ho jr jf (nI k)) (Classical.propDecidable _) 1 0) = _
  rw [if_neg h]
  rfl
theorem CT_s1 {iz ho jr jf : Nat → Int32} {k : Nat} (h : TH iz ho jr jf (nI k)) : CT iz ho jr jf (k + 1) = CT iz ho jr jf k + 1 := by
  show CT iz ho jr jf k + (@ite _ (TH iz ho jr jf (nI k)) (Classical.propDecidable _) 1 0) = _
  rw [if_pos h]
theorem CT_le {iz ho jr jf : Nat → Int32} : ∀ n : Nat, CT iz ho jr jf n ≤ n := by
  intro n
  induction n with
  | zero => exact Nat.le_refl _
  | succ k ih =>
    by_cases h : TH iz ho jr jf (nI k)
    · rw [CT_s1 h]; omega
    · rw [CT_s0 h]; omega
theorem CT_mono {iz ho iz' ho' jr jf : Nat → Int32} (hm : ∀ j : Int32, TH iz' ho' jr jf j → TH iz ho jr jf j) : ∀ n : Nat, CT iz' ho' jr jf n ≤ CT iz ho jr jf n := by
  intro n
  induction n with
  | zero => exact Nat.le_refl _
  | succ k ih =>
    by_cases h' : TH iz' ho' jr jf (nI k)
    · rw [CT_s1 h', CT_s1 (hm _ h')]; omega
    · rw [CT_s0 h']
      by_cases h : TH iz ho jr jf (nI k)
      · rw [CT_s1 h]; omega
      · rw [CT_s0 h]; exact ih
theorem CT_lt {iz ho iz' ho' jr jf : Nat → Int32} {i : Nat} (hm : ∀ j : Int32, TH iz' ho' jr jf j → TH iz ho jr jf j) (hi : TH iz ho jr jf (nI i)) (hi' : ¬ TH iz' ho' jr jf (nI i)) : ∀ n : Nat, i < n → CT iz' ho' jr jf n < CT iz ho jr jf n := by
  intro n
  induction n with
  | zero => intro h; omega
  | succ k ih =>
    intro h
    by_cases e : i = k
    · subst e
      have := CT_mono hm i
      rw [CT_s0 hi', CT_s1 hi]; omega
    · have h1 := ih (by omega)
      by_cases h' : TH iz' ho' jr jf (nI k)
      · rw [CT_s1 h', CT_s1 (hm _ h')]; omega
      · rw [CT_s0 h']
        by_cases h : TH iz ho jr jf (nI k)
        · rw [CT_s1 h]; omega
        · rw [CT_s0 h]; exact h1
theorem CT_pos {iz ho jr jf : Nat → Int32} {i : Nat} (hi : TH iz ho jr jf (nI i)) : ∀ n : Nat, i < n → 0 < CT iz ho jr jf n := by
  intro n
  induction n with
  | zero => intro h; omega
  | succ k ih =>
    intro h
    by_cases e : i = k
    · subst e; rw [CT_s1 hi]; omega
    · have h1 := ih (by omega)
      by_cases h : TH iz ho jr jf (nI k)
      · rw [CT_s1 h]; omega
      · rw [CT_s0 h]; exact h1
/-- what has gone, and what is there still -/
def GC (gm : Int32) (iz ho jr jf : Nat → Int32) (jm : Int32) : Prop := gm.toInt + (CT iz ho jr jf jm.toNatClampNeg : Int) ≤ jm.toInt
theorem GC_0 {iz ho jr jf : Nat → Int32} {jm : Int32} (h : 0 ≤ jm.toInt) : GC 0 iz ho jr jf jm := by
  have h1 := CT_le (iz := iz) (ho := ho) (jr := jr) (jf := jf) jm.toNatClampNeg
  have h2 := cl_nat h
  have h3 : (0 : Int32).toInt = 0 := by decide
  unfold GC
  omega
theorem GC_lt {gm : Int32} {iz ho jr jf : Nat → Int32} {jm j : Int32} (h : GC gm iz ho jr jf jm) (h0 : 0 ≤ j.toInt) (h1 : j.toInt < jm.toInt) (ht : TH iz ho jr jf j) : gm.toInt < jm.toInt := by
  have h2 := cl_nat h0
  have h3 : ((jm.toNatClampNeg : Nat) : Int) = jm.toInt := cl_nat (by omega)
  have h4 := CT_pos (i := j.toNatClampNeg) (by rw [nI_self h0]; exact ht) jm.toNatClampNeg (by omega)
  unfold GC at h
  omega
theorem GC_step {gm gm1 : Int32} {iz ho iz' ho' jr jf : Nat → Int32} {jm : Int32} (h : GC gm iz ho jr jf jm) (h1 : gm1.toInt = gm.toInt + 1) (hc : CT iz' ho' jr jf jm.toNatClampNeg < CT iz ho jr jf jm.toNatClampNeg) : GC gm1 iz' ho' jr jf jm := by
  unfold GC at h ⊢
  omega
theorem HM_rf {ho : Nat → Int32} : HM ho ho := fun _ _ _ _ h => h
theorem CT_A {iz iz1 iz2 ho jr jf : Nat → Int32} {j jm r zf : Int32} (hg : rg (-1) 5 jf) (e : r = jr j.toNatClampNeg) (ef : zf = jf j.toNatClampNeg) (hf : zf.toInt < 0) (q : iz1 = upd iz r.toNatClampNeg (vp_nar .boolean 0)) (hm : MN iz1 iz2) (h0 : 0 ≤ j.toInt) (h1 : j.toInt < jm.toInt) (ht : TH iz ho jr jf j) : CT iz2 ho jr jf jm.toNatClampNeg < CT iz ho jr jf jm.toNatClampNeg := by
  have hmn : MN iz iz2 := fun i hi => MN_set MN_rf q i (hm i hi)
  have h2 := cl_nat h0
  have h3 : ((jm.toNatClampNeg : Nat) : Int) = jm.toInt := cl_nat (by omega)
  refine CT_lt (i := j.toNatClampNeg) (fun k hk => TH_mono hmn HM_rf hg hk) (by rw [nI_self h0]; exact ht) ?_ jm.toNatClampNeg (by omega)
  rw [nI_self h0]
  intro h
  have h4 := hm _ (h.1 (by rw [← ef]; exact hf))
  rw [q, ← e, pk_us] at h4
  exact h4 (by decide)
theorem six32 {f : Int32} (h0 : 0 ≤ f.toInt) (h5 : f.toInt ≤ 5) : f = 0 ∨ f = 1 ∨ f = 2 ∨ f = 3 ∨ f = 4 ∨ f = 5 := by
  rcases (show f.toInt = 0 ∨ f.toInt = 1 ∨ f.toInt = 2 ∨ f.toInt = 3 ∨ f.toInt = 4 ∨ f.toInt = 5 by omega) with q | q | q | q | q | q
  · exact Or.inl (x_eq.mpr (by rw [q]; decide))
  · exact Or.inr (Or.inl (x_eq.mpr (by rw [q]; decide)))
  · exact Or.inr (Or.inr (Or.inl (x_eq.mpr (by rw [q]; decide))))
  · exact Or.inr (Or.inr (Or.inr (Or.inl (x_eq.mpr (by rw [q]; decide)))))
  · exact Or.inr (Or.inr (Or.inr (Or.inr (Or.inl (x_eq.mpr (by rw [q]; decide))))))
  · exact Or.inr (Or.inr (Or.inr (Or.inr (Or.inr (x_eq.mpr (by rw [q]; decide))))))
theorem bit_and {v c g : Int32} (h : (c >>> (g &&& 31)) &&& 1 = 0 ∨ (c >>> (g &&& 31)) &&& 1 = 1) : (((v &&& c) >>> (g &&& 31)) &&& 1).toInt = 1 → ((v >>> (g &&& 31)) &&& 1).toInt = 1 ∧ (c >>> (g &&& 31)) &&& 1 = 1 := by
  intro h1
  rw [Int32.shiftRight_and, Int32.and_assoc] at h1
  rcases h with h | h
  · rw [h, Int32.and_zero] at h1
    exact absurd h1 (by decide)
  · rw [h] at h1
    exact ⟨h1, h⟩
theorem clr_bit : ∀ f ∈ ([0, 1, 2, 3, 4, 5] : List Int32), ∀ g ∈ ([0, 1, 2, 3, 4, 5] : List Int32), ((((1 : Int32) <<< (f &&& 31)) ^^^ (-1)) >>> (g &&& 31)) &&& 1 = (if f = g then 0 else 1) := by decide +kernel
theorem six_mem {f : Int32} (h0 : 0 ≤ f.toInt) (h5 : f.toInt ≤ 5) : f ∈ ([0, 1, 2, 3, 4, 5] : List Int32) := by
  rcases six32 h0 h5 with q | q | q | q | q | q <;> subst q <;> decide
theorem CT_B {iz iz2 ho ho1 jr jf : Nat → Int32} {j jm r z f y x v : Int32} (hg : rg (-1) 5 jf) (e : r = jr j.toNatClampNeg) (ef : f = jf j.toNatClampNeg) (hf : 0 ≤ f.toInt) (ez : z = ho r.toNatClampNeg) (ey : y = (1 : Int32) <<< (f &&& 31)) (ex : x = y ^^^ (-1)) (ev : v = z &&& x) (q : ho1 = upd ho r.toNatClampNeg v) (hm : MN iz iz2) (h0 : 0 ≤ j.toInt) (h1 : j.toInt < jm.toInt) (ht : TH iz ho jr jf j) : CT iz2 ho1 jr jf jm.toNatClampNeg < CT iz ho jr jf jm.toNatClampNeg := by
  have hf5 : f.toInt ≤ 5 := by rw [ef]; exact (hg _).2
  have hx : ∀ g : Int32, 0 ≤ g.toInt → g.toInt ≤ 5 → (x >>> (g &&& 31)) &&& 1 = (if f = g then 0 else 1) := by
    intro g hg0 hg5
    rw [ex, ey]
    exact clr_bit f (six_mem hf hf5) g (six_mem hg0 hg5)
  have hd : ∀ g : Int32, 0 ≤ g.toInt → g.toInt ≤ 5 → ((x >>> (g &&& 31)) &&& 1 = 0 ∨ (x >>> (g &&& 31)) &&& 1 = 1) := by
    intro g hg0 hg5
    rw [hx g hg0 hg5]
    by_cases c : f = g
    · rw [if_pos c]; exact Or.inl rfl
    · rw [if_neg c]; exact Or.inr rfl
  have hhm : HM ho ho1 := by
    intro i g hg0 hg5 hb
    by_cases c : i = r.toNatClampNeg
    · rw [q, c, pk_us, ev] at hb
      rw [c, ← ez]
      exact (bit_and (hd g hg0 hg5) hb).1
    · rw [q, pk_un c] at hb
      exact hb
  have h2 := cl_nat h0
  have h3 : ((jm.toNatClampNeg : Nat) : Int) = jm.toInt := cl_nat (by omega)
  refine CT_lt (i := j.toNatClampNeg) (fun k hk => TH_mono hm hhm hg hk) (by rw [nI_self h0]; exact ht) ?_ jm.toNatClampNeg (by omega)
  rw [nI_self h0]
  intro h
  have h4 := (h.2 (by rw [← ef]; exact hf)).2
  rw [q, ← e, ← ef, pk_us, ev] at h4
  have h5 := (bit_and (hd f hf hf5) h4).2
  rw [hx f hf hf5, if_pos rfl] at h5
  exact absurd h5 (by decide)
def ok_mo (ad : Nat → Nat) (cB cI cJ cZ : ClassId) (a : Nat) (r : Nat → Nat) (sz : Int32) (fk : Int32) (en : Int32) (tk : Int32) (nm : Int64) (bk : Int32) (rb : Int32) (dw : Int32) (rl : Int32) (sd : Int64) (jm : Int32) (bd : Int64) (gm : Int32) (ti : Int32) (w : va_W) : Prop := ∃ (tp : Int32) (fp : Int32) (aq : Int32) (nu : Int32) (mv : Int32) (mg : Int32) (su : Int64) (bu : Int64) (fa : Int32) (pp : Int32) (so : Int32), w = [(a, .inr (9, (.ref (r 0) :: .ref (r 1) :: .int tp :: .int sz :: .int fk :: .int fp :: .int aq :: .int en :: .int tk :: .int nu :: .long nm :: .ref (r 2) :: .ref (r 3) :: .ref (r 4) :: .ref (r 5) :: .ref (r 6) :: .ref (r 7) :: .ref (r 8) :: .ref (r 9) :: .ref (r 10) :: .ref (r 11) :: .ref (r 12) :: .ref (r 13) :: .int bk :: .int rb :: .ref (r 14) :: .int mv :: .ref (r 15) :: .ref (r 16) :: .ref (r 17) :: .ref (r 18) :: .ref (r 19) :: .ref (r 20) :: .ref (r 21) :: .ref (r 22) :: .ref (r 23) :: .int dw :: .int rl :: .int mg :: .long su :: .long sd :: .ref (r 24) :: .ref (r 25) :: .int jm :: .long bu :: .long bd :: .ref (r 26) :: .int gm :: .int fa :: .ref (r 27) :: .ref (r 28) :: .ref (r 29) :: .ref (r 30) :: .ref (r 31) :: .ref (r 32) :: .ref (r 33) :: .ref (r 34) :: .ref (r 35) :: .ref (r 36) :: .ref (r 37) :: .int pp :: .int ti :: .ref (r 38) :: .ref (r 39) :: .ref (r 40) :: .int so :: .ref (r 41) :: .ref (r 42) :: .ref (r 43) :: [])))] ∧ 0 ≤ tp.toInt ∧ tp.toInt ≤ 1600 ∧ 0 ≤ sz.toInt ∧ sz.toInt ≤ 1600 ∧ 0 ≤ fk.toInt ∧ fk.toInt ≤ 6 ∧ 0 ≤ aq.toInt ∧ aq.toInt ≤ 1600 ∧ 0 ≤ en.toInt ∧ en.toInt ≤ 1601 ∧ 0 ≤ tk.toInt ∧ tk.toInt ≤ 5 ∧ 0 ≤ bk.toInt ∧ bk.toInt ≤ 1 ∧ 0 ≤ rb.toInt ∧ rb.toInt ≤ 1 ∧ 0 ≤ dw.toInt ∧ dw.toInt ≤ 3 ∧ 0 ≤ rl.toInt ∧ rl.toInt ≤ 10 ∧ 0 ≤ jm.toInt ∧ jm.toInt ≤ 70 ∧ 0 ≤ gm.toInt ∧ gm.toInt ≤ 70 ∧ 0 ≤ pp.toInt ∧ pp.toInt ≤ 60 ∧ 0 ≤ ti.toInt ∧ ti.toInt ≤ 100000 ∧ 0 ≤ so.toInt ∧ so.toInt ≤ 9
def ok_gT (ad : Nat → Nat) (cB cI cJ cZ : ClassId) (r : Nat → Nat) (w : va_W) : Prop := ∃ (f0 : Nat → Int32) (f1 : Nat → Int32), w = [(r 0, .inl (cB, 1620, .inl f0)), (r 1, .inl (cB, 1600, .inl f1))]
def ok_gH (ad : Nat → Nat) (cB cI cJ cZ : ClassId) (r : Nat → Nat) (fl : Nat → Int32) (dr : Nat → Int32) (rd : Nat → Int32) (rf : Nat → Int32) (rh : Nat → Int32) (w : va_W) : Prop := ∃ (f2 : Nat → Int64) (f3 : Nat → Int64) (f4 : Nat → Int64) (f5 : Nat → Int32) (f6 : Nat → Int32) (f7 : Nat → Int32) (f11 : Nat → Int32), w = [(r 2, .inl (cI, 2, .inl fl)), (r 3, .inl (cI, 2, .inl dr)), (r 4, .inl (cJ, 12, .inr (.inl f2))), (r 5, .inl (cJ, 8, .inr (.inl f3))), (r 6, .inl (cJ, 80, .inr (.inl f4))), (r 7, .inl (cI, 12, .inl f5)), (r 8, .inl (cI, 12, .inl f6)), (r 9, .inl (cI, 12, .inl f7)), (r 10, .inl (cI, 8, .inl rd)), (r 11, .inl (cI, 80, .inl rf)), (r 12, .inl (cI, 80, .inl rh)), (r 13, .inl (cI, 80, .inl f11))] ∧ rg (0) 6 fl ∧ rg (0) 4 dr ∧ rg (0) 9999 f6 ∧ rg (0) 9 f7 ∧ rg (0) 10 rd ∧ rg (-1) 5 rf ∧ rg (0) 9999 f11 ∧ HC fl f6 ∧ HR dr rd f11
def ok_gL (ad : Nat → Nat) (cB cI cJ cZ : ClassId) (r : Nat → Nat) (fr : Nat → Int32) (ho : Nat → Int32) (pe : Nat → Int32) (he : Nat → Int32) (iz : Nat → Int32) (wd : Nat → Int64) (dn : Nat → Int64) (w : va_W) : Prop := ∃ (f0 : Nat → Int32) (f6 : Nat → Int64) (f8 : Nat → Int64), w = [(r 14, .inl (cI, 6, .inl f0)), (r 15, .inl (cI, 10, .inl fr)), (r 16, .inl (cI, 10, .inl ho)), (r 17, .inl (cI, 6, .inl pe)), (r 18, .inl (cI, 6, .inl he)), (r 19, .inl (cZ, 10, .inl iz)), (r 20, .inl (cJ, 6, .inr (.inl f6))), (r 21, .inl (cJ, 6, .inr (.inl wd))), (r 22, .inl (cJ, 10, .inr (.inl f8))), (r 23, .inl (cJ, 10, .inr (.inl dn)))] ∧ rg (-1) 5 fr ∧ rg (0) 10 he ∧ rg (0) 1 iz
def ok_gJ (ad : Nat → Nat) (cB cI cJ cZ : ClassId) (r : Nat → Nat) (jr : Nat → Int32) (jf : Nat → Int32) (fd : Nat → Int64) (w : va_W) : Prop := ∃ (f2 : Nat → Int32) (f3 : Nat → Int64) (f5 : Nat → Int32) (f6 : Nat → Int32), w = [(r 24, .inl (cI, 70, .inl jr)), (r 25, .inl (cI, 70, .inl jf)), (r 26, .inl (cI, 70, .inl f2)), (r 27, .inl (cJ, 70, .inr (.inl f3))), (r 28, .inl (cJ, 70, .inr (.inl fd))), (r 29, .inl (cI, 70, .inl f5)), (r 30, .inl (cI, 70, .inl f6))] ∧ rg (0) 9 jr ∧ rg (-1) 5 jf ∧ rg (0) 9 f5
def ok_gP (ad : Nat → Nat) (cB cI cJ cZ : ClassId) (r : Nat → Nat) (w : va_W) : Prop := ∃ (f0 : Nat → Int32) (f1 : Nat → Int32) (f2 : Nat → Int32) (f3 : Nat → Int32) (f4 : Nat → Int32) (f5 : Nat → Int32) (f6 : Nat → Int32) (f7 : Nat → Int32) (f8 : Nat → Int32) (f9 : Nat → Int32), w = [(r 31, .inl (cI, 60, .inl f0)), (r 32, .inl (cI, 60, .inl f1)), (r 33, .inl (cI, 60, .inl f2)), (r 34, .inl (cI, 60, .inl f3)), (r 35, .inl (cI, 60, .inl f4)), (r 36, .inl (cI, 60, .inl f5)), (r 37, .inl (cZ, 60, .inl f6)), (r 38, .inl (cI, 60, .inl f7)), (r 39, .inl (cI, 60, .inl f8)), (r 40, .inl (cZ, 60, .inl f9))]
def ok_gE (ad : Nat → Nat) (cB cI cJ cZ : ClassId) (r : Nat → Nat) (ed : Nat → Int64) (w : va_W) : Prop := ∃ (f0 : Nat → Int64) (f2 : Nat → Int32), w = [(r 41, .inl (cJ, 210, .inr (.inl f0))), (r 42, .inl (cJ, 210, .inr (.inl ed))), (r 43, .inl (cI, 210, .inl f2))]
theorem okx_mo {ad : Nat → Nat} {cB cI cJ cZ : ClassId} {a : Nat} {r : Nat → Nat} {sz : Int32} {fk : Int32} {en : Int32} {tk : Int32} {nm : Int64} {bk : Int32} {rb : Int32} {dw : Int32} {rl : Int32} {sd : Int64} {jm : Int32} {bd : Int64} {gm : Int32} {ti : Int32} {w : va_W} (h : ok_mo ad cB cI cJ cZ a r sz fk en tk nm bk rb dw rl sd jm bd gm ti w) : 0 ≤ sz.toInt ∧ sz.toInt ≤ 1600 ∧ 0 ≤ fk.toInt ∧ fk.toInt ≤ 6 ∧ 0 ≤ en.toInt ∧ en.toInt ≤ 1601 ∧ 0 ≤ tk.toInt ∧ tk.toInt ≤ 5 ∧ 0 ≤ bk.toInt ∧ bk.toInt ≤ 1 ∧ 0 ≤ rb.toInt ∧ rb.toInt ≤ 1 ∧ 0 ≤ dw.toInt ∧ dw.toInt ≤ 3 ∧ 0 ≤ rl.toInt ∧ rl.toInt ≤ 10 ∧ 0 ≤ jm.toInt ∧ jm.toInt ≤ 70 ∧ 0 ≤ gm.toInt ∧ gm.toInt ≤ 70 ∧ 0 ≤ ti.toInt ∧ ti.toInt ≤ 100000 := by
  obtain ⟨_, _, _, _, _, _, _, _, _, _, _, _, _, _, h0, h1, h2, h3, _, _, h4, h5, h6, h7, h8, h9, h10, h11, h12, h13, h14, h15, h16, h17, h18, h19, _, _, h20, h21, _, _⟩ := h
  exact ⟨h0, h1, h2, h3, h4, h5, h6, h7, h8, h9, h10, h11, h12, h13, h14, h15, h16, h17, h18, h19, h20, h21⟩
