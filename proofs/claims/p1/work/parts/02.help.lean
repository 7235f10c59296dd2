/-! rows over arrays of rows of longs: what the tables say, kept over calls -/
def va_AOA (ty : FieldType) (U : State) : Prop := (Cond.arrayOver (.array ty)).before #[] U = true
theorem va_AOA.moved {ty : FieldType} {u U : State} (hvm : u.vm.Alike U.vm) (h : va_AOA ty u) : va_AOA ty U := by
  obtain ⟨comp, cA, k, h1, h2, h3, h4, h5⟩ := arrayOverA_spec h
  obtain ⟨k', hk', he⟩ := hvm.2.2 _ _ h3
  have hi : (U.vm.classes.findIdx? fun (x : Class) => match x.kind with | .array component _ => component == comp | _ => false) = some cA := by
    rw [hvm.findIdx?_eq _ (fun _ => rfl)]; exact h2
  have hkind : k'.kind = .array comp (.array ty) := by rw [he]; exact h4
  have f1 : U.vm.findClass (FieldType.array ty).toString = some comp := by rw [hvm.findClass]; exact h1
  have f2 : U.vm.findClass ("[" ++ (FieldType.array ty).toString) = some cA := by rw [hvm.findClass]; exact h5
  show (Cond.arrayOver (.array ty)).before #[] U = true
  simp only [Cond.before, Cond.holds, Cond.value]
  rw [f1, Option.bind_some]
  refine (congrArg (fun o : Option Nat => (o.bind (fun c => (U.vm.classes[c]?).map fun (k : Class) => match k.kind with | .array _ t9 => decide (t9 = FieldType.array ty) && decide (U.vm.findClass ("[" ++ (FieldType.array ty).toString) = some c) | _ => false) == some true)) hi).trans ?_
  simp [hk', hkind, f2]
/-! what holds of the machine all along: the links between nest mates, arrays over rows of longs, the constant Kind.END -/
def ex_N (U : State) : Prop := va_Nw (.methodLinkNest RX10 19 yX7_init "HungFloors") U ∧ va_Nw (.methodLinkNest RX10 29 yX4_init "HungFloors") U ∧ va_Nw (.methodLinkNest RX10 43 yX3_init "HungFloors") U ∧ va_Nw (.methodLinkNest RX10 53 yX1_init "HungFloors") U ∧ va_Nw (.methodLinkNest RX10 60 yX0_init "HungFloors") U ∧ va_Nw (.methodLinkNest RX10 67 yX8_init "HungFloors") U ∧ va_Nw (.methodLinkNest RX10 74 yX6_init "HungFloors") U ∧ va_Nw (.methodLinkNest RX2 11 yX10_isPart "HungFloors") U ∧ va_Nw (.methodLinkNest RX3 11 yX7_init "HungFloors") U ∧ va_Nw (.methodLinkNest RX4 11 yX9_init "HungFloors") U ∧ va_Nw (.methodLinkNest RX4 20 yX7_init "HungFloors") U ∧ va_AOA .long U
def ex_X (k : Nat) (A : Nat → Prop) (U : State) : Prop := ex_N U ∧ va_Z "HungFloors$Kind" "END" "LHungFloors$Kind;" (.ref k) A U U.heap
theorem ex_call {k : Nat} {A0 A1 : Nat → Prop} {s U : State} {H : Heap} {locs : List Loc} (h : ex_X k A0 s) (hS : va_S A0 s.heap H locs) (hF : ∀ q, A1 q → A0 q) (hU : U.heap = H) (hW : s.WarmedH U.vm) : ex_X k A1 U := by
  obtain ⟨⟨h1, h2, h3, h4, h5, h6, h7, h8, h9, h10, h11, h12⟩, hz⟩ := h
  refine ⟨⟨va_Nw.warmM hW h1, va_Nw.warmM hW h2, va_Nw.warmM hW h3, va_Nw.warmM hW h4, va_Nw.warmM hW h5, va_Nw.warmM hW h6, va_Nw.warmM hW h7, va_Nw.warmM hW h8, va_Nw.warmM hW h9, va_Nw.warmM hW h10, va_Nw.warmM hW h11, va_AOA.moved hW.alike h12⟩, ?_⟩
  rw [hU]
  exact ((va_Z.kept hz hS.2.1).narrow hF).moved hW.alike
theorem ex_blind {k : Nat} {A : Nat → Prop} {U : State} {g : JFrame} {mk : MethodId} {a : Array Value} (h : ex_X k A U) : ex_X k A (U.calling g mk a) := by
  obtain ⟨⟨h1, h2, h3, h4, h5, h6, h7, h8, h9, h10, h11, h12⟩, hz⟩ := h
  exact ⟨⟨va_Nw.same rfl rfl h1, va_Nw.same rfl rfl h2, va_Nw.same rfl rfl h3, va_Nw.same rfl rfl h4, va_Nw.same rfl rfl h5, va_Nw.same rfl rfl h6, va_Nw.same rfl rfl h7, va_Nw.same rfl rfl h8, va_Nw.same rfl rfl h9, va_Nw.same rfl rfl h10, va_Nw.same rfl rfl h11, va_AOA.moved (Vm.Alike.refl U.vm) h12⟩, va_Z.moved (Vm.Alike.refl U.vm) hz⟩
theorem ex_P0 {D : va_G} {cl : List vw_C} {H : Heap} : va_P D cl [] H := fun k q h => by simp at h
theorem ex_D0 {A : Nat → Prop} : va_D A [] := ⟨fun i j p q h => by simp at h, fun k q h => by simp at h⟩
theorem x_lt {a b : Int32} : a < b ↔ a.toInt < b.toInt := Int32.lt_iff_toInt_lt
theorem x_le {a b : Int32} : a ≤ b ↔ a.toInt ≤ b.toInt := Int32.le_iff_toInt_le
theorem x_eq {a b : Int32} : a = b ↔ a.toInt = b.toInt := Int32.toInt_inj.symm
theorem tI_m2 : (-2 : Int32).toInt = -2 := by decide
theorem tI_m1 : (-1 : Int32).toInt = -1 := by decide
theorem tI_0 : (0 : Int32).toInt = 0 := by decide
theorem tI_1 : (1 : Int32).toInt = 1 := by decide
theorem tI_2 : (2 : Int32).toInt = 2 := by decide
theorem tI_3 : (3 : Int32).toInt = 3 := by decide
theorem tI_4 : (4 : Int32).toInt = 4 := by decide
theorem tI_5 : (5 : Int32).toInt = 5 := by decide
theorem tI_9 : (9 : Int32).toInt = 9 := by decide
theorem tI_10 : (10 : Int32).toInt = 10 := by decide
theorem df_X0 : ∀ j, j < 9 → defaultValue (tyX0 j) = vp_V [.null, .null, .null, .int 0, .null, .int 0, .null, .long 0, .long 0] j := by
  intro j hj
  match j, hj with
  | 0, _ => rfl
  | 1, _ => rfl
  | 2, _ => rfl
  | 3, _ => rfl
  | 4, _ => rfl
  | 5, _ => rfl
  | 6, _ => rfl
  | 7, _ => rfl
  | 8, _ => rfl
  | j + 9, h => exact absurd h (by omega)
theorem df_X1 : ∀ j, j < 3 → defaultValue (tyX1 j) = vp_V [.int 0, .int 0, .null] j := by
  intro j hj
  match j, hj with
  | 0, _ => rfl
  | 1, _ => rfl
  | 2, _ => rfl
  | j + 3, h => exact absurd h (by omega)
theorem df_X3 : ∀ j, j < 16 → defaultValue (tyX3 j) = vp_V [.null, .int 0, .int 0, .int 0, .null, .null, .int 0, .null, .null, .null, .null, .null, .long 0, .int 0, .null, .null] j := by
  intro j hj
  match j, hj with
  | 0, _ => rfl
  | 1, _ => rfl
  | 2, _ => rfl
  | 3, _ => rfl
  | 4, _ => rfl
  | 5, _ => rfl
  | 6, _ => rfl
  | 7, _ => rfl
  | 8, _ => rfl
  | 9, _ => rfl
  | 10, _ => rfl
  | 11, _ => rfl
  | 12, _ => rfl
  | 13, _ => rfl
  | 14, _ => rfl
  | 15, _ => rfl
  | j + 16, h => exact absurd h (by omega)
theorem df_X4 : ∀ j, j < 4 → defaultValue (tyX4 j) = vp_V [.null, .null, .int 0, .int 0] j := by
  intro j hj
  match j, hj with
  | 0, _ => rfl
  | 1, _ => rfl
  | 2, _ => rfl
  | 3, _ => rfl
  | j + 4, h => exact absurd h (by omega)
theorem df_X6 : ∀ j, j < 12 → defaultValue (tyX6 j) = vp_V [.int 0, .null, .null, .null, .null, .null, .null, .null, .int 0, .null, .null, .null] j := by
  intro j hj
  match j, hj with
  | 0, _ => rfl
  | 1, _ => rfl
  | 2, _ => rfl
  | 3, _ => rfl
  | 4, _ => rfl
  | 5, _ => rfl
  | 6, _ => rfl
  | 7, _ => rfl
  | 8, _ => rfl
  | 9, _ => rfl
  | 10, _ => rfl
  | 11, _ => rfl
  | j + 12, h => exact absurd h (by omega)
theorem df_X7 : ∀ j, j < 12 → defaultValue (tyX7 j) = vp_V [.int 0, .null, .null, .null, .null, .int 0, .null, .null, .null, .null, .null, .null] j := by
  intro j hj
  match j, hj with
  | 0, _ => rfl
  | 1, _ => rfl
  | 2, _ => rfl
  | 3, _ => rfl
  | 4, _ => rfl
  | 5, _ => rfl
  | 6, _ => rfl
  | 7, _ => rfl
  | 8, _ => rfl
  | 9, _ => rfl
  | 10, _ => rfl
  | 11, _ => rfl
  | j + 12, h => exact absurd h (by omega)
theorem df_X8 : ∀ j, j < 4 → defaultValue (tyX8 j) = vp_V [.int 0, .null, .null, .null] j := by
  intro j hj
  match j, hj with
  | 0, _ => rfl
  | 1, _ => rfl
  | 2, _ => rfl
  | 3, _ => rfl
  | j + 4, h => exact absurd h (by omega)
theorem df_X9 : ∀ j, j < 7 → defaultValue (tyX9 j) = vp_V [.null, .int 0, .int 0, .null, .int 0, .long 0, .int 0] j := by
  intro j hj
  match j, hj with
  | 0, _ => rfl
  | 1, _ => rfl
  | 2, _ => rfl
  | 3, _ => rfl
  | 4, _ => rfl
  | 5, _ => rfl
  | 6, _ => rfl
  | j + 7, h => exact absurd h (by omega)
theorem df_X10 : ∀ j, j < 14 → defaultValue (tyX10 j) = vp_V [.null, .int 0, .null, .null, .null, .null, .int 0, .null, .null, .null, .null, .null, .null, .int 0] j := by
  intro j hj
  match j, hj with
  | 0, _ => rfl
  | 1, _ => rfl
  | 2, _ => rfl
  | 3, _ => rfl
  | 4, _ => rfl
  | 5, _ => rfl
  | 6, _ => rfl
  | 7, _ => rfl
  | 8, _ => rfl
  | 9, _ => rfl
  | 10, _ => rfl
  | 11, _ => rfl
  | 12, _ => rfl
  | 13, _ => rfl
  | j + 14, h => exact absurd h (by omega)
theorem df_X11 : ∀ j, j < 69 → defaultValue (tyX11 j) = vp_V [.null, .null, .int 0, .int 0, .int 0, .int 0, .int 0, .int 0, .int 0, .int 0, .long 0, .null, .null, .null, .null, .null, .null, .null, .null, .null, .null, .null, .null, .int 0, .int 0, .null, .int 0, .null, .null, .null, .null, .null, .null, .null, .null, .null, .int 0, .int 0, .int 0, .long 0, .long 0, .null, .null, .int 0, .long 0, .long 0, .null, .int 0, .int 0, .null, .null, .null, .null, .null, .null, .null, .null, .null, .null, .null, .int 0, .int 0, .null, .null, .null, .int 0, .null, .null, .null] j := by
  intro j hj
  match j, hj with
  | 0, _ => rfl
  | 1, _ => rfl
  | 2, _ => rfl
  | 3, _ => rfl
  | 4, _ => rfl
  | 5, _ => rfl
  | 6, _ => rfl
  | 7, _ => rfl
  | 8, _ => rfl
  | 9, _ => rfl
  | 10, _ => rfl
  | 11, _ => rfl
  | 12, _ => rfl
  | 13, _ => rfl
  | 14, _ => rfl
  | 15, _ => rfl
  | 16, _ => rfl
  | 17, _ => rfl
  | 18, _ => rfl
  | 19, _ => rfl
  | 20, _ => rfl
  | 21, _ => rfl
  | 22, _ => rfl
  | 23, _ => rfl
  | 24, _ => rfl
  | 25, _ => rfl
  | 26, _ => rfl
  | 27, _ => rfl
  | 28, _ => rfl
  | 29, _ => rfl
  | 30, _ => rfl
  | 31, _ => rfl
  | 32, _ => rfl
  | 33, _ => rfl
  | 34, _ => rfl
  | 35, _ => rfl
  | 36, _ => rfl
  | 37, _ => rfl
  | 38, _ => rfl
  | 39, _ => rfl
  | 40, _ => rfl
  | 41, _ => rfl
  | 42, _ => rfl
  | 43, _ => rfl
  | 44, _ => rfl
  | 45, _ => rfl
  | 46, _ => rfl
  | 47, _ => rfl
  | 48, _ => rfl
  | 49, _ => rfl
  | 50, _ => rfl
  | 51, _ => rfl
  | 52, _ => rfl
  | 53, _ => rfl
  | 54, _ => rfl
  | 55, _ => rfl
  | 56, _ => rfl
  | 57, _ => rfl
  | 58, _ => rfl
  | 59, _ => rfl
  | 60, _ => rfl
  | 61, _ => rfl
  | 62, _ => rfl
  | 63, _ => rfl
  | 64, _ => rfl
  | 65, _ => rfl
  | 66, _ => rfl
  | 67, _ => rfl
  | 68, _ => rfl
  | j + 69, h => exact absurd h (by omega)
