/-! rows over arrays of rows of longs: what the tables say, kept over calls -/
def va_AOA (ty : FieldType) (U : State) : Prop := (Cond.arrayOver (.array ty)).before #[] U = true
theorem va_AOA.moved {ty : FieldType} {u U : State} (hvm : u.vm.Alike U.vm) (h : va_AOA ty u) : va_AOA ty U := by
  obtain ⟨comp, cA, k, h1, h2, h3, h4, h5⟩ := arrayOverA_spec h
  obtain ⟨k', hk', he⟩ := hvm.2.2 _ _ h3
  have hi : (U.vm.classes.findIdx? fun (x : Class) => match x.kind with | .array component _ => component == comp | _ => false) = some cA := by
    rw [hvm.findIdx?_eq _ (fun _ => rfl)]; exact h2
  have hkind : k'.kind = .array comp (.array ty) := by rw [he]; exact h4
  have f1 : U.vm.findClass (FieldType.array ty).toString = some comp := by rw [hvm.findClass]; exact h1
  have f2 : U.vm.findClass ("[" ++ (FieldType.array ty).toString) = some cA := by rw [hvm.findClass]; exact h5
  show (Cond.arrayOver (.array ty)).before #[] U = true
  simp only [Cond.before, Cond.holds, Cond.value]
  rw [f1, Option.bind_some]
  refine (congrArg (fun o : Option Nat => (o.bind (fun c => (U.vm.classes[c]?).map fun (k : Class) => match k.kind with | .array _ t9 => decide (t9 = FieldType.array ty) && decide (U.vm.findClass ("[" ++ (FieldType.array ty).toString) = some c) | _ => false) == some true)) hi).trans ?_
  simp [hk', hkind, f2]
/-! what holds of the machine all along: the links between nest mates, arrays over rows of longs, the constant Kind.END -/
def ex_N (U : State) : Prop := va_Nw (.methodLinkNest RX10 19 yX7_init "HungFloors") U ∧ va_Nw (.methodLinkNest RX10 29 yX4_init "HungFloors") U ∧ va_Nw (.methodLinkNest RX10 43 yX3_init "HungFloors") U ∧ va_Nw (.methodLinkNest RX10 53 yX1_init "HungFloors") U ∧ va_Nw (.methodLinkNest RX10 60 yX0_init "HungFloors") U ∧ va_Nw (.methodLinkNest RX10 67 yX8_init "HungFloors") U ∧ va_Nw (.methodLinkNest RX10 74 yX6_init "HungFloors") U ∧ va_Nw (.methodLinkNest RX2 11 yX10_isPart "HungFloors") U ∧ va_Nw (.methodLinkNest RX3 11 yX7_init "HungFloors") U ∧ va_Nw (.methodLinkNest RX4 11 yX9_init "HungFloors") U ∧ va_Nw (.methodLinkNest RX4 20 yX7_init "HungFloors") U ∧ va_AOA .long U
def ex_X (k : Nat) (A : Nat → Prop) (U : State) : Prop := ex_N U ∧ va_Z "HungFloors$Kind" "END" "LHungFloors$Kind;" (.ref k) A U U.heap
theorem ex_call {k : Nat} {A0 A1 : Nat → Prop} {s U : State} {H : Heap} {locs : List Loc} (h : ex_X k A0 s) (hS : va_S A0 s.heap H locs) (hF : ∀ q, A1 q → A0 q) (hU : U.heap = H) (hW : s.WarmedH U.vm) : ex_X k A1 U := by
  obtain ⟨⟨h1, h2, h3, h4, h5, h6, h7, h8, h9, h10, h11, h12⟩, hz⟩ := h
  refine ⟨⟨va_Nw.warmM hW h1, va_Nw.warmM hW h2, va_Nw.warmM hW h3, va_Nw.warmM hW h4, va_Nw.warmM hW h5, va_Nw.warmM hW h6, va_Nw.warmM hW h7, va_Nw.warmM hW h8, va_Nw.warmM hW h9, va_Nw.warmM hW h10, va_Nw.warmM hW h11, va_AOA.moved hW.alike h12⟩, ?_⟩
  rw [hU]
  exact ((va_Z.kept hz hS.2.1).narrow hF).moved hW.alike
theorem ex_blind {k : Nat} {A : Nat → Prop} {U : State} {g : JFrame} {mk : MethodId} {a : Array Value} (h : ex_X k A U) : ex_X k A (U.calling g mk a) := by
  obtain ⟨⟨h1, h2, h3, h4, h5, h6, h7, h8, h9, h10, h11, h12⟩, hz⟩ := h
  exact ⟨⟨va_Nw.same rfl rfl h1, va_Nw.same rfl rfl h2, va_Nw.same rfl rfl h3, va_Nw.same rfl rfl h4, va_Nw.same rfl rfl h5, va_Nw.same rfl rfl h6, va_Nw.same rfl rfl h7, va_Nw.same rfl rfl h8, va_Nw.same rfl rfl h9, va_Nw.same rfl rfl h10, va_Nw.same rfl rfl h11, va_AOA.moved (Vm.Alike.refl U.vm) h12⟩, va_Z.moved (Vm.Alike.refl U.vm) hz⟩
section MNR
variable {E : CtlPost} {e : Env} {d : Bool} {acts : List Action}
/-- one row of longs -/
theorem mn_inner {U : State} {comp c2 : ClassId} {kC : Class} {k : Int32} {Q : Addr → Pre} (hk : U.vm.classes[comp]? = some kC) (hkind : kC.kind = .array c2 .long) (hn : ¬ k < 0)
    (hlimit : ¬ k.toNatClampNeg > e.platform.arrayLengthLimit) (hheap : ¬ k.toNatClampNeg * componentBytes .long > e.platform.maxHeapBytes) (hcells : U.heap.size < e.platform.maxCells) (hslots : U.slotsUsed + k.toNatClampNeg ≤ e.platform.maxSlots)
    (hq : ∀ acts', Q U.heap.size d acts' (U.pushCell { cls := comp, slots := Array.replicate k.toNatClampNeg (.long 0) })) : wp (Op.multianewarray.make comp [k]) Q E e d acts U := by
  simp only [Op.multianewarray.make, wp_bind', W.ite, hn, if_false, wp_pure', W.theClass, hk, Option.some.injEq, exists_eq_left', hkind]
  exact W.newArray_of hk hkind hlimit hheap hcells hslots rfl hq
/-- the states of 'new long[N][K]': the outer array, then a row after the other -/
def mnT (cA comp : ClassId) (N K : Nat) (T : State) : Nat → State
  | 0 => T.pushCell { cls := cA, slots := Array.replicate N .null }
  | i + 1 => ((mnT cA comp N K T i).pushCell { cls := comp, slots := Array.replicate K (.long 0) }).setCell T.heap.size ((((mnT cA comp N K T i).heap[T.heap.size]?).getD { cls := cA, slots := #[] }).setSlot i (.ref (mnT cA comp N K T i).heap.size))
end MNR
section MNF
variable {p : Program} {l : Launch} {e : Env} {R : Room} {s : State} {m : MethodId} {args : Array Value} {below : List Frame} {meth : Method} {c : Code} {locs : List Loc} {cells slots : Nat} {T : State}
theorem mn_facts (cA comp : ClassId) (N K : Nat) (X : Stand p l e R s m args below meth c T locs cells slots) : ∀ i : Nat, (∃ L : List Loc, Stand p l e R s m args below meth c (mnT cA comp N K T i) (locs ++ L) (cells + 1 + i) (slots + N + i * K) ∧ ∀ q ∈ L, q.base = T.heap.size) ∧ (mnT cA comp N K T i).heap.size = T.heap.size + 1 + i ∧ (∃ co : Cell, (mnT cA comp N K T i).heap[T.heap.size]? = some co ∧ co.cls = cA ∧ co.vm = .none ∧ co.slots.size = N) ∧ (∀ q : Nat, q < T.heap.size → (mnT cA comp N K T i).heap[q]? = T.heap[q]?) ∧ (mnT cA comp N K T i).vm = T.vm
  | 0 => by
    refine ⟨⟨[], ?_, by simp⟩, ?_, ⟨{ cls := cA, slots := Array.replicate N .null }, ?_, rfl, rfl, by simp⟩, fun q hq => ?_, rfl⟩
    · have h := X.pushed { cls := cA, slots := Array.replicate N .null }
      simpa [mnT] using h
    · simp [mnT]
    · simp [mnT]
    · show (T.heap.push _)[q]? = _
      rw [Array.getElem?_push, if_neg (Nat.ne_of_lt hq)]
  | i + 1 => by
    obtain ⟨⟨L, XL, hL⟩, hsz, ⟨co, hco, h1, h2, h3⟩, hold, hvm⟩ := mn_facts cA comp N K X i
    have e9 : mnT cA comp N K T (i + 1) = ((mnT cA comp N K T i).pushCell { cls := comp, slots := Array.replicate K (.long 0) }).setCell T.heap.size (co.setSlot i (.ref (mnT cA comp N K T i).heap.size)) := by
      simp only [mnT, hco, Option.getD_some]
    rw [e9]
    generalize mnT cA comp N K T i = U at XL hsz hco hold hvm ⊢
    have XP := XL.pushed { cls := comp, slots := Array.replicate K (.long 0) }
    have hco2 : (U.pushCell { cls := comp, slots := Array.replicate K (.long 0) }).heap[T.heap.size]? = some co := by
      show (U.heap.push _)[T.heap.size]? = _
      rw [Array.getElem?_push, if_neg (by omega)]
      exact hco
    have XS := XP.stored hco2 i (.ref U.heap.size)
    refine ⟨⟨L ++ [⟨T.heap.size, i⟩], ?_, ?_⟩, ?_, ⟨co.setSlot i (.ref U.heap.size), ?_, h1, h2, ?_⟩, fun q hq => ?_, hvm⟩
    · rw [← List.append_assoc]
      have e1 : cells + 1 + i + 1 = cells + 1 + (i + 1) := by omega
      have e2 : slots + N + i * K + (Array.replicate K (Value.long 0)).size = slots + N + (i + 1) * K := by
        rw [Array.size_replicate, Nat.add_mul]; omega
      rw [← e1, ← e2]
      exact XS
    · intro q hq
      rcases List.mem_append.mp hq with h | h
      · exact hL q h
      · rw [List.mem_singleton.mp h]
    · show ((U.heap.push _).setIfInBounds _ _).size = _
      rw [Array.size_setIfInBounds, Array.size_push, hsz]; omega
    · show ((U.heap.push _).setIfInBounds T.heap.size _)[T.heap.size]? = _
      rw [Array.getElem?_setIfInBounds_self_of_lt (by rw [Array.size_push]; omega)]
    · simp [Cell.setSlot, h3]
    · show ((U.heap.push _).setIfInBounds T.heap.size _)[q]? = _
      rw [Array.getElem?_setIfInBounds_ne (by omega), Array.getElem?_push, if_neg (by omega)]
      exact hold q hq
variable {E : CtlPost} {d : Bool} {acts : List Action}
theorem mn_loop (cA comp c2 : ClassId) {kA kC : Class} {N : Nat} {k : Int32} (X : Stand p l e R s m args below meth c T locs cells slots) (f : JFrame)
    (hkA : T.vm.classes[cA]? = some kA) (hkindA : kA.kind = .array comp (.array .long)) (hkC : T.vm.classes[comp]? = some kC) (hkindC : kC.kind = .array c2 .long) (hk : ¬ k < 0)
    (hlimit : ¬ k.toNatClampNeg > e.platform.arrayLengthLimit) (hheap : ¬ k.toNatClampNeg * componentBytes .long > e.platform.maxHeapBytes) (hcells : cells + (1 + N) ≤ R.cells) (hslots : slots + (N + N * k.toNatClampNeg) ≤ R.slots)
    {Q : PUnit → Pre} (hq : ∀ d' acts', Q PUnit.unit d' acts' ((mnT cA comp N k.toNatClampNeg T N).setTop f)) :
    ∀ (j i : Nat) (d : Bool) (acts : List Action), i + j = N → wp (forIn (List.range' i j) PUnit.unit (fun i (_ : PUnit) => do
        let r ← Op.multianewarray.make comp [k]
        writeLoc T.heap.size i (.ref r)
        Pure.pure (ForInStep.yield PUnit.unit))) Q E e d acts ((mnT cA comp N k.toNatClampNeg T i).setTop f) := by
  intro j
  induction j with
  | zero =>
    intro i d acts hi
    have : i = N := by omega
    subst this
    simp only [List.range'_zero, List.forIn_nil, wp_pure']
    exact hq _ _
  | succ j ih =>
    intro i d acts hi
    obtain ⟨⟨L, XL, -⟩, hsz, ⟨co, hco, h1, h2, h3⟩, hold, hvm⟩ := mn_facts cA comp N k.toNatClampNeg X i
    have hmul : i * k.toNatClampNeg + k.toNatClampNeg ≤ N * k.toNatClampNeg := by
      have : (i + 1) * k.toNatClampNeg ≤ N * k.toNatClampNeg := Nat.mul_le_mul_right _ (by omega)
      rw [Nat.add_mul] at this; omega
    obtain ⟨r1, r2⟩ := XL.roomAbove (a := 1) (b := k.toNatClampNeg) (by omega) (by omega)
    simp only [List.range'_succ, List.forIn_cons, wp_bind']
    refine mn_inner (U := (mnT cA comp N k.toNatClampNeg T i).setTop f) (by show (mnT cA comp N k.toNatClampNeg T i).vm.classes[comp]? = _; rw [hvm]; exact hkC) hkindC hk hlimit hheap (by show (mnT cA comp N k.toNatClampNeg T i).heap.size < _; omega) r2 (fun acts' => ?_)
    simp only [wp_bind', W.writeLoc, wp_pure', State.pushCell_setTop, State.heap_setTop, State.setCell_setTop]
    refine ⟨co, ?_, by rw [h2]; decide, by show i < co.slots.size; omega, ?_, ?_⟩
    · show ((mnT cA comp N k.toNatClampNeg T i).heap.push _)[T.heap.size]? = _
      rw [Array.getElem?_push, if_neg (by omega)]
      exact hco
    · have hv : ((mnT cA comp N k.toNatClampNeg T i).pushCell { cls := comp, slots := Array.replicate k.toNatClampNeg (.long 0) }).vm.classes[cA]? = some kA := by
        show (mnT cA comp N k.toNatClampNeg T i).vm.classes[cA]? = _
        rw [hvm]; exact hkA
      rw [h1, h2]
      simp only [State.fitsSlot, State.slotType?, State.vm_setTop, hv, Option.bind_eq_bind, Option.bind_some, hkindA]
      rfl
    · have e9 : mnT cA comp N k.toNatClampNeg T (i + 1) = ((mnT cA comp N k.toNatClampNeg T i).pushCell { cls := comp, slots := Array.replicate k.toNatClampNeg (.long 0) }).setCell T.heap.size (co.setSlot i (.ref (mnT cA comp N k.toNatClampNeg T i).heap.size)) := by
        simp only [mnT, hco, Option.getD_some]
      have h := fun a9 => ih (i + 1) true a9 (by omega)
      rw [e9] at h
      exact h _
end MNF
section MNM
variable {p : Program} {l : Launch} {e : Env} {R : Room} {s : State} {m : MethodId} {args : Array Value} {below : List Frame} {meth : Method} {c : Code} {locs : List Loc} {cells slots : Nat} {T : State}
variable {E : CtlPost} {d : Bool} {acts : List Action}
theorem mn_make (cA comp c2 : ClassId) {kA kC : Class} {n k : Int32} (X : Stand p l e R s m args below meth c T locs cells slots) (f : JFrame)
    (hkA : T.vm.classes[cA]? = some kA) (hkindA : kA.kind = .array comp (.array .long)) (hkC : T.vm.classes[comp]? = some kC) (hkindC : kC.kind = .array c2 .long) (hn : ¬ n < 0) (hn0 : ¬ n = 0) (hk : ¬ k < 0)
    (hlimN : ¬ n.toNatClampNeg > e.platform.arrayLengthLimit) (hheapN : ¬ n.toNatClampNeg * componentBytes (.array .long) > e.platform.maxHeapBytes)
    (hlimit : ¬ k.toNatClampNeg > e.platform.arrayLengthLimit) (hheap : ¬ k.toNatClampNeg * componentBytes .long > e.platform.maxHeapBytes) (hcells : cells + (1 + n.toNatClampNeg) ≤ R.cells) (hslots : slots + (n.toNatClampNeg + n.toNatClampNeg * k.toNatClampNeg) ≤ R.slots)
    {Q : Addr → Pre} (hq : ∀ d' acts', Q T.heap.size d' acts' ((mnT cA comp n.toNatClampNeg k.toNatClampNeg T n.toNatClampNeg).setTop f)) :
    wp (Op.multianewarray.make cA [n, k]) Q E e d acts (T.setTop f) := by
  obtain ⟨r1, r2⟩ := X.roomAbove (a := 1) (b := n.toNatClampNeg) (by omega) (by omega)
  have hb0 : (n == 0) = false := by simpa using hn0
  rw [Op.multianewarray.make]
  simp only [wp_bind', W.ite, hn, if_false, wp_pure', W.theClass, State.vm_setTop, hkA, Option.some.injEq, exists_eq_left', hkindA]
  refine W.newArray_of (s := T.setTop f) hkA hkindA hlimN hheapN (by show T.heap.size < _; omega) r2 rfl (fun acts' => ?_)
  simp only [hb0, Bool.false_eq_true, if_false, wp_bind', Std.Legacy.Range.forIn_eq_forIn_range', Std.Legacy.Range.size, Nat.sub_zero, Nat.add_sub_cancel, Nat.div_one, wp_pure', State.pushCell_setTop, State.heap_setTop]
  exact mn_loop (N := n.toNatClampNeg) cA comp c2 X f hkA hkindA hkC hkindC hk hlimit hheap hcells hslots hq n.toNatClampNeg 0 _ _ (by omega)
theorem mn_cold {index dims cA : Nat} {vm' : Vm} {U : State} {f : JFrame} {Q : Unit → Pre} (hs : U.topJava?.isSome) (hg : (Jvm.resolveClass f.method.cls index).Gives e.toSetting U.vm (.ok cA) vm') (hr : vm'.classReady f.method.cls index cA)
    (hsz : vm'.classes.size ≤ U.vm.classes.size := by no_record) :
    wp (Op.multianewarray.sem index dims) Q E e d acts (U.setTop f) ↔ wp (Op.multianewarray.sem index dims) Q E e d acts ((U.setVm vm').setTop f) := by
  simp only [Op.multianewarray.sem, wp_bind']
  exact W.resolveClassAt_transfer (s := U.setTop f) (State.method?_setTop f hs) hg hr
end MNM
section MNW
variable {p : Program} {l : Launch} {e : Env} {R : Room} {s : State} {m : MethodId} {args : Array Value} {below : List Frame} {meth : Method} {c : Code} {H : Heap} {locs : List Loc} {cells slots : Nat} {Q : State → Prop}
variable {cc : ByteArray} {pc : Nat} {ls : Array Slot} {rest : List Value} {D : va_G} {cl : List vw_C} {A : Nat → Prop} {ws : va_W} {H0 : Heap}
end MNW

theorem mn_cont (cA comp : ClassId) (N K : Nat) (T : State) : ∀ i : Nat, i ≤ N → (mnT cA comp N K T i).heap.size = T.heap.size + 1 + i ∧ (mnT cA comp N K T i).heap[T.heap.size]? = some (arrV cA N (fun j => if j < i then .ref (T.heap.size + 1 + j) else .null)) ∧ ∀ j : Nat, j < i → (mnT cA comp N K T i).heap[T.heap.size + 1 + j]? = some (arrV comp K (fun _ => .long 0))
  | 0, _ => by
    refine ⟨by simp [mnT], ?_, fun j h => by omega⟩
    have e1 : (fun j : Nat => if j < 0 then Value.ref (T.heap.size + 1 + j) else .null) = (fun _ => .null) := by
      funext j
      exact if_neg (by omega)
    rw [e1, ← arrV_new]
    show (T.heap.push _)[T.heap.size]? = _
    simp
  | i + 1, hi => by
    obtain ⟨hsz, hco, hrow⟩ := mn_cont cA comp N K T i (by omega)
    have e9 : mnT cA comp N K T (i + 1) = ((mnT cA comp N K T i).pushCell { cls := comp, slots := Array.replicate K (.long 0) }).setCell T.heap.size ((arrV cA N (fun j => if j < i then .ref (T.heap.size + 1 + j) else .null)).setSlot i (.ref (mnT cA comp N K T i).heap.size)) := by
      simp only [mnT, hco, Option.getD_some]
    rw [e9]
    generalize mnT cA comp N K T i = U at hsz hco hrow ⊢
    refine ⟨?_, ?_, fun j hj => ?_⟩
    · show ((U.heap.push _).setIfInBounds _ _).size = _
      rw [Array.size_setIfInBounds, Array.size_push, hsz]; omega
    · show ((U.heap.push _).setIfInBounds T.heap.size _)[T.heap.size]? = _
      rw [Array.getElem?_setIfInBounds_self_of_lt (by rw [Array.size_push]; omega), arrV_store]
      have e2 : (updV (fun j : Nat => if j < i then Value.ref (T.heap.size + 1 + j) else .null) i (.ref U.heap.size)) = (fun j : Nat => if j < i + 1 then Value.ref (T.heap.size + 1 + j) else .null) := by
        funext j
        show (if j = i then Value.ref U.heap.size else if j < i then Value.ref (T.heap.size + 1 + j) else .null) = _
        by_cases h1 : j = i
        · rw [if_pos h1, if_pos (show j < i + 1 by omega), hsz, h1]
        · rw [if_neg h1]
          by_cases h2 : j < i
          · rw [if_pos h2, if_pos (show j < i + 1 by omega)]
          · rw [if_neg h2, if_neg (show ¬ j < i + 1 by omega)]
      rw [e2]
    · show ((U.heap.push _).setIfInBounds T.heap.size _)[T.heap.size + 1 + j]? = _
      rw [Array.getElem?_setIfInBounds_ne (by omega), Array.getElem?_push]
      by_cases h1 : j = i
      · rw [if_pos (by omega), ← arrV_new]
      · rw [if_neg (by omega)]
        exact hrow j (by omega)
theorem arrV_congr {cA : ClassId} {N : Nat} {f g : Nat → Value} (h : ∀ j, j < N → f j = g j) : arrV cA N f = arrV cA N g := by
  unfold arrV
  congr 1
  apply Array.ext
  · simp
  · intro j h1 h2
    simp only [Array.getElem_ofFn]
    exact h j (by simpa using h2)
def mnB (cQ cJ : ClassId) (N K q : Nat) : va_W := (q, .inl (cQ, N, .inr (.inr (.inr (.inr (fun j => some (q + 1 + j))))))) :: (List.range N).map (fun j => (q + 1 + j, .inl (cJ, K, .inr (.inl (fun _ => 0)))))
theorem mnB_fst {cQ cJ : ClassId} {N K q : Nat} : ∀ x ∈ mnB cQ cJ N K q, q ≤ x.1 := by
  intro x hx
  rcases List.mem_cons.mp hx with h | h
  · rw [h]; exact Nat.le_refl _
  · obtain ⟨j, -, rfl⟩ := List.mem_map.mp h
    show q ≤ q + 1 + j
    omega
theorem mnB_nd {cQ cJ : ClassId} {N K q : Nat} : ((mnB cQ cJ N K q).map Prod.fst).Nodup := by
  unfold mnB
  rw [List.map_cons, List.map_map, List.nodup_cons]
  refine ⟨fun h => ?_, ?_⟩
  · obtain ⟨j, -, e⟩ := List.mem_map.mp h
    have e : q + 1 + j = q := e
    omega
  · rw [List.Nodup, List.pairwise_map]
    refine List.Pairwise.imp ?_ List.pairwise_lt_range
    intro a b h e
    have e : q + 1 + a = q + 1 + b := e
    omega
theorem ty_eq_int {D : va_G} {cl : List vw_C} {tys : List (ClassId × FieldType)} {U : State} (h : va_K D cl tys U) (i j : Nat) {c1 c2 : ClassId} (h1 : tys[i]? = some (c1, .int)) (h2 : tys[j]? = some (c2, .int)) : c1 = c2 := by
  have a : U.vm.findClass ("[" ++ FieldType.int.toString) = some c1 := (h.2 i _ h1).2
  have b : U.vm.findClass ("[" ++ FieldType.int.toString) = some c2 := (h.2 j _ h2).2
  exact Option.some.inj (a.symm.trans b)
theorem ty_eq_long {D : va_G} {cl : List vw_C} {tys : List (ClassId × FieldType)} {U : State} (h : va_K D cl tys U) (i j : Nat) {c1 c2 : ClassId} (h1 : tys[i]? = some (c1, .long)) (h2 : tys[j]? = some (c2, .long)) : c1 = c2 := by
  have a : U.vm.findClass ("[" ++ FieldType.long.toString) = some c1 := (h.2 i _ h1).2
  have b : U.vm.findClass ("[" ++ FieldType.long.toString) = some c2 := (h.2 j _ h2).2
  exact Option.some.inj (a.symm.trans b)
theorem ty_eq_byte {D : va_G} {cl : List vw_C} {tys : List (ClassId × FieldType)} {U : State} (h : va_K D cl tys U) (i j : Nat) {c1 c2 : ClassId} (h1 : tys[i]? = some (c1, .byte)) (h2 : tys[j]? = some (c2, .byte)) : c1 = c2 := by
  have a : U.vm.findClass ("[" ++ FieldType.byte.toString) = some c1 := (h.2 i _ h1).2
  have b : U.vm.findClass ("[" ++ FieldType.byte.toString) = some c2 := (h.2 j _ h2).2
  exact Option.some.inj (a.symm.trans b)
theorem ty_eq_boolean {D : va_G} {cl : List vw_C} {tys : List (ClassId × FieldType)} {U : State} (h : va_K D cl tys U) (i j : Nat) {c1 c2 : ClassId} (h1 : tys[i]? = some (c1, .boolean)) (h2 : tys[j]? = some (c2, .boolean)) : c1 = c2 := by
  have a : U.vm.findClass ("[" ++ FieldType.boolean.toString) = some c1 := (h.2 i _ h1).2
  have b : U.vm.findClass ("[" ++ FieldType.boolean.toString) = some c2 := (h.2 j _ h2).2
  exact Option.some.inj (a.symm.trans b)
theorem bk_snocP {D : va_G} {cl : List vw_C} {H : Heap} {Bs : List va_W} {x : va_W} (h : va_P D cl (Bs.flatten ++ x) H) : va_P D cl (Bs ++ [x]).flatten H := by
  rw [List.flatten_append, List.flatten_cons, List.flatten_nil, List.append_nil]
  exact h
theorem bk_snocD {A : Nat → Prop} {Bs : List va_W} {x : va_W} (h : va_D A (Bs.flatten ++ x)) : va_D A (Bs ++ [x]).flatten := by
  rw [List.flatten_append, List.flatten_cons, List.flatten_nil, List.append_nil]
  exact h
section MNW
variable {p : Program} {l : Launch} {e : Env} {R : Room} {s : State} {m : MethodId} {args : Array Value} {below : List Frame} {meth : Method} {c : Code} {H : Heap} {locs : List Loc} {cells slots : Nat} {Q : State → Prop}
variable {cc : ByteArray} {pc : Nat} {ls : Array Slot} {rest : List Value} {D : va_G} {cl : List vw_C} {A : Nat → Prop} {ws : va_W} {H0 : Heap}
theorem mn_row2 {tys : List (ClassId × FieldType)} {own : String} {index : Nat} {N K : Nat} {n k : Int32} (hexec : p.tables.exec = Jvm.exec) (hb : c.code = cc) (hown : s.vm.findClass own = some m.cls) (hclink : (Cond.classLink own index "[[J").before args s = true) (hover : va_AOA .long s) (harr : (Cond.arrayClass .long).before args s = true)
    (hn : ¬ n < 0) (hn0 : ¬ n = 0) (hk : ¬ k < 0) (hN : n.toNatClampNeg = N) (hM : k.toNatClampNeg = K) (hN2 : N ≤ 100 ∧ K ≤ 100) (hcells : cells + (1 + N) ≤ R.cells) (hslots : slots + (N + N * K) ≤ R.slots) (hdg : decode cc pc = .ok (.multianewarray index 2, 4))
    (hK : va_K D cl tys s) (t0 t1 : Nat) {cQ cJ : ClassId} (hq0 : tys[t0]? = some (cQ, .array .long)) (hq1 : tys[t1]? = some (cJ, .long)) (hA : ∀ q, H0.size ≤ q → A q) (hP : va_P D cl ws H) (hD : va_D A ws) (hS : va_S A H0 H locs)
    (kk : ∀ (q : Nat) (H1 : Heap), va_P D cl (ws ++ mnB cQ cJ N K q) H1 → va_D A (ws ++ mnB cQ cJ N K q) → va_S A H0 H1 locs → W p l e R s m args below meth c H1 locs (cells + 1 + N) (slots + N + N * K) Q (F0 m (pc + 4) ls (.ref q :: rest))) : W p l e R s m args below meth c H locs cells slots Q (F0 m pc ls (.int k :: .int n :: rest)) := by
  intro T hT X
  subst hT; subst hb; subst hN; subst hM
  have hpl : e.platform.magicAccessors = ({} : Platform).magicAccessors := by rw [X.admits.platform]
  obtain ⟨comp, cA, kA, hcomp, -, hkA, hkindA, hnameA⟩ := arrayOverA_spec hover
  obtain ⟨cC, kC, c2, hfC, hkC, hkindC⟩ := Cond.arrayClass_spec harr
  obtain ⟨cc', hfcc, hcl⟩ := Cond.classLink_spec hown hclink e.platform hpl
  have hcQ : cA = cQ := by
    have a : s.vm.findClass ("[" ++ (FieldType.array FieldType.long).toString) = some cQ := (hK.2 t0 _ hq0).2
    exact Option.some.inj (hnameA.symm.trans a)
  have hcJ : comp = cJ := by
    have a : s.vm.findClass ("[" ++ FieldType.long.toString) = some cJ := (hK.2 t1 _ hq1).2
    exact Option.some.inj (hcomp.symm.trans a)
  have e9 : "[" ++ (FieldType.array FieldType.long).toString = "[[J" := by decide
  rw [e9] at hnameA
  cases hnameA.symm.trans hfcc
  have hcc : comp = cC := Option.some.inj (hcomp.symm.trans hfC)
  subst hcc
  obtain ⟨hg₁, hwarm₁, hready₁⟩ := State.classEntry (e := e) X.warmed hcl
  generalize T.vm.noted m.cls index (.cls cA) = vm₁ at hg₁ hwarm₁ hready₁
  have hal : s.vm.Alike vm₁ := hwarm₁.alike
  obtain ⟨kA₁, hkA₁, heA⟩ := hal.2.2 _ _ hkA
  obtain ⟨kC₁, hkC₁, heC⟩ := hal.2.2 _ _ hkC
  have hkindA₁ : kA₁.kind = .array comp (.array .long) := by rw [heA]; exact hkindA
  have hkindC₁ : kC₁.kind = .array c2 .long := by rw [heC]; exact hkindC
  have X₁ := X.noted hwarm₁
  obtain ⟨⟨L, XL, hL⟩, hsz, -, hold, -⟩ := mn_facts cA comp n.toNatClampNeg k.toNatClampNeg X₁ n.toNatClampNeg
  have XF := XL.forget (fun y hy => by rw [hL y hy]; exact X.same.2.1)
  have hold' : ∀ q : Nat, q < T.heap.size → (mnT cA comp n.toNatClampNeg k.toNatClampNeg (T.setVm vm₁) n.toNatClampNeg).heap[q]? = T.heap[q]? := hold
  have hsz' : (mnT cA comp n.toNatClampNeg k.toNatClampNeg (T.setVm vm₁) n.toNatClampNeg).heap.size = T.heap.size + 1 + n.toNatClampNeg := hsz
  have hcont := mn_cont cA comp n.toNatClampNeg k.toNatClampNeg (T.setVm vm₁) n.toNatClampNeg (Nat.le_refl _)
  have hP' : va_P D cl (ws ++ mnB cQ cJ n.toNatClampNeg k.toNatClampNeg T.heap.size) (mnT cA comp n.toNatClampNeg k.toNatClampNeg (T.setVm vm₁) n.toNatClampNeg).heap := by
    refine bP_iff.mpr fun x hx => ?_
    rcases List.mem_append.mp hx with h | h
    · exact (bP_iff.mp hP x h).kept (hold' x.1 (bP_iff.mp hP x h).lt)
    · rcases List.mem_cons.mp h with h | h
      · rw [h]
        show (mnT cA comp n.toNatClampNeg k.toNatClampNeg (T.setVm vm₁) n.toNatClampNeg).heap[T.heap.size]? = some (arrV cQ n.toNatClampNeg (fun j => va_rf (some (T.heap.size + 1 + j))))
        rw [← hcQ]
        refine hcont.2.1.trans (congrArg some (arrV_congr (fun j hj => ?_)))
        exact if_pos hj
      · obtain ⟨j, hj, rfl⟩ := List.mem_map.mp h
        show (mnT cA comp n.toNatClampNeg k.toNatClampNeg (T.setVm vm₁) n.toNatClampNeg).heap[T.heap.size + 1 + j]? = some (arrV cJ k.toNatClampNeg (fun _ => .long 0))
        rw [← hcJ]
        exact hcont.2.2 j (List.mem_range.mp hj)
  have hD' : va_D A (ws ++ mnB cQ cJ n.toNatClampNeg k.toNatClampNeg T.heap.size) := by
    obtain ⟨d1, d2⟩ := bD_iff.mp hD
    refine bD_iff.mpr ⟨?_, fun x hx => ?_⟩
    · rw [List.map_append]
      refine List.nodup_append.mpr ⟨d1, mnB_nd, ?_⟩
      intro a ha b hb' e7
      obtain ⟨x, hx, rfl⟩ := List.mem_map.mp ha
      obtain ⟨y, hy, rfl⟩ := List.mem_map.mp hb'
      have h1 := (bP_iff.mp hP x hx).lt
      have h2 := mnB_fst y hy
      omega
    · rcases List.mem_append.mp hx with h | h
      · exact d2 x h
      · exact hA _ (Nat.le_trans hS.1 (mnB_fst x h))
  obtain ⟨t, a1, b1⟩ := kk T.heap.size _ hP' hD' ⟨by rw [hsz']; have := hS.1; omega, fun x h1 h2 => (hold' x (Nat.lt_of_lt_of_le h1 hS.1)).trans (hS.2.1 x h1 h2), hS.2.2⟩ _ rfl XF
  refine ⟨t, ?_, b1⟩
  have hlimN : ¬ n.toNatClampNeg > e.platform.arrayLengthLimit := by rw [Launch.admits_arrayLengthLimit X.admits]; omega
  have hlimK : ¬ k.toNatClampNeg > e.platform.arrayLengthLimit := by rw [Launch.admits_arrayLengthLimit X.admits]; omega
  have hheapN : ¬ n.toNatClampNeg * componentBytes (.array .long) > e.platform.maxHeapBytes := by
    rw [Launch.admits_maxHeapBytes X.admits]; show ¬ n.toNatClampNeg * 4 > 536870912; omega
  have hheapK : ¬ k.toNatClampNeg * componentBytes .long > e.platform.maxHeapBytes := by
    rw [Launch.admits_maxHeapBytes X.admits]; show ¬ k.toNatClampNeg * 8 > 536870912; omega
  jvm_step X.here [hexec, hdg]
  rw [mn_cold (U := T) (f := F0 m pc ls (.int k :: .int n :: rest)) X.here.top hg₁ hready₁]
  simp only [Op.multianewarray.sem, wp_bind', W.resolveClassAt_ready (s := (T.setVm vm₁).setTop (F0 m pc ls (.int k :: .int n :: rest))) (State.method?_setTop (F0 m pc ls (.int k :: .int n :: rest)) (show (T.setVm vm₁).topJava?.isSome from X.here.top)) hready₁]
  rw [show (2 : Nat) = ([Value.int n, Value.int k] : List Value).length from rfl, popN_top (s := T.setVm vm₁) X.here.top (rest := rest) rfl]
  simp only [List.mapM_cons, List.mapM_nil, wp_bind', wp_pure']
  refine mn_make cA comp c2 X₁ _ hkA₁ hkindA₁ hkC₁ hkindC₁ hn hn0 hk hlimN hheapN hlimK hheapK hcells hslots (fun d' acts' => ?_)
  have hs2 : (mnT cA comp n.toNatClampNeg k.toNatClampNeg (T.setVm vm₁) n.toNatClampNeg).topJava?.isSome := XF.here.top
  simp only [wp_bind', W.mark, W.pushRef, State.topJava?_setTop' _ hs2, Option.some.injEq, exists_eq_left', State.setTop_setTop]
  intro acts9
  simp only [afterInstr, State.modifyTopJava_setTop]
  exact a1
end MNW
theorem df_Y11 : ∀ j, j < 69 → defaultValue (tyX11 j) = vp_V (.null :: .null :: .int 0 :: .int 0 :: .int 0 :: .int 0 :: .int 0 :: .int 0 :: .int 0 :: .int 0 :: .long 0 :: .null :: .null :: .null :: .null :: .null :: .null :: .null :: .null :: .null :: .null :: .null :: .null :: .int 0 :: .int 0 :: .null :: .int 0 :: .null :: .null :: .null :: .null :: .null :: .null :: .null :: .null :: .null :: .int 0 :: .int 0 :: .int 0 :: .long 0 :: .long 0 :: .null :: .null :: .int 0 :: .long 0 :: .long 0 :: .null :: .int 0 :: .int 0 :: .null :: .null :: .null :: .null :: .null :: .null :: .null :: .null :: .null :: .null :: .null :: .int 0 :: .int 0 :: .null :: .null :: .null :: .int 0 :: .null :: .null :: .null :: []) j := by
  intro j hj
  match j, hj with
  | 0, _ => rfl
  | 1, _ => rfl
  | 2, _ => rfl
  | 3, _ => rfl
  | 4, _ => rfl
  | 5, _ => rfl
  | 6, _ => rfl
  | 7, _ => rfl
  | 8, _ => rfl
  | 9, _ => rfl
  | 10, _ => rfl
  | 11, _ => rfl
  | 12, _ => rfl
  | 13, _ => rfl
  | 14, _ => rfl
  | 15, _ => rfl
  | 16, _ => rfl
  | 17, _ => rfl
  | 18, _ => rfl
  | 19, _ => rfl
  | 20, _ => rfl
  | 21, _ => rfl
  | 22, _ => rfl
  | 23, _ => rfl
  | 24, _ => rfl
  | 25, _ => rfl
  | 26, _ => rfl
  | 27, _ => rfl
  | 28, _ => rfl
  | 29, _ => rfl
  | 30, _ => rfl
  | 31, _ => rfl
  | 32, _ => rfl
  | 33, _ => rfl
  | 34, _ => rfl
  | 35, _ => rfl
  | 36, _ => rfl
  | 37, _ => rfl
  | 38, _ => rfl
  | 39, _ => rfl
  | 40, _ => rfl
  | 41, _ => rfl
  | 42, _ => rfl
  | 43, _ => rfl
  | 44, _ => rfl
  | 45, _ => rfl
  | 46, _ => rfl
  | 47, _ => rfl
  | 48, _ => rfl
  | 49, _ => rfl
  | 50, _ => rfl
  | 51, _ => rfl
  | 52, _ => rfl
  | 53, _ => rfl
  | 54, _ => rfl
  | 55, _ => rfl
  | 56, _ => rfl
  | 57, _ => rfl
  | 58, _ => rfl
  | 59, _ => rfl
  | 60, _ => rfl
  | 61, _ => rfl
  | 62, _ => rfl
  | 63, _ => rfl
  | 64, _ => rfl
  | 65, _ => rfl
  | 66, _ => rfl
  | 67, _ => rfl
  | 68, _ => rfl
  | j + 69, h => exact absurd h (by omega)
theorem HC_z : HC (fun _ => 0) (fun _ => 0) := fun b f _ h => by
  have h : (f : Int) < (0 : Int32).toInt := h
  rw [show (0 : Int32).toInt = 0 by decide] at h
  omega
theorem HR_z : HR (fun _ => 0) (fun _ => 0) (fun _ => 0) := fun b d r _ h => by
  have h : (d : Int) < (0 : Int32).toInt := h
  rw [show (0 : Int32).toInt = 0 by decide] at h
  omega
theorem HF_z {b : Int32} : HF b (fun _ => 0) (fun _ => 0) (fun _ => 0) (fun _ => 0) := fun d r h => by
  have h : (d : Int) < (0 : Int32).toInt := h
  rw [show (0 : Int32).toInt = 0 by decide] at h
  omega
theorem bP_swap {D : va_G} {cl : List vw_C} {H : Heap} {ws : va_W} {a N : Nat} {c : ClassId} {f g : Nat → Option Nat} (i : Nat) (h : va_P D cl ws H) (hi : ws[i]? = some (a, .inl (c, N, .inr (.inr (.inr (.inr f)))))) (hg : ∀ j, j < N → f j = g j) : va_P D cl (ws.set i (a, .inl (c, N, .inr (.inr (.inr (.inr g)))))) H := by
  intro k x hx
  by_cases e : i = k
  · subst e
    have hl : i < ws.length := (List.getElem?_eq_some_iff.mp hi).1
    rw [List.getElem?_set_self hl] at hx
    cases hx
    have h1 : H[a]? = some (arrV c N (fun j => va_rf (f j))) := h i _ hi
    show H[a]? = some (arrV c N (fun j => va_rf (g j)))
    rw [h1]
    exact congrArg some (arrV_congr (fun j hj => by rw [hg j hj]))
  · rw [List.getElem?_set_ne e] at hx
    exact h k x hx
theorem bD_swap {A : Nat → Prop} {ws : va_W} {a N : Nat} {c : ClassId} {f g : Nat → Option Nat} (i : Nat) (h : va_D A ws) (hi : ws[i]? = some (a, .inl (c, N, .inr (.inr (.inr (.inr f)))))) : va_D A (ws.set i (a, .inl (c, N, .inr (.inr (.inr (.inr g)))))) := by
  have hf : ∀ (k : Nat) (x : Nat × va_E), (ws.set i (a, .inl (c, N, .inr (.inr (.inr (.inr g))))))[k]? = some x → ∃ y, ws[k]? = some y ∧ y.1 = x.1 := by
    intro k x hx
    by_cases e : i = k
    · subst e
      have hl : i < ws.length := (List.getElem?_eq_some_iff.mp hi).1
      rw [List.getElem?_set_self hl] at hx
      cases hx
      exact ⟨_, hi, rfl⟩
    · rw [List.getElem?_set_ne e] at hx
      exact ⟨x, hx, rfl⟩
  refine ⟨fun k j p q hk hj e => ?_, fun k q hk => ?_⟩
  · obtain ⟨y, h1, h2⟩ := hf k p hk
    obtain ⟨z, h3, h4⟩ := hf j q hj
    exact h.1 k j y z h1 h3 (by rw [h2, h4, e])
  · obtain ⟨y, h1, h2⟩ := hf k q hk
    rw [← h2]
    exact h.2 k y h1
theorem df_X0 : ∀ j, j < 9 → defaultValue (tyX0 j) = vp_V [.null, .null, .null, .int 0, .null, .int 0, .null, .long 0, .long 0] j := by
  intro j hj
  match j, hj with
  | 0, _ => rfl
  | 1, _ => rfl
  | 2, _ => rfl
  | 3, _ => rfl
  | 4, _ => rfl
  | 5, _ => rfl
  | 6, _ => rfl
  | 7, _ => rfl
  | 8, _ => rfl
  | j + 9, h => exact absurd h (by omega)
theorem df_X1 : ∀ j, j < 3 → defaultValue (tyX1 j) = vp_V [.int 0, .int 0, .null] j := by
  intro j hj
  match j, hj with
  | 0, _ => rfl
  | 1, _ => rfl
  | 2, _ => rfl
  | j + 3, h => exact absurd h (by omega)
theorem df_X3 : ∀ j, j < 16 → defaultValue (tyX3 j) = vp_V [.null, .int 0, .int 0, .int 0, .null, .null, .int 0, .null, .null, .null, .null, .null, .long 0, .int 0, .null, .null] j := by
  intro j hj
  match j, hj with
  | 0, _ => rfl
  | 1, _ => rfl
  | 2, _ => rfl
  | 3, _ => rfl
  | 4, _ => rfl
  | 5, _ => rfl
  | 6, _ => rfl
  | 7, _ => rfl
  | 8, _ => rfl
  | 9, _ => rfl
  | 10, _ => rfl
  | 11, _ => rfl
  | 12, _ => rfl
  | 13, _ => rfl
  | 14, _ => rfl
  | 15, _ => rfl
  | j + 16, h => exact absurd h (by omega)
theorem df_X4 : ∀ j, j < 4 → defaultValue (tyX4 j) = vp_V [.null, .null, .int 0, .int 0] j := by
  intro j hj
  match j, hj with
  | 0, _ => rfl
  | 1, _ => rfl
  | 2, _ => rfl
  | 3, _ => rfl
  | j + 4, h => exact absurd h (by omega)
theorem df_X6 : ∀ j, j < 12 → defaultValue (tyX6 j) = vp_V [.int 0, .null, .null, .null, .null, .null, .null, .null, .int 0, .null, .null, .null] j := by
  intro j hj
  match j, hj with
  | 0, _ => rfl
  | 1, _ => rfl
  | 2, _ => rfl
  | 3, _ => rfl
  | 4, _ => rfl
  | 5, _ => rfl
  | 6, _ => rfl
  | 7, _ => rfl
  | 8, _ => rfl
  | 9, _ => rfl
  | 10, _ => rfl
  | 11, _ => rfl
  | j + 12, h => exact absurd h (by omega)
theorem df_X7 : ∀ j, j < 12 → defaultValue (tyX7 j) = vp_V [.int 0, .null, .null, .null, .null, .int 0, .null, .null, .null, .null, .null, .null] j := by
  intro j hj
  match j, hj with
  | 0, _ => rfl
  | 1, _ => rfl
  | 2, _ => rfl
  | 3, _ => rfl
  | 4, _ => rfl
  | 5, _ => rfl
  | 6, _ => rfl
  | 7, _ => rfl
  | 8, _ => rfl
  | 9, _ => rfl
  | 10, _ => rfl
  | 11, _ => rfl
  | j + 12, h => exact absurd h (by omega)
theorem df_X8 : ∀ j, j < 4 → defaultValue (tyX8 j) = vp_V [.int 0, .null, .null, .null] j := by
  intro j hj
  match j, hj with
  | 0, _ => rfl
  | 1, _ => rfl
  | 2, _ => rfl
  | 3, _ => rfl
  | j + 4, h => exact absurd h (by omega)
theorem df_X9 : ∀ j, j < 7 → defaultValue (tyX9 j) = vp_V [.null, .int 0, .int 0, .null, .int 0, .long 0, .int 0] j := by
  intro j hj
  match j, hj with
  | 0, _ => rfl
  | 1, _ => rfl
  | 2, _ => rfl
  | 3, _ => rfl
  | 4, _ => rfl
  | 5, _ => rfl
  | 6, _ => rfl
  | j + 7, h => exact absurd h (by omega)
theorem df_X10 : ∀ j, j < 14 → defaultValue (tyX10 j) = vp_V [.null, .int 0, .null, .null, .null, .null, .int 0, .null, .null, .null, .null, .null, .null, .int 0] j := by
  intro j hj
  match j, hj with
  | 0, _ => rfl
  | 1, _ => rfl
  | 2, _ => rfl
  | 3, _ => rfl
  | 4, _ => rfl
  | 5, _ => rfl
  | 6, _ => rfl
  | 7, _ => rfl
  | 8, _ => rfl
  | 9, _ => rfl
  | 10, _ => rfl
  | 11, _ => rfl
  | 12, _ => rfl
  | 13, _ => rfl
  | j + 14, h => exact absurd h (by omega)
