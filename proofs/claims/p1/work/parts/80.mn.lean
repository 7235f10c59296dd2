section MNR
variable {E : CtlPost} {e : Env} {d : Bool} {acts : List Action}
/-- one row of longs -/
theorem mn_inner {U : State} {comp c2 : ClassId} {kC : Class} {k : Int32} {Q : Addr → Pre} (hk : U.vm.classes[comp]? = some kC) (hkind : kC.kind = .array c2 .long) (hn : ¬ k < 0)
    (hlimit : ¬ k.toNatClampNeg > e.platform.arrayLengthLimit) (hheap : ¬ k.toNatClampNeg * componentBytes .long > e.platform.maxHeapBytes) (hcells : U.heap.size < e.platform.maxCells) (hslots : U.slotsUsed + k.toNatClampNeg ≤ e.platform.maxSlots)
    (hq : ∀ acts', Q U.heap.size d acts' (U.pushCell { cls := comp, slots := Array.replicate k.toNatClampNeg (.long 0) })) : wp (Op.multianewarray.make comp [k]) Q E e d acts U := by
  simp only [Op.multianewarray.make, wp_bind', W.ite, hn, if_false, wp_pure', W.theClass, hk, Option.some.injEq, exists_eq_left', hkind]
  exact W.newArray_of hk hkind hlimit hheap hcells hslots rfl hq
/-- the states of 'new long[N][K]': the outer array, then a row after the other -/
def mnT (cA comp : ClassId) (N K : Nat) (T : State) : Nat → State
  | 0 => T.pushCell { cls := cA, slots := Array.replicate N .null }
  | i + 1 => ((mnT cA comp N K T i).pushCell { cls := comp, slots := Array.replicate K (.long 0) }).setCell T.heap.size ((((mnT cA comp N K T i).heap[T.heap.size]?).getD { cls := cA, slots := #[] }).setSlot i (.ref (mnT cA comp N K T i).heap.size))
end MNR
section MNF
variable {p : Program} {l : Launch} {e : Env} {R : Room} {s : State} {m : MethodId} {args : Array Value} {below : List Frame} {meth : Method} {c : Code} {locs : List Loc} {cells slots : Nat} {T : State}
theorem mn_facts (cA comp : ClassId) (N K : Nat) (X : Stand p l e R s m args below meth c T locs cells slots) : ∀ i : Nat, (∃ L : List Loc, Stand p l e R s m args below meth c (mnT cA comp N K T i) (locs ++ L) (cells + 1 + i) (slots + N + i * K) ∧ ∀ q ∈ L, q.base = T.heap.size) ∧ (mnT cA comp N K T i).heap.size = T.heap.size + 1 + i ∧ (∃ co : Cell, (mnT cA comp N K T i).heap[T.heap.size]? = some co ∧ co.cls = cA ∧ co.vm = .none ∧ co.slots.size = N) ∧ (∀ q : Nat, q < T.heap.size → (mnT cA comp N K T i).heap[q]? = T.heap[q]?) ∧ (mnT cA comp N K T i).vm = T.vm
  | 0 => by
    refine ⟨⟨[], ?_, by simp⟩, ?_, ⟨{ cls := cA, slots := Array.replicate N .null }, ?_, rfl, rfl, by simp⟩, fun q hq => ?_, rfl⟩
    · have h := X.pushed { cls := cA, slots := Array.replicate N .null }
      simpa [mnT] using h
    · simp [mnT]
    · simp [mnT]
    · show (T.heap.push _)[q]? = _
      rw [Array.getElem?_push, if_neg (Nat.ne_of_lt hq)]
  | i + 1 => by
    obtain ⟨⟨L, XL, hL⟩, hsz, ⟨co, hco, h1, h2, h3⟩, hold, hvm⟩ := mn_facts cA comp N K X i
    have e9 : mnT cA comp N K T (i + 1) = ((mnT cA comp N K T i).pushCell { cls := comp, slots := Array.replicate K (.long 0) }).setCell T.heap.size (co.setSlot i (.ref (mnT cA comp N K T i).heap.size)) := by
      simp only [mnT, hco, Option.getD_some]
    rw [e9]
    generalize mnT cA comp N K T i = U at XL hsz hco hold hvm ⊢
    have XP := XL.pushed { cls := comp, slots := Array.replicate K (.long 0) }
    have hco2 : (U.pushCell { cls := comp, slots := Array.replicate K (.long 0) }).heap[T.heap.size]? = some co := by
      show (U.heap.push _)[T.heap.size]? = _
      rw [Array.getElem?_push, if_neg (by omega)]
      exact hco
    have XS := XP.stored hco2 i (.ref U.heap.size)
    refine ⟨⟨L ++ [⟨T.heap.size, i⟩], ?_, ?_⟩, ?_, ⟨co.setSlot i (.ref U.heap.size), ?_, h1, h2, ?_⟩, fun q hq => ?_, hvm⟩
    · rw [← List.append_assoc]
      have e1 : cells + 1 + i + 1 = cells + 1 + (i + 1) := by omega
      have e2 : slots + N + i * K + (Array.replicate K (Value.long 0)).size = slots + N + (i + 1) * K := by
        rw [Array.size_replicate, Nat.add_mul]; omega
      rw [← e1, ← e2]
      exact XS
    · intro q hq
      rcases List.mem_append.mp hq with h | h
      · exact hL q h
      · rw [List.mem_singleton.mp h]
    · show ((U.heap.push _).setIfInBounds _ _).size = _
      rw [Array.size_setIfInBounds, Array.size_push, hsz]; omega
    · show ((U.heap.push _).setIfInBounds T.heap.size _)[T.heap.size]? = _
      rw [Array.getElem?_setIfInBounds_self_of_lt (by rw [Array.size_push]; omega)]
    · simp [Cell.setSlot, h3]
    · show ((U.heap.push _).setIfInBounds T.heap.size _)[q]? = _
      rw [Array.getElem?_setIfInBounds_ne (by omega), Array.getElem?_push, if_neg (by omega)]
      exact hold q hq
variable {E : CtlPost} {d : Bool} {acts : List Action}
theorem mn_loop (cA comp c2 : ClassId) {kA kC : Class} {N : Nat} {k : Int32} (X : Stand p l e R s m args below meth c T locs cells slots) (f : JFrame)
    (hkA : T.vm.classes[cA]? = some kA) (hkindA : kA.kind = .array comp (.array .long)) (hkC : T.vm.classes[comp]? = some kC) (hkindC : kC.kind = .array c2 .long) (hk : ¬ k < 0)
    (hlimit : ¬ k.toNatClampNeg > e.platform.arrayLengthLimit) (hheap : ¬ k.toNatClampNeg * componentBytes .long > e.platform.maxHeapBytes) (hcells : cells + (1 + N) ≤ R.cells) (hslots : slots + (N + N * k.toNatClampNeg) ≤ R.slots)
    {Q : PUnit → Pre} (hq : ∀ d' acts', Q PUnit.unit d' acts' ((mnT cA comp N k.toNatClampNeg T N).setTop f)) :
    ∀ (j i : Nat) (d : Bool) (acts : List Action), i + j = N → wp (forIn (List.range' i j) PUnit.unit (fun i (_ : PUnit) => do
        let r ← Op.multianewarray.make comp [k]
        writeLoc T.heap.size i (.ref r)
        Pure.pure (ForInStep.yield PUnit.unit))) Q E e d acts ((mnT cA comp N k.toNatClampNeg T i).setTop f) := by
  intro j
  induction j with
  | zero =>
    intro i d acts hi
    have : i = N := by omega
    subst this
    simp only [List.range'_zero, List.forIn_nil, wp_pure']
    exact hq _ _
  | succ j ih =>
    intro i d acts hi
    obtain ⟨⟨L, XL, -⟩, hsz, ⟨co, hco, h1, h2, h3⟩, hold, hvm⟩ := mn_facts cA comp N k.toNatClampNeg X i
    have hmul : i * k.toNatClampNeg + k.toNatClampNeg ≤ N * k.toNatClampNeg := by
      have : (i + 1) * k.toNatClampNeg ≤ N * k.toNatClampNeg := Nat.mul_le_mul_right _ (by omega)
      rw [Nat.add_mul] at this; omega
    obtain ⟨r1, r2⟩ := XL.roomAbove (a := 1) (b := k.toNatClampNeg) (by omega) (by omega)
    simp only [List.range'_succ, List.forIn_cons, wp_bind']
    refine mn_inner (U := (mnT cA comp N k.toNatClampNeg T i).setTop f) (by show (mnT cA comp N k.toNatClampNeg T i).vm.classes[comp]? = _; rw [hvm]; exact hkC) hkindC hk hlimit hheap (by show (mnT cA comp N k.toNatClampNeg T i).heap.size < _; omega) r2 (fun acts' => ?_)
    simp only [wp_bind', W.writeLoc, wp_pure', State.pushCell_setTop, State.heap_setTop, State.setCell_setTop]
    refine ⟨co, ?_, by rw [h2]; decide, by show i < co.slots.size; omega, ?_, ?_⟩
    · show ((mnT cA comp N k.toNatClampNeg T i).heap.push _)[T.heap.size]? = _
      rw [Array.getElem?_push, if_neg (by omega)]
      exact hco
    · have hv : ((mnT cA comp N k.toNatClampNeg T i).pushCell { cls := comp, slots := Array.replicate k.toNatClampNeg (.long 0) }).vm.classes[cA]? = some kA := by
        show (mnT cA comp N k.toNatClampNeg T i).vm.classes[cA]? = _
        rw [hvm]; exact hkA
      rw [h1, h2]
      simp only [State.fitsSlot, State.slotType?, State.vm_setTop, hv, Option.bind_eq_bind, Option.bind_some, hkindA]
      rfl
    · have e9 : mnT cA comp N k.toNatClampNeg T (i + 1) = ((mnT cA comp N k.toNatClampNeg T i).pushCell { cls := comp, slots := Array.replicate k.toNatClampNeg (.long 0) }).setCell T.heap.size (co.setSlot i (.ref (mnT cA comp N k.toNatClampNeg T i).heap.size)) := by
        simp only [mnT, hco, Option.getD_some]
      have h := fun a9 => ih (i + 1) true a9 (by omega)
      rw [e9] at h
      exact h _
end MNF
section MNM
variable {p : Program} {l : Launch} {e : Env} {R : Room} {s : State} {m : MethodId} {args : Array Value} {below : List Frame} {meth : Method} {c : Code} {locs : List Loc} {cells slots : Nat} {T : State}
variable {E : CtlPost} {d : Bool} {acts : List Action}
theorem mn_make (cA comp c2 : ClassId) {kA kC : Class} {n k : Int32} (X : Stand p l e R s m args below meth c T locs cells slots) (f : JFrame)
    (hkA : T.vm.classes[cA]? = some kA) (hkindA : kA.kind = .array comp (.array .long)) (hkC : T.vm.classes[comp]? = some kC) (hkindC : kC.kind = .array c2 .long) (hn : ¬ n < 0) (hn0 : ¬ n = 0) (hk : ¬ k < 0)
    (hlimN : ¬ n.toNatClampNeg > e.platform.arrayLengthLimit) (hheapN : ¬ n.toNatClampNeg * componentBytes (.array .long) > e.platform.maxHeapBytes)
    (hlimit : ¬ k.toNatClampNeg > e.platform.arrayLengthLimit) (hheap : ¬ k.toNatClampNeg * componentBytes .long > e.platform.maxHeapBytes) (hcells : cells + (1 + n.toNatClampNeg) ≤ R.cells) (hslots : slots + (n.toNatClampNeg + n.toNatClampNeg * k.toNatClampNeg) ≤ R.slots)
    {Q : Addr → Pre} (hq : ∀ d' acts', Q T.heap.size d' acts' ((mnT cA comp n.toNatClampNeg k.toNatClampNeg T n.toNatClampNeg).setTop f)) :
    wp (Op.multianewarray.make cA [n, k]) Q E e d acts (T.setTop f) := by
  obtain ⟨r1, r2⟩ := X.roomAbove (a := 1) (b := n.toNatClampNeg) (by omega) (by omega)
  have hb0 : (n == 0) = false := by simpa using hn0
  rw [Op.multianewarray.make]
  simp only [wp_bind', W.ite, hn, if_false, wp_pure', W.theClass, State.vm_setTop, hkA, Option.some.injEq, exists_eq_left', hkindA]
  refine W.newArray_of (s := T.setTop f) hkA hkindA hlimN hheapN (by show T.heap.size < _; omega) r2 rfl (fun acts' => ?_)
  simp only [hb0, Bool.false_eq_true, if_false, wp_bind', Std.Legacy.Range.forIn_eq_forIn_range', Std.Legacy.Range.size, Nat.sub_zero, Nat.add_sub_cancel, Nat.div_one, wp_pure', State.pushCell_setTop, State.heap_setTop]
  exact mn_loop (N := n.toNatClampNeg) cA comp c2 X f hkA hkindA hkC hkindC hk hlimit hheap hcells hslots hq n.toNatClampNeg 0 _ _ (by omega)
theorem mn_cold {index dims cA : Nat} {vm' : Vm} {U : State} {f : JFrame} {Q : Unit → Pre} (hs : U.topJava?.isSome) (hg : (Jvm.resolveClass f.method.cls index).Gives e.toSetting U.vm (.ok cA) vm') (hr : vm'.classReady f.method.cls index cA)
    (hsz : vm'.classes.size ≤ U.vm.classes.size := by no_record) :
    wp (Op.multianewarray.sem index dims) Q E e d acts (U.setTop f) ↔ wp (Op.multianewarray.sem index dims) Q E e d acts ((U.setVm vm').setTop f) := by
  simp only [Op.multianewarray.sem, wp_bind']
  exact W.resolveClassAt_transfer (s := U.setTop f) (State.method?_setTop f hs) hg hr
end MNM
section MNW
variable {p : Program} {l : Launch} {e : Env} {R : Room} {s : State} {m : MethodId} {args : Array Value} {below : List Frame} {meth : Method} {c : Code} {H : Heap} {locs : List Loc} {cells slots : Nat} {Q : State → Prop}
variable {cc : ByteArray} {pc : Nat} {ls : Array Slot} {rest : List Value} {D : va_G} {cl : List vw_C} {A : Nat → Prop} {ws : va_W} {H0 : Heap}
theorem mn_row {own : String} {index : Nat} {N K : Nat} {n k : Int32} (hexec : p.tables.exec = Jvm.exec) (hb : c.code = cc) (hown : s.vm.findClass own = some m.cls) (hclink : (Cond.classLink own index "[[J").before args s = true) (hover : va_AOA .long s) (harr : (Cond.arrayClass .long).before args s = true)
    (hn : ¬ n < 0) (hn0 : ¬ n = 0) (hk : ¬ k < 0) (hN : n.toNatClampNeg = N) (hM : k.toNatClampNeg = K) (hN2 : N ≤ 100 ∧ K ≤ 100) (hcells : cells + (1 + N) ≤ R.cells) (hslots : slots + (N + N * K) ≤ R.slots) (hdg : decode cc pc = .ok (.multianewarray index 2, 4))
    (hP : va_P D cl ws H) (hD : va_D A ws) (hS : va_S A H0 H locs)
    (kk : ∀ (q : Nat) (H1 : Heap), va_P D cl ws H1 → va_D A ws → va_S A H0 H1 locs → W p l e R s m args below meth c H1 locs (cells + 1 + N) (slots + N + N * K) Q (F0 m (pc + 4) ls (.ref q :: rest))) : W p l e R s m args below meth c H locs cells slots Q (F0 m pc ls (.int k :: .int n :: rest)) := by
  intro T hT X
  subst hT; subst hb; subst hN; subst hM
  have hpl : e.platform.magicAccessors = ({} : Platform).magicAccessors := by rw [X.admits.platform]
  obtain ⟨comp, cA, kA, hcomp, -, hkA, hkindA, hnameA⟩ := arrayOverA_spec hover
  obtain ⟨cC, kC, c2, hfC, hkC, hkindC⟩ := Cond.arrayClass_spec harr
  obtain ⟨cc', hfcc, hcl⟩ := Cond.classLink_spec hown hclink e.platform hpl
  have e9 : "[" ++ (FieldType.array FieldType.long).toString = "[[J" := by decide
  rw [e9] at hnameA
  cases hnameA.symm.trans hfcc
  have hcc : comp = cC := Option.some.inj (hcomp.symm.trans hfC)
  subst hcc
  obtain ⟨hg₁, hwarm₁, hready₁⟩ := State.classEntry (e := e) X.warmed hcl
  generalize T.vm.noted m.cls index (.cls cA) = vm₁ at hg₁ hwarm₁ hready₁
  have hal : s.vm.Alike vm₁ := hwarm₁.alike
  obtain ⟨kA₁, hkA₁, heA⟩ := hal.2.2 _ _ hkA
  obtain ⟨kC₁, hkC₁, heC⟩ := hal.2.2 _ _ hkC
  have hkindA₁ : kA₁.kind = .array comp (.array .long) := by rw [heA]; exact hkindA
  have hkindC₁ : kC₁.kind = .array c2 .long := by rw [heC]; exact hkindC
  have X₁ := X.noted hwarm₁
  obtain ⟨⟨L, XL, hL⟩, hsz, -, hold, -⟩ := mn_facts cA comp n.toNatClampNeg k.toNatClampNeg X₁ n.toNatClampNeg
  have XF := XL.forget (fun y hy => by rw [hL y hy]; exact X.same.2.1)
  have hold' : ∀ q : Nat, q < T.heap.size → (mnT cA comp n.toNatClampNeg k.toNatClampNeg (T.setVm vm₁) n.toNatClampNeg).heap[q]? = T.heap[q]? := hold
  have hsz' : (mnT cA comp n.toNatClampNeg k.toNatClampNeg (T.setVm vm₁) n.toNatClampNeg).heap.size = T.heap.size + 1 + n.toNatClampNeg := hsz
  obtain ⟨t, a1, b1⟩ := kk T.heap.size _ (hP.kept (fun k9 x hx => hold' x.1 ((hP k9 x hx).lt))) hD ⟨by rw [hsz']; have := hS.1; omega, fun x h1 h2 => (hold' x (Nat.lt_of_lt_of_le h1 hS.1)).trans (hS.2.1 x h1 h2), hS.2.2⟩ _ rfl XF
  refine ⟨t, ?_, b1⟩
  have hlimN : ¬ n.toNatClampNeg > e.platform.arrayLengthLimit := by rw [Launch.admits_arrayLengthLimit X.admits]; omega
  have hlimK : ¬ k.toNatClampNeg > e.platform.arrayLengthLimit := by rw [Launch.admits_arrayLengthLimit X.admits]; omega
  have hheapN : ¬ n.toNatClampNeg * componentBytes (.array .long) > e.platform.maxHeapBytes := by
    rw [Launch.admits_maxHeapBytes X.admits]; show ¬ n.toNatClampNeg * 4 > 536870912; omega
  have hheapK : ¬ k.toNatClampNeg * componentBytes .long > e.platform.maxHeapBytes := by
    rw [Launch.admits_maxHeapBytes X.admits]; show ¬ k.toNatClampNeg * 8 > 536870912; omega
  jvm_step X.here [hexec, hdg]
  rw [mn_cold (U := T) (f := F0 m pc ls (.int k :: .int n :: rest)) X.here.top hg₁ hready₁]
  simp only [Op.multianewarray.sem, wp_bind', W.resolveClassAt_ready (s := (T.setVm vm₁).setTop (F0 m pc ls (.int k :: .int n :: rest))) (State.method?_setTop (F0 m pc ls (.int k :: .int n :: rest)) (show (T.setVm vm₁).topJava?.isSome from X.here.top)) hready₁]
  rw [show (2 : Nat) = ([Value.int n, Value.int k] : List Value).length from rfl, popN_top (s := T.setVm vm₁) X.here.top (rest := rest) rfl]
  simp only [List.mapM_cons, List.mapM_nil, wp_bind', wp_pure']
  refine mn_make cA comp c2 X₁ _ hkA₁ hkindA₁ hkC₁ hkindC₁ hn hn0 hk hlimN hheapN hlimK hheapK hcells hslots (fun d' acts' => ?_)
  have hs2 : (mnT cA comp n.toNatClampNeg k.toNatClampNeg (T.setVm vm₁) n.toNatClampNeg).topJava?.isSome := XF.here.top
  simp only [wp_bind', W.mark, W.pushRef, State.topJava?_setTop' _ hs2, Option.some.injEq, exists_eq_left', State.setTop_setTop]
  intro acts9
  simp only [afterInstr, State.modifyTopJava_setTop]
  exact a1
end MNW
