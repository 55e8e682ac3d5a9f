/-! A ROW OF ROWS: multianewarray of ten rows of ten ints, over the machine's own words (nothing of the library's last shelf) -/
section ZMA
variable {E : CtlPost} {e : Env} {S : State} {cA cI cc : ClassId} {kA kI : Class}
/-- a row of ten ints, as made -/
def mrI (cI : ClassId) : Cell := arrV cI 10 (fun _ => .int 0)
/-- the row of rows with i of its ten rows laid -/
def mrO (cA : ClassId) (h0 i : Nat) : Cell := arrV cA 10 (fun j => if j < i then .ref (h0 + 1 + j) else .null)
/-- where the machine stands when i rows are laid -/
def mrS (S : State) (cA cI : ClassId) : Nat → State
  | 0 => S.pushCell (mrO cA S.heap.size 0)
  | i + 1 => ((mrS S cA cI i).pushCell (mrI cI)).setCell S.heap.size (mrO cA S.heap.size (i + 1))
theorem mrO_next (cA : ClassId) (h0 i : Nat) : (mrO cA h0 i).setSlot i (.ref (h0 + 1 + i)) = mrO cA h0 (i + 1) := by
  unfold mrO
  rw [arrV_store]
  refine congrArg (arrV cA 10) (funext fun j => ?_)
  unfold updV
  rcases Nat.lt_trichotomy j i with q | q | q
  · rw [if_neg (by omega), if_pos (show j < i + 1 by omega)]
    exact if_pos q
  · subst q
    rw [if_pos rfl, if_pos (by omega)]
  · rw [if_neg (by omega), if_neg (show ¬ j < i + 1 by omega)]
    exact if_neg (by omega)
theorem mrS_size (S : State) (cA cI : ClassId) : ∀ i, (mrS S cA cI i).heap.size = S.heap.size + 1 + i
  | 0 => Array.size_push ..
  | i + 1 => by
    show (((mrS S cA cI i).heap.push (mrI cI)).setIfInBounds S.heap.size _).size = _
    rw [Array.size_setIfInBounds, Array.size_push, mrS_size S cA cI i]
    omega
theorem mrS_slots (S : State) (cA cI : ClassId) : ∀ i, (mrS S cA cI i).slotsUsed = S.slotsUsed + 10 + 10 * i
  | 0 => by
    show S.slotsUsed + (mrO cA S.heap.size 0).slots.size = _
    unfold mrO
    rw [arrV_size]
  | i + 1 => by
    show (mrS S cA cI i).slotsUsed + (mrI cI).slots.size = _
    unfold mrI
    rw [mrS_slots S cA cI i, arrV_size]
    omega
theorem mrS_vm (S : State) (cA cI : ClassId) : ∀ i, (mrS S cA cI i).vm = S.vm
  | 0 => rfl
  | i + 1 => mrS_vm S cA cI i
theorem mrS_top (S : State) (f : JFrame) (cA cI : ClassId) : ∀ i, mrS (S.setTop f) cA cI i = (mrS S cA cI i).setTop f
  | 0 => rfl
  | i + 1 => by
    show ((mrS (S.setTop f) cA cI i).pushCell (mrI cI)).setCell S.heap.size (mrO cA S.heap.size (i + 1)) = _
    rw [mrS_top S f cA cI i]
    rfl
theorem mrS_new (S : State) (cA cI : ClassId) (i : Nat) : ((mrS S cA cI i).pushCell (mrI cI)).heap[S.heap.size]? = (mrS S cA cI i).heap[S.heap.size]? := by
  show ((mrS S cA cI i).heap.push (mrI cI))[S.heap.size]? = _
  rw [Array.getElem?_push, if_neg (by rw [mrS_size]; omega)]
theorem mrS_at (S : State) (cA cI : ClassId) : ∀ i, (mrS S cA cI i).heap[S.heap.size]? = some (mrO cA S.heap.size i)
  | 0 => by
    show (S.heap.push (mrO cA S.heap.size 0))[S.heap.size]? = _
    rw [Array.getElem?_push, if_pos rfl]
  | i + 1 => by
    show (((mrS S cA cI i).heap.push (mrI cI)).setIfInBounds S.heap.size (mrO cA S.heap.size (i + 1)))[S.heap.size]? = _
    rw [Array.getElem?_setIfInBounds, if_pos rfl, if_pos (by rw [Array.size_push, mrS_size]; omega)]
theorem mrS_old (S : State) (cA cI : ClassId) {a : Nat} (ha : a < S.heap.size) : ∀ i, (mrS S cA cI i).heap[a]? = S.heap[a]?
  | 0 => by
    show (S.heap.push (mrO cA S.heap.size 0))[a]? = _
    rw [Array.getElem?_push, if_neg (by omega)]
  | i + 1 => by
    show (((mrS S cA cI i).heap.push (mrI cI)).setIfInBounds S.heap.size (mrO cA S.heap.size (i + 1)))[a]? = _
    rw [Array.getElem?_setIfInBounds, if_neg (by omega), Array.getElem?_push, if_neg (by rw [mrS_size]; omega)]
    exact mrS_old S cA cI ha i
theorem mrS_row (S : State) (cA cI : ClassId) (j : Nat) : ∀ i, j < i → (mrS S cA cI i).heap[S.heap.size + 1 + j]? = some (mrI cI)
  | 0, h => absurd h (Nat.not_lt_zero _)
  | i + 1, h => by
    show (((mrS S cA cI i).heap.push (mrI cI)).setIfInBounds S.heap.size (mrO cA S.heap.size (i + 1)))[S.heap.size + 1 + j]? = _
    rw [Array.getElem?_setIfInBounds, if_neg (by omega), Array.getElem?_push, mrS_size]
    by_cases q : j = i
    · rw [if_pos (by omega)]
    · rw [if_neg (by omega)]
      exact mrS_row S cA cI j i (by omega)
/-- one row -/
theorem mr_in {d : Bool} {acts : List Action} (hk : S.vm.classes[cI]? = some kI) (hkind : kI.kind = .array cc .int) (h1 : S.heap.size < e.platform.maxCells) (h2 : S.slotsUsed + 10 ≤ e.platform.maxSlots) (l1 : e.platform.arrayLengthLimit = 2147483645) (l2 : e.platform.maxHeapBytes = 536870912) {Q : Addr → Pre} (hq : ∀ a, Q S.heap.size d a (S.pushCell (mrI cI))) : wp (multianewarray.make cI [10]) Q E e d acts S := by
  have ht : (10 : Int32).toNatClampNeg = 10 := by decide
  have hlt : ¬ (10 : Int32) < 0 := by decide
  simp only [multianewarray.make, wp_bind', wp_pure', hlt, if_false, Jvm.W.theClass, hk, Option.some.injEq, exists_eq_left', hkind, ht]
  refine Jvm.W.newArray_of (howMany := 10) hk hkind (by rw [l1]; decide) (by rw [l2]; decide) h1 h2 rfl (fun a => ?_)
  have := hq a
  unfold mrI at this
  rw [← arrV_new] at this
  exact this
theorem mr_loop {f : Nat → PUnit → Sem (ForInStep PUnit)} (hf : ∀ i u, f i u = (do let r ← multianewarray.make cI [10]; Jvm.writeLoc S.heap.size i (.ref r); Pure.pure (ForInStep.yield PUnit.unit)))
    (hkA : S.vm.classes[cA]? = some kA) (hA : kA.kind = .array cI (.array .int)) (hkI : S.vm.classes[cI]? = some kI) (hI : kI.kind = .array cc .int) (h1 : S.heap.size + 11 ≤ e.platform.maxCells) (h2 : S.slotsUsed + 110 ≤ e.platform.maxSlots) (l1 : e.platform.arrayLengthLimit = 2147483645) (l2 : e.platform.maxHeapBytes = 536870912)
    {Q : PUnit → Pre} (hq : ∀ d a, Q PUnit.unit d a (mrS S cA cI 10)) : ∀ (n i : Nat), i + n = 10 → ∀ (d : Bool) (acts : List Action), wp (forIn (List.range' i n) PUnit.unit f) Q E e d acts (mrS S cA cI i)
  | 0, i, h, d, acts => by
    have h : i = 10 := h
    subst h
    simp only [List.range'_zero, List.forIn_nil, wp_pure']
    exact hq d acts
  | n + 1, i, h, d, acts => by
    simp only [List.range'_succ, List.forIn_cons, hf, wp_bind']
    have e1 := mrS_size S cA cI i
    have e2 := mrS_slots S cA cI i
    refine mr_in (kI := kI) (cc := cc) (by rw [mrS_vm]; exact hkI) hI (by omega) (by omega) l1 l2 (fun a => ?_)
    rw [wp_bind', Jvm.W.writeLoc]
    refine ⟨mrO cA S.heap.size i, (mrS_new S cA cI i).trans (mrS_at S cA cI i), (fun q => by cases q), by unfold mrO; rw [arrV_size]; omega, ?_, ?_⟩
    · show ((mrS S cA cI i).pushCell (mrI cI)).fitsSlot cA .none i _ = true
      simp [State.fitsSlot, State.slotType?, mrS_vm, hkA, hA]
      rfl
    · simp only [wp_pure']
      have := mr_loop hf hkA hA hkI hI h1 h2 l1 l2 hq n (i + 1) (by omega) true (writeActs ⟨S.heap.size, i⟩ .plain (.ref (mrS S cA cI i).heap.size) a)
      rw [e1, mrO_next]
      rw [e1] at this
      exact this
/-- ten rows -/
theorem mr_all {d : Bool} {acts : List Action} (hkA : S.vm.classes[cA]? = some kA) (hA : kA.kind = .array cI (.array .int)) (hkI : S.vm.classes[cI]? = some kI) (hI : kI.kind = .array cc .int) (h1 : S.heap.size + 11 ≤ e.platform.maxCells) (h2 : S.slotsUsed + 110 ≤ e.platform.maxSlots) (l1 : e.platform.arrayLengthLimit = 2147483645) (l2 : e.platform.maxHeapBytes = 536870912)
    {Q : Addr → Pre} (hq : ∀ d a, Q S.heap.size d a (mrS S cA cI 10)) : wp (multianewarray.make cA [10, 10]) Q E e d acts S := by
  have ht : (10 : Int32).toNatClampNeg = 10 := by decide
  have hlt : ¬ (10 : Int32) < 0 := by decide
  have hz : ((10 : Int32) == 0) = false := by decide
  rw [multianewarray.make]
  simp only [wp_bind', wp_pure', hlt, if_false, Jvm.W.theClass, hkA, Option.some.injEq, exists_eq_left', hA, ht]
  refine Jvm.W.newArray_of (howMany := 10) hkA hA (by rw [l1]; decide) (by rw [l2]; decide) (by omega) (by omega) rfl (fun a => ?_)
  simp only [hz, Bool.false_eq_true, if_false, wp_bind', wp_pure', Std.Legacy.Range.forIn_eq_forIn_range']
  have e0 : S.pushCell { cls := cA, slots := Array.replicate 10 .null } = mrS S cA cI 0 := by
    show S.pushCell { cls := cA, slots := Array.replicate 10 .null, vm := .none } = S.pushCell (mrO cA S.heap.size 0)
    rw [arrV_new]
    exact congrArg S.pushCell (congrArg (arrV cA 10) (funext fun j => (if_neg (Nat.not_lt_zero j)).symm))
  rw [e0]
  exact mr_loop (S := S) (cA := cA) (cI := cI) (kA := kA) (kI := kI) (cc := cc) (fun i u => rfl) hkA hA hkI hI h1 h2 l1 l2 (fun d a => hq d a) 10 0 rfl d a
end ZMA
section ZMB
variable {p : Program} {l : Launch} {e : Env} {R : Room} {s : State} {m : MethodId} {args : Array Value} {below : List Frame} {meth : Method} {c : Code} {T : State} {locs : List Loc} {cells slots : Nat}
theorem mr_stand (X : Stand p l e R s m args below meth c T locs cells slots) (cA cI : ClassId) : ∀ i, ∃ L : List Loc, (∀ q ∈ L, q.base = T.heap.size) ∧ Stand p l e R s m args below meth c (mrS T cA cI i) (locs ++ L) (cells + 1 + i) (slots + 10 + 10 * i)
  | 0 => by
    have h := X.pushed (mrO cA T.heap.size 0)
    rw [show (mrO cA T.heap.size 0).slots.size = 10 from arrV_size ..] at h
    refine ⟨[], fun q hq => absurd hq List.not_mem_nil, ?_⟩
    rw [List.append_nil]
    exact h
  | i + 1 => by
    obtain ⟨L, h1, h2⟩ := mr_stand X cA cI i
    have h3 := h2.pushed (mrI cI)
    rw [show (mrI cI).slots.size = 10 from arrV_size ..] at h3
    have h4 := h3.stored ((mrS_new T cA cI i).trans (mrS_at T cA cI i)) i (.ref (T.heap.size + 1 + i))
    rw [mrO_next, List.append_assoc] at h4
    refine ⟨L ++ [({ base := T.heap.size, slot := i } : Loc)], fun q hq => ?_, ?_⟩
    · rcases List.mem_append.mp hq with q1 | q1
      · exact h1 q q1
      · rw [List.mem_singleton.mp q1]
    · rw [show slots + 10 + 10 * (i + 1) = slots + 10 + 10 * i + 10 by omega]
      exact h4
theorem mr_over (h : (Cond.arrayOver (.array .int)).before args s = true) : ∃ (cI cA : ClassId) (kA : Class), s.vm.findClass (FieldType.array .int).toString = some cI ∧ s.vm.classes[cA]? = some kA ∧ kA.kind = .array cI (.array .int) ∧ s.vm.findClass ("[" ++ (FieldType.array .int).toString) = some cA := by
  unfold Cond.before Cond.holds at h
  simp only [Cond.value, beq_iff_eq, Option.bind_eq_some_iff, Option.map_eq_some_iff] at h
  obtain ⟨cI, h1, cA, h2, kA, h3, h4⟩ := h
  obtain ⟨g1, g2, -⟩ := Array.findIdx?_eq_some_iff_getElem.mp h2
  rw [(Array.getElem?_eq_some_iff.mp h3).2] at g2
  refine ⟨cI, cA, kA, h1, h3, ?_⟩
  cases hk : kA.kind with
  | array co ty =>
    rw [hk] at g2 h4
    simp only [beq_iff_eq] at g2
    simp only [Bool.and_eq_true, decide_eq_true_eq] at h4
    subst g2
    exact ⟨by rw [h4.1], h4.2⟩
  | _ => rw [hk] at g2; cases g2
theorem mr_row (X : Stand p l e R s m args below meth c T locs cells slots) (hexec : p.tables.exec = Jvm.exec) {own : String} {index : Nat} (hown : s.vm.findClass own = some m.cls) (hcl : (Cond.classLink own index ("[" ++ (FieldType.array .int).toString)).before args s = true) (ho : (Cond.arrayOver (.array .int)).before args s = true) (ha : (Cond.arrayClass .int).before args s = true)
    {g : JFrame} (hg : g.method = m) (hdg : decode c.code g.pc = .ok (.multianewarray index 2, 4)) {rest : List Value} (hst : g.stack = .int 10 :: .int 10 :: rest) (hcells : cells + 11 ≤ R.cells) (hslots : slots + 110 ≤ R.slots) :
    ∃ (vm1 : Vm) (cA cI : ClassId) (L : List Loc), s.vm.findClass ("[" ++ (FieldType.array .int).toString) = some cA ∧ s.vm.findClass (FieldType.array .int).toString = some cI ∧ (∀ q ∈ L, q.base = T.heap.size) ∧ Stand p l e R s m args below meth c (mrS (T.setVm vm1) cA cI 10) (locs ++ L) (cells + 11) (slots + 110) ∧
      ∀ target, Steps p.tables e below ((mrS (T.setVm vm1) cA cI 10).setTop { g with pc := g.pc + 4, stack := .ref T.heap.size :: rest }) target → Steps p.tables e below (T.setTop g) target := by
  subst hg
  have hpl : e.platform.magicAccessors = ({} : Platform).magicAccessors := by rw [X.admits.platform]
  obtain ⟨cI, cA, kA, o1, o2, o3, o4⟩ := mr_over ho
  obtain ⟨cJ, kI, cc, a1, a2, a3⟩ := Cond.arrayClass_spec ha
  have eJ : cI = cJ := Option.some.inj (o1.symm.trans a1)
  subst eJ
  obtain ⟨cB, b1, b2⟩ := Cond.classLink_spec hown hcl e.platform hpl
  have eB : cA = cB := Option.some.inj (o4.symm.trans b1)
  subst eB
  obtain ⟨n1, n2, n3⟩ := State.classEntry (e := e) X.warmed b2
  generalize T.vm.noted g.method.cls index (.cls cA) = vm1 at n1 n2 n3
  obtain ⟨kA1, k1, k2⟩ := n2.alike.2.2 _ _ o2
  obtain ⟨kI1, k3, k4⟩ := n2.alike.2.2 _ _ a2
  have k5 : kA1.kind = .array cI (.array .int) := by rw [k2]; exact o3
  have k6 : kI1.kind = .array cc .int := by rw [k4]; exact a3
  have X1 := X.noted n2
  obtain ⟨L, hL, X2⟩ := mr_stand X1 cA cI 10
  obtain ⟨r1, r2⟩ := X.roomAbove hcells hslots
  refine ⟨vm1, cA, cI, L, o4, o1, hL, X2, fun target hrest => ?_⟩
  have hsz : vm1.classes.size ≤ (T.setTop g).vm.classes.size := by
    have q1 := n2.alike.2.1
    have q2 := X.warmed.alike.2.1
    show vm1.classes.size ≤ T.vm.classes.size
    omega
  refine Steps.instr (c := c) X.here ?_
  rw [hdg]
  show wpRun (p.tables.exec (.multianewarray index 2)) _ _ e _
  rw [hexec]
  show wp (multianewarray.sem index 2) _ _ e false [] (T.setTop g)
  unfold multianewarray.sem
  rw [wp_bind', Jvm.W.resolveClassAt_transfer (s := T.setTop g) (State.method?_setTop g X.here.top) n1 n3 hsz, Jvm.W.resolveClassAt_ready (s := (T.setTop g).setVm vm1) (State.method?_setTop g X.here.top) n3]
  rw [wp_bind', Jvm.W.popN, if_neg (by decide)]
  refine ⟨g, State.topJava?_setTop' g X.here.top, [.int 10, .int 10], rest, rfl, hst, ?_⟩
  simp only [List.mapM_cons, List.mapM_nil, wp_bind', wp_pure']
  rw [show (T.setTop g).setVm vm1 = (T.setVm vm1).setTop g from rfl, State.setTop_setTop]
  refine mr_all (S := (T.setVm vm1).setTop { g with stack := rest }) (kA := kA1) (kI := kI1) (cc := cc) k1 k5 k3 k6 r1 r2 (Launch.admits_arrayLengthLimit X.admits) (Launch.admits_maxHeapBytes X.admits) (fun d a => ?_)
  rw [mrS_top]
  simp only [wp_bind', Jvm.W.mark, Jvm.W.pushRef]
  refine ⟨{ g with stack := rest }, State.topJava?_setTop' _ X2.here.top, ?_⟩
  intro acts
  rw [State.setTop_setTop, afterInstr_ok]
  exact hrest
end ZMB
