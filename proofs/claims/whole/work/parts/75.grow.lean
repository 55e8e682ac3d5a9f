/-! HOW THE TWO OBJECTS COME TO BE: cells that are made one behind the other, from the address a0 on -/
def aoI (U : State) : Prop := (Cond.arrayOver (.array .int)).before #[] U = true
theorem aoI.moved {u U : State} (hvm : u.vm.Alike U.vm) (h : aoI u) : aoI U := by
  unfold aoI Cond.before Cond.holds at *
  simp only [Cond.value] at *
  cases hc : u.vm.findClass (FieldType.array .int).toString with
  | none => rw [hc] at h; simp at h
  | some comp =>
    rw [hc] at h
    simp only [Option.bind_some, Option.bind_eq_some_iff, Option.map_eq_some_iff, beq_iff_eq] at h
    obtain ⟨c, h2, k, h3, hb⟩ := h
    obtain ⟨k', hk', he⟩ := hvm.2.2 _ _ h3
    have hi : (U.vm.classes.findIdx? fun (x : Class) => match x.kind with | .array component _ => component == comp | _ => false) = some c := by
      refine (va_idx_bare U.vm comp).symm.trans ?_
      first | rw [hvm.bare_eq] | rw [← hvm.bare_eq]
      exact (va_idx_bare u.vm comp).trans h2
    have hkind : k'.kind = k.kind := by rw [he]
    have f1 : U.vm.findClass (FieldType.array .int).toString = some comp := by rw [hvm.findClass]; exact hc
    rw [f1, Option.bind_some]
    refine (congrArg (fun o : Option Nat => (o.bind (fun c => (U.vm.classes[c]?).map fun (k : Class) => match k.kind with | .array _ ty => decide (ty = FieldType.array .int) && decide (U.vm.findClass ("[" ++ (FieldType.array .int).toString) = some c) | _ => false) == some true)) hi).trans ?_
    have f2 : U.vm.findClass ("[" ++ (FieldType.array .int).toString) = u.vm.findClass ("[" ++ (FieldType.array .int).toString) := by rw [hvm.findClass]
    simp only [Option.bind_some, hk', Option.map_some, hkind, f2]
    rw [beq_iff_eq]
    exact congrArg some hb
def wl (a0 : Nat) (us : List va_E) : va_W := us.zipIdx.map (fun x => (a0 + x.2, x.1))
theorem wl_get (a0 k : Nat) (us : List va_E) : (wl a0 us)[k]? = (us[k]?).map (fun e => (a0 + k, e)) := by
  unfold wl
  rw [List.getElem?_map, List.getElem?_zipIdx]
  cases us[k]? with
  | none => rfl
  | some e => simp
theorem wl_at {a0 k : Nat} {us : List va_E} {e : va_E} (h : us[k]? = some e) : (wl a0 us)[k]? = some (a0 + k, e) := by rw [wl_get, h]; rfl
theorem wl_of {a0 k : Nat} {us : List va_E} {q : Nat × va_E} (h : (wl a0 us)[k]? = some q) : us[k]? = some q.2 ∧ q.1 = a0 + k := by
  rw [wl_get] at h
  cases hu : us[k]? with
  | none => rw [hu] at h; cases h
  | some e => rw [hu] at h; cases h; exact ⟨rfl, rfl⟩
theorem wl_len (a0 : Nat) (us : List va_E) : (wl a0 us).length = us.length := by
  unfold wl
  rw [List.length_map, List.length_zipIdx]
/-- the world, said cell by cell -/
def gW (D : va_G) (a0 : Nat) (us : List va_E) (H : Heap) : Prop := H.size = a0 + us.length ∧ ∀ (k : Nat) (e : va_E), us[k]? = some e → va_at D zcl (a0 + k, e) H
theorem gW.P {D : va_G} {a0 : Nat} {us : List va_E} {H : Heap} (h : gW D a0 us H) : va_P D zcl (wl a0 us) H := fun k q hq => by
  obtain ⟨h1, h2⟩ := wl_of hq
  have := h.2 k q.2 h1
  rw [← h2] at this
  exact this
theorem wl_D (a0 : Nat) (us : List va_E) : va_D (fun q => a0 ≤ q) (wl a0 us) := by
  refine ⟨fun i j p q h1 h2 h3 => ?_, fun k q h => ?_⟩
  · have e1 := (wl_of h1).2
    have e2 := (wl_of h2).2
    omega
  · have := (wl_of h).2
    show a0 ≤ q.1
    omega
theorem at_kept {D : va_G} {q : Nat × va_E} {H H1 : Heap} (h : va_at D zcl q H) (hk : H1[q.1]? = H[q.1]?) : va_at D zcl q H1 := by
  have h0 : va_P D zcl [q] H := fun k x hx => by
    have hz : k < 1 := (List.getElem?_eq_some_iff.mp hx).1
    rw [show k = 0 by omega] at hx
    cases hx
    exact h
  exact (h0.kept (fun k x hx => by
    have hz : k < 1 := (List.getElem?_eq_some_iff.mp hx).1
    rw [show k = 0 by omega] at hx
    cases hx
    exact hk)) 0 q rfl
theorem gW.push {D : va_G} {a0 : Nat} {us : List va_E} {H H1 : Heap} {e : va_E} (h : gW D a0 us H) (hz : H1.size = H.size + 1) (ho : ∀ q, q < H.size → H1[q]? = H[q]?) (he : va_at D zcl (H.size, e) H1) : gW D a0 (us ++ [e]) H1 := by
  refine ⟨by rw [hz, h.1, List.length_append]; rfl, fun k x hx => ?_⟩
  by_cases hk : k < us.length
  · rw [List.getElem?_append_left hk] at hx
    exact at_kept (h.2 k x hx) (ho _ (by rw [h.1]; show a0 + k < _; omega))
  · rw [List.getElem?_append_right (by omega)] at hx
    have hz2 : k - us.length < 1 := (List.getElem?_eq_some_iff.mp hx).1
    have ek : k = us.length := by omega
    subst ek
    rw [Nat.sub_self] at hx
    cases hx
    rw [← h.1]
    exact he
theorem gW.set {D : va_G} {a0 k : Nat} {us : List va_E} {H H1 : Heap} {e0 e : va_E} (h : gW D a0 us H) (hk : us[k]? = some e0) (hz : H1.size = H.size) (ho : ∀ q, q ≠ a0 + k → H1[q]? = H[q]?) (he : va_at D zcl (a0 + k, e) H1) : gW D a0 (us.set k e) H1 := by
  have hlt : k < us.length := (List.getElem?_eq_some_iff.mp hk).1
  refine ⟨by rw [hz, h.1, List.length_set], fun j x hx => ?_⟩
  by_cases ej : j = k
  · subst ej
    rw [List.getElem?_set_self hlt] at hx
    cases hx
    exact he
  · rw [List.getElem?_set_ne (fun q => ej q.symm)] at hx
    exact at_kept (h.2 j x hx) (ho _ (by show a0 + j ≠ _; omega))
theorem gW.join {D : va_G} {a0 : Nat} {us vs : List va_E} {H H1 : Heap} {e : va_E} (h : gW D a0 (us ++ [e]) H) (h1 : gW D (a0 + us.length) vs H1) (ho : ∀ q, q < a0 + us.length → H1[q]? = H[q]?) : gW D a0 (us ++ vs) H1 := by
  refine ⟨by rw [h1.1, List.length_append]; omega, fun k x hx => ?_⟩
  by_cases hk : k < us.length
  · rw [List.getElem?_append_left hk] at hx
    exact at_kept (h.2 k x (by rw [List.getElem?_append_left hk]; exact hx)) (ho _ (by show a0 + k < _; omega))
  · rw [List.getElem?_append_right (by omega)] at hx
    have := h1.2 (k - us.length) x hx
    rw [show a0 + us.length + (k - us.length) = a0 + k by omega] at this
    exact this
def znl : List (String × Nat × MethodName) := [("StampRoad", 9, ⟨"StampRoad$Tape", "<init>", "()V"⟩), ("StampRoad$Land", 42, ⟨"StampRoad$Text", "<init>", "()V"⟩), ("StampRoad", 25, ⟨"StampRoad$Reckoner", "<init>", "()V"⟩), ("StampRoad$Parser", 11, ⟨"StampRoad$Text", "<init>", "()V"⟩), ("StampRoad$Rests", 11, ⟨"StampRoad$Text", "<init>", "()V"⟩), ("StampRoad", 60, ⟨"StampRoad$Hands", "<init>", "()V"⟩), ("StampRoad", 67, ⟨"StampRoad$Page", "<init>", "()V"⟩)]
def zX (U : State) : Prop := (∀ q ∈ znl, va_Nw (.methodLinkNest q.1 q.2.1 q.2.2 "StampRoad") U) ∧ va_AO "StampRoad$Text" U ∧ aoI U
theorem zX.warm {s U : State} (hW : s.WarmedH U.vm) (h : zX s) : zX U := ⟨fun q hq => va_Nw.warmM hW (h.1 q hq), h.2.1.moved hW.alike, h.2.2.moved hW.alike⟩
theorem zX.same {u U : State} (hv : u.vm = U.vm) (ha : u.vm.Alike U.vm) (h : zX u) : zX U := ⟨fun q hq => va_Nw.same rfl hv (h.1 q hq), h.2.1.moved ha, h.2.2.moved ha⟩
abbrev NX : Type := Program × Launch × Env × Room × State × MethodId × Array Value × List Frame × Method × Code × (State → Prop) × va_G × (Nat → ClassId) × Nat
def Fn (X : NX) (cc : ByteArray) (own : String) (nL ff mc ms : Nat) : Prop := match X with
  | (p, _, _, R, s, m, args, _, _, c, _, D, tc, a0) => p.tables.exec = Jvm.exec ∧ c.code = cc ∧ c.maxLocals = nL ∧ s.vm.findClass own = some m.cls ∧ (∀ w ∈ TB, w.before args s = true) ∧ va_K D zcl (zty tc) s ∧ a0 ≤ s.heap.size ∧ ff ≤ R.frames ∧ 48 * ff ≤ R.locals ∧ mc ≤ R.cells ∧ ms ≤ R.slots ∧ zX s
def Gn (X : NX) (pc : Nat) (lv st : List Value) (us : List va_E) (cells slots : Nat) : Prop := match X with
  | (p, l, e, R, s, m, args, below, meth, c, Q, D, _, a0) => ∀ (H : Heap) (locs : List Loc) (ls : Array Slot), lv_has ls c.maxLocals (zlp id lv) → gW D a0 us H → va_S (fun q => a0 ≤ q) s.heap H locs → W p l e R s m args below meth c H locs cells slots Q (F0 m pc ls st)
section ZGR
variable {X : NX} {cc : ByteArray} {own : String} {nL ff mc ms pc nx cells slots : Nat} {lv st : List Value} {us : List va_E}
theorem cV_id (v : Value) : cV id v = v := by cases v <;> rfl
theorem n_iconst {n : Int} (v : Int32) (F : Fn X cc own nL ff mc ms) (hdg : decode cc pc = .ok (.iconst n, 1)) (hn : pc + 1 = nx) (hv : Int32.ofInt n = v) (K : Gn X nx lv (.int v :: st) us cells slots) : Gn X pc lv st us cells slots := by
  subst hn
  obtain ⟨p, l, e, R, s, m, args, below, meth, c, Q, D, tc, a0⟩ := X
  intro H locs ls h1 h2 h3
  exact lv_iconst F.1 F.2.1 hdg hv (K H locs ls h1 h2 h3)
theorem n_bipush {n : Int} (v : Int32) (F : Fn X cc own nL ff mc ms) (hdg : decode cc pc = .ok (.bipush n, 2)) (hn : pc + 2 = nx) (hv : (Int8.ofInt n).toInt32 = v) (K : Gn X nx lv (.int v :: st) us cells slots) : Gn X pc lv st us cells slots := by
  subst hn
  obtain ⟨p, l, e, R, s, m, args, below, meth, c, Q, D, tc, a0⟩ := X
  intro H locs ls h1 h2 h3
  exact lv_bipush F.1 F.2.1 hdg hv (K H locs ls h1 h2 h3)
theorem n_sipush {n : Int} (v : Int32) (F : Fn X cc own nL ff mc ms) (hdg : decode cc pc = .ok (.sipush n, 3)) (hn : pc + 3 = nx) (hv : (Int16.ofInt n).toInt32 = v) (K : Gn X nx lv (.int v :: st) us cells slots) : Gn X pc lv st us cells slots := by
  subst hn
  obtain ⟨p, l, e, R, s, m, args, below, meth, c, Q, D, tc, a0⟩ := X
  intro H locs ls h1 h2 h3
  exact lv_sipush F.1 F.2.1 hdg hv (K H locs ls h1 h2 h3)
theorem n_aload_n {k : Fin 4} (i : Nat) {x : Nat} (F : Fn X cc own nL ff mc ms) (hdg : decode cc pc = .ok (.aload_n k, 1)) (hn : pc + 1 = nx) (hi : (k : Nat) = i) (hx : lv[i]? = some (.ref x)) (K : Gn X nx lv (.ref x :: st) us cells slots) : Gn X pc lv st us cells slots := by
  subst hn
  obtain ⟨p, l, e, R, s, m, args, below, meth, c, Q, D, tc, a0⟩ := X
  intro H locs ls h1 h2 h3
  exact lv_aload_n F.1 F.2.1 hdg hi (zlp_at h1 hx rfl) (K H locs ls h1 h2 h3)
theorem n_iload_n {k : Fin 4} (i : Nat) {x : Int32} (F : Fn X cc own nL ff mc ms) (hdg : decode cc pc = .ok (.iload_n k, 1)) (hn : pc + 1 = nx) (hi : (k : Nat) = i) (hx : lv[i]? = some (.int x)) (K : Gn X nx lv (.int x :: st) us cells slots) : Gn X pc lv st us cells slots := by
  subst hn
  obtain ⟨p, l, e, R, s, m, args, below, meth, c, Q, D, tc, a0⟩ := X
  intro H locs ls h1 h2 h3
  exact lv_iload_n F.1 F.2.1 hdg hi (zlp_at h1 hx rfl) (K H locs ls h1 h2 h3)
theorem n_istore_n {k : Fin 4} (i : Nat) {x : Int32} (F : Fn X cc own nL ff mc ms) (hdg : decode cc pc = .ok (.istore_n k, 1)) (hn : pc + 1 = nx) (hi : (k : Nat) = i) (hb : i < nL) (K : Gn X nx (lv.set i (.int x)) st us cells slots) : Gn X pc lv (.int x :: st) us cells slots := by
  subst hn
  obtain ⟨p, l, e, R, s, m, args, below, meth, c, Q, D, tc, a0⟩ := X
  intro H locs ls h1 h2 h3
  exact lv_istore_n F.1 F.2.1 hdg hi h1 (by rw [F.2.2.1]; exact hb) rfl (fun ls2 h => K H locs ls2 (zlp_set h) h2 h3)
theorem n_astore_n {k : Fin 4} (i : Nat) {x : Nat} (F : Fn X cc own nL ff mc ms) (hdg : decode cc pc = .ok (.astore_n k, 1)) (hn : pc + 1 = nx) (hi : (k : Nat) = i) (hb : i < nL) (K : Gn X nx (lv.set i (.ref x)) st us cells slots) : Gn X pc lv (.ref x :: st) us cells slots := by
  subst hn
  obtain ⟨p, l, e, R, s, m, args, below, meth, c, Q, D, tc, a0⟩ := X
  intro H locs ls h1 h2 h3
  exact lv_astore_n F.1 F.2.1 hdg hi h1 (by rw [F.2.2.1]; exact hb) rfl (fun ls2 h => K H locs ls2 (zlp_set h) h2 h3)
theorem n_iinc {i : Nat} {n : Int} {x : Int32} (v : Int32) (F : Fn X cc own nL ff mc ms) (hdg : decode cc pc = .ok (.iinc i n, 3)) (hn : pc + 3 = nx) (hx : lv[i]? = some (.int x)) (hv : Int32.ofInt n = v) (hb : i < nL) (K : Gn X nx (lv.set i (.int (x + v))) st us cells slots) : Gn X pc lv st us cells slots := by
  subst hn
  subst hv
  obtain ⟨p, l, e, R, s, m, args, below, meth, c, Q, D, tc, a0⟩ := X
  intro H locs ls h1 h2 h3
  have hm := zlp_mem (al := id) hx rfl
  obtain ⟨k, hk⟩ := List.getElem?_of_mem hm
  exact lv_iinc F.1 F.2.1 hdg h1 hk rfl (by rw [F.2.2.1]; exact hb) rfl (fun ls2 h => K H locs ls2 (zlp_set h) h2 h3)
theorem n_goto {off : Int} (tgt : Nat) (F : Fn X cc own nL ff mc ms) (hdg : decode cc pc = .ok (.goto off, 3)) (ht : (pc : Int) + off = (tgt : Int)) (K : Gn X tgt lv st us cells slots) : Gn X pc lv st us cells slots := by
  obtain ⟨p, l, e, R, s, m, args, below, meth, c, Q, D, tc, a0⟩ := X
  intro H locs ls h1 h2 h3
  exact lv_goto F.1 F.2.1 hdg ht (K H locs ls h1 h2 h3)
theorem n_icmp_ge {off : Int} {x y : Int32} (tgt : Nat) (F : Fn X cc own nL ff mc ms) (hdg : decode cc pc = .ok (.if_icmp .ge off, 3)) (hn : pc + 3 = nx) (ht : (pc : Int) + off = (tgt : Int)) (K1 : y ≤ x → Gn X tgt lv st us cells slots) (K2 : ¬ y ≤ x → Gn X nx lv st us cells slots) : Gn X pc lv (.int y :: .int x :: st) us cells slots := by
  subst hn
  obtain ⟨p, l, e, R, s, m, args, below, meth, c, Q, D, tc, a0⟩ := X
  intro H locs ls h1 h2 h3
  exact lv_icmp_ge F.1 F.2.1 hdg ht (fun h => K1 h H locs ls h1 h2 h3) (fun h => K2 h H locs ls h1 h2 h3)
theorem n_dup {v : Value} (F : Fn X cc own nL ff mc ms) (hdg : decode cc pc = .ok (.dup, 1)) (hn : pc + 1 = nx) (hc : v.category = 1) (K : Gn X nx lv (v :: v :: st) us cells slots) : Gn X pc lv (v :: st) us cells slots := by
  subst hn
  obtain ⟨p, l, e, R, s, m, args, below, meth, c, Q, D, tc, a0⟩ := X
  intro H locs ls h1 h2 h3
  exact lv_dup F.1 F.2.1 hdg hc (K H locs ls h1 h2 h3)
theorem n_objInit {idx a : Nat} (F : Fn X cc own nL ff mc ms) (hdg : decode cc pc = .ok (.invokespecial idx, 3)) (hn : pc + 3 = nx) (L : Cond.methodLink own idx Lib.objectInit ∈ TB) (hf : 1 ≤ ff) (hst : (st.map fun v => v.category).sum ≤ 8) (K : Gn X nx lv st us cells slots) : Gn X pc lv (.ref a :: st) us cells slots := by
  subst hn
  obtain ⟨p, l, e, R, s, m, args, below, meth, c, Q, D, tc, a0⟩ := X
  intro H locs ls h1 h2 h3
  have g1 := F.2.2.2.2.2.2.2.1
  have g2 := F.2.2.2.2.2.2.2.2.1
  exact W.objInit F.1 F.2.1 F.2.2.2.1 (F.2.2.2.2.1 _ L) (F.2.2.2.2.1 _ (tb_of 106 (by decide +kernel) rfl)) (F.2.2.2.2.1 _ (tb_of 107 (by decide +kernel) rfl)) rfl h1.1 rfl hdg (by omega) (by show 2 * 0 + (st.map fun v => v.category).sum + 12 ≤ R.locals; omega) (K H locs ls h1 h2 h3)
theorem n_new {idx ci : Nat} {C : String} {T : u_T} {N : Nat} (ty : Nat → FieldType) (fs : List Value) (F : Fn X cc own nL ff mc ms) (hdg : decode cc pc = .ok (.new idx, 3)) (hn : pc + 3 = nx) (hcl : Cond.classLink own idx C ∈ TB) (hinst : Cond.instantiable C N ∈ TB) (hini : Cond.initialized C ∈ TB) (hc : zcl[ci]? = some (C, T, N)) (hty : ∀ k, k < N → parseFieldDescriptor (T k).2.2.1 = some (ty k)) (hfs : ∀ j, j < N → defaultValue (ty j) = vp_V fs j) (hcells : cells + 1 ≤ mc) (hslots : slots + N ≤ ms)
    (K : ∀ a : Nat, a = X.2.2.2.2.2.2.2.2.2.2.2.2.2 + us.length → Gn X nx lv (.ref a :: st) (us ++ [.inr (ci, fs)]) (cells + 1) (slots + N)) : Gn X pc lv st us cells slots := by
  subst hn
  obtain ⟨p, l, e, R, s, m, args, below, meth, c, Q, D, tc, a0⟩ := X
  intro H locs ls h1 h2 h3
  have hKn := F.2.2.2.2.2.1.1 ci _ hc
  have g1 := F.2.2.2.2.2.2.2.2.2.1
  have g2 := F.2.2.2.2.2.2.2.2.2.2.1
  refine W.newcK F.1 F.2.1 F.2.2.2.1 (F.2.2.2.2.1 _ hcl) (F.2.2.2.2.1 _ hinst) (F.2.2.2.2.1 _ hini) rfl hdg (by omega) (by omega) hKn.2.1 rfl fun H1 kC hkC e1 z1 o1 => ?_
  refine K H.size h2.1 H1 locs ls h1 (h2.push z1 o1 ?_) ⟨Nat.le_trans h3.1 (by omega), fun x x1 x2 => (o1 x (Nat.lt_of_lt_of_le x1 h3.1)).trans (h3.2.1 x x1 x2), h3.2.2⟩
  exact ⟨_, hc, (u_born ty F.2.2.2.2.1 (zin hc) hKn hkC e1 hty).to hfs⟩
theorem n_newa {atype : ArrayType} {ty : FieldType} {n : Int32} (N ti : Nat) (F : Fn X cc own nL ff mc ms) (hdg : decode cc pc = .ok (.newarray atype, 2)) (hn : pc + 2 = nx) (hty : newarray.typeOf atype = ty) (harr : Cond.arrayClass ty ∈ TB) (hT : (ti = 12 ∧ ty = .byte) ∨ (ti = 13 ∧ ty = .int)) (hneg : ¬ n < 0) (hN : n.toNatClampNeg = N) (hb : N ≤ 1000000) (hcells : cells + 1 ≤ mc) (hslots : slots + N ≤ ms)
    (K : ∀ a : Nat, a = X.2.2.2.2.2.2.2.2.2.2.2.2.2 + us.length → Gn X nx lv (.ref a :: st) (us ++ [.inl (X.2.2.2.2.2.2.2.2.2.2.2.2.1 ti, N, .inl (fun _ => 0))]) (cells + 1) (slots + N)) : Gn X pc lv (.int n :: st) us cells slots := by
  subst hn
  subst hty
  obtain ⟨p, l, e, R, s, m, args, below, meth, c, Q, D, tc, a0⟩ := X
  intro H locs ls h1 h2 h3
  have g1 := F.2.2.2.2.2.2.2.2.2.1
  have g2 := F.2.2.2.2.2.2.2.2.2.2.1
  have hbt : N * componentBytes (newarray.typeOf atype) ≤ 536870912 := by
    rcases hT with ⟨-, h⟩ | ⟨-, h⟩ <;> rw [h] <;> simp only [componentBytes] <;> omega
  refine va_newaK F.1 F.2.1 (F.2.2.2.2.1 _ harr) rfl hdg rfl hneg hN hbt (by omega) (by omega) rfl fun H1 cA e1 z1 o1 hAr hNm => ?_
  have hcA : tc ti = cA := by
    rcases hT with ⟨h, h'⟩ | ⟨h, h'⟩
    · have h2 := (F.2.2.2.2.2.1.2 0 _ rfl).2
      rw [h'] at hNm
      rw [h]
      exact Option.some.inj (h2.symm.trans hNm)
    · have h2 := (F.2.2.2.2.2.1.2 1 _ rfl).2
      rw [h'] at hNm
      rw [h]
      exact Option.some.inj (h2.symm.trans hNm)
  refine K H.size h2.1 H1 locs ls h1 (h2.push z1 o1 ?_) ⟨Nat.le_trans h3.1 (by omega), fun x x1 x2 => (o1 x (Nat.lt_of_lt_of_le x1 h3.1)).trans (h3.2.1 x x1 x2), h3.2.2⟩
  show H1[H.size]? = some (vp_cell (tc ti) (N, .inl (fun _ => 0)))
  rw [vp_cell_i, e1, hcA]
  rcases hT with ⟨-, h⟩ | ⟨-, h⟩ <;> rw [h] <;> rfl
theorem n_anew {idx : Nat} {n : Int32} (N : Nat) (F : Fn X cc own nL ff mc ms) (hdg : decode cc pc = .ok (.anewarray idx, 3)) (hn : pc + 3 = nx) (hcl : Cond.classLink own idx "StampRoad$Text" ∈ TB) (hneg : ¬ n < 0) (hN : n.toNatClampNeg = N) (hb : N ≤ 1000000) (hcells : cells + 1 ≤ mc) (hslots : slots + N ≤ ms)
    (K : ∀ a : Nat, a = X.2.2.2.2.2.2.2.2.2.2.2.2.2 + us.length → Gn X nx lv (.ref a :: st) (us ++ [.inl (X.2.2.2.2.2.2.2.2.2.2.2.2.1 14, N, .inr (.inr (.inr (.inr (fun _ => none)))))]) (cells + 1) (slots + N)) : Gn X pc lv (.int n :: st) us cells slots := by
  subst hn
  subst hN
  obtain ⟨p, l, e, R, s, m, args, below, meth, c, Q, D, tc, a0⟩ := X
  intro H locs ls h1 h2 h3
  have g1 := F.2.2.2.2.2.2.2.2.2.1
  have g2 := F.2.2.2.2.2.2.2.2.2.2.1
  refine W.anew F.1 F.2.1 F.2.2.2.1 (F.2.2.2.2.1 _ hcl) (va_AO.use F.2.2.2.2.2.2.2.2.2.2.2.2.1) rfl hdg rfl hneg (by omega) (by omega) (by omega) fun cA kA comp f1 f2 f3 f4 => ?_
  generalize hH1 : H.push ({ cls := cA, slots := Array.replicate n.toNatClampNeg .null, vm := .none } : Cell) = H1
  have z1 : H1.size = H.size + 1 := by rw [← hH1, Array.size_push]
  have e1 : H1[H.size]? = some (arrV cA n.toNatClampNeg (fun _ => .null)) := by rw [← hH1, Array.getElem?_push_size, ← arrV_new]
  have o1 : ∀ q : Nat, q < H.size → H1[q]? = H[q]? := fun q hq => by rw [← hH1, Array.getElem?_push, if_neg (Nat.ne_of_lt hq)]
  obtain ⟨kA2, comp2, r1, r2, r3, r4⟩ := (F.2.2.2.2.2.1.2 2 _ rfl).2
  have hcA : tc 14 = cA := Option.some.inj (r4.symm.trans f1)
  refine K H.size h2.1 H1 locs ls h1 (h2.push z1 o1 ?_) ⟨Nat.le_trans h3.1 (by omega), fun x x1 x2 => (o1 x (Nat.lt_of_lt_of_le x1 h3.1)).trans (h3.2.1 x x1 x2), h3.2.2⟩
  show H1[H.size]? = some (vp_cell (tc 14) (n.toNatClampNeg, .inr (.inr (.inr (.inr (fun _ => none))))))
  rw [vp_cell_q, e1, hcA]
  rfl
theorem n_put {idx ci k j a : Nat} {C : String} {T : u_T} {N : Nat} {fs : List Value} {v : Value} {fty : FieldType} (ty : Nat → FieldType) (F : Fn X cc own nL ff mc ms) (hini : (T k).2.2.2 = true → X.2.2.2.2.2.2.2.2.1.name = "<init>") (hdg : decode cc pc = .ok (.putfield idx, 3)) (hn : pc + 3 = nx) (L : Cond.fieldLink own idx C (T k).2.1 (T k).2.2.1 ∈ TB) (hdecl : (T k).1 = C) (hC : C = own) (hc : zcl[ci]? = some (C, T, N)) (hk : k < N) (hty : ∀ k, k < N → parseFieldDescriptor (T k).2.2.1 = some (ty k)) (hnm : ∀ a, a < N → ∀ b, b < N → a ≠ b → (T a).2.1 ≠ (T b).2.1)
    (hd : parseFieldDescriptor (T k).2.2.1 = some fty) (hnar : narrow fty v = v) (hfit : fits fty v = true) (hl : k < fs.length) (hus : us[j]? = some (.inr (ci, fs))) (ha : a = X.2.2.2.2.2.2.2.2.2.2.2.2.2 + j) (K : Gn X nx lv st (us.set j (.inr (ci, fs.set k v))) cells slots) : Gn X pc lv (v :: .ref a :: st) us cells slots := by
  subst hn
  subst hC
  obtain ⟨p, l, e, R, s, m, args, below, meth, c, Q, D, tc, a0⟩ := X
  intro H locs ls h1 h2 h3
  have ha : a = a0 + j := ha
  subst ha
  have hts := F.2.2.2.2.1
  have hin := zin hc
  have hap := va_apart (own := C) (tys := zty tc) hts hin ty hty hnm F.2.2.2.2.2.1 hc
  obtain ⟨r, q0, cell, q1, q2, q3, q4⟩ := h2.2 j _ hus
  have hr : r = (C, T, N) := Option.some.inj (q0.symm.trans hc)
  subst hr
  obtain ⟨hS, hfc, kC, hkC, hkind⟩ := F.2.2.2.2.2.1.1 ci _ hc
  obtain ⟨cf, kf, fi, f, hi, hsl⟩ := hS k hk
  have hi2 : s.fieldFound? C (T k).2.1 (T k).2.2.1 = some (cf, kf, fi, f) := by have := hi; rw [hdecl] at this; exact this
  have hlay := hts _ (hin _ (u_in_lay hk))
  have hst := (u_facts hfc hkC (u_lays hts hin hk) hi).1
  have fin : ∀ (H' : Heap), H'[a0 + j]? = some (cell.setSlot f.slot v) → H'.size = H.size → (∀ q, q ≠ a0 + j → H'[q]? = H[q]?) → W p l e R s m args below meth c H' (locs ++ [⟨a0 + j, f.slot⟩]) cells slots Q (F0 m (pc + 3) ls st) := by
    intro H' e1 e2 e3
    rw [hsl] at e1 ⊢
    refine K H' _ ls h1 (h2.set hus e2 e3 ⟨_, hc, t_OB.to (V := updV (vp_V fs) k v) ⟨_, e1, q2, q3, t_set q4 hap hk v⟩ (fun j _ => vp_updV_set hl v j)⟩) ?_
    exact h3.put e2 e3 (show a0 ≤ a0 + j by omega)
  by_cases hfin : (T k).2.2.2 = true
  · unfold u_lay at hlay
    rw [if_pos hfin] at hlay
    have hcf : m.cls = cf := by
      obtain ⟨_, _, c', _, _, _, -, -, hf', -, -, -, hown2, -⟩ := Cond.laysFinal_spec hlay
      have e1 : c' = cf := by have := hi.symm.trans hf'; simp at this; exact this.1.symm
      rw [hdecl] at hown2
      rw [← e1]; exact Option.some.inj (F.2.2.2.1.symm.trans hown2)
    have h6 := u_fits hfc hkC hkind (Or.inr hlay) hi hd hnar hfit
    exact W.putFinK F.1 F.2.1 F.2.2.2.1 (hts _ L) hi2 hst hcf (hini hfin) (by rw [q2]; exact h6) q1 q3 (by rw [hsl]; exact k2_hasslot (q4 k hk)) rfl rfl hdg fin
  · unfold u_lay at hlay
    rw [if_neg hfin] at hlay
    have h6 := u_store hfc hkC hkind hlay hi hd hnar hfit
    exact W.putK F.1 F.2.1 (f := f) ⟨F.2.2.2.1, hts _ L, ⟨_, _, _, hi2⟩, hst⟩ (by rw [q2]; exact h6) q1 q3 (by rw [hsl]; exact k2_hasslot (q4 k hk)) rfl rfl hdg fin
theorem n_get {idx ci k j a : Nat} {C : String} {T : u_T} {N : Nat} {fs : List Value} {v : Value} (F : Fn X cc own nL ff mc ms) (hdg : decode cc pc = .ok (.getfield idx, 3)) (hn : pc + 3 = nx) (L : Cond.fieldLink own idx C (T k).2.1 (T k).2.2.1 ∈ TB) (hdecl : (T k).1 = C) (hc : zcl[ci]? = some (C, T, N)) (hk : k < N) (hus : us[j]? = some (.inr (ci, fs))) (ha : a = X.2.2.2.2.2.2.2.2.2.2.2.2.2 + j) (hv : fs[k]? = some v) (K : Gn X nx lv (v :: st) us cells slots) : Gn X pc lv (.ref a :: st) us cells slots := by
  subst hn
  obtain ⟨p, l, e, R, s, m, args, below, meth, c, Q, D, tc, a0⟩ := X
  intro H locs ls h1 h2 h3
  have ha : a = a0 + j := ha
  subst ha
  exact va_get (ref := C) F.1 F.2.1 F.2.2.2.2.1 (zin hc) F.2.2.2.1 F.2.2.2.2.2.1 h2.P j (wl_at hus) hc k hk (F.2.2.2.2.1 _ L) (fun x hx => by rw [hdecl] at hx; exact hx) hv hdg (K H locs ls h1 h2 h3)
end ZGR
