/-! CONTRACTS over the store: from every heap that holds the store σ the method M, called with av, returns; Q tells its answer and the store behind it; nothing else changes; at most d calls lie above it -/
def zA (al : Nat → Nat) : Nat → Prop := fun q => ∃ a, a < zn ∧ q = al a
def zrm (d : Nat) : Room := { frames := d, cells := 0, slots := 0, locals := 48 * d }
def zQ (D : va_G) (tc : Nat → ClassId) (al : Nat → Nat) (Q : Option Value → zSt → Prop) : Array Value → State → Outcome → State → Prop := fun _ st oc t =>
  (∃ (r : Option Value) (σ : zSt), oc = .returned (r.map (cV al)) ∧ Q r σ ∧ va_P D zcl (zW tc al σ) t.heap) ∧ va_F (zA al) st t
def zPc (D : va_G) (tc : Nat → ClassId) (al : Nat → Nat) (av : List Value) (σ : zSt) : Array Value → State → Prop := va_Pc (av.map (cV al)) (fun U => va_P D zcl (zW tc al σ) U.heap ∧ va_K D zcl (zty tc) U ∧ zCt al (zA al) U U.heap)
def Con (M : ZM) (d : Nat) (av : List Value) (σ : zSt) (Q : Option Value → zSt → Prop) : Prop :=
  ∀ (l : Launch) (D : va_G) (tc : Nat → ClassId) (al : Nat → Nat), (∀ i j, i < zn → j < zn → al i = al j → i = j) →
    Met l M.1 (.code M.1 M.2.1 M.2.2.1 M.2.2.2 :: TB) (zrm d) (zPc D tc al av σ) (zQ D tc al Q) 0 0 (zA al)
/-- how the activation X ends: with an answer of the type ret, by Q -/
def Ex (X : ZX) (ret : Option FieldType) (Q : Option Value → zSt → Prop) : Prop := match X with
  | (_, _, _, _, s, _, args, below, meth, _, cells, slots, Qf, D, tc, al, A) => Qf = MQ below (zQ D tc al Q) args s cells slots (zA al) ∧ A = zA al ∧ meth.sig.returnType = ret ∧ meth.locks = false
theorem zPc_blind {D : va_G} {tc : Nat → ClassId} {al : Nat → Nat} {av : List Value} {σ : zSt} : FrameBlind (zPc D tc al av σ) := by
  intro a U g mk q
  obtain ⟨q0, qP, qK, qC⟩ := q
  exact ⟨q0, qP, va_K.moved (u := U) (U := U.calling g mk a) (Vm.Alike.refl U.vm) qK, zCt.same (u := U) (U := U.calling g mk a) rfl (Vm.Alike.refl U.vm) qC⟩
/-- a contract out of the walk of the body -/
theorem Con.of {M : ZM} {n d : Nat} {av lv : List Value} {σ : zSt} {Q : Option Value → zSt → Prop} (hM : zMk M n) (hc : av.all (fun v => v.category == 1) = true) (hlen : av.length ≤ M.2.2.1) (hlv : av ++ List.replicate (M.2.2.1 - av.length) (.long 0) = lv)
    (body : ∀ X : ZX, Fx X M.2.1 M.1.cls M.2.2.1 d → Ex X M.2.2.2 Q → Gs X 0 lv [] σ) : Con M d av σ Q := by
  intro l D tc al hal
  refine Met.ofW (cc := M.2.1) (maxL := M.2.2.1) (ret := M.2.2.2) hM.2.2.2.2.2.1 rfl ?_
  intro p e s m args below meth c s₁ B hml hv
  obtain ⟨rfl, hP, hK, hC⟩ := hv
  have hts := atoms_spec (ws := .code M.1 M.2.1 M.2.2.1 M.2.2.2 :: TB) B.pre
  have hown : s.vm.findClass M.1.cls = some m.cls := findClass_of_methodNamed B.named
  have hcat : ∀ v ∈ av, v.category = 1 := fun v h => by simpa using List.all_eq_true.mp hc v h
  have hsl : ∀ vs : List Value, (∀ v ∈ vs, v.category = 1) → lg_sl vs = vs.map Slot.val := by
    intro vs
    induction vs with
    | nil => intro _; rfl
    | cons v vs ih =>
      intro h
      have h1 := h v List.mem_cons_self
      have h2 := ih (fun w hw => h w (List.mem_cons_of_mem _ hw))
      show (if v.category = 2 then [Slot.val v, .second] else [.val v]) ++ lg_sl vs = _
      rw [h2, h1]
      rfl
  have hcat' : ∀ v ∈ av.map (cV al), v.category = 1 := fun v h => by
    obtain ⟨w, h1, rfl⟩ := List.mem_map.mp h
    rw [cV_cat]
    exact hcat w h1
  have hl := lv_entry (av.map (cV al)) (n := M.2.2.1) (by rw [hsl _ hcat', List.length_map, List.length_map]; exact hlen)
  rw [lg_entry_eq]
  generalize hls : (lg_sl (av.map (cV al)) ++ List.replicate (M.2.2.1 - (lg_sl (av.map (cV al))).length) Slot.unset).toArray = ls at hl ⊢
  have hl2 : lv_has ls M.2.2.1 (zlp al lv) := by
    refine ⟨hl.1, hl.2.1, fun q hq => ?_⟩
    obtain ⟨w, h1, h2, h3⟩ := zlp_of hq
    rw [← hlv] at h1
    have hlt : q.1 < av.length := by
      rcases Nat.lt_or_ge q.1 av.length with g | g
      · exact g
      · rw [List.getElem?_append_right g] at h1
        have := List.eq_of_mem_replicate (List.mem_of_getElem? h1)
        rw [this] at h2
        cases h2
    rw [List.getElem?_append_left hlt] at h1
    rw [← hls, hsl _ hcat', h3, List.getElem?_toArray, List.getElem?_append_left (by rw [List.length_map, List.length_map]; exact hlt), List.getElem?_map, List.getElem?_map, h1]
    rfl
  refine body (p, l, e, (headSpec (.code M.1 M.2.1 M.2.2.1 M.2.2.2 :: TB) (zrm d)).room, s, m, (av.map (cV al)).toArray, below, meth, c, 0, 0, _, D, tc, al, zA al) ?_ ⟨rfl, rfl, B.returns, B.notSynchronized⟩ s.heap [] ls (by rw [hml]; exact hl2) hP va_S.rf
  exact ⟨B.exec, B.bytes, hml, hown, fun w hw => hts w (List.mem_cons_of_mem _ hw), hK, hal, fun a h => ⟨a, h, rfl⟩, hC, Nat.le_refl _, Nat.le_refl _, Nat.le_refl _, Nat.le_refl _⟩
section ZC
variable {X : ZX} {cc : ByteArray} {own : String} {nL dd pc nx : Nat} {lv st : List Value} {σ : zSt} {Q : Option Value → zSt → Prop}
/-- the ends -/
theorem g_iret {v : Int32} (F : Fx X cc own nL dd) (E : Ex X (some .int) Q) (hdg : decode cc pc = .ok (.ireturn, 1)) (hq : Q (some (.int v)) σ) : Gs X pc lv [.int v] σ := by
  obtain ⟨p, l, e, R, s, m, args, below, meth, c, cells, slots, Qf, D, tc, al, A⟩ := X
  obtain ⟨rfl, rfl, hr, hlocks⟩ := E
  intro H locs ls h1 h2 h3
  exact W.iret F.1 F.2.1 hr (fun t ht hW => ⟨⟨some (.int v), σ, rfl, hq, by rw [ht]; exact h2⟩, h3.F ht⟩) h3.2.2 hdg (hlocks := hlocks)
theorem g_zret {v : Int32} {ty : FieldType} (F : Fx X cc own nL dd) (E : Ex X (some ty) Q) (hdg : decode cc pc = .ok (.ireturn, 1)) (hz : narrow ty (.int v) = .int v) (hq : Q (some (.int v)) σ) : Gs X pc lv [.int v] σ := by
  obtain ⟨p, l, e, R, s, m, args, below, meth, c, cells, slots, Qf, D, tc, al, A⟩ := X
  obtain ⟨rfl, rfl, hr, hlocks⟩ := E
  intro H locs ls h1 h2 h3
  exact W.zret F.1 F.2.1 hr hz (fun t ht hW => ⟨⟨some (.int v), σ, rfl, hq, by rw [ht]; exact h2⟩, h3.F ht⟩) h3.2.2 hdg (hlocks := hlocks)
theorem g_vret (F : Fx X cc own nL dd) (E : Ex X none Q) (hdg : decode cc pc = .ok (.return_, 1)) (hq : Q none σ) : Gs X pc lv [] σ := by
  obtain ⟨p, l, e, R, s, m, args, below, meth, c, cells, slots, Qf, D, tc, al, A⟩ := X
  obtain ⟨rfl, rfl, hr, hlocks⟩ := E
  intro H locs ls h1 h2 h3
  exact W.vret F.1 F.2.1 hr (fun t ht hW => ⟨⟨none, σ, rfl, hq, by rw [ht]; exact h2⟩, h3.F ht⟩) h3.2.2 hdg (hlocks := hlocks)
theorem g_aret {t0 : Nat} {C : String} (F : Fx X cc own nL dd) (E : Ex X (some (.object C)) Q) (hdg : decode cc pc = .ok (.areturn, 1)) (hq : Q (some (.ref t0)) σ) : Gs X pc lv [.ref t0] σ := by
  obtain ⟨p, l, e, R, s, m, args, below, meth, c, cells, slots, Qf, D, tc, al, A⟩ := X
  obtain ⟨rfl, rfl, hr, hlocks⟩ := E
  intro H locs ls h1 h2 h3
  exact W.aret F.1 F.2.1 hr (Or.inl ⟨C, rfl⟩) (Or.inr ⟨al t0, rfl⟩) (fun t ht hW => ⟨⟨some (.ref t0), σ, rfl, hq, by rw [ht]; exact h2⟩, h3.F ht⟩) h3.2.2 hdg (hlocks := hlocks)
/-- what comes behind a call -/
theorem z_back {p : Program} {l : Launch} {e : Env} {R : Room} {s : State} {m : MethodId} {args : Array Value} {below : List Frame} {meth : Method} {c : Code} {cells slots : Nat} {Qf : State → Prop} {D : va_G} {tc : Nat → ClassId} {al : Nat → Nat} {A : Nat → Prop}
    (hA : ∀ a, a < zn → A (al a)) {H : Heap} {locs : List Loc} {ls : Array Slot} {a : Array Value} {st0 : List Value} (h1 : lv_has ls c.maxLocals (zlp al lv)) (h3 : va_S A s.heap H locs)
    (hr : va_Run p l e R s m args below meth c H locs cells slots 0 0 (F0 m pc ls st0) (st.map (cV al)) (zQ D tc al Q a) (zA al))
    (K : ∀ (r : Option Value) (τ : zSt), Q r τ → Gs (p, l, e, R, s, m, args, below, meth, c, cells, slots, Qf, D, tc, al, A) (pc + 3) lv (r.toList ++ st) τ) :
    W p l e R s m args below meth c H locs cells slots Qf (F0 m pc ls st0) := by
  intro T hT X
  obtain ⟨v, st₀, t, T', L, g0, X', hL, e1, e2, ⟨⟨r, τ, hv, hq, hP⟩, hz, hk⟩, stp⟩ := hr T hT X
  cases hv
  rw [g0] at hz hk
  have hS : va_S A s.heap T'.heap (locs ++ L) := by
    refine ⟨Nat.le_trans h3.1 (by rw [e1]; exact hz), fun q q1 q2 => ?_, fun q hq => ?_⟩
    · rw [e1, hk q (Nat.lt_of_lt_of_le q1 h3.1) (fun z => q2 (by obtain ⟨b, b1, b2⟩ := z; rw [b2]; exact hA b b1))]
      exact h3.2.1 q q1 q2
    · rcases List.mem_append.mp hq with h | h
      · exact h3.2.2 q h
      · obtain ⟨b, b1, b2⟩ := hL q h
        rw [b2]
        exact hA b b1
  obtain ⟨t2, a1, b1⟩ := K r τ hq T'.heap (locs ++ L) ls h1 (by rw [e1]; exact hP) hS T' rfl X'
  refine ⟨t2, stp t2 ?_, b1⟩
  have : List.map (cV al) (r.toList ++ st) = (r.map (cV al)).toList ++ st.map (cV al) := by cases r <;> simp
  rw [← this]
  exact a1
theorem z_pre {p : Program} {l : Launch} {e : Env} {R : Room} {s : State} {m : MethodId} {args : Array Value} {below : List Frame} {meth : Method} {c : Code} {cells slots : Nat} {Qf : State → Prop} {D : va_G} {tc : Nat → ClassId} {al : Nat → Nat} {A : Nat → Prop} {av : List Value}
    (F : Fx (p, l, e, R, s, m, args, below, meth, c, cells, slots, Qf, D, tc, al, A) cc own nL dd) {H : Heap} {locs : List Loc} (h2 : va_P D zcl (zW tc al σ) H) (h3 : va_S A s.heap H locs) :
    ∀ U : State, U.heap = H → s.WarmedH U.vm → zPc D tc al av σ (av.map (cV al)).toArray U := fun U hU hW =>
  ⟨rfl, by rw [hU]; exact h2, va_K.moved hW.alike F.2.2.2.2.2.1, by
    rw [hU]
    refine zCt.warm hW hW.alike (fun q hq => ?_) h3.2.1 F.2.2.2.2.2.2.2.2.1
    obtain ⟨b, b1, b2⟩ := hq
    rw [b2]
    exact F.2.2.2.2.2.2.2.1 b b1⟩
theorem z_callB {p : Program} {l : Launch} {e : Env} {R : Room} {s : State} {m : MethodId} {args : Array Value} {below : List Frame} {meth : Method} {c : Code} {cells slots : Nat} {Qf : State → Prop} {D : va_G} {tc : Nat → ClassId} {al : Nat → Nat} {A : Nat → Prop}
    (F : Fx (p, l, e, R, s, m, args, below, meth, c, cells, slots, Qf, D, tc, al, A) cc own nL dd) {M : ZM} {n d idx : Nat} (hM : zMk M n) (L : zML own idx M) (hd : d + 1 ≤ dd) : CallB R s args own idx M.1 M.2.1 M.2.2.1 M.2.2.2 (.code M.1 M.2.1 M.2.2.1 M.2.2.2 :: TB) (zrm d) 0 0 n := by
  obtain ⟨m1, m2, m3, m4, m5, m6, m7⟩ := hM
  have hG : GoodIn TB (.code M.1 M.2.1 M.2.2.1 M.2.2.2 :: TB) := fun w hw => by
    rcases List.mem_cons.mp hw with rfl | hw
    · exact tb_good _ m1
    · exact tb_good _ hw
  refine callB_of n F.2.2.2.2.1 hG rfl rfl rfl (F.2.2.2.2.1 _ m2) (F.2.2.2.2.1 _ L) ⟨m3, m4, m5⟩ ⟨?_, ?_⟩
  · exact Nat.le_trans hd F.2.2.2.2.2.2.2.2.2.1
  · have h1 := F.2.2.2.2.2.2.2.2.2.2.1
    show 8 + (M.2.2.1 + 11) + 48 * d ≤ R.locals
    omega
theorem g_callV {M : ZM} {a ci n0 idx : Nat} {stk : List Value} (n d : Nat) (av : List Value) {σ : zSt} {Qm : Option Value → zSt → Prop} (F : Fx X cc own nL dd) (hdg : decode cc pc = .ok (.invokevirtual idx, 3)) (hn : pc + 3 = nx) (L : zML own idx M) (hM : zMI M n) (hk : zk a = (ci, n0)) (hcl : (zcl[ci]?).map (·.1) = some M.1.cls) (hstk : stk = av.reverse ++ .ref a :: st) (hlen : av.length = n) (hst : (st.map fun v => v.category).sum ≤ 8) (hd : d + 1 ≤ dd)
    (C : Con M d (.ref a :: av) σ Qm) (K : ∀ (r : Option Value) (τ : zSt), Qm r τ → Gs X nx lv (r.toList ++ st) τ) : Gs X pc lv stk σ := by
  subst hn
  subst hstk
  obtain ⟨p, l, e, R, s, m, args, below, meth, c, cells, slots, Qf, D, tc, al, A⟩ := X
  intro H locs ls h1 h2 h3
  have hsum : ((st.map (cV al)).map fun v => v.category).sum ≤ 8 := by
    rw [List.map_map, show ((fun v : Value => v.category) ∘ cV al) = (fun v => v.category) from funext fun v => cV_cat al v]
    exact hst
  obtain ⟨q, hq, hq1⟩ := Option.map_eq_some_iff.mp hcl
  obtain ⟨C0, T0, N0⟩ := q
  have hci : ci < 12 := (List.getElem?_eq_some_iff.mp hq).1
  have ha : a < zn := zk_lt (by rw [hk]; exact Nat.ne_of_lt (Nat.lt_trans hci (by decide)))
  have he := zW_get (tc := tc) (al := al) (σ := σ) ha
  rw [zE_obj hk hci] at he
  refine z_back F.2.2.2.2.2.2.2.1 h1 h3 (va_runV (C := M.1.cls) (As := av.map (cV al)) (b := al a) ⟨F.1, F.2.1, F.2.2.1, F.2.2.2.1, F.2.2.2.2.1⟩ (C l D tc al F.2.2.2.2.2.2.1) ⟨z_callB F hM.1 L hd, F.2.2.2.2.1 _ hM.2.1, F.2.2.2.2.1 _ hM.2.2⟩ ⟨zPc_blind, ?_, ?_⟩ rfl (by rw [List.length_map]; exact hlen) ?_ ?_ (lv_room hsum) hdg ⟨F.2.2.2.2.2.2.2.2.2.2.2.1, F.2.2.2.2.2.2.2.2.2.2.2.2⟩) K
  · have := va_recv F.2.2.2.2.2.1 h2 hq he
    rw [show C0 = M.1.cls from hq1] at this
    exact this
  · exact z_pre (av := .ref a :: av) F h2 h3
  · rw [h1.1]; exact F.2.2.1
  · show List.map (cV al) (av.reverse ++ .ref a :: st) = (av.map (cV al)).reverse ++ .ref (al a) :: st.map (cV al)
    rw [List.map_append, List.map_reverse]
    rfl
theorem g_callS {M : ZM} {idx : Nat} {stk : List Value} (n d : Nat) (av : List Value) {σ : zSt} {Qm : Option Value → zSt → Prop} (F : Fx X cc own nL dd) (hdg : decode cc pc = .ok (.invokestatic idx, 3)) (hn : pc + 3 = nx) (L : zML own idx M) (hM : zMS M n) (hstk : stk = av.reverse ++ st) (hlen : av.length = n) (hst : (st.map fun v => v.category).sum ≤ 8) (hd : d + 1 ≤ dd)
    (C : Con M d av σ Qm) (K : ∀ (r : Option Value) (τ : zSt), Qm r τ → Gs X nx lv (r.toList ++ st) τ) : Gs X pc lv stk σ := by
  subst hn
  subst hstk
  obtain ⟨p, l, e, R, s, m, args, below, meth, c, cells, slots, Qf, D, tc, al, A⟩ := X
  intro H locs ls h1 h2 h3
  have hsum : ((st.map (cV al)).map fun v => v.category).sum ≤ 8 := by
    rw [List.map_map, show ((fun v : Value => v.category) ∘ cV al) = (fun v => v.category) from funext fun v => cV_cat al v]
    exact hst
  refine z_back F.2.2.2.2.2.2.2.1 h1 h3 (va_runS (As := av.map (cV al)) ⟨F.1, F.2.1, F.2.2.1, F.2.2.2.1, F.2.2.2.2.1⟩ (C l D tc al F.2.2.2.2.2.2.1) ⟨z_callB F hM.1 L hd, F.2.2.2.2.1 _ hM.2⟩ ⟨zPc_blind, ?_⟩ rfl (by rw [List.length_map]; exact hlen) ?_ ?_ (lv_room hsum) hdg ⟨F.2.2.2.2.2.2.2.2.2.2.2.1, F.2.2.2.2.2.2.2.2.2.2.2.2⟩) K
  · exact z_pre (av := av) F h2 h3
  · rw [h1.1]; exact F.2.2.1
  · show List.map (cV al) (av.reverse ++ st) = (av.map (cV al)).reverse ++ st.map (cV al)
    rw [List.map_append, List.map_reverse]
end ZC
