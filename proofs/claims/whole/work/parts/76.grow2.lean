section ZGR2
variable {X : NX} {cc : ByteArray} {own : String} {nL ff mc ms pc nx cells slots : Nat} {lv st : List Value} {us : List va_E}
theorem n_alen {j a n t0 : Nat} {cA : ClassId} {ty : FieldType} {x : vp_A} (F : Fn X cc own nL ff mc ms) (hdg : decode cc pc = .ok (.arraylength, 1)) (hn : pc + 1 = nx) (hus : us[j]? = some (.inl (cA, x))) (hx : x.1 = n) (ht : (zty X.2.2.2.2.2.2.2.2.2.2.2.2.1)[t0]? = some (cA, ty)) (ha : a = X.2.2.2.2.2.2.2.2.2.2.2.2.2 + j) (K : Gn X nx lv (.int (nI n) :: st) us cells slots) : Gn X pc lv (.ref a :: st) us cells slots := by
  subst hn
  subst hx
  obtain ⟨p, l, e, R, s, m, args, below, meth, c, Q, D, tc, a0⟩ := X
  intro H locs ls h1 h2 h3
  have ha : a = a0 + j := ha
  subst ha
  exact va_alen F.1 F.2.1 F.2.2.2.2.2.1 h2.P j t0 (wl_at hus) ht rfl hdg (K H locs ls h1 h2 h3)
theorem n_iast {j a n : Nat} {i x : Int32} {f : Nat → Int32} (F : Fn X cc own nL ff mc ms) (hdg : decode cc pc = .ok (.iastore, 1)) (hn : pc + 1 = nx) (hus : us[j]? = some (.inl (X.2.2.2.2.2.2.2.2.2.2.2.2.1 13, n, .inl f))) (ha : a = X.2.2.2.2.2.2.2.2.2.2.2.2.2 + j) (hi : vp_in i n) (K : Gn X nx lv st (us.set j (.inl (X.2.2.2.2.2.2.2.2.2.2.2.2.1 13, n, .inl (upd f i.toNatClampNeg x)))) cells slots) : Gn X pc lv (.int x :: .int i :: .ref a :: st) us cells slots := by
  subst hn
  obtain ⟨p, l, e, R, s, m, args, below, meth, c, Q, D, tc, a0⟩ := X
  intro H locs ls h1 h2 h3
  have ha : a = a0 + j := ha
  subst ha
  have hc := h2.2 j _ hus
  have hc : H[a0 + j]? = some (vp_cell (tc 13) (n, .inl f)) := hc
  rw [vp_cell_i] at hc
  refine W.iast F.1 F.2.1 hc ((F.2.2.2.2.2.1.2 1 _ rfl).1 n _) (fun h => by cases h) (by show ¬ (i < 0 ∨ (arrV _ _ _).slots.size ≤ _); rw [arrV_size]; exact hi) rfl rfl hdg fun H1 e1 e2 e3 => ?_
  refine K H1 _ ls h1 (h2.set hus e2 e3 ?_) (h3.put e2 e3 (show a0 ≤ a0 + j by omega))
  show H1[a0 + j]? = some (vp_cell (tc 13) (n, .inl (upd f i.toNatClampNeg x)))
  rw [e1, vp_cell_i, arrV_store]
  congr 2
  funext q
  by_cases hq : q = i.toNatClampNeg
  · subst hq
    simp [updV, upd]
  · simp [updV, upd, hq]
theorem n_aast {j k a b n : Nat} {i : Int32} {f : Nat → Option Nat} {vs : List Value} (F : Fn X cc own nL ff mc ms) (hdg : decode cc pc = .ok (.aastore, 1)) (hn : pc + 1 = nx) (hus : us[j]? = some (.inl (X.2.2.2.2.2.2.2.2.2.2.2.2.1 14, n, .inr (.inr (.inr (.inr f)))))) (ha : a = X.2.2.2.2.2.2.2.2.2.2.2.2.2 + j) (hub : us[k]? = some (.inr (9, vs))) (hb : b = X.2.2.2.2.2.2.2.2.2.2.2.2.2 + k) (hi : vp_in i n) (K : Gn X nx lv st (us.set j (.inl (X.2.2.2.2.2.2.2.2.2.2.2.2.1 14, n, .inr (.inr (.inr (.inr (va_up f i.toNatClampNeg (some b)))))))) cells slots) : Gn X pc lv (.ref b :: .int i :: .ref a :: st) us cells slots := by
  subst hn
  obtain ⟨p, l, e, R, s, m, args, below, meth, c, Q, D, tc, a0⟩ := X
  intro H locs ls h1 h2 h3
  have ha : a = a0 + j := ha
  subst ha
  have hb : b = a0 + k := hb
  subst hb
  have hlt : i.toNatClampNeg < n := Nat.not_le.mp fun q => hi (Or.inr q)
  have h0 : ¬ i < 0 := fun q => hi (Or.inl q)
  have hc : H[a0 + j]? = some (vp_cell (tc 14) (n, .inr (.inr (.inr (.inr f))))) := h2.2 j _ hus
  rw [vp_cell_q] at hc
  obtain ⟨r', hr', cellV, g1, g2, g3, -⟩ := h2.2 k _ hub
  have hcls := (F.2.2.2.2.2.1.1 9 _ rfl).2
  obtain ⟨kA, comp, k1, k2, k3, -⟩ := (F.2.2.2.2.2.1.2 2 _ rfl).2
  have hcomp : comp = D.1 9 := Option.some.inj (k3.symm.trans hcls.1)
  subst hcomp
  obtain ⟨kC, hkC, hkk⟩ := hcls.2
  refine W.aast F.1 F.2.1 hc (fun q h => by cases h) (fun h => by cases h) k1 k2 rfl hkC ⟨h0, by show _ < (arrV _ _ _).slots.size; rw [arrV_size]; exact hlt⟩ g1 (fun q h => by rw [g3] at h; cases h) (by rw [g2]; exact hkC) (by rw [g2]; exact va_assign hcls) rfl rfl hdg fun H1 e1 e2 e3 => ?_
  refine K H1 _ ls h1 (h2.set hus e2 e3 ?_) (h3.put e2 e3 (show a0 ≤ a0 + j by omega))
  show H1[a0 + j]? = some (vp_cell (tc 14) (n, .inr (.inr (.inr (.inr (va_up f i.toNatClampNeg (some (a0 + k))))))))
  rw [e1, vp_cell_q, arrV_store]
  congr 2
  funext q
  by_cases hq : q = i.toNatClampNeg
  · subst hq
    simp [updV, va_up, va_rf]
  · simp [updV, va_up, hq]
def gridL (t15 t13 : ClassId) (a : Nat) : List va_E := .inl (t15, 10, .inr (.inr (.inr (.inr (fun i => some (a + 1 + i)))))) :: List.replicate 10 (.inl (t13, 10, .inl (fun _ => 0)))
theorem gW.app {D : va_G} {a0 : Nat} {us vs : List va_E} {H H1 : Heap} (h : gW D a0 us H) (h1 : gW D (a0 + us.length) vs H1) (ho : ∀ q, q < a0 + us.length → H1[q]? = H[q]?) : gW D a0 (us ++ vs) H1 := by
  refine ⟨by rw [h1.1, List.length_append]; omega, fun k x hx => ?_⟩
  by_cases hk : k < us.length
  · rw [List.getElem?_append_left hk] at hx
    exact at_kept (h.2 k x hx) (ho _ (by show a0 + k < _; omega))
  · rw [List.getElem?_append_right (by omega)] at hx
    have := h1.2 (k - us.length) x hx
    rw [show a0 + us.length + (k - us.length) = a0 + k by omega] at this
    exact this
theorem mrO_all (c : ClassId) (h0 : Nat) : mrO c h0 10 = arrV c 10 (fun j => .ref (h0 + 1 + j)) := by
  unfold mrO arrV
  congr 2
  funext j
  exact if_pos j.isLt
set_option maxHeartbeats 4000000 in
theorem n_multi {idx : Nat} (F : Fn X cc own nL ff mc ms) (hdg : decode cc pc = .ok (.multianewarray idx 2, 4)) (hn : pc + 4 = nx) (hcl : Cond.classLink own idx "[[I" ∈ TB) (harr : Cond.arrayClass .int ∈ TB) (hcells : cells + 11 ≤ mc) (hslots : slots + 110 ≤ ms)
    (K : ∀ a : Nat, a = X.2.2.2.2.2.2.2.2.2.2.2.2.2 + us.length → Gn X nx lv (.ref a :: st) (us ++ gridL (X.2.2.2.2.2.2.2.2.2.2.2.2.1 15) (X.2.2.2.2.2.2.2.2.2.2.2.2.1 13) a) (cells + 11) (slots + 110)) : Gn X pc lv (.int 10 :: .int 10 :: st) us cells slots := by
  subst hn
  obtain ⟨p, l, e, R, s, m, args, below, meth, c, Q, D, tc, a0⟩ := X
  intro H locs ls h1 h2 h3 T hT X
  have g1 := F.2.2.2.2.2.2.2.2.2.1
  have g2 := F.2.2.2.2.2.2.2.2.2.2.1
  have hcl2 : (Cond.classLink own idx ("[" ++ (FieldType.array .int).toString)).before args s = true := F.2.2.2.2.1 _ hcl
  obtain ⟨vm1, cA, comp, L, hfA, hfC, hL, X1, step⟩ := mr_row X F.1 (own := own) (index := idx) F.2.2.2.1 hcl2 F.2.2.2.2.2.2.2.2.2.2.2.2.2 (F.2.2.2.2.1 _ harr) (g := F0 m pc ls (.int 10 :: .int 10 :: st)) rfl (by rw [F.2.1]; exact hdg) (rest := st) rfl (by show cells + 11 ≤ R.cells; omega) (by show slots + 110 ≤ R.slots; omega)
  have f1 := mrS_size (T.setVm vm1) cA comp 10
  have f2 := mrS_at (T.setVm vm1) cA comp 10
  have f5 := fun (j : Nat) (hj : j < 10) => mrS_row (T.setVm vm1) cA comp j 10 hj
  have f6 := fun (a : Nat) (ha : a < T.heap.size) => mrS_old (T.setVm vm1) cA comp (a := a) ha 10
  have hTs : T.heap.size = a0 + us.length := by rw [hT]; exact h2.1
  have eA : tc 15 = cA := Option.some.inj ((F.2.2.2.2.2.1.2 3 _ rfl).2.symm.trans hfA)
  have eC : tc 13 = comp := Option.some.inj ((F.2.2.2.2.2.1.2 1 _ rfl).2.symm.trans hfC)
  have hk := K T.heap.size hTs (mrS (T.setVm vm1) cA comp 10).heap (locs ++ L) ls h1 ?_ ?_ _ rfl X1
  · obtain ⟨t, b1, b2⟩ := hk
    exact ⟨t, step t b1, b2⟩
  · refine h2.app (H := H) ?_ (fun q hq => ?_)
    · refine ⟨?_, fun k x hx => ?_⟩
      · rw [f1, ← hTs]
        rfl
      · match k, hx with
        | 0, hx =>
          cases hx
          show _ = some (vp_cell (tc 15) (10, .inr (.inr (.inr (.inr (fun i => some (T.heap.size + 1 + i)))))))
          rw [vp_cell_q, eA, ← hTs]
          show (mrS (T.setVm vm1) cA comp 10).heap[(T.setVm vm1).heap.size + 0]? = _
          rw [Nat.add_zero, f2, mrO_all]
          rfl
        | k + 1, hx =>
          have hx : (List.replicate 10 (.inl (tc 13, 10, .inl (fun _ => 0))) : List va_E)[k]? = some x := hx
          have hk10 : k < 10 := by
            have := (List.getElem?_eq_some_iff.mp hx).1
            rw [List.length_replicate] at this
            exact this
          have ex : x = .inl (tc 13, 10, .inl (fun _ => 0)) := List.eq_of_mem_replicate (List.mem_of_getElem? hx)
          subst ex
          show _ = some (vp_cell (tc 13) (10, .inl (fun _ => 0)))
          rw [vp_cell_i, eC, ← hTs]
          show (mrS (T.setVm vm1) cA comp 10).heap[(T.setVm vm1).heap.size + (k + 1)]? = _
          rw [show (T.setVm vm1).heap.size + (k + 1) = (T.setVm vm1).heap.size + 1 + k by omega, f5 k hk10]
          rfl
    · rw [f6 q (by omega)]
      show T.heap[q]? = _
      rw [hT]
  · refine ⟨?_, fun q q1 q2 => ?_, fun q hq => ?_⟩
    · rw [f1]
      have : s.heap.size ≤ T.heap.size := by rw [hT]; exact h3.1
      show _ ≤ T.heap.size + 1 + 10
      omega
    · have hq : q < T.heap.size := by rw [hT]; exact Nat.lt_of_lt_of_le q1 h3.1
      rw [f6 q hq]
      show T.heap[q]? = _
      rw [hT]
      exact h3.2.1 q q1 q2
    · rcases List.mem_append.mp hq with q1 | q1
      · exact h3.2.2 q q1
      · show a0 ≤ q.base
        rw [hL q q1]
        omega
end ZGR2
/-! CONTRACTS of constructors -/
def zPn (D : va_G) (tc : Nat → ClassId) (a0 : Nat) (av : List Value) (us : List va_E) : Array Value → State → Prop := va_Pc av (fun U => gW D a0 us U.heap ∧ va_K D zcl (zty tc) U ∧ zX U)
def zQn (D : va_G) (a0 : Nat) (vs : List va_E) : Array Value → State → Outcome → State → Prop := fun _ st oc t => oc = .returned none ∧ gW D a0 vs t.heap ∧ ∀ q, q < a0 → t.heap[q]? = st.heap[q]?
def nrm (d mc ms : Nat) : Room := { frames := d, cells := mc, slots := ms, locals := 48 * d }
/-- a constructor, or a method that answers nothing: the world us becomes vs -/
def Cn (M : ZM) (d mc ms : Nat) (av : Nat → List Value) (us vs : (Nat → ClassId) → Nat → List va_E) : Prop := ∀ (l : Launch) (D : va_G) (tc : Nat → ClassId) (a0 : Nat), Met l M.1 (.code M.1 M.2.1 M.2.2.1 M.2.2.2 :: TB) (nrm d mc ms) (zPn D tc a0 (av a0) (us tc a0)) (zQn D a0 (vs tc a0)) mc ms (fun q => a0 ≤ q)
def En (X : NX) (mc ms : Nat) (vs : List va_E) : Prop := match X with
  | (_, _, _, _, s, _, args, below, meth, _, Q, D, _, a0) => Q = MQ below (zQn D a0 vs) args s mc ms (fun q => a0 ≤ q) ∧ meth.sig.returnType = none ∧ meth.locks = false
theorem zPn_blind {D : va_G} {tc : Nat → ClassId} {a0 : Nat} {av : List Value} {us : List va_E} : FrameBlind (zPn D tc a0 av us) := by
  intro a U g mk q
  obtain ⟨q0, qP, qK, qC⟩ := q
  exact ⟨q0, qP, va_K.moved (u := U) (U := U.calling g mk a) (Vm.Alike.refl U.vm) qK, zX.same (u := U) (U := U.calling g mk a) rfl (Vm.Alike.refl U.vm) qC⟩
theorem Cn.of {M : ZM} {n d mc ms : Nat} {av lv : Nat → List Value} {us vs : (Nat → ClassId) → Nat → List va_E} (hM : zMk M n) (hret : M.2.2.2 = none) (hc : ∀ a0, (av a0).all (fun v => v.category == 1) = true) (hlen : ∀ a0, (av a0).length ≤ M.2.2.1) (hlv : ∀ a0, av a0 ++ List.replicate (M.2.2.1 - (av a0).length) (.long 0) = lv a0) 
    (body : ∀ (p : Program) (l : Launch) (e : Env) (R : Room) (s : State) (m : MethodId) (args : Array Value) (below : List Frame) (meth : Method) (c : Code) (Q : State → Prop) (D : va_G) (tc : Nat → ClassId) (a0 : Nat), meth.name = M.1.name → Fn (p, l, e, R, s, m, args, below, meth, c, Q, D, tc, a0) M.2.1 M.1.cls M.2.2.1 d mc ms → En (p, l, e, R, s, m, args, below, meth, c, Q, D, tc, a0) mc ms (vs tc a0) → Gn (p, l, e, R, s, m, args, below, meth, c, Q, D, tc, a0) 0 (lv a0) [] (us tc a0) 0 0) : Cn M d mc ms av us vs := by
  intro l D tc a0
  refine Met.ofW (cc := M.2.1) (maxL := M.2.2.1) (ret := M.2.2.2) hM.2.2.2.2.2.1 rfl ?_
  intro p e s m args below meth c s₁ B hml hv
  obtain ⟨rfl, hP, hK, hX⟩ := hv
  have hts := atoms_spec (ws := .code M.1 M.2.1 M.2.2.1 M.2.2.2 :: TB) B.pre
  have hown : s.vm.findClass M.1.cls = some m.cls := findClass_of_methodNamed B.named
  have hin : meth.name = M.1.name := (name_of_methodNamed B.named B.method).1
  have hcat : ∀ v ∈ av a0, v.category = 1 := fun v h => by simpa using List.all_eq_true.mp (hc a0) v h
  have hsl : ∀ vs : List Value, (∀ v ∈ vs, v.category = 1) → lg_sl vs = vs.map Slot.val := by
    intro vs
    induction vs with
    | nil => intro _; rfl
    | cons v vs ih =>
      intro h
      have h1 := h v List.mem_cons_self
      have h2 := ih (fun w hw => h w (List.mem_cons_of_mem _ hw))
      show (if v.category = 2 then [Slot.val v, .second] else [.val v]) ++ lg_sl vs = _
      rw [h2, h1]
      rfl
  have hl := lv_entry (av a0) (n := M.2.2.1) (by rw [hsl _ hcat, List.length_map]; exact hlen a0)
  rw [lg_entry_eq]
  generalize hls : (lg_sl (av a0) ++ List.replicate (M.2.2.1 - (lg_sl (av a0)).length) Slot.unset).toArray = ls at hl ⊢
  have hl2 : lv_has ls M.2.2.1 (zlp id (lv a0)) := by
    refine ⟨hl.1, hl.2.1, fun q hq => ?_⟩
    obtain ⟨w, h1, h2, h3⟩ := zlp_of hq
    rw [← hlv] at h1
    have hlt : q.1 < (av a0).length := by
      rcases Nat.lt_or_ge q.1 (av a0).length with g | g
      · exact g
      · rw [List.getElem?_append_right g] at h1
        have := List.eq_of_mem_replicate (List.mem_of_getElem? h1)
        rw [this] at h2
        cases h2
    rw [List.getElem?_append_left hlt] at h1
    rw [← hls, hsl _ hcat, h3, cV_id, List.getElem?_toArray, List.getElem?_append_left (by rw [List.length_map]; exact hlt), List.getElem?_map, h1]
    rfl
  refine body p l e (headSpec (.code M.1 M.2.1 M.2.2.1 M.2.2.2 :: TB) (nrm d mc ms)).room s m (av a0).toArray below meth c _ D tc a0 hin ?_ ⟨rfl, by rw [B.returns]; exact hret, B.notSynchronized⟩ s.heap [] ls (by rw [hml]; exact hl2) hP va_S.rf
  exact ⟨B.exec, B.bytes, hml, hown, fun w hw => hts w (List.mem_cons_of_mem _ hw), hK, by have := hP.1; omega, Nat.le_refl _, Nat.le_refl _, Nat.le_refl _, Nat.le_refl _, hX⟩
section ZGR3
variable {X : NX} {cc : ByteArray} {own : String} {nL ff mc ms pc nx cells slots : Nat} {lv st : List Value} {us : List va_E}
theorem n_vret {vs : List va_E} (F : Fn X cc own nL ff mc ms) (E : En X mc ms vs) (hdg : decode cc pc = .ok (.return_, 1)) (hus : us = vs) (hcs : cells = mc) (hss : slots = ms) : Gn X pc lv [] us cells slots := by
  subst hus
  subst hcs
  subst hss
  obtain ⟨p, l, e, R, s, m, args, below, meth, c, Q, D, tc, a0⟩ := X
  obtain ⟨rfl, hr, hlocks⟩ := E
  intro H locs ls h1 h2 h3
  exact W.vret F.1 F.2.1 hr (fun t ht hW => ⟨rfl, by rw [ht]; exact h2, fun q hq => by rw [ht]; exact h3.2.1 q (by have := F.2.2.2.2.2.2.1; omega) (by omega)⟩) h3.2.2 hdg (hlocks := hlocks)
theorem n_back {p : Program} {l : Launch} {e : Env} {R : Room} {s : State} {m : MethodId} {args : Array Value} {below : List Frame} {meth : Method} {c : Code} {Q : State → Prop} {D : va_G} {tc : Nat → ClassId} {a0 a mc1 ms1 : Nat} {us1 vs : List va_E} (ha : a0 ≤ a) (haH : ∀ H : Heap, gW D a0 us H → a ≤ H.size)
    {H : Heap} {locs : List Loc} {ls : Array Slot} {ar : Array Value} {st0 : List Value} (h1 : lv_has ls c.maxLocals (zlp id lv)) (h2 : gW D a0 us H) (h3 : va_S (fun q => a0 ≤ q) s.heap H locs) (hj : ∀ H1 : Heap, gW D a vs H1 → (∀ q, q < a → H1[q]? = H[q]?) → gW D a0 us1 H1)
    (hr : va_Run p l e R s m args below meth c H locs cells slots mc1 ms1 (F0 m pc ls st0) st (zQn D a vs ar) (fun q => a ≤ q)) (hz : s.heap.size ≤ a ∨ a0 ≤ s.heap.size) (hmon : ∀ H1 : Heap, gW D a0 us1 H1 → H.size ≤ H1.size)
    (K : Gn (p, l, e, R, s, m, args, below, meth, c, Q, D, tc, a0) (pc + 3) lv st us1 (cells + mc1) (slots + ms1)) : W p l e R s m args below meth c H locs cells slots Q (F0 m pc ls st0) := by
  intro T hT X
  obtain ⟨v, st₀, t, T', L, g0, X', hL, e1, e2, ⟨hv, hg, hk⟩, stp⟩ := hr T hT X
  cases hv
  rw [g0] at hk
  have hg1 : gW D a0 us1 T'.heap := hj T'.heap (by rw [e1]; exact hg) (fun q hq => by rw [e1]; exact hk q hq)
  have hS : va_S (fun q => a0 ≤ q) s.heap T'.heap (locs ++ L) := by
    refine ⟨Nat.le_trans h3.1 (hmon _ hg1), fun q q1 q2 => ?_, fun q hq => ?_⟩
    · have hqa : q < a := by have q2 : ¬ a0 ≤ q := q2; omega
      rw [e1, hk q hqa]
      exact h3.2.1 q q1 q2
    · rcases List.mem_append.mp hq with h | h
      · exact h3.2.2 q h
      · exact Nat.le_trans ha (hL q h)
  obtain ⟨t2, a1, b1⟩ := K T'.heap (locs ++ L) ls h1 hg1 hS T' rfl X'
  exact ⟨t2, stp t2 a1, b1⟩
theorem n_callI {M : ZM} {idx ci a : Nat} {fs0 : List Value} {us0 : List va_E} {av : Nat → List Value} {vs : (Nat → ClassId) → Nat → List va_E} (n d mc1 ms1 : Nat) (As : List Value) (F : Fn X cc own nL ff mc ms) (hdg : decode cc pc = .ok (.invokespecial idx, 3)) (hn : pc + 3 = nx) (L : Cond.methodLink own idx M.1 ∈ TB ∨ (own, idx, M.1) ∈ znl) (hM : zMk M n) (hin : Cond.instanceMethod M.1 ∈ TB) (hname : M.1.name = "<init>") (hret : M.2.2.2 = none) (hlen : As.length = n) (hav : av a = .ref a :: As) (hus : us = us0 ++ [.inr (ci, fs0)]) (ha : a = X.2.2.2.2.2.2.2.2.2.2.2.2.2 + us0.length) (hst : (st.map fun v => v.category).sum ≤ 8) (hd : d + 1 ≤ ff) (hcells : cells + mc1 ≤ mc) (hslots : slots + ms1 ≤ ms)
    (C : Cn M d mc1 ms1 av (fun _ _ => [.inr (ci, fs0)]) vs) (hvs : ∀ tc, 0 < (vs tc a).length) (stk : List Value) (hstk : stk = As.reverse ++ .ref a :: st) (K : Gn X nx lv st (us0 ++ vs X.2.2.2.2.2.2.2.2.2.2.2.2.1 a) (cells + mc1) (slots + ms1)) : Gn X pc lv stk us cells slots := by
  subst hn
  subst hus
  subst hstk
  obtain ⟨p, l, e, R, s, m, args, below, meth, c, Q, D, tc, a0⟩ := X
  intro H locs ls h1 h2 h3
  have ha : a = a0 + us0.length := ha
  have g1 := F.2.2.2.2.2.2.2.1
  have g2 := F.2.2.2.2.2.2.2.2.1
  have g3 := F.2.2.2.2.2.2.2.2.2.1
  have g4 := F.2.2.2.2.2.2.2.2.2.2.1
  have hsz := h2.1
  rw [List.length_append, List.length_singleton] at hsz
  have hone : gW D a [.inr (ci, fs0)] H := by
    refine ⟨by rw [hsz, ha]; rfl, fun k x hx => ?_⟩
    have hz : k < 1 := (List.getElem?_eq_some_iff.mp hx).1
    rw [show k = 0 by omega] at hx ⊢
    cases hx
    have := h2.2 us0.length (.inr (ci, fs0)) (by rw [List.getElem?_append_right (Nat.le_refl _), Nat.sub_self]; rfl)
    rw [ha]
    exact this
  have hC := C l D tc a
  rw [hav] at hC
  obtain ⟨m1, m2, m3, m4, m5, m6, m7⟩ := hM
  have hG : GoodIn TB (.code M.1 M.2.1 M.2.2.1 M.2.2.2 :: TB) := fun w hw => by
    rcases List.mem_cons.mp hw with rfl | hw
    · exact tb_good _ m1
    · exact tb_good _ hw
  rw [hret] at hC hG
  have hpre : PreS s H (zPn D tc a (.ref a :: As) [.inr (ci, fs0)]) (.ref a :: As) := ⟨zPn_blind, fun U hU hW => ⟨rfl, by rw [hU]; exact hone, va_K.moved hW.alike F.2.2.2.2.2.1, zX.warm hW F.2.2.2.2.2.2.2.2.2.2.2⟩⟩
  have hrun : va_Run p l e R s m args below meth c H locs cells slots mc1 ms1 (F0 m pc ls (As.reverse ++ .ref a :: st)) st (zQn D a (vs tc a) (Value.ref a :: As).toArray) (fun q => a ≤ q) := by
    rcases L with L | L
    · exact va_runI (b := a) ⟨F.1, F.2.1, F.2.2.1, F.2.2.2.1, F.2.2.2.2.1⟩ hC (cwI n F.2.2.2.2.1 hG rfl rfl rfl (F.2.2.2.2.1 _ m2) (F.2.2.2.2.1 _ L) (F.2.2.2.2.1 _ hin) hname ⟨m3, m4, m5⟩ ⟨Nat.le_trans hd g1, by show 8 + (M.2.2.1 + 11) + 48 * d ≤ R.locals; omega⟩) hpre rfl hlen (by rw [h1.1]; exact F.2.2.1) rfl (lv_room hst) hdg ⟨by omega, by omega⟩
    · exact va_runIN (b := a) ⟨F.1, F.2.1, F.2.2.1, F.2.2.2.1, F.2.2.2.2.1⟩ hC ⟨va_cnB n F.2.2.2.2.1 hG rfl rfl rfl (F.2.2.2.2.2.2.2.2.2.2.2.1 _ L) (F.2.2.2.2.1 _ m2) ⟨m3, m4, m5⟩ ⟨Nat.le_trans hd g1, by show 8 + (M.2.2.1 + 11) + 48 * d ≤ R.locals; omega⟩, hname, F.2.2.2.2.1 _ hin⟩ hpre rfl hlen (by rw [h1.1]; exact F.2.2.1) rfl (lv_room hst) hdg ⟨by omega, by omega⟩
  have hv0 := hvs tc
  refine n_back (a := a) (us1 := us0 ++ vs tc a) (by omega) (fun H h => by have := h.1; rw [List.length_append] at this; omega) h1 h2 h3 (fun H1 hg ho => ?_) hrun (Or.inr F.2.2.2.2.2.2.1) (fun H1 hg => ?_) K
  · rw [ha] at hg ho
    have := h2.join hg ho
    rw [← ha] at this
    exact this
  · have := hg.1
    rw [List.length_append] at this
    omega
theorem n_callS {M : ZM} {idx : Nat} {av : Nat → List Value} {usF vs : (Nat → ClassId) → Nat → List va_E} (n d : Nat) (As : List Value) (F : Fn X cc own nL ff mc ms) (hdg : decode cc pc = .ok (.invokestatic idx, 3)) (hn : pc + 3 = nx) (L : zML own idx M) (hM : zMS M n) (hlen : As.length = n) (hav : av X.2.2.2.2.2.2.2.2.2.2.2.2.2 = As) (hus : us = usF X.2.2.2.2.2.2.2.2.2.2.2.2.1 X.2.2.2.2.2.2.2.2.2.2.2.2.2) (hl2 : ∀ tc a0, (vs tc a0).length = (usF tc a0).length) (hst : (st.map fun v => v.category).sum ≤ 8) (hd : d + 1 ≤ ff) (hcells : cells ≤ mc) (hslots : slots ≤ ms)
    (C : Cn M d 0 0 av usF vs) (stk : List Value) (hstk : stk = As.reverse ++ st) (K : Gn X nx lv st (vs X.2.2.2.2.2.2.2.2.2.2.2.2.1 X.2.2.2.2.2.2.2.2.2.2.2.2.2) cells slots) : Gn X pc lv stk us cells slots := by
  subst hn
  subst hus
  subst hstk
  obtain ⟨p, l, e, R, s, m, args, below, meth, c, Q, D, tc, a0⟩ := X
  intro H locs ls h1 h2 h3
  have g1 := F.2.2.2.2.2.2.2.1
  have g2 := F.2.2.2.2.2.2.2.2.1
  have g3 := F.2.2.2.2.2.2.2.2.2.1
  have g4 := F.2.2.2.2.2.2.2.2.2.2.1
  have hC := C l D tc a0
  have hav : av a0 = As := hav
  rw [hav] at hC
  obtain ⟨⟨m1, m2, m3, m4, m5, m6, m7⟩, m8⟩ := hM
  have hG : GoodIn TB (.code M.1 M.2.1 M.2.2.1 M.2.2.2 :: TB) := fun w hw => by
    rcases List.mem_cons.mp hw with rfl | hw
    · exact tb_good _ m1
    · exact tb_good _ hw
  have hpre : PreS s H (zPn D tc a0 As (usF tc a0)) As := ⟨zPn_blind, fun U hU hW => ⟨rfl, by rw [hU]; exact h2, va_K.moved hW.alike F.2.2.2.2.2.1, zX.warm hW F.2.2.2.2.2.2.2.2.2.2.2⟩⟩
  have hrun : va_Run p l e R s m args below meth c H locs cells slots 0 0 (F0 m pc ls (As.reverse ++ st)) st (zQn D a0 (vs tc a0) As.toArray) (fun q => a0 ≤ q) := va_runS ⟨F.1, F.2.1, F.2.2.1, F.2.2.2.1, F.2.2.2.2.1⟩ hC ⟨callB_of n F.2.2.2.2.1 hG rfl rfl rfl (F.2.2.2.2.1 _ m2) (F.2.2.2.2.1 _ L) ⟨m3, m4, m5⟩ ⟨Nat.le_trans hd g1, by show 8 + (M.2.2.1 + 11) + 48 * d ≤ R.locals; omega⟩, F.2.2.2.2.1 _ m8⟩ hpre rfl hlen (by rw [h1.1]; exact F.2.2.1) rfl (lv_room hst) hdg ⟨by omega, by omega⟩
  refine n_back (a := a0) (us1 := vs tc a0) (Nat.le_refl _) (fun H h => by have := h.1; omega) h1 h2 h3 (fun H1 hg _ => hg) hrun (Or.inr F.2.2.2.2.2.2.1) (fun H1 hg => ?_) K
  have e1 := hg.1
  have e2 : H.size = a0 + (usF tc a0).length := h2.1
  have e3 := hl2 tc a0
  omega
end ZGR3
