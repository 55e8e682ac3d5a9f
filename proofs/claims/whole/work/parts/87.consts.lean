/-! WHAT THE STATEMENT GIVES OF THE START: classes, arrays, links of the nest, String constants -/
theorem st_K {s : State} {args : Array Value} (hts : ∀ w ∈ lw_tbl, w.before args s = true) : ∃ (D : va_G) (tc : Nat → ClassId), va_K D zcl (zty tc) s := by
  have hTB : ∀ w ∈ TB, w.before args s = true := fun w hw => hts w (List.mem_filter.mp hw).1
  have hi : ∀ q ∈ zcl.map (fun q => (q.1, q.2.2)), Cond.instantiable q.1 q.2 ∈ lw_tbl := by decide +kernel
  have hk : ∀ (c : Nat) (q : vw_C), zcl[c]? = some q → ∃ (cC : ClassId) (iS : Nat → Nat), u_Kn s q.1 q.2.1 q.2.2 cC iS := fun c q hq =>
    u_known (n := q.2.2) hTB (zin hq) (hts _ (hi (q.1, q.2.2) (List.mem_map.mpr ⟨q, List.mem_of_getElem? hq, rfl⟩)))
  obtain ⟨c0, i0, -⟩ := hk 0 _ rfl
  have h0 : ∀ c : Nat, ∃ z : ClassId × (Nat → Nat), ∀ q : vw_C, zcl[c]? = some q → u_Kn s q.1 q.2.1 q.2.2 z.1 z.2 := fun c => by
    cases hq : zcl[c]? with
    | none => exact ⟨(c0, i0), fun q h => by cases h⟩
    | some q =>
      obtain ⟨cC, iS, h⟩ := hk c q hq
      exact ⟨(cC, iS), fun q' h' => by cases h'; exact h⟩
  obtain ⟨f, hf⟩ := Classical.axiomOfChoice h0
  obtain ⟨c12, k12, o12, a1, a2, a3⟩ := Cond.arrayClass_spec (show (Cond.arrayClass .byte).before args s = true from hts _ (by decide +kernel))
  obtain ⟨c13, k13, o13, b1, b2, b3⟩ := Cond.arrayClass_spec (show (Cond.arrayClass .int).before args s = true from hts _ (by decide +kernel))
  obtain ⟨o14, c14, k14, d1, d2, d3, d4, d5⟩ := Cond.arrayOver_spec (show (Cond.arrayOver (.object "StampRoad$Text")).before args s = true from hts _ (by decide +kernel))
  obtain ⟨o15, c15, k15, e1, e2, e3, e4⟩ := mr_over (show (Cond.arrayOver (.array .int)).before args s = true from hts _ (by decide +kernel))
  refine ⟨(fun c => (f c).1, fun c => (f c).2), fun k => if k = 12 then c12 else if k = 13 then c13 else if k = 14 then c14 else c15, fun c q hq => hf c q hq, fun k q hq => ?_⟩
  match k, hq with
  | 0, hq => cases hq; exact ⟨fun n z => ⟨fun k h => (by cases h), k12, a2, o12, a3⟩, a1⟩
  | 1, hq => cases hq; exact ⟨fun n z => ⟨fun k h => (by cases h), k13, b2, o13, b3⟩, b1⟩
  | 2, hq => cases hq; exact ⟨fun n z => ⟨fun k h => (by cases h), k14, d3, o14, d4⟩, k14, o14, d3, d4, d1, d5⟩
  | 3, hq => cases hq; exact ⟨fun n z => ⟨fun k h => (by cases h), k15, e2, o15, e3⟩, e4⟩
  | k + 4, hq => cases hq
theorem st_X {s : State} {args : Array Value} (hts : ∀ w ∈ lw_tbl, w.before args s = true) : zX s := by
  have h : ∀ q ∈ znl, Cond.methodLinkNest q.1 q.2.1 q.2.2 "StampRoad" ∈ lw_tbl := by decide +kernel
  exact ⟨fun q hq => va_Nw.of rfl (hts _ (h q hq)), hts (.arrayOver (.object "StampRoad$Text")) (by decide +kernel), hts (.arrayOver (.array .int)) (by decide +kernel)⟩
def tmS (i : Nat) : Term := match zsn[i]? with
  | some q => .string q.1 q.2.1
  | none => .int 0
abbrev fl1 : List Cond := flatC (Jvm.Cond.and given_1 narrow_1)
theorem st_C {s : State} {args : Array Value} (hts : ∀ w ∈ lw_tbl, w.before args s = true) (hgv : (Jvm.Cond.and given_1 narrow_1).before args s = true) : ∃ (aK aV : Nat → Nat) (t : Nat), ∀ al : Nat → Nat, (∀ k, k < 6 → al (1000 + k) = aK k ∧ al (2000 + k) = aV k) → al 3000 = t → zCt al (fun q => s.heap.size ≤ q) s s.heap := by
  have hs := flat_of_before _ hgv
  have hA : ∀ a : Nat, a < s.heap.size → ¬ (fun q : Nat => s.heap.size ≤ q) a := fun a h => Nat.not_le.mpr h
  have w1 : ∀ i, i < 6 → zsl.getD i 0 < 2 ^ 31 := by decide +kernel
  have w2 : ∀ i, i < 6 → Cond.exactly (tmS i) "java/lang/String" ∈ fl1 := by decide +kernel
  have w3 : ∀ i, i < 6 → Cond.eq (.field (tmS i) "java/lang/String" "coder" "B") (.int 0) ∈ fl1 := by decide +kernel
  have w4 : ∀ i, i < 6 → Cond.arrayOf (.field (tmS i) "java/lang/String" "value" "[B") .byte ∈ fl1 := by decide +kernel
  have w5 : ∀ i, i < 6 → Cond.eq (.length (.field (tmS i) "java/lang/String" "value" "[B")) (.int (Int32.ofNat (zsl.getD i 0))) ∈ fl1 := by decide +kernel
  have w6 : ∀ i, i < 6 → ∀ j, j < zsl.getD i 0 → Cond.eq (.elem (.field (tmS i) "java/lang/String" "value" "[B") (.int (Int32.ofNat j))) (.int ((zsb.getD i []).getD j 0)) ∈ fl1 := by decide +kernel
  have w7 : ∀ i, i < 6 → ∀ j, j < 6 → i ≠ j → Cond.not (Cond.eq (tmS i) (tmS j)) ∈ fl1 ∨ Cond.not (Cond.eq (tmS j) (tmS i)) ∈ fl1 := by decide +kernel
  obtain ⟨aK, aV, hS, hE⟩ := vk_Sof (args := args) (s := s) (N := 6) (tm := tmS) (len := zsl) (byt := zsb) (A := fun q => s.heap.size ≤ q) w1 (fun i hi => hs _ (w2 i hi)) (fun i hi => hs _ (w3 i hi)) (fun i hi => hs _ (w4 i hi)) (fun i hi => hs _ (w5 i hi)) (fun i hi j hj => hs _ (w6 i hi j hj)) (fun i j hi hj h => (w7 i hi j hj h).imp (fun z => hs _ z) (fun z => hs _ z)) hA
  have hC : va_Z "java/lang/String" "COMPACT_STRINGS" "Z" (.int 1) (fun q => s.heap.size ≤ q) s s.heap := va_Zof (hts _ (by decide +kernel)) (hts _ (by decide +kernel)) (va_eqt (hs (.eq (.static "java/lang/String" "COMPACT_STRINGS" "Z") (.int 1)) (by decide +kernel))) hA
  have hF : va_Zq "jdk/internal/util/Preconditions" "SIOOBE_FORMATTER" "Ljava/util/function/BiFunction;" (fun q => s.heap.size ≤ q) s s.heap := va_Zqof (hts _ (by decide +kernel)) (hts _ (by decide +kernel)) (hs (.isRef (.static "jdk/internal/util/Preconditions" "SIOOBE_FORMATTER" "Ljava/util/function/BiFunction;")) (by decide +kernel)) hA
  have hR : ∀ k, k < 6 → ∀ q, zsn[k]? = some q → vk_R q.1 q.2.1 q.2.2 (aK k) s := fun k hk q hq => by
    have w8 : ∀ q ∈ zsn, Cond.stringRef q.1 q.2.1 q.2.2 ∈ lw_tbl := by decide +kernel
    have h := hE k hk
    have e : tmS k = .string q.1 q.2.1 := by
      unfold tmS
      rw [hq]
    rw [e] at h
    exact vk_R.of (A := args) (hts _ (w8 q (List.mem_of_getElem? hq))) h
  have key : ∀ t : Nat, (va_Z "jdk/internal/util/Preconditions" "SIOOBE_FORMATTER" "Ljava/util/function/BiFunction;" .null (fun q => s.heap.size ≤ q) s s.heap ∨ va_Z "jdk/internal/util/Preconditions" "SIOOBE_FORMATTER" "Ljava/util/function/BiFunction;" (.ref t) (fun q => s.heap.size ≤ q) s s.heap) → ∀ al : Nat → Nat, (∀ k, k < 6 → al (1000 + k) = aK k ∧ al (2000 + k) = aV k) → al 3000 = t → zCt al (fun q => s.heap.size ≤ q) s s.heap := fun t ht al h1 h2 => by
    refine ⟨⟨fun i hi => ?_, fun i j hi hj e => ?_⟩, fun k hk q hq => ?_, hC, by rw [h2]; exact ht⟩
    · show va_O "java/lang/String" (al (1000 + i)) _ s s.heap ∧ va_OF "java/lang/String" "coder" "B" (.int 0) (al (1000 + i)) _ s s.heap ∧ va_OF "java/lang/String" "value" "[B" (.ref (al (2000 + i))) (al (1000 + i)) _ s s.heap ∧ va_T .byte (al (2000 + i)) _ _ _ s s.heap
      rw [(h1 i hi).1, (h1 i hi).2]
      exact hS.1 i hi
    · have e : al (1000 + i) = al (1000 + j) := e
      rw [(h1 i hi).1, (h1 j hj).1] at e
      exact hS.2 i j hi hj e
    · rw [(h1 k hk).1]
      exact hR k hk q hq
  rcases hF with h | ⟨t, h⟩
  · exact ⟨aK, aV, 0, key 0 (Or.inl h)⟩
  · exact ⟨aK, aV, t, key t (Or.inr h)⟩
