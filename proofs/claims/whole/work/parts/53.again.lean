/-! PLAYED AGAIN: two states that agree where it matters, for the first n FILES -/
def coE (n : Nat) (P Q : zSt) : Prop := (∀ i, i < 3 → ∀ j, j < n → P i j = Q i j) ∧ ∀ k, k < 3 → P 8 k = Q 8 k
theorem coE_zu {n a k : Nat} {P Q : zSt} {v w : Int32} (h : coE n P Q) (e : v = w) : coE n (zu P a k v) (zu Q a k w) := by
  subst e
  refine ⟨fun i hi j hj => ?_, fun q hq => ?_⟩
  · by_cases e : i = a
    · subst e
      rw [zu_at, zu_at]
      unfold upd
      split
      · rfl
      · exact h.1 i hi j hj
    · rw [zu_ne _ e, zu_ne _ e]
      exact h.1 i hi j hj
  · by_cases e : 8 = a
    · subst e
      rw [zu_at, zu_at]
      unfold upd
      split
      · rfl
      · exact h.2 q hq
    · rw [zu_ne _ e, zu_ne _ e]
      exact h.2 q hq
theorem coE_off {n a k : Nat} {P Q : zSt} (v w : Int32) (h3 : 3 ≤ a) (h8 : a ≠ 8) (h : coE n P Q) : coE n (zu P a k v) (zu Q a k w) := by
  refine ⟨fun i hi j hj => ?_, fun q hq => ?_⟩
  · rw [zu_ne _ (by omega), zu_ne _ (by omega)]
    exact h.1 i hi j hj
  · rw [zu_ne _ (by omega), zu_ne _ (by omega)]
    exact h.2 q hq
theorem cnt_congr {f g : Nat → Int32} {v : Int32} : ∀ {n : Nat}, (∀ j, j < n → f j = g j) → cntN f v n = cntN g v n
  | 0, _ => rfl
  | n + 1, h => by rw [cntN, cntN, cnt_congr (fun j hj => h j (by omega)), h n (by omega)]
theorem coE_fc {n j : Nat} {D P Q : zSt} {o y x : Int32} (h : coE n P Q) (hj : j < n) (i : Nat) : fcP D P n o y i j x = fcP D Q n o y i j x := by
  unfold fcP
  rw [h.1 0 (by decide) j hj, h.1 1 (by decide) j hj, h.1 2 (by decide) j hj, cnt_congr (h.1 0 (by decide))]
theorem coE_pr {T : Nat → TXT} {n j : Nat} {D P Q : zSt} {o y : Int32} (h : coE n P Q) (hj : j < n) (i : Nat) : prP T D P n o y i j = prP T D Q n o y i j := by
  unfold prP
  rw [coE_fc h hj]
theorem coE_wt {T : Nat → TXT} {n j : Nat} {D P Q : zSt} {o y : Int32} (h : coE n P Q) (hj : j < n) (i : Nat) : wtP T D P n o y i j = wtP T D Q n o y i j := by
  unfold wtP
  rw [coE_fc h hj]
theorem coE_lw {T : Nat → TXT} {n j : Nat} {D P Q : zSt} {o y : Int32} (h : coE n P Q) (hj : j < n) (i : Nat) (x : Int32) (q : Nat) : lwP T D P n o y i j x q = lwP T D Q n o y i j x q := by
  unfold lwP
  rw [coE_fc h hj]
theorem coE_st {n j : Nat} {P Q : zSt} (h : coE n P Q) (hj : j < n) : stN P j = stN Q j := by
  unfold stN
  rw [h.1 0 (by decide) j hj]
theorem coE_srvI {T : Nat → TXT} {n j : Nat} {D P Q : zSt} {o y : Int32} (h : coE n P Q) (hj : j < n) : srvI T D n o y P j = srvI T D n o y Q j := by
  unfold srvI cwN
  rw [coE_st h hj, h.2 0 (by decide), show (fun i => prP T D P n o y i j) = (fun i => prP T D Q n o y i j) from funext (coE_pr h hj), show (fun i => wtP T D P n o y i j) = (fun i => wtP T D Q n o y i j) from funext (coE_wt h hj)]
theorem coE_srvQ {n j : Nat} {D P Q : zSt} (h : coE n P Q) (hj : j < n) : coE n (srvQ D P j) (srvQ D Q j) := by
  unfold srvQ
  rw [coE_st h hj, h.2 0 (by decide)]
  split
  · exact coE_zu h rfl
  · exact h
theorem coE_give {n i j : Nat} {P Q : zSt} {p g k b : Int32} (h : coE n P Q) (hj : j < n) : coE n (giveP P i j p g k b) (giveP Q i j p g k b) := by
  have e1 := h.1 1 (by decide) j hj
  have hq : coE n (giveQ P i j p) (giveQ Q i j p) := by
    unfold giveQ
    exact coE_zu (coE_off _ _ (by decide) (by decide) (coE_off _ _ (by decide) (by decide) (coE_zu (coE_off _ _ (by decide) (by decide) (coE_zu h (by rw [e1]))) (by rw [h.2 2 (by decide)])))) (by rw [h.2 1 (by decide)])
  unfold giveP
  split
  · exact coE_off _ _ (by decide) (by decide) (coE_zu (coE_off _ _ (by decide) (by decide) hq) (by rw [e1]))
  · exact hq
theorem coE_goOn {s n j : Nat} {y : Int32} {P Q : zSt} (h : coE n P Q) (hj : j < n) : coE n (goOnP s y P j) (goOnP s y Q j) := by
  unfold goOnP
  rw [h.1 0 (by decide) j hj]
  split
  · exact coE_off _ _ (by decide) (by decide) (coE_zu (coE_zu h rfl) rfl)
  · exact coE_zu (coE_zu h rfl) rfl
theorem coE_serv {T : Nat → TXT} {s n i j : Nat} {D P Q : zSt} {o y : Int32} (h : coE n P Q) (hj : j < n) : coE n (servP T D s n o y P i j) (servP T D s n o y Q i j) := by
  unfold servP
  rw [coE_pr h hj, coE_wt h hj, coE_lw h hj, coE_lw h hj, coE_lw h hj, h.1 1 (by decide) j hj, h.1 2 (by decide) j hj]
  split
  · exact coE_goOn (coE_give h hj) hj
  · split
    · exact coE_goOn h hj
    · exact coE_zu h rfl
theorem coE_step {T : Nat → TXT} {s n j : Nat} {D P Q : zSt} {o y : Int32} (h : coE n P Q) (hj : j < n) : coE n (stepP T D s n o y P j) (stepP T D s n o y Q j) := by
  unfold stepP
  rw [h.1 0 (by decide) j hj, coE_srvI h hj]
  split
  · exact coE_serv (coE_srvQ h hj) hj
  · exact h
theorem coE_mon {T : Nat → TXT} {s n : Nat} {D : zSt} {o y : Int32} : ∀ (q j : Nat) (P Q : zSt), j + q = n → coE n P Q → coE n (monP T D s n o y q j P) (monP T D s n o y q j Q)
  | 0, _, _, _, _, h => h
  | q + 1, j, P, Q, hj, h => coE_mon q (j + 1) _ _ (by omega) (coE_step h (by omega))
/-- what a MONTH leaves as it is -/
def unt (n e : Nat) (P Q : zSt) : Prop := (∀ i, i < 6 → ∀ j, n ≤ j → Q i j = P i j) ∧ ∀ i, i = 6 ∨ i = 7 → ∀ k, e ≤ k → Q i k = P i k
theorem unt_zu {n e a k : Nat} {P Q : zSt} {v : Int32} (h1 : a < 6 → k < n) (h2 : a = 6 ∨ a = 7 → k < e) (h : unt n e P Q) : unt n e P (zu Q a k v) := by
  refine ⟨fun i hi j hj => ?_, fun i hi j hj => ?_⟩
  · by_cases c : i = a
    · subst c
      rw [zu_off _ _ _ _ _ (by have := h1 hi; omega)]
      exact h.1 i hi j hj
    · rw [zu_ne _ c]
      exact h.1 i hi j hj
  · by_cases c : i = a
    · subst c
      rw [zu_off _ _ _ _ _ (by have := h2 hi; omega)]
      exact h.2 i hi j hj
    · rw [zu_ne _ c]
      exact h.2 i hi j hj
theorem unt_give {n e i j : Nat} {P Q : zSt} {p g k b : Int32} (h : unt n e P Q) (hj : j < n) (hi : i < e) : unt n e P (giveP Q i j p g k b) := by
  have hq : unt n e P (giveQ Q i j p) := by
    unfold giveQ
    exact unt_zu (by omega) (by omega) (unt_zu (by omega) (fun _ => hi) (unt_zu (by omega) (fun _ => hi) (unt_zu (by omega) (by omega) (unt_zu (fun _ => hj) (by omega) (unt_zu (fun _ => hj) (by omega) h)))))
  unfold giveP
  split
  · exact unt_zu (by omega) (fun _ => hi) (unt_zu (fun _ => hj) (by omega) (unt_zu (fun _ => hj) (by omega) hq))
  · exact hq
theorem unt_goOn {s n e j : Nat} {y : Int32} {P Q : zSt} (h : unt n e P Q) (hj : j < n) : unt n e P (goOnP s y Q j) := by
  unfold goOnP
  split
  · exact unt_zu (fun _ => hj) (by omega) (unt_zu (fun _ => hj) (by omega) (unt_zu (fun _ => hj) (by omega) h))
  · exact unt_zu (fun _ => hj) (by omega) (unt_zu (fun _ => hj) (by omega) h)
theorem unt_step {T : Nat → TXT} {s n e m j : Nat} {D P Q : zSt} {o y : Int32} (hD : okD D s e) (hs : s ≤ 8) (hok : okP s n m j Q) (h : unt n e P Q) (hj : j < n) : unt n e P (stepP T D s n o y Q j) := by
  unfold stepP
  split
  · rename_i hlt
    obtain ⟨⟨a, ha, hQ⟩, _⟩ := hok.1 j hj
    rw [hQ, nI_ltI (by omega) (by omega)] at hlt
    obtain ⟨_, _, _, _, _, _, _, hi, _⟩ := srvI_ok (T := T) (n := n) (o := o) (y := y) hD hlt hs hQ
    have h0 : unt n e P (srvQ D Q j) := by
      unfold srvQ
      split
      · exact unt_zu (by omega) (by omega) h
      · exact h
    unfold servP
    split
    · exact unt_goOn (unt_give h0 hj hi) hj
    · split
      · exact unt_goOn h0 hj
      · exact unt_zu (fun _ => hj) (by omega) h0
  · exact h
theorem unt_mon {T : Nat → TXT} {s n e m : Nat} {D P : zSt} {o y : Int32} (hD : okD D s e) (hs : s ≤ 8) : ∀ (q j : Nat) (Q : zSt), j + q = n → okP s n m j Q → unt n e P Q → unt n e P (monP T D s n o y q j Q)
  | 0, _, _, _, _, h => h
  | q + 1, j, Q, hj, hok, h => unt_mon hD hs q (j + 1) _ (by omega) (okP_step hD hok (by omega) hs) (unt_step hD hs hok h (by omega))
/-- the run that both follow: at its y-th MONTH the first nn y FILES are there -/
def ag0 (D : zSt) (sd : Int32) : zSt := fun i => if i = 1 then D 6 else if i = 8 then (fun k => if k = 0 then sd else 0) else fun _ => 0
def rst (Q : zSt) : zSt := zu (zu Q 8 1 0) 8 2 0
def agS (T : Nat → TXT) (D : zSt) (s : Nat) (nn : Nat → Nat) (sd : Int32) : Nat → zSt × Int32 × Int32
  | 0 => (ag0 D sd, 0, 0)
  | y + 1 => (monP T D s (nn y) (agS T D s nn sd y).2.1 (nI y) (nn y) 0 (rst (agS T D s nn sd y).1), nI (bcN ((monP T D s (nn y) (agS T D s nn sd y).2.1 (nI y) (nn y) 0 (rst (agS T D s nn sd y).1)) 8 1).toInt.toNat), (agS T D s nn sd y).2.2 + (monP T D s (nn y) (agS T D s nn sd y).2.1 (nI y) (nn y) 0 (rst (agS T D s nn sd y).1)) 8 2)
theorem okP_rst {s n m j : Nat} {P : zSt} (h : okP s n m j P) : okP s n m j (rst P) := ⟨h.1, h.2.1, 0, by decide, rfl⟩
theorem okP_coE {s n m j : Nat} {P Q : zSt} (h : coE n P Q) (hq : okP s n m j Q) : okP s n m j P := by
  refine ⟨fun k hk => ?_, ?_, ?_⟩
  · rw [h.1 0 (by decide) k hk, h.1 2 (by decide) k hk]
    exact hq.1 k hk
  · rw [h.2 0 (by decide)]
    exact hq.2.1
  · rw [h.2 1 (by decide)]
    exact hq.2.2
theorem agS_ok {T : Nat → TXT} {D : zSt} {s e : Nat} {nn : Nat → Nat} {sd : Int32} (hD : okD D s e) (hs : s ≤ 8) (hsd : ∃ x, x < 65536 ∧ sd = nI x) (hmo : ∀ y, nn y ≤ nn (y + 1)) : ∀ y, (∀ N, okP s N y 0 (agS T D s nn sd y).1) ∧ (∀ i, i < 3 → ∀ j, (y = 0 ∨ nn (y - 1) ≤ j) → (agS T D s nn sd y).1 i j = ag0 D sd i j)
  | 0 => ⟨fun N => ⟨fun k _ => ⟨⟨0, by omega, rfl⟩, 0, by omega, rfl⟩, hsd, 0, by decide, rfl⟩, fun _ _ _ _ => rfl⟩
  | y + 1 => by
    obtain ⟨h1, h2⟩ := agS_ok hD hs hsd hmo y
    have hm := okP_mon (T := T) (o := (agS T D s nn sd y).2.1) (y := nI y) hD hs (nn y) 0 (rst (agS T D s nn sd y).1) (by omega) (okP_rst (h1 (nn y)))
    have hu := unt_mon (T := T) (o := (agS T D s nn sd y).2.1) (y := nI y) (P := (agS T D s nn sd y).1) hD hs (nn y) 0 (rst (agS T D s nn sd y).1) (by omega) (okP_rst (h1 (nn y))) ⟨fun i hi j _ => by unfold rst; rw [zu_ne _ (by omega), zu_ne _ (by omega)], fun i hi k _ => by unfold rst; rw [zu_ne _ (by omega), zu_ne _ (by omega)]⟩
    refine ⟨fun N => ⟨fun k hk => ?_, (okP_end hm).2.1, (okP_end hm).2.2⟩, fun i hi j hj => ?_⟩
    · rcases Nat.lt_or_ge k (nn y) with z | z
      · exact (okP_end hm).1 k z
      · rw [show (agS T D s nn sd (y + 1)).1 0 k = _ from hu.1 0 (by decide) k z, show (agS T D s nn sd (y + 1)).1 2 k = _ from hu.1 2 (by decide) k z]
        obtain ⟨q1, w, q2, q3⟩ := (h1 (k + 1)).1 k (by omega)
        rw [if_neg (by omega)] at q2
        exact ⟨q1, w, by rw [if_neg (by omega)]; omega, q3⟩
    · have hj : nn y ≤ j := by
        rcases hj with z | z
        · omega
        · exact z
      rw [show (agS T D s nn sd (y + 1)).1 i j = _ from hu.1 i (by omega) j hj]
      refine h2 i hi j ?_
      rcases Nat.eq_zero_or_pos y with z | z
      · exact Or.inl z
      · have := hmo (y - 1)
        rw [show y - 1 + 1 = y by omega] at this
        exact Or.inr (by omega)
