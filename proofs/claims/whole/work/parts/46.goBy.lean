theorem nI_dec (b : Nat) : nI (b + 1) + -1 = nI b := by
  rw [← nI_1, Int32.add_assoc, show (1 : Int32) + -1 = 0 from rfl, Int32.add_zero]
theorem bt_1 (x : Nat) : nI (x % 2) = 1 ↔ x % 2 = 1 := by
  rcases Nat.mod_two_eq_zero_or_one x with h | h <;> rw [h] <;> decide
theorem bt_0 (x : Nat) : nI (x % 2) = 0 ↔ ¬ x % 2 = 1 := by
  rcases Nat.mod_two_eq_zero_or_one x with h | h <;> rw [h] <;> decide
def loF (c : Nat) : Nat → Nat → Nat → Nat
  | 0, _, _ => 0
  | q + 1, i, b => if c / 2 ^ i % 2 = 1 then (if b = 0 then i else loF c q (i + 1) (b - 1)) else loF c q (i + 1) b
def cpF (c : Nat) (pr wt : Nat → Int32) : Nat → Nat → Option Nat → Int32 → Int32 → Option Nat
  | 0, _, best, _, _ => best
  | q + 1, i, best, p, w => if c / 2 ^ i % 2 = 1 ∧ (best = none ∨ pr i < p ∨ (pr i = p ∧ wt i < w)) then cpF c pr wt q (i + 1) (some i) (pr i) (wt i) else cpF c pr wt q (i + 1) best p w
def bO : Option Nat → Int32
  | none => -1
  | some k => nI k
theorem lo_ok : ∀ c, c < 1024 → ∀ b, b < bcN c → loF c 10 0 b < 10 ∧ c / 2 ^ (loF c 10 0 b) % 2 = 1 := by decide +kernel
theorem bc_pos : ∀ c, c < 1024 → 0 < c → 0 < bcN c := by decide +kernel
theorem sh_ok : ∀ i, i < 10 → (1 : Int32) <<< (nI i &&& 31) = nI (2 ^ i) := by decide +kernel
theorem cp_ok {c : Nat} {pr wt : Nat → Int32} : ∀ (q i : Nat) (best : Option Nat) (p w : Int32), (∀ k, best = some k → k < i ∧ c / 2 ^ k % 2 = 1) → (∀ k, cpF c pr wt q i best p w = some k → k < i + q ∧ c / 2 ^ k % 2 = 1) ∧ ((best ≠ none ∨ ∃ k, i ≤ k ∧ k < i + q ∧ c / 2 ^ k % 2 = 1) → cpF c pr wt q i best p w ≠ none)
  | 0, i, best, p, w, h => ⟨h, fun z => z.elim id (fun ⟨k, k1, k2, _⟩ => absurd k1 (by omega))⟩
  | q + 1, i, best, p, w, h => by
    rw [cpF]
    by_cases e : c / 2 ^ i % 2 = 1 ∧ (best = none ∨ pr i < p ∨ (pr i = p ∧ wt i < w))
    · rw [if_pos e]
      have := cp_ok (c := c) (pr := pr) (wt := wt) q (i + 1) (some i) (pr i) (wt i) (fun k hk => by cases hk; exact ⟨by omega, e.1⟩)
      exact ⟨fun k hk => ⟨by have := (this.1 k hk).1; omega, (this.1 k hk).2⟩, fun _ => this.2 (Or.inl (by intro z; cases z))⟩
    · rw [if_neg e]
      have := cp_ok (c := c) (pr := pr) (wt := wt) q (i + 1) best p w (fun k hk => ⟨by have := (h k hk).1; omega, (h k hk).2⟩)
      refine ⟨fun k hk => ⟨by have := (this.1 k hk).1; omega, (this.1 k hk).2⟩, fun z => this.2 ?_⟩
      by_cases hb : best = none
      · rcases z with z | ⟨k, k1, k2, k3⟩
        · exact absurd hb z
        · refine Or.inr ⟨k, ?_, by omega, k3⟩
          by_cases e2 : k = i
          · subst e2
            exact absurd ⟨k3, Or.inl hb⟩ e
          · omega
      · exact Or.inl hb
theorem bit_ex : ∀ c, c < 1024 → 0 < c → ∃ k, k < 10 ∧ c / 2 ^ k % 2 = 1 := by decide +kernel
theorem bit_lt {c k e : Nat} (h : c < 2 ^ e) (hk : c / 2 ^ k % 2 = 1) : k < e := by
  rcases Nat.lt_or_ge k e with z | z
  · exact z
  · have : 2 ^ e ≤ 2 ^ k := Nat.pow_le_pow_right (by decide) z
    rw [Nat.div_eq_of_lt (by omega)] at hk
    exact absurd hk (by decide)
def nxN (x : Int32) : Nat := (25173 * x.toInt.toNat + 13849) % 65536
def stN (P : zSt) (j : Nat) : Nat := (P 0 j).toInt.toNat
def cwN (D P : zSt) (j : Nat) : Nat := (D 2 (stN P j)).toInt.toNat
def srvI (T : Nat → TXT) (D : zSt) (n : Nat) (o y : Int32) (P : zSt) (j : Nat) : Nat :=
  if D 3 (stN P j) = 0 then loF (cwN D P j) 10 0 0 else if D 3 (stN P j) = 2 then loF (cwN D P j) 10 0 (nxN (P 8 0) % bcN (cwN D P j)) else (cpF (cwN D P j) (fun i => prP T D P n o y i j) (fun i => wtP T D P n o y i j) 10 0 none 0 0).getD 0
def srvQ (D P : zSt) (j : Nat) : zSt := if D 3 (stN P j) = 2 then zu P 8 0 (nI (nxN (P 8 0))) else P
def stepP (T : Nat → TXT) (D : zSt) (s n : Nat) (o y : Int32) (P : zSt) (j : Nat) : zSt := if P 0 j < nI s then servP T D s n o y (srvQ D P j) (srvI T D n o y P j) j else P
def monP (T : Nat → TXT) (D : zSt) (s n : Nat) (o y : Int32) : Nat → Nat → zSt → zSt
  | 0, _, P => P
  | q + 1, j, P => monP T D s n o y q (j + 1) (stepP T D s n o y P j)
/-- what stands: steps, times stood (m, one more for those who had their turn), x, takers -/
def okP (s n m j : Nat) (P : zSt) : Prop := (∀ k, k < n → (∃ a, a ≤ s ∧ P 0 k = nI a) ∧ ∃ w, w ≤ m + (if k < j then 1 else 0) ∧ P 2 k = nI w) ∧ (∃ x, x < 65536 ∧ P 8 0 = nI x) ∧ ∃ t, t < 1024 ∧ P 8 1 = nI t
/-- the crews -/
def okD (D : zSt) (s e : Nat) : Prop := e ≤ 10 ∧ ∀ a, a < s → ∃ c, D 2 a = nI c ∧ 0 < c ∧ c < 2 ^ e
theorem srvI_ok {T : Nat → TXT} {D : zSt} {s n e a : Nat} {o y : Int32} {P : zSt} {j : Nat} (hD : okD D s e) (ha : a < s) (hs : s ≤ 8) (hP : P 0 j = nI a) : ∃ c, D 2 a = nI c ∧ 0 < c ∧ c < 1024 ∧ c < 2 ^ e ∧ cwN D P j = c ∧ stN P j = a ∧ srvI T D n o y P j < e ∧ c / 2 ^ srvI T D n o y P j % 2 = 1 := by
  obtain ⟨he, hD⟩ := hD
  obtain ⟨c, hc, h0, h1⟩ := hD a ha
  have h2 : c < 1024 := Nat.lt_of_lt_of_le h1 (show 2 ^ e ≤ 2 ^ 10 from Nat.pow_le_pow_right (by decide) he)
  have e1 : stN P j = a := by unfold stN; rw [hP, nI_tn (by omega)]
  have e2 : cwN D P j = c := by unfold cwN; rw [e1, hc, nI_tn (by omega)]
  have hb : c / 2 ^ srvI T D n o y P j % 2 = 1 := by
    unfold srvI
    rw [e1, e2]
    split
    · exact (lo_ok c h2 0 (bc_pos c h2 h0)).2
    · split
      · exact (lo_ok c h2 _ (Nat.mod_lt _ (bc_pos c h2 h0))).2
      · have := cp_ok (c := c) (pr := fun i => prP T D P n o y i j) (wt := fun i => wtP T D P n o y i j) 10 0 none 0 0 (fun k hk => by cases hk)
        obtain ⟨k, k1, k2⟩ := bit_ex c h2 h0
        have hn := this.2 (Or.inr ⟨k, by omega, by omega, k2⟩)
        cases h : cpF c (fun i => prP T D P n o y i j) (fun i => wtP T D P n o y i j) 10 0 none 0 0 with
        | none => exact absurd h hn
        | some k => exact (this.1 k h).2
  exact ⟨c, hc, h0, h2, h1, e2, e1, bit_lt h1 hb, hb⟩
theorem okP_goOn {s n m j a : Nat} {y : Int32} {P : zSt} (h : okP s n m j P) (ha : a < s) (hs : s ≤ 8) (hP : P 0 j = nI a) : okP s n m (j + 1) (goOnP s y P j) := by
  obtain ⟨h1, h2, h3⟩ := h
  have e0 : goOnP s y P j 0 = upd (P 0) j (nI (a + 1)) := by
    unfold goOnP
    rw [hP, nI_1]
    split
    · rw [zu_ne _ (by decide), zu_ne _ (by decide), zu_at]
    · rw [zu_ne _ (by decide), zu_at]
  have e2 : goOnP s y P j 2 = upd (P 2) j 0 := by
    unfold goOnP
    split
    · rw [zu_ne _ (by decide), zu_at, zu_ne _ (by decide)]
    · rw [zu_at, zu_ne _ (by decide)]
  refine ⟨fun k hk => ?_, by rw [goOnP_8]; exact h2, by rw [goOnP_8]; exact h3⟩
  rw [e0, e2]
  unfold upd
  by_cases e : k = j
  · rw [if_pos e, if_pos e]
    exact ⟨⟨a + 1, by omega, rfl⟩, 0, by omega, rfl⟩
  · rw [if_neg e, if_neg e]
    obtain ⟨q1, w, q2, q3⟩ := h1 k hk
    refine ⟨q1, w, ?_, q3⟩
    by_cases e3 : k < j
    · rw [if_pos e3] at q2
      rw [if_pos (by omega)]
      exact q2
    · rw [if_neg e3] at q2
      rw [if_neg (by omega)]
      exact q2
theorem okP_give {s n m j i : Nat} {p g k b : Int32} {P : zSt} (h : okP s n m j P) (hi : i < 10) : okP s n m j (giveP P i j p g k b) := by
  obtain ⟨h1, h2, t, h3, h4⟩ := h
  have e8 := giveP_8 P i j p g k b
  refine ⟨fun q hq => by rw [giveP_0, giveP_2]; exact h1 q hq, by rw [e8.1]; exact h2, t ||| 2 ^ i, ?_, ?_⟩
  · exact Nat.or_lt_two_pow (n := 10) h3 (Nat.pow_lt_pow_right (by decide) hi)
  · rw [e8.2.1, h4, sh_ok i hi, fa_or]
theorem okP_serv {T : Nat → TXT} {D : zSt} {s n m j a i : Nat} {o y : Int32} {P : zSt} (h : okP s n m j P) (hj : j < n) (ha : a < s) (hs : s ≤ 8) (hP : P 0 j = nI a) (hi : i < 10) : okP s n m (j + 1) (servP T D s n o y P i j) := by
  unfold servP
  split
  · exact okP_goOn (okP_give h hi) ha hs (by rw [giveP_0]; exact hP)
  · split
    · exact okP_goOn h ha hs hP
    · obtain ⟨h1, h2, h3⟩ := h
      refine ⟨fun k hk => ?_, h2, h3⟩
      obtain ⟨q1, w, q2, q3⟩ := h1 k hk
      refine ⟨q1, ?_⟩
      by_cases e : k = j
      · subst e
        rw [if_neg (by omega)] at q2
        refine ⟨w + 1, by rw [if_pos (by omega)]; omega, ?_⟩
        rw [zu_same, q3, nI_1]
      · refine ⟨w, ?_, by rw [zu_off _ _ _ _ _ e]; exact q3⟩
        by_cases e3 : k < j
        · rw [if_pos e3] at q2
          rw [if_pos (by omega)]
          exact q2
        · rw [if_neg e3] at q2
          rw [if_neg (by omega)]
          exact q2
theorem okP_srv {D : zSt} {s n m j k : Nat} {P : zSt} (h : okP s n m j P) : okP s n m j (srvQ D P k) := by
  unfold srvQ
  split
  · obtain ⟨h1, h2, h3⟩ := h
    exact ⟨h1, ⟨_, Nat.mod_lt _ (by decide), by rw [zu_same]; rfl⟩, h3⟩
  · exact h
theorem srvQ_o {D P : zSt} {j : Nat} : (∀ i, i < 8 → srvQ D P j i = P i) ∧ ∀ k, k ≠ 0 → srvQ D P j 8 k = P 8 k := by
  unfold srvQ
  split
  · exact ⟨fun i hi => zu_ne _ (by omega) _ _, fun k hk => zu_off _ _ _ _ _ hk⟩
  · exact ⟨fun _ _ => rfl, fun _ _ => rfl⟩
theorem okP_skip {s n m j : Nat} {P : zSt} (h : okP s n m j P) : okP s n m (j + 1) P := by
  obtain ⟨h1, h2, h3⟩ := h
  refine ⟨fun k hk => ?_, h2, h3⟩
  obtain ⟨q1, w, q2, q3⟩ := h1 k hk
  refine ⟨q1, w, ?_, q3⟩
  split at q2
  · rw [if_pos (by omega)]; exact q2
  · split <;> omega
theorem okP_step {T : Nat → TXT} {D : zSt} {s n m j e : Nat} {o y : Int32} {P : zSt} (hD : okD D s e) (h : okP s n m j P) (hj : j < n) (hs : s ≤ 8) : okP s n m (j + 1) (stepP T D s n o y P j) := by
  obtain ⟨⟨a, ha, hP⟩, _⟩ := h.1 j hj
  unfold stepP
  by_cases c : P 0 j < nI s
  · rw [if_pos c]
    have ha2 : a < s := (nI_ltI (by omega) (by omega)).mp (by rw [← hP]; exact c)
    obtain ⟨_, _, _, _, _, _, _, hi, _⟩ := srvI_ok (T := T) (n := n) (o := o) (y := y) hD ha2 hs hP
    exact okP_serv (okP_srv h) hj ha2 hs (by rw [srvQ_o.1 0 (by decide)]; exact hP) (Nat.lt_of_lt_of_le hi hD.1)
  · rw [if_neg c]
    exact okP_skip h
theorem okP_mon {T : Nat → TXT} {D : zSt} {s n m e : Nat} {o y : Int32} (hD : okD D s e) (hs : s ≤ 8) : ∀ (q j : Nat) (P : zSt), j + q = n → okP s n m j P → okP s n m n (monP T D s n o y q j P)
  | 0, j, P, hj, h => by
    have : j = n := hj
    subst this
    exact h
  | q + 1, j, P, hj, h => okP_mon hD hs q (j + 1) _ (by omega) (okP_step hD h (by omega) hs)
theorem okP_end {s n m : Nat} {P : zSt} (h : okP s n m n P) : okP s n (m + 1) 0 P := by
  obtain ⟨h1, h2, h3⟩ := h
  refine ⟨fun k hk => ?_, h2, h3⟩
  obtain ⟨q1, w, q2, q3⟩ := h1 k hk
  rw [if_pos hk] at q2
  exact ⟨q1, w, by rw [if_neg (by omega)]; omega, q3⟩
set_option maxHeartbeats 4000000 in
set_option maxRecDepth 100000 in
theorem c_atPlace (c b0 : Nat) (σ : zSt) (hc : c < 1024) (hb : b0 < 1000) : Con mX6_atPlace 0 [.int (nI c), .int (nI b0)] σ (fun r τ => r = some (.int (nI (loF c 10 0 b0))) ∧ τ = σ) := by
  refine Con.of (lv := [.int (nI c), .int (nI b0), .long 0, .long 0]) mk_X6_atPlace rfl (Nat.le_of_ble_eq_true rfl) rfl (fun X F E => ?_)
  have L : ∀ (q i b : Nat) (z : Value), i + q = 10 → b < 1000 → loF c q i b = loF c 10 0 b0 → Gs X 4 [.int (nI c), z, .int (nI b), .int (nI i)] [] σ := by
    intro q
    induction q with
    | zero =>
      intro i b z hi hb hA
      have hi : i = 10 := hi
      subst hi
      refine g_iload_n (nx := 5) 3 F dX6_atPlace_4 rfl rfl rfl ?_
      refine g_bipush (nx := 7) (10) F dX6_atPlace_5 rfl (by decide) ?_
      refine g_icmp_ge (nx := 10) 34 F dX6_atPlace_7 rfl (by decide) (fun c_7 => ?_) (fun c_7 => absurd c_7 (by decide))
      refine g_iconst (nx := 35) (0) F dX6_atPlace_34 rfl rfl ?_
      refine g_iret F E dX6_atPlace_35 ?_
      exact ⟨by rw [← hA]; rfl, rfl⟩
    | succ q ih =>
      intro i b z hi hb hA
      have hbit := bit_ok c hc i (by omega)
      rw [loF] at hA
      refine g_iload_n (nx := 5) 3 F dX6_atPlace_4 rfl rfl rfl ?_
      refine g_bipush (nx := 7) (10) F dX6_atPlace_5 rfl (by decide) ?_
      refine g_icmp_ge (nx := 10) 34 F dX6_atPlace_7 rfl (by decide) (fun c_7 => absurd c_7 (by exact nI_ge (b := 10) (by omega) (by omega))) (fun c_7 => ?_)
      refine g_iload_n (nx := 11) 0 F dX6_atPlace_10 rfl rfl rfl ?_
      refine g_iload_n (nx := 12) 3 F dX6_atPlace_11 rfl rfl rfl ?_
      refine g_ishr (nx := 13) F dX6_atPlace_12 rfl ?_
      refine g_iconst (nx := 14) (1) F dX6_atPlace_13 rfl rfl ?_
      refine g_iand (nx := 15) F dX6_atPlace_14 rfl ?_
      refine g_iconst (nx := 16) (1) F dX6_atPlace_15 rfl rfl ?_
      rw [hbit]
      refine g_icmp_ne (nx := 19) 28 F dX6_atPlace_16 rfl (by decide) (fun c_16 => ?_) (fun c_16 => ?_)
      · refine g_iinc (nx := 31) (1) F dX6_atPlace_28 rfl rfl (by decide) (by decide) ?_
        try dsimp only [List.set]
        refine g_goto 4 F dX6_atPlace_31 (by decide) ?_
        rw [nI_1]
        first
          | (rw [if_neg (fun z0 => c_16 ((bt_1 _).mpr z0))] at hA; exact ih (i + 1) b _ (by omega) hb hA)
          | (have hb0 : b ≠ 0 := (by intro z0; subst z0; exact c_20 rfl); obtain ⟨b, rfl⟩ : ∃ b2, b = b2 + 1 := ⟨b - 1, by omega⟩; rw [nI_dec]; rw [if_pos ((bt_1 _).mp c_16), if_neg hb0] at hA; exact ih (i + 1) b _ (by omega) (by omega) hA)
      · refine g_iload_n (nx := 20) 2 F dX6_atPlace_19 rfl rfl rfl ?_
        refine g_if_ne (nx := 23) 25 F dX6_atPlace_20 rfl (by decide) (fun c_20 => ?_) (fun c_20 => ?_)
        · refine g_iinc (nx := 28) (-1) F dX6_atPlace_25 rfl rfl (by decide) (by decide) ?_
          try dsimp only [List.set]
          refine g_iinc (nx := 31) (1) F dX6_atPlace_28 rfl rfl (by decide) (by decide) ?_
          try dsimp only [List.set]
          refine g_goto 4 F dX6_atPlace_31 (by decide) ?_
          rw [nI_1]
          first
            | (rw [if_neg (fun z0 => c_16 ((bt_1 _).mpr z0))] at hA; exact ih (i + 1) b _ (by omega) hb hA)
            | (have hb0 : b ≠ 0 := (by intro z0; subst z0; exact c_20 rfl); obtain ⟨b, rfl⟩ : ∃ b2, b = b2 + 1 := ⟨b - 1, by omega⟩; rw [nI_dec]; rw [if_pos ((bt_1 _).mp c_16), if_neg hb0] at hA; exact ih (i + 1) b _ (by omega) (by omega) hA)
        · refine g_iload_n (nx := 24) 3 F dX6_atPlace_23 rfl rfl rfl ?_
          refine g_iret F E dX6_atPlace_24 ?_
          rw [if_pos ((bt_1 _).mp c_16), if_pos (by apply Classical.byContradiction; intro z0; exact nI_ne0 (by omega) (by omega) c_20)] at hA
          exact ⟨by rw [← hA], rfl⟩
  refine g_iload_n (nx := 1) 1 F dX6_atPlace_0 rfl rfl rfl ?_
  refine g_istore_n (nx := 2) 2 F dX6_atPlace_1 rfl rfl (by decide) ?_
  try dsimp only [List.set]
  refine g_iconst (nx := 3) (0) F dX6_atPlace_2 rfl rfl ?_
  refine g_istore_n (nx := 4) 3 F dX6_atPlace_3 rfl rfl (by decide) ?_
  try dsimp only [List.set]
  exact L 10 0 b0 _ (by omega) hb rfl
