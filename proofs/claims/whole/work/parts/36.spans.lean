/-! SPANS: what any order of narrowing comes to -/
def sI (s : Nat) (f : Nat → Int) : Nat → Int
  | 0 => 0
  | q + 1 => if s / 2 ^ q % 2 = 1 then sI s f q + f q else sI s f q
/-- all within 0 to 10000, none turned over -/
def rgB (c : Nat) (lo hi : Nat → Int32) : Prop := ∀ i, i < c → 0 ≤ (lo i).toInt ∧ (lo i).toInt ≤ (hi i).toInt ∧ (hi i).toInt ≤ 10000
/-- spans that no GO-BETWEEN narrows -/
def Sol (c n : Nat) (S : Nat → Nat) (L M : Nat → Int32) (lo hi : Nat → Int) : Prop :=
  (∀ i, i < c → 0 ≤ lo i ∧ lo i ≤ hi i ∧ hi i ≤ 10000) ∧ ∀ g, g < n → ∀ i, i < c → S g / 2 ^ i % 2 = 1 → (L g).toInt - (sI (S g) hi c - hi i) ≤ lo i ∧ hi i ≤ (M g).toInt - (sI (S g) lo c - lo i)
def cont (c : Nat) (lo hi : Nat → Int32) (a b : Nat → Int) : Prop := ∀ i, i < c → (lo i).toInt ≤ a i ∧ b i ≤ (hi i).toInt
theorem sI_le {s : Nat} {f g : Nat → Int} : ∀ {n : Nat}, (∀ q, q < n → f q ≤ g q) → sI s f n ≤ sI s g n
  | 0, _ => Int.le_refl _
  | n + 1, h => by
    have ih := sI_le (s := s) (fun q hq => h q (by omega) : ∀ q, q < n → f q ≤ g q)
    have := h n (by omega)
    rw [sI, sI]
    split <;> omega
theorem sI_cong {s : Nat} {f g : Nat → Int} : ∀ {n : Nat}, (∀ q, q < n → f q = g q) → sI s f n = sI s g n
  | 0, _ => rfl
  | n + 1, h => by rw [sI, sI, sI_cong (fun q hq => h q (by omega) : ∀ q, q < n → f q = g q), h n (by omega)]
/-- the others of i -/
theorem sI_oth {s i : Nat} {f g : Nat → Int} (hb : s / 2 ^ i % 2 = 1) : ∀ {n : Nat}, i < n → (∀ q, q < n → f q ≤ g q) → sI s f n - f i ≤ sI s g n - g i
  | 0, h, _ => absurd h (Nat.not_lt_zero i)
  | n + 1, h, hq => by
    rw [sI, sI]
    by_cases e : n = i
    · subst e
      rw [if_pos hb, if_pos hb]
      have := sI_le (s := s) (fun q z => hq q (by omega) : ∀ q, q < n → f q ≤ g q)
      omega
    · have ih := sI_oth hb (n := n) (by omega) (fun q z => hq q (by omega))
      have := hq n (by omega)
      split <;> omega
theorem sI_rng {s : Nat} {f : Nat → Int} : ∀ {n : Nat}, (∀ q, q < n → 0 ≤ f q ∧ f q ≤ 10000) → 0 ≤ sI s f n ∧ sI s f n ≤ 10000 * n
  | 0, _ => by simp [sI]
  | n + 1, h => by
    have ih := sI_rng (s := s) (fun q z => h q (by omega) : ∀ q, q < n → 0 ≤ f q ∧ f q ≤ 10000)
    have := h n (by omega)
    rw [sI]
    split <;> omega
theorem smL_int {s : Nat} {f : Nat → Int32} : ∀ {n : Nat}, n ≤ 10 → (∀ q, q < n → 0 ≤ (f q).toInt ∧ (f q).toInt ≤ 10000) → (smL s f n).toInt = sI s (fun q => (f q).toInt) n
  | 0, _, _ => rfl
  | n + 1, hn, h => by
    have ih := smL_int (s := s) (n := n) (by omega) (fun q z => h q (by omega))
    have hr := sI_rng (s := s) (f := fun q => (f q).toInt) (fun q z => h q (by omega) : ∀ q, q < n → _)
    have := h n (by omega)
    rw [smL, sI]
    split
    · rw [fb_addI (by rw [ih]; omega) (by rw [ih]; omega), ih]
    · exact ih
theorem smL_c {s c : Nat} {f : Nat → Int32} (hc : c ≤ 10) (hs : s < 2 ^ c) (h : ∀ q, q < c → 0 ≤ (f q).toInt ∧ (f q).toInt ≤ 10000) : (smL s f 10).toInt = sI s (fun q => (f q).toInt) c := by
  rw [smL_ten hc hs]
  exact smL_int hc h
/-- what the new bounds are, while all is within -/
theorem x_int {s c i : Nat} {f : Nat → Int32} {L : Int32} (hc : c ≤ 10) (hs : s < 2 ^ c) (hi : i < c) (hb : s / 2 ^ i % 2 = 1) (h : ∀ q, q < c → 0 ≤ (f q).toInt ∧ (f q).toInt ≤ 10000) (hL : 0 ≤ L.toInt ∧ L.toInt ≤ 30000) : (L - (smL s f 10 - f i)).toInt = L.toInt - (sI s (fun q => (f q).toInt) c - (f i).toInt) := by
  have h1 := smL_c hc hs h
  have h2 := sI_rng (s := s) (f := fun q => (f q).toInt) h
  have h3 := h i hi
  have h4 : (smL s f 10 - f i).toInt = sI s (fun q => (f q).toInt) c - (f i).toInt := by rw [fb_subI (by rw [h1]; omega) (by rw [h1]; omega), h1]
  rw [fb_subI (by rw [h4]; omega) (by rw [h4]; omega), h4]
theorem le_grow (s : Nat) (L : Int32) (lo hi : Nat → Int32) (i : Nat) : (lo i).toInt ≤ (leV s L lo hi i).toInt := by
  unfold leV
  split
  · rename_i h; rw [fa_lt] at h; omega
  · exact Int.le_refl _
theorem mo_fall (s : Nat) (M : Int32) (lo hi : Nat → Int32) (i : Nat) : (moV s M lo hi i).toInt ≤ (hi i).toInt := by
  unfold moV
  split
  · rename_i h; rw [fa_lt] at h; omega
  · exact Int.le_refl _
/-- B: what contains a solution goes on to, and isn't turned over -/
theorem nw_B {c s : Nat} {L M : Int32} {lo hi : Nat → Int32} {a b : Nat → Int} (hc : c ≤ 10) (hs : s < 2 ^ c) (hL : 0 ≤ L.toInt ∧ L.toInt ≤ 30000) (hM : 0 ≤ M.toInt ∧ M.toInt ≤ 30000)
    (h1 : ∀ i, i < c → 0 ≤ a i ∧ a i ≤ b i ∧ b i ≤ 10000) (h2 : ∀ i, i < c → s / 2 ^ i % 2 = 1 → L.toInt - (sI s b c - b i) ≤ a i ∧ b i ≤ M.toInt - (sI s a c - a i)) (hr : rgB c lo hi) (hC : cont c lo hi a b) :
    ∀ i, i ≤ c → cont c (nwL s L M lo hi i).1 (nwL s L M lo hi i).2.1 a b ∧ rgB c (nwL s L M lo hi i).1 (nwL s L M lo hi i).2.1 ∧ (nwL s L M lo hi i).2.2.2 = false
  | 0, _ => ⟨hC, hr, rfl⟩
  | i + 1, hic => by
    obtain ⟨g1, g2, g3⟩ := nw_B hc hs hL hM h1 h2 hr hC i (by omega)
    rw [nwL]
    by_cases hb : s / 2 ^ i % 2 = 1
    · rw [if_pos hb]
      have r1 : ∀ q, q < c → 0 ≤ ((nwL s L M lo hi i).1 q).toInt ∧ ((nwL s L M lo hi i).1 q).toInt ≤ 10000 := fun q hq => by have := g2 q hq; omega
      have r2 : ∀ q, q < c → 0 ≤ ((nwL s L M lo hi i).2.1 q).toInt ∧ ((nwL s L M lo hi i).2.1 q).toInt ≤ 10000 := fun q hq => by have := g2 q hq; omega
      have x1 := x_int hc hs (show i < c by omega) hb r2 hL
      have x2 := x_int hc hs (show i < c by omega) hb r1 hM
      have o1 := sI_oth (s := s) (f := b) (g := fun q => ((nwL s L M lo hi i).2.1 q).toInt) hb (show i < c by omega) (fun q hq => (g1 q hq).2)
      have o2 := sI_oth (s := s) (f := fun q => ((nwL s L M lo hi i).1 q).toInt) (g := a) hb (show i < c by omega) (fun q hq => (g1 q hq).1)
      have s1 := h2 i (by omega) hb
      have c1 := g1 i (by omega)
      have a1 := h1 i (by omega)
      have e1 : (leV s L (nwL s L M lo hi i).1 (nwL s L M lo hi i).2.1 i).toInt ≤ a i := by
        unfold leV
        split
        · rw [x1]; omega
        · exact c1.1
      have e2 : b i ≤ (moV s M (nwL s L M lo hi i).1 (nwL s L M lo hi i).2.1 i).toInt := by
        unfold moV
        split
        · rw [x2]; omega
        · exact c1.2
      have e3 := le_grow s L (nwL s L M lo hi i).1 (nwL s L M lo hi i).2.1 i
      have e4 := mo_fall s M (nwL s L M lo hi i).1 (nwL s L M lo hi i).2.1 i
      have r3 := g2 i (by omega)
      refine ⟨fun q hq => ?_, fun q hq => ?_, ?_⟩
      · dsimp only [upd]
        by_cases e : q = i
        · subst e; rw [if_pos rfl, if_pos rfl]; exact ⟨e1, e2⟩
        · rw [if_neg e, if_neg e]; exact g1 q hq
      · dsimp only [upd]
        by_cases e : q = i
        · subst e; rw [if_pos rfl, if_pos rfl]; omega
        · rw [if_neg e, if_neg e]; exact g2 q hq
      · simp only [g3, Bool.false_or]
        exact decide_eq_false (by rw [fa_lt]; omega)
    · rw [if_neg hb]
      exact ⟨g1, g2, g3⟩
/-- A: while nothing is turned over all stays within and grows narrower -/
def wid (c : Nat) (lo hi : Nat → Int32) : Int := fb_si (fun i => (hi i).toInt - (lo i).toInt) c
theorem nw_A {c s : Nat} {L M : Int32} {lo hi : Nat → Int32} (hr : rgB c lo hi) : ∀ i, i ≤ c → (nwL s L M lo hi i).2.2.2 = false → rgB c (nwL s L M lo hi i).1 (nwL s L M lo hi i).2.1 ∧ wid c (nwL s L M lo hi i).1 (nwL s L M lo hi i).2.1 + (if (nwL s L M lo hi i).2.2.1 then 1 else 0) ≤ wid c lo hi
  | 0, _, _ => ⟨hr, by simp [nwL]⟩
  | i + 1, hic, ht => by
    rw [nwL] at ht ⊢
    by_cases hb : s / 2 ^ i % 2 = 1
    · rw [if_pos hb] at ht ⊢
      simp only [Bool.or_eq_false_iff] at ht
      obtain ⟨g1, g2⟩ := nw_A hr i (by omega) ht.1
      have e0 := of_decide_eq_false ht.2
      rw [fa_lt] at e0
      have e3 := le_grow s L (nwL s L M lo hi i).1 (nwL s L M lo hi i).2.1 i
      have e4 := mo_fall s M (nwL s L M lo hi i).1 (nwL s L M lo hi i).2.1 i
      have r3 := g1 i (by omega)
      refine ⟨fun q hq => ?_, ?_⟩
      · dsimp only [upd]
        by_cases e : q = i
        · subst e; rw [if_pos rfl, if_pos rfl]; omega
        · rw [if_neg e, if_neg e]; exact g1 q hq
      · have hu : wid c (upd (nwL s L M lo hi i).1 i (leV s L (nwL s L M lo hi i).1 (nwL s L M lo hi i).2.1 i)) (upd (nwL s L M lo hi i).2.1 i (moV s M (nwL s L M lo hi i).1 (nwL s L M lo hi i).2.1 i)) = wid c (nwL s L M lo hi i).1 (nwL s L M lo hi i).2.1 - (((nwL s L M lo hi i).2.1 i).toInt - ((nwL s L M lo hi i).1 i).toInt) + ((moV s M (nwL s L M lo hi i).1 (nwL s L M lo hi i).2.1 i).toInt - (leV s L (nwL s L M lo hi i).1 (nwL s L M lo hi i).2.1 i).toInt) := by
          unfold wid
          rw [← fb_si_upd (fun q => ((nwL s L M lo hi i).2.1 q).toInt - ((nwL s L M lo hi i).1 q).toInt) _ (show i < c by omega)]
          refine fb_si_cong (fun q hq => ?_)
          dsimp only [upd]
          by_cases e : q = i
          · rw [if_pos e, if_pos e, if_pos e]
          · rw [if_neg e, if_neg e, if_neg e]
        rw [hu]
        by_cases hch : (nwL s L M lo hi i).2.2.1 = true
        · rw [if_pos hch] at g2
          simp only [hch, Bool.true_or, if_true]
          omega
        · rw [if_neg hch] at g2
          simp only [hch, Bool.false_or]
          split
          · rename_i hd
            have hd := of_decide_eq_true hd
            rw [ne_eq, ne_eq, fa_eq, fa_eq] at hd
            omega
          · omega
    · rw [if_neg hb] at ht ⊢
      exact nw_A hr i (by omega) ht
/-- C: where nothing changes nothing is narrowed -/
theorem nw_C {c s : Nat} {L M : Int32} {lo hi : Nat → Int32} : ∀ i, (nwL s L M lo hi i).2.2.1 = false → (nwL s L M lo hi i).1 = lo ∧ (nwL s L M lo hi i).2.1 = hi ∧ ∀ q, q < i → s / 2 ^ q % 2 = 1 → leV s L lo hi q = lo q ∧ moV s M lo hi q = hi q
  | 0, _ => ⟨rfl, rfl, fun q hq => absurd hq (Nat.not_lt_zero q)⟩
  | i + 1, h => by
    rw [nwL] at h ⊢
    by_cases hb : s / 2 ^ i % 2 = 1
    · rw [if_pos hb] at h ⊢
      simp only [Bool.or_eq_false_iff] at h
      obtain ⟨g1, g2, g3⟩ := nw_C (c := c) i h.1
      have e := of_decide_eq_false h.2
      rw [g1, g2] at e
      have e1 : leV s L lo hi i = lo i := Decidable.byContradiction fun z => e (Or.inl z)
      have e2 : moV s M lo hi i = hi i := Decidable.byContradiction fun z => e (Or.inr z)
      refine ⟨?_, ?_, fun q hq hbq => ?_⟩
      · dsimp only
        rw [g1, g2, e1]
        exact fa_upd_same rfl
      · dsimp only
        rw [g1, g2, e2]
        exact fa_upd_same rfl
      · rcases Nat.lt_or_ge q i with z | z
        · exact g3 q z hbq
        · rw [show q = i by omega]; exact ⟨e1, e2⟩
    · rw [if_neg hb] at h ⊢
      obtain ⟨g1, g2, g3⟩ := nw_C (c := c) i h
      refine ⟨g1, g2, fun q hq hbq => ?_⟩
      rcases Nat.lt_or_ge q i with z | z
      · exact g3 q z hbq
      · rw [show q = i by omega] at hbq; exact absurd hbq hb
theorem nw_mono {s : Nat} {L M : Int32} {lo hi : Nat → Int32} : ∀ i q, (lo q).toInt ≤ ((nwL s L M lo hi i).1 q).toInt ∧ ((nwL s L M lo hi i).2.1 q).toInt ≤ (hi q).toInt
  | 0, q => ⟨Int.le_refl _, Int.le_refl _⟩
  | i + 1, q => by
    have ih := nw_mono (s := s) (L := L) (M := M) (lo := lo) (hi := hi) i q
    rw [nwL]
    split
    · have e3 := le_grow s L (nwL s L M lo hi i).1 (nwL s L M lo hi i).2.1 i
      have e4 := mo_fall s M (nwL s L M lo hi i).1 (nwL s L M lo hi i).2.1 i
      dsimp only [upd]
      by_cases e : q = i
      · subst e; rw [if_pos rfl, if_pos rfl]; omega
      · rw [if_neg e, if_neg e]; exact ih
    · exact ih
/-- turned over: there is one whose least is above his greatest -/
theorem nw_T {c s : Nat} {L M : Int32} {lo hi : Nat → Int32} (hr : ∀ i, i < c → (lo i).toInt ≤ (hi i).toInt) : ∀ i, i ≤ c → ((nwL s L M lo hi i).2.2.2 = true ↔ ∃ q, q < c ∧ (nwL s L M lo hi i).2.1 q < (nwL s L M lo hi i).1 q)
  | 0, _ => by
    simp only [nwL]
    exact ⟨fun h => absurd h (by decide), fun ⟨q, q1, q2⟩ => by rw [fa_lt] at q2; have := hr q q1; omega⟩
  | i + 1, hic => by
    have ih := nw_T (s := s) (L := L) (M := M) hr i (by omega)
    rw [nwL]
    by_cases hb : s / 2 ^ i % 2 = 1
    · rw [if_pos hb]
      have e3 := le_grow s L (nwL s L M lo hi i).1 (nwL s L M lo hi i).2.1 i
      have e4 := mo_fall s M (nwL s L M lo hi i).1 (nwL s L M lo hi i).2.1 i
      simp only [Bool.or_eq_true, decide_eq_true_eq]
      rw [ih]
      constructor
      · rintro (⟨q, q1, q2⟩ | q2)
        · refine ⟨q, q1, ?_⟩
          dsimp only [upd]
          by_cases e : q = i
          · subst e; rw [if_pos rfl, if_pos rfl]; rw [fa_lt] at *; omega
          · rw [if_neg e, if_neg e]; exact q2
        · refine ⟨i, by omega, ?_⟩
          dsimp only [upd]
          rw [if_pos rfl, if_pos rfl]
          exact q2
      · rintro ⟨q, q1, q2⟩
        dsimp only [upd] at q2
        by_cases e : q = i
        · rw [if_pos e, if_pos e] at q2; exact Or.inr q2
        · rw [if_neg e, if_neg e] at q2; exact Or.inl ⟨q, q1, q2⟩
    · rw [if_neg hb]
      exact ih
