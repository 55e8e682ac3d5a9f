def swL (S : Nat → Nat) (L M : Nat → Int32) (lo hi : Nat → Int32) : Nat → (Nat → Int32) × (Nat → Int32) × Bool × Bool
  | 0 => (lo, hi, false, false)
  | g + 1 => ((nwL (S g) (L g) (M g) (swL S L M lo hi g).1 (swL S L M lo hi g).2.1 10).1, (nwL (S g) (L g) (M g) (swL S L M lo hi g).1 (swL S L M lo hi g).2.1 10).2.1, (swL S L M lo hi g).2.2.1 || (nwL (S g) (L g) (M g) (swL S L M lo hi g).1 (swL S L M lo hi g).2.1 10).2.2.1, (swL S L M lo hi g).2.2.2 || (nwL (S g) (L g) (M g) (swL S L M lo hi g).1 (swL S L M lo hi g).2.1 10).2.2.2)
/-- what is told of the GO-BETWEENS -/
def okG (c n : Nat) (S : Nat → Nat) (L M : Nat → Int32) : Prop := c ≤ 10 ∧ ∀ g, g < n → S g < 2 ^ c ∧ (0 ≤ (L g).toInt ∧ (L g).toInt ≤ 30000) ∧ (0 ≤ (M g).toInt ∧ (M g).toInt ≤ 30000)
theorem sw_B {c n : Nat} {S : Nat → Nat} {L M : Nat → Int32} {lo hi : Nat → Int32} {a b : Nat → Int} (hG : okG c n S L M) (hS : Sol c n S L M a b) (hr : rgB c lo hi) (hC : cont c lo hi a b) :
    ∀ g, g ≤ n → cont c (swL S L M lo hi g).1 (swL S L M lo hi g).2.1 a b ∧ rgB c (swL S L M lo hi g).1 (swL S L M lo hi g).2.1 ∧ (swL S L M lo hi g).2.2.2 = false
  | 0, _ => ⟨hC, hr, rfl⟩
  | g + 1, hg => by
    obtain ⟨g1, g2, g3⟩ := sw_B hG hS hr hC g (by omega)
    have hq := hG.2 g (by omega)
    have := nw_B hG.1 hq.1 hq.2.1 hq.2.2 hS.1 (hS.2 g (by omega)) g2 g1 c (Nat.le_refl c)
    rw [← nwL_ten hG.1 hq.1] at this
    refine ⟨this.1, this.2.1, ?_⟩
    show ((swL S L M lo hi g).2.2.2 || _) = false
    rw [g3, this.2.2]
    rfl
theorem sw_A {c n : Nat} {S : Nat → Nat} {L M : Nat → Int32} {lo hi : Nat → Int32} (hG : okG c n S L M) (hr : rgB c lo hi) :
    ∀ g, g ≤ n → (swL S L M lo hi g).2.2.2 = false → rgB c (swL S L M lo hi g).1 (swL S L M lo hi g).2.1 ∧ wid c (swL S L M lo hi g).1 (swL S L M lo hi g).2.1 + (if (swL S L M lo hi g).2.2.1 then 1 else 0) ≤ wid c lo hi
  | 0, _, _ => ⟨hr, by simp [swL]⟩
  | g + 1, hg, ht => by
    have ht : ((swL S L M lo hi g).2.2.2 || (nwL (S g) (L g) (M g) (swL S L M lo hi g).1 (swL S L M lo hi g).2.1 10).2.2.2) = false := ht
    rw [Bool.or_eq_false_iff] at ht
    obtain ⟨g1, g2⟩ := sw_A hG hr g (by omega) ht.1
    have hq := hG.2 g (by omega)
    have h1 := ht.2
    have h2 := nw_A (s := S g) (L := L g) (M := M g) g1 c (Nat.le_refl c)
    rw [← nwL_ten hG.1 hq.1] at h2
    obtain ⟨k1, k2⟩ := h2 h1
    refine ⟨k1, ?_⟩
    show wid c (nwL (S g) (L g) (M g) (swL S L M lo hi g).1 (swL S L M lo hi g).2.1 10).1 (nwL (S g) (L g) (M g) (swL S L M lo hi g).1 (swL S L M lo hi g).2.1 10).2.1 + (if ((swL S L M lo hi g).2.2.1 || (nwL (S g) (L g) (M g) (swL S L M lo hi g).1 (swL S L M lo hi g).2.1 10).2.2.1) = true then 1 else 0) ≤ wid c lo hi
    by_cases c1 : (swL S L M lo hi g).2.2.1 = true <;> by_cases c2 : (nwL (S g) (L g) (M g) (swL S L M lo hi g).1 (swL S L M lo hi g).2.1 10).2.2.1 = true <;> simp only [c1, c2, Bool.true_or, Bool.or_true, Bool.false_or, if_true, Bool.false_eq_true, if_false] at g2 k2 ⊢ <;> omega
theorem sw_C {c n : Nat} {S : Nat → Nat} {L M : Nat → Int32} {lo hi : Nat → Int32} (hG : okG c n S L M) :
    ∀ g, g ≤ n → (swL S L M lo hi g).2.2.1 = false → (swL S L M lo hi g).1 = lo ∧ (swL S L M lo hi g).2.1 = hi ∧ ∀ k, k < g → ∀ q, q < c → S k / 2 ^ q % 2 = 1 → leV (S k) (L k) lo hi q = lo q ∧ moV (S k) (M k) lo hi q = hi q
  | 0, _, _ => ⟨rfl, rfl, fun k hk => absurd hk (Nat.not_lt_zero k)⟩
  | g + 1, hg, h => by
    have h : ((swL S L M lo hi g).2.2.1 || (nwL (S g) (L g) (M g) (swL S L M lo hi g).1 (swL S L M lo hi g).2.1 10).2.2.1) = false := h
    rw [Bool.or_eq_false_iff] at h
    obtain ⟨g1, g2, g3⟩ := sw_C hG g (by omega) h.1
    have h1 := h.2
    rw [g1, g2] at h1
    obtain ⟨k1, k2, k3⟩ := nw_C (c := c) 10 h1
    refine ⟨?_, ?_, fun k hk q hq hb => ?_⟩
    · show (nwL (S g) (L g) (M g) (swL S L M lo hi g).1 (swL S L M lo hi g).2.1 10).1 = lo
      rw [g1, g2]; exact k1
    · show (nwL (S g) (L g) (M g) (swL S L M lo hi g).1 (swL S L M lo hi g).2.1 10).2.1 = hi
      rw [g1, g2]; exact k2
    · rcases Nat.lt_or_ge k g with z | z
      · exact g3 k z q hq hb
      · rw [show k = g by omega] at hb ⊢
        have := hG.1
        exact k3 q (by omega) hb
theorem sw_mono {S : Nat → Nat} {L M : Nat → Int32} {lo hi : Nat → Int32} : ∀ g q, (lo q).toInt ≤ ((swL S L M lo hi g).1 q).toInt ∧ ((swL S L M lo hi g).2.1 q).toInt ≤ (hi q).toInt
  | 0, q => ⟨Int.le_refl _, Int.le_refl _⟩
  | g + 1, q => by
    have h1 := sw_mono (S := S) (L := L) (M := M) (lo := lo) (hi := hi) g q
    have h2 := nw_mono (s := S g) (L := L g) (M := M g) (lo := (swL S L M lo hi g).1) (hi := (swL S L M lo hi g).2.1) 10 q
    exact ⟨Int.le_trans h1.1 h2.1, Int.le_trans h2.2 h1.2⟩
theorem sw_T {c n : Nat} {S : Nat → Nat} {L M : Nat → Int32} {lo hi : Nat → Int32} (hG : okG c n S L M) (hr : ∀ i, i < c → (lo i).toInt ≤ (hi i).toInt) :
    ∀ g, g ≤ n → ((swL S L M lo hi g).2.2.2 = true ↔ ∃ q, q < c ∧ (swL S L M lo hi g).2.1 q < (swL S L M lo hi g).1 q)
  | 0, _ => by
    simp only [swL]
    exact ⟨fun h => absurd h (by decide), fun ⟨q, q1, q2⟩ => by rw [fa_lt] at q2; have := hr q q1; omega⟩
  | g + 1, hg => by
    have ih := sw_T hG hr g (by omega)
    have hq := hG.2 g (by omega)
    show ((swL S L M lo hi g).2.2.2 || (nwL (S g) (L g) (M g) (swL S L M lo hi g).1 (swL S L M lo hi g).2.1 10).2.2.2) = true ↔ ∃ q, q < c ∧ (nwL (S g) (L g) (M g) (swL S L M lo hi g).1 (swL S L M lo hi g).2.1 10).2.1 q < (nwL (S g) (L g) (M g) (swL S L M lo hi g).1 (swL S L M lo hi g).2.1 10).1 q
    rw [Bool.or_eq_true]
    by_cases ht : (swL S L M lo hi g).2.2.2 = true
    · refine ⟨fun _ => ?_, fun _ => Or.inl ht⟩
      obtain ⟨q, q1, q2⟩ := ih.mp ht
      have h2 := nw_mono (s := S g) (L := L g) (M := M g) (lo := (swL S L M lo hi g).1) (hi := (swL S L M lo hi g).2.1) 10 q
      refine ⟨q, q1, ?_⟩
      rw [fa_lt] at *
      omega
    · have hr2 : ∀ i, i < c → ((swL S L M lo hi g).1 i).toInt ≤ ((swL S L M lo hi g).2.1 i).toInt := fun i hi2 => by
        rcases Int.lt_or_le ((swL S L M lo hi g).2.1 i).toInt ((swL S L M lo hi g).1 i).toInt with z | z
        · exact absurd (ih.mpr ⟨i, hi2, by rw [fa_lt]; exact z⟩) ht
        · exact z
      have := nw_T (s := S g) (L := L g) (M := M g) hr2 c (Nat.le_refl c)
      rw [← nwL_ten hG.1 hq.1] at this
      rw [← this]
      exact ⟨fun h => h.resolve_left ht, fun h => Or.inr h⟩
theorem nw_out {s c : Nat} {L M : Int32} {lo hi : Nat → Int32} (hs : s < 2 ^ c) : ∀ i q, c ≤ q → (nwL s L M lo hi i).1 q = lo q ∧ (nwL s L M lo hi i).2.1 q = hi q
  | 0, q, _ => ⟨rfl, rfl⟩
  | i + 1, q, hq => by
    have ih := nw_out (L := L) (M := M) (lo := lo) (hi := hi) hs i q hq
    rw [nwL]
    split
    · rename_i hb
      have hic : i < c := by
        rcases Nat.lt_or_ge i c with z | z
        · exact z
        · rw [Nat.div_eq_of_lt (Nat.lt_of_lt_of_le hs (Nat.pow_le_pow_right (by decide) z))] at hb
          exact absurd hb (by decide)
      dsimp only [upd]
      rw [if_neg (by omega), if_neg (by omega)]
      exact ih
    · exact ih
theorem sw_out {c n : Nat} {S : Nat → Nat} {L M : Nat → Int32} {lo hi : Nat → Int32} (hG : okG c n S L M) : ∀ g, g ≤ n → ∀ q, c ≤ q → (swL S L M lo hi g).1 q = lo q ∧ (swL S L M lo hi g).2.1 q = hi q
  | 0, _, q, _ => ⟨rfl, rfl⟩
  | g + 1, hg, q, hq => by
    have ih := sw_out (lo := lo) (hi := hi) hG g (by omega) q hq
    have := nw_out (L := L g) (M := M g) (lo := (swL S L M lo hi g).1) (hi := (swL S L M lo hi g).2.1) (hG.2 g (by omega)).1 10 q hq
    exact ⟨this.1.trans ih.1, this.2.trans ih.2⟩
/-- nothing is narrowed: a solution -/
theorem sw_sol {c n : Nat} {S : Nat → Nat} {L M : Nat → Int32} {lo hi : Nat → Int32} (hG : okG c n S L M) (hr : rgB c lo hi) (h : (swL S L M lo hi n).2.2.1 = false) : Sol c n S L M (fun i => (lo i).toInt) (fun i => (hi i).toInt) := by
  refine ⟨hr, fun g hg i hic hb => ?_⟩
  obtain ⟨_, _, h3⟩ := sw_C hG n (Nat.le_refl n) h
  obtain ⟨e1, e2⟩ := h3 g hg i hic hb
  have hq := hG.2 g hg
  have x1 := x_int (L := L g) hG.1 hq.1 hic hb (f := hi) (fun q z => by have := hr q z; omega) hq.2.1
  have x2 := x_int (L := M g) hG.1 hq.1 hic hb (f := lo) (fun q z => by have := hr q z; omega) hq.2.2
  refine ⟨?_, ?_⟩
  · show (L g).toInt - (sI (S g) (fun i => (hi i).toInt) c - (hi i).toInt) ≤ (lo i).toInt
    rw [← x1]
    unfold leV at e1
    split at e1
    · rw [e1]; exact Int.le_refl _
    · rename_i z
      rw [fa_lt] at z
      omega
  · show (hi i).toInt ≤ (M g).toInt - (sI (S g) (fun i => (lo i).toInt) c - (lo i).toInt)
    rw [← x2]
    unfold moV at e2
    split at e2
    · rw [e2]; exact Int.le_refl _
    · rename_i z
      rw [fa_lt] at z
      omega
/-- the greatest solution, or none -/
def Gr (c n : Nat) (S : Nat → Nat) (L M : Nat → Int32) (lo hi : Nat → Int32) : Prop := rgB c lo hi ∧ Sol c n S L M (fun i => (lo i).toInt) (fun i => (hi i).toInt) ∧ ∀ a b, Sol c n S L M a b → cont c lo hi a b
def GrI (c n : Nat) (S : Nat → Nat) (L M : Nat → Int32) (lo hi : Nat → Int32) (tv : Prop) : Prop := (¬ tv ∧ Gr c n S L M lo hi) ∨ (tv ∧ ¬ ∃ a b, Sol c n S L M a b)
theorem Gr_one {c n : Nat} {S : Nat → Nat} {L M : Nat → Int32} {lo hi lo2 hi2 : Nat → Int32} (h1 : Gr c n S L M lo hi) (h2 : Gr c n S L M lo2 hi2) {i : Nat} (hic : i < c) : lo i = lo2 i ∧ hi i = hi2 i := by
  have a := h1.2.2 _ _ h2.2.1 i hic
  have b := h2.2.2 _ _ h1.2.1 i hic
  rw [fa_eq, fa_eq]
  omega
theorem Sol_less {c n : Nat} {S S2 : Nat → Nat} {L L2 M M2 : Nat → Int32} {a b : Nat → Int} (he : ∀ g, g < n → S2 g = S g ∧ L2 g = L g ∧ M2 g = M g) (h : Sol c (n + 1) S2 L2 M2 a b) : Sol c n S L M a b := by
  refine ⟨h.1, fun g hg i hic hb => ?_⟩
  obtain ⟨e1, e2, e3⟩ := he g hg
  have := h.2 g (by omega) i hic (by rw [e1]; exact hb)
  rw [e1, e2, e3] at this
  exact this
theorem wid_nn {c : Nat} {lo hi : Nat → Int32} (h : rgB c lo hi) : 0 ≤ wid c lo hi ∧ wid c lo hi ≤ 10000 * c := by
  unfold wid
  induction c with
  | zero => simp [fb_si]
  | succ c ih =>
    have := ih (fun i hic => h i (by omega))
    have hc := h c (by omega)
    rw [fb_si_succ]
    omega
theorem rg_full (c : Nat) : rgB c (fun _ => 0) (fun _ => 10000) := fun i _ => by simp only [Int32.reduceToInt, Int32.toInt_zero]; omega
/-- one sweep from where all solutions are contained -/
theorem sweep_ok {c n : Nat} {S : Nat → Nat} {L M : Nat → Int32} {lo hi : Nat → Int32} (hG : okG c n S L M) (hr : rgB c lo hi) (hC : ∀ a b, Sol c n S L M a b → cont c lo hi a b) :
    ((swL S L M lo hi n).2.2.2 = true → ¬ ∃ a b, Sol c n S L M a b) ∧ ((swL S L M lo hi n).2.2.2 = false → rgB c (swL S L M lo hi n).1 (swL S L M lo hi n).2.1 ∧ (∀ a b, Sol c n S L M a b → cont c (swL S L M lo hi n).1 (swL S L M lo hi n).2.1 a b) ∧ ((swL S L M lo hi n).2.2.1 = false → Gr c n S L M (swL S L M lo hi n).1 (swL S L M lo hi n).2.1) ∧ ((swL S L M lo hi n).2.2.1 = true → wid c (swL S L M lo hi n).1 (swL S L M lo hi n).2.1 + 1 ≤ wid c lo hi)) := by
  refine ⟨fun ht ⟨a, b, hab⟩ => ?_, fun ht => ?_⟩
  · have := (sw_B hG hab hr (hC a b hab) n (Nat.le_refl n)).2.2
    rw [ht] at this
    cases this
  · obtain ⟨g1, g2⟩ := sw_A hG hr n (Nat.le_refl n) ht
    have g3 : ∀ a b, Sol c n S L M a b → cont c (swL S L M lo hi n).1 (swL S L M lo hi n).2.1 a b := fun a b hab => (sw_B hG hab hr (hC a b hab) n (Nat.le_refl n)).1
    refine ⟨g1, g3, fun hch => ⟨g1, ?_, g3⟩, fun hch => ?_⟩
    · obtain ⟨e1, e2, _⟩ := sw_C hG n (Nat.le_refl n) hch
      rw [e1, e2]
      exact sw_sol hG hr hch
    · rw [hch] at g2
      simpa using g2
