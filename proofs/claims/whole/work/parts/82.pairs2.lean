theorem J3_c {σ τ : zSt} {s n y : Nat} (h : ∀ a, (18 ≤ a ∧ a ≤ 26) ∨ a = 148 ∨ a = 149 ∨ (156 ≤ a ∧ a ≤ 161) → τ a = σ a) (h1 : τ 17 13 = σ 17 13) (h2 : τ 17 14 = σ 17 14) (h3 : τ 17 15 = σ 17 15) (h4 : τ 145 5 = σ 145 5) (h5 : τ 145 6 = σ 145 6) (i3 : J3 σ s n y) : J3 τ s n y := by
  have hp : pv0 τ = pv0 σ := by
    funext i
    unfold pv0
    by_cases h8 : i < 8
    · rw [if_pos h8, if_pos h8, h (18 + i) (by omega)]
    · rw [if_neg h8, if_neg h8, h1]
  unfold J3 at *
  rw [hp, h1, h2, h3, h4, h5, h 26 (by omega), h 18 (by omega)]
  refine ⟨fun i hi => ?_, i3.2⟩
  have := kA_ne hi
  rw [h (18 + i) (by omega), h (kA i) (by omega)]
  exact i3.1 i hi
theorem J5_c {σ τ : zSt} {T : Nat → TXT} (h6 : τ 6 = σ 6) (h3 : τ 3 12 = σ 3 12) (h37 : τ 37 2 = σ 37 2) (h16 : τ 16 1 = σ 16 1) (ht : ∀ a, 61 ≤ a → a < 145 → τ a = σ a) (hk : ∀ a, 169 ≤ a → a ≤ 174 → τ a = σ a) (h : J5 σ T) : J5 τ T := by
  have hf : ∀ i, tf τ i = tf σ i := fun i => by unfold tf; rw [h6, h3, h37, h16]
  refine ⟨fun i hi => by rw [hf]; exact h.1 i hi, fun i j hi hj => by rw [hf, hf]; exact h.2.1 i j hi hj, fun i hi => ?_⟩
  obtain ⟨a1, a2, a3⟩ := h.2.2 i hi
  have hr := tx_rng (h.1 i (by omega))
  rw [hf]
  exact ⟨txC_congr (fun a b1 b2 => ht a (by omega) (by omega)) a1, txK_congr hk a2, a3⟩
theorem J9_c {σ τ : zSt} {T : Nat → TXT} {e : Nat} (he : e ≤ 10) (hch : ∀ a, a = 4 ∨ a = 5 ∨ (39 ≤ a ∧ a ≤ 48) ∨ a = 195 → τ a = σ a) (h5 : J5 σ T) (h37 : τ 37 = σ 37) (ht : ∀ a, 61 ≤ a → a < 145 → τ a = σ a) (hk : ∀ a, 169 ≤ a → a ≤ 174 → τ a = σ a) (h : J9 σ e) : J9 τ e := by
  have hf : tf τ 11 = tf σ 11 := by
    show (τ 37 2).toNatClampNeg = (σ 37 2).toNatClampNeg
    rw [h37]
  have hr := tx_rng (h5.1 11 (by decide))
  obtain ⟨G, op, vl, len, g⟩ := h
  refine ⟨G, op, vl, len, ?_⟩
  rw [hf, h37, ht (tf σ 11) (by omega) (by omega), ht (tf σ 11 + 1) (by omega) (by omega), hk 169 (by decide) (by decide), hk 170 (by decide) (by decide), hk 172 (by decide) (by decide), hk 174 (by decide) (by decide), hch 5 (by omega), hch 4 (by omega)]
  exact ⟨g.1, g.2.1, g.2.2.1, g.2.2.2.1, fun z => lrS_c (fun a ha => hch a (by omega)) he (g.2.2.2.2 z)⟩
/-- with one CLERK more nothing is learnt -/
theorem J9_up {σ τ : zSt} {T : Nat → TXT} {e : Nat} (he : e < 10) (h5 : J5 σ T) (h37 : τ 37 = σ 37) (ht : ∀ a, 61 ≤ a → a < 145 → τ a = σ a) (hk : ∀ a, 169 ≤ a → a ≤ 174 → τ a = σ a) (h : J9 σ e) : J9 τ (e + 1) := by
  have hf : tf τ 11 = tf σ 11 := by
    show (τ 37 2).toNatClampNeg = (σ 37 2).toNatClampNeg
    rw [h37]
  have hr := tx_rng (h5.1 11 (by decide))
  obtain ⟨G, op, vl, len, g⟩ := h
  refine ⟨G, op, vl, len, ?_⟩
  rw [hf, h37, ht (tf σ 11) (by omega) (by omega), ht (tf σ 11 + 1) (by omega) (by omega), hk 169 (by decide) (by decide), hk 170 (by decide) (by decide), hk 172 (by decide) (by decide), hk 174 (by decide) (by decide)]
  have g4 := g.2.2.2.1
  refine ⟨g.1, g.2.1, g.2.2.1, by omega, fun z => ?_⟩
  rw [z, nI_toInt (by omega)] at g4
  omega
theorem bit_out {s c : Nat} (h : s < 2 ^ c) : ¬ s / 2 ^ c % 2 = 1 := by
  rw [Nat.div_eq_of_lt h]
  decide
theorem Sol_dn {c n : Nat} {S : Nat → Nat} {L M : Nat → Int32} {a b : Nat → Int} (hS : ∀ g, g < n → S g < 2 ^ c) (h : Sol (c + 1) n S L M a b) : Sol c n S L M a b := by
  refine ⟨fun i hi => h.1 i (by omega), fun g hg i hi hb => ?_⟩
  have := h.2 g hg i (by omega) hb
  rw [sI, if_neg (bit_out (hS g hg)), sI, if_neg (bit_out (hS g hg))] at this
  exact this
theorem Sol_up {c n : Nat} {S : Nat → Nat} {L M : Nat → Int32} {a b : Nat → Int} (hS : ∀ g, g < n → S g < 2 ^ c) (h : Sol c n S L M a b) (hc : 0 ≤ a c ∧ a c ≤ b c ∧ b c ≤ 10000) : Sol (c + 1) n S L M a b := by
  refine ⟨fun i hi => ?_, fun g hg i hi hb => ?_⟩
  · by_cases e : i = c
    · rw [e]; exact hc
    · exact h.1 i (by omega)
  · have hic : i < c := by
      rcases Nat.lt_or_ge i c with q | q
      · exact q
      · have e : i = c := by omega
        rw [e] at hb
        exact absurd hb (bit_out (hS g hg))
    rw [sI, if_neg (bit_out (hS g hg)), sI, if_neg (bit_out (hS g hg))]
    exact h.2 g hg i hic hb
theorem J8_e {σ : zSt} {e : Nat} (he : e < 10) (h : J8 σ e) : J8 σ (e + 1) := by
  obtain ⟨m, S, L, M, tv, h1, h2, h3, h4, h5, h6, h7, h8⟩ := h
  have hS : ∀ g, g < m → S g < 2 ^ e := fun g hg => (h4.2 g hg).1
  have hz := h8 e (Nat.le_refl e) he
  refine ⟨m, S, L, M, tv, h1, h2, h3, ⟨he, fun g hg => ⟨by have := hS g hg; rw [Nat.pow_succ]; omega, (h4.2 g hg).2⟩⟩, h5, h6, ?_, fun q q1 q2 => h8 q (by omega) q2⟩
  rcases h7 with ⟨ht, hr, hs, hm⟩ | ⟨ht, hn⟩
  · refine Or.inl ⟨ht, fun i hi => ?_, Sol_up hS hs (by rw [hz.1, hz.2]; decide), fun a b hab i hi => ?_⟩
    · by_cases ee : i = e
      · rw [ee, hz.1, hz.2]; decide
      · exact hr i (by omega)
    · by_cases ee : i = e
      · have := hab.1 e (by omega)
        rw [ee, hz.1, hz.2]
        simp only [Int32.toInt_zero, Int32.reduceToInt]
        omega
      · exact hm a b (Sol_dn hS hab) i (by omega)
  · exact Or.inr ⟨ht, fun z => hn (by obtain ⟨a, b, hab⟩ := z; exact ⟨a, b, Sol_dn hS hab⟩)⟩
theorem pr_clerk (p q : Int32) {σ : zSt} (hI : Inv σ) : Pair mX11_clerk mX12_clerk 1 1 [.int p, .int q] σ := by
  have hI0 := hI
  obtain ⟨e, s, n, y, u, T, ⟨i1, i2, i3, i5, i6, i7, i8, i9⟩, i4⟩ := hI
  refine ⟨_, c_clerk e p q σ i1.1.1 i1.1.2.2, fun r τ q1 => ?_⟩
  rcases q1 with ⟨hA, hr, rfl⟩ | ⟨hA, hr, et⟩
  · refine ⟨_, k_clerk e p q _ i1.1.2.1 i1.1.2.2, fun r2 ρ q2 => ?_⟩
    rcases q2 with ⟨_, hr2, rfl⟩ | ⟨hB, _, _⟩
    · refine ⟨_, hr, hr2, e + 1, s, n, y, u, T, ⟨⟨⟨rfl, rfl, hA.2.2⟩, i1.2⟩, ⟨⟨by show upd (σ 4) e p = upd (σ 146) e p; rw [i2.1.1], by show upd (σ 5) e q = upd (σ 147) e q; rw [i2.1.2.1], i2.1.2.2⟩, fun a ha => ?_, i2.2.2⟩, J3_c (σ := σ) (fun a ha => by rw [zu_ne _ (by omega), zu_ne _ (by omega), zu_ne _ (by omega), zu_ne _ (by omega), zu_ne _ (by omega), zu_ne _ (by omega)]) rfl rfl rfl rfl rfl i3, J5_c (σ := σ) rfl rfl rfl rfl (fun a h1 h2 => by rw [zu_ne _ (by omega), zu_ne _ (by omega), zu_ne _ (by omega), zu_ne _ (by omega), zu_ne _ (by omega), zu_ne _ (by omega)]) (fun a h1 h2 => by rw [zu_ne _ (by omega), zu_ne _ (by omega), zu_ne _ (by omega), zu_ne _ (by omega), zu_ne _ (by omega), zu_ne _ (by omega)]) i5, i6, i7, J8_e hA.2.2 i8, J9_up (σ := σ) hA.2.2 i5 rfl (fun a h1 h2 => by rw [zu_ne _ (by omega), zu_ne _ (by omega), zu_ne _ (by omega), zu_ne _ (by omega), zu_ne _ (by omega), zu_ne _ (by omega)]) (fun a h1 h2 => by rw [zu_ne _ (by omega), zu_ne _ (by omega), zu_ne _ (by omega), zu_ne _ (by omega), zu_ne _ (by omega), zu_ne _ (by omega)]) i9⟩, i4⟩
      obtain ⟨c, h1, h2, h3⟩ := i2.2.1 a ha
      exact ⟨c, h1, h2, by rw [Nat.pow_succ]; omega⟩
    · exact absurd hA hB
  · have et := et.symm
    subst et
    refine ⟨_, k_clerk e p q _ i1.1.2.1 i1.1.2.2, fun r2 ρ q2 => ?_⟩
    rcases q2 with ⟨hB, _, _⟩ | ⟨_, hr2, rfl⟩
    · exact absurd hB hA
    · exact ⟨_, hr, hr2, hI0⟩
theorem set_nat {x : Int32} {e : Nat} (he : e ≤ 10) (h0 : x ≠ 0) (h : isset x (nI e)) : ∃ c, x = nI c ∧ 0 < c ∧ c < 2 ^ e := by
  have h2 := h.2
  rw [shl_c e he] at h2
  obtain ⟨c, hc, rfl⟩ := nI_ofr ⟨h.1, h2⟩
  refine ⟨c, rfl, ?_, hc⟩
  rcases Nat.eq_zero_or_pos c with z | z
  · exact absurd (by rw [z]; rfl) h0
  · exact z
theorem pr_step (p q : Int32) {σ : zSt} (hI : Inv σ) : Pair mX11_step mX12_step 2 1 [.int p, .int q] σ := by
  have hI0 := hI
  obtain ⟨e, s, n, y, u, T, ⟨i1, i2, i3, i5, i6, i7, i8, i9⟩, i4⟩ := hI
  refine ⟨_, c_step e s n p q σ i1.1.1 i1.2.1.1 i1.2.2.1.1 i1.2.1.2.2 i1.2.2.1.2.2.2, fun r τ q1 => ?_⟩
  rcases q1 with ⟨hA, hr, rfl⟩ | ⟨hA, hr, et⟩
  · refine ⟨_, k_step e s n p q _ i1.1.2.1 i1.2.1.2.1 i1.2.2.1.2.1 i1.2.1.2.2 i1.2.2.1.2.2.2, fun r2 ρ q2 => ?_⟩
    rcases q2 with ⟨_, hr2, rfl⟩ | ⟨hB, _, _⟩
    · have hn0 := hA.2.2.2
      subst hn0
      have hs1 := hA.2.2.1
      have j3 : J3 (zu (zu (zu (zu (zu (zu σ 7 s p) 8 s q) 3 6 (nI (s + 1))) 150 s p) 151 s q) 145 2 (nI (s + 1))) s 0 y := J3_c (σ := σ) (fun a ha => by rw [zu_ne _ (by omega), zu_ne _ (by omega), zu_ne _ (by omega), zu_ne _ (by omega), zu_ne _ (by omega), zu_ne _ (by omega)]) rfl rfl rfl rfl rfl i3
      refine ⟨_, hr, hr2, e, s + 1, 0, y, u, T, ⟨⟨i1.1, ⟨rfl, rfl, hs1⟩, i1.2.2⟩, ⟨⟨i2.1.1, i2.1.2.1, by show upd (σ 7) s p = upd (σ 150) s p; rw [i2.1.2.2.1], by show upd (σ 8) s q = upd (σ 151) s q; rw [i2.1.2.2.2.1], i2.1.2.2.2.2⟩, fun a ha => ?_, i2.2.2⟩, ⟨j3.1, j3.2.1, ⟨fun k hk => absurd hk (Nat.not_lt_zero k), j3.2.2.1.2⟩, j3.2.2.2.1, fun k hk => ?_, j3.2.2.2.2.2.1, fun k hk => absurd hk (Nat.not_lt_zero k)⟩, J5_c (σ := σ) rfl rfl rfl rfl (fun a h1 h2 => by rw [zu_ne _ (by omega), zu_ne _ (by omega), zu_ne _ (by omega), zu_ne _ (by omega), zu_ne _ (by omega), zu_ne _ (by omega)]) (fun a h1 h2 => by rw [zu_ne _ (by omega), zu_ne _ (by omega), zu_ne _ (by omega), zu_ne _ (by omega), zu_ne _ (by omega), zu_ne _ (by omega)]) i5, i6, i7, i8, J9_c (σ := σ) i1.1.2.2 (fun a ha => by rw [zu_ne _ (by omega), zu_ne _ (by omega), zu_ne _ (by omega), zu_ne _ (by omega), zu_ne _ (by omega), zu_ne _ (by omega)]) i5 rfl (fun a h1 h2 => by rw [zu_ne _ (by omega), zu_ne _ (by omega), zu_ne _ (by omega), zu_ne _ (by omega), zu_ne _ (by omega), zu_ne _ (by omega)]) (fun a h1 h2 => by rw [zu_ne _ (by omega), zu_ne _ (by omega), zu_ne _ (by omega), zu_ne _ (by omega), zu_ne _ (by omega), zu_ne _ (by omega)]) i9⟩, i4⟩
      · show ∃ c, upd (σ 7) s p a = nI c ∧ 0 < c ∧ c < 2 ^ e
        unfold upd
        by_cases ea : a = s
        · rw [if_pos ea]
          exact set_nat i1.1.2.2 hA.1.1 hA.1.2
        · rw [if_neg ea]
          exact i2.2.1 a (by omega)
      · rw [j3.2.2.2.2.2.1 rfl k (by omega)]
        rfl
    · exact absurd hA hB
  · have et := et.symm
    subst et
    refine ⟨_, k_step e s n p q _ i1.1.2.1 i1.2.1.2.1 i1.2.2.1.2.1 i1.2.1.2.2 i1.2.2.1.2.2.2, fun r2 ρ q2 => ?_⟩
    rcases q2 with ⟨hB, _, _⟩ | ⟨_, hr2, rfl⟩
    · exact absurd hB hA
    · exact ⟨_, hr, hr2, hI0⟩
theorem pr_seed (p : Int32) {σ : zSt} (hI : Inv σ) : Pair mX11_seed mX12_seed 1 1 [.int p] σ := by
  have hI0 := hI
  obtain ⟨e, s, n, y, u, T, ⟨i1, i2, i3, i5, i6, i7, i8, i9⟩, i4⟩ := hI
  refine ⟨_, c_seed p σ, fun r τ q1 => ?_⟩
  rcases q1 with ⟨hA, hr, rfl⟩ | ⟨hA, hr, et⟩
  · refine ⟨_, k_seed p _, fun r2 ρ q2 => ?_⟩
    rcases q2 with ⟨_, hr2, rfl⟩ | ⟨hB, _, _⟩
    · obtain ⟨X, hX, hX2⟩ := nI_rng (n := 65535) hA.1 hA.2
      refine ⟨_, hr, hr2, e, s, n, y, u, T, ⟨⟨i1.1, i1.2.1, i1.2.2.1, i1.2.2.2.1, X, by omega, hX2, hX2⟩, i2, ⟨fun i hi => ?_, ⟨rfl, i3.2.1.2⟩, ⟨i3.2.2.1.1, ⟨X, by omega, hX2⟩, 0, by decide, rfl⟩, i3.2.2.2⟩, J5_c (σ := σ) rfl rfl rfl rfl (fun a h1 h2 => by rw [zu_ne _ (by omega), zu_ne _ (by omega), zu_ne _ (by omega), zu_ne _ (by omega)]) (fun a h1 h2 => by rw [zu_ne _ (by omega), zu_ne _ (by omega), zu_ne _ (by omega), zu_ne _ (by omega)]) i5, i6, i7, i8, J9_c (σ := σ) i1.1.2.2 (fun a ha => by rw [zu_ne _ (by omega), zu_ne _ (by omega), zu_ne _ (by omega), zu_ne _ (by omega)]) i5 rfl (fun a h1 h2 => by rw [zu_ne _ (by omega), zu_ne _ (by omega), zu_ne _ (by omega), zu_ne _ (by omega)]) (fun a h1 h2 => by rw [zu_ne _ (by omega), zu_ne _ (by omega), zu_ne _ (by omega), zu_ne _ (by omega)]) i9⟩, i4⟩
      have := kA_ne hi
      rw [zu_ne _ (by omega), zu_ne _ (by omega), zu_ne _ (by omega), zu_ne _ (by omega), zu_ne _ (by omega), zu_ne _ (by omega), zu_ne _ (by omega), zu_ne _ (by omega)]
      exact i3.1 i hi
    · exact absurd hA hB
  · have et := et.symm
    subst et
    refine ⟨_, k_seed p _, fun r2 ρ q2 => ?_⟩
    rcases q2 with ⟨hB, _, _⟩ | ⟨_, hr2, rfl⟩
    · exact absurd hB hA
    · exact ⟨_, hr, hr2, hI0⟩
theorem upd_lt {f g : Nat → Int32} {n k : Nat} {x : Int32} (P : Nat → Int32 → Prop) (hk : k < n + 1) (h1 : ∀ k, k < n → P k (f k)) (h2 : P n x) : P k (upd f n x k) := by
  unfold upd
  by_cases e : k = n
  · rw [if_pos e, e]; exact h2
  · rw [if_neg e]; exact h1 k (by omega)
set_option maxHeartbeats 4000000 in
theorem pr_file (p q z : Int32) {σ : zSt} (hI : Inv σ) : Pair mX11_file mX12_file 1 1 [.int p, .int q, .int z] σ := by
  have hI0 := hI
  obtain ⟨e, s, n, y, u, T, ⟨i1, i2, i3, i5, i6, i7, i8, i9⟩, i4⟩ := hI
  refine ⟨_, c_file s n y (σ 26 0) p q z σ i1.2.1.1 i1.2.2.1.1 i1.2.2.2.1.1 rfl i1.2.1.2.2 i1.2.2.1.2.2.2, fun r τ q1 => ?_⟩
  rcases q1 with ⟨hA, hr, rfl⟩ | ⟨hA, hr, et⟩
  · refine ⟨_, k_file s n y p q z _ i1.2.1.2.1 i1.2.2.1.2.1 i1.2.2.2.1.2.1 i1.2.1.2.2 i1.2.2.1.2.2.2, fun r2 ρ q2 => ?_⟩
    rcases q2 with ⟨_, hr2, rfl⟩ | ⟨hB, _, _⟩
    · obtain ⟨C, hC, rfl⟩ := nI_rng (n := 10000) hA.2.1.1 hA.2.1.2
      obtain ⟨Z, hZ, rfl⟩ := nI_rng (n := 200) hA.2.2.1.1 hA.2.2.1.2
      have hn40 := hA.2.2.2.1
      have hs8 := i1.2.1.2.2
      have hp1 : p = 0 ∨ p = 1 := by
        obtain ⟨B, hB, rfl⟩ := nI_rng (n := 1) hA.1.1 hA.1.2
        rcases (show B = 0 ∨ B = 1 by omega) with z | z
        · rw [z]; exact Or.inl rfl
        · rw [z]; exact Or.inr rfl
      have hn31 : n < 2 ^ 31 := by omega
      refine ⟨_, hr, hr2, e, s, n + 1, y, u, T, ⟨⟨i1.1, i1.2.1, ⟨rfl, rfl, rfl, hn40⟩, i1.2.2.2⟩, ⟨⟨i2.1.1, i2.1.2.1, i2.1.2.2.1, i2.1.2.2.2.1, by show upd (σ 9) n p = upd (σ 152) n p; rw [i2.1.2.2.2.2.1], by show upd (σ 10) n (nI C) = upd (σ 153) n (nI C); rw [i2.1.2.2.2.2.2.1], by show upd (σ 11) n (nI Z) = upd (σ 154) n (nI Z); rw [i2.1.2.2.2.2.2.2.1], by show upd (σ 12) n (nI y) = upd (σ 155) n (nI y); rw [i2.1.2.2.2.2.2.2.2]⟩, i2.2.1, fun j hj => ?_, fun i j hij hj => ?_⟩, ⟨fun i hi => ?_, i3.2.1, ⟨fun k hk => ?_, i3.2.2.1.2.1, 0, by decide, rfl⟩, i3.2.2.2.1, fun k hk => ?_, fun h => absurd h (Nat.succ_ne_zero n), fun j hj => ?_⟩, J5_c (σ := σ) rfl rfl rfl rfl (fun a h1 h2 => by rw [zu_ne _ (by omega), zu_ne _ (by omega), zu_ne _ (by omega), zu_ne _ (by omega), zu_ne _ (by omega), zu_ne _ (by omega), zu_ne _ (by omega), zu_ne _ (by omega), zu_ne _ (by omega), zu_ne _ (by omega), zu_ne _ (by omega), zu_ne _ (by omega), zu_ne _ (by omega), zu_ne _ (by omega), zu_ne _ (by omega), zu_ne _ (by omega), zu_ne _ (by omega), zu_ne _ (by omega), zu_ne _ (by omega), zu_ne _ (by omega), zu_ne _ (by omega), zu_ne _ (by omega), zu_ne _ (by omega), zu_ne _ (by omega)]) (fun a h1 h2 => by rw [zu_ne _ (by omega), zu_ne _ (by omega), zu_ne _ (by omega), zu_ne _ (by omega), zu_ne _ (by omega), zu_ne _ (by omega), zu_ne _ (by omega), zu_ne _ (by omega), zu_ne _ (by omega), zu_ne _ (by omega), zu_ne _ (by omega), zu_ne _ (by omega), zu_ne _ (by omega), zu_ne _ (by omega), zu_ne _ (by omega), zu_ne _ (by omega), zu_ne _ (by omega), zu_ne _ (by omega), zu_ne _ (by omega), zu_ne _ (by omega), zu_ne _ (by omega), zu_ne _ (by omega), zu_ne _ (by omega), zu_ne _ (by omega)]) i5, i6, i7, i8, J9_c (σ := σ) i1.1.2.2 (fun a ha => by rw [zu_ne _ (by omega), zu_ne _ (by omega), zu_ne _ (by omega), zu_ne _ (by omega), zu_ne _ (by omega), zu_ne _ (by omega), zu_ne _ (by omega), zu_ne _ (by omega), zu_ne _ (by omega), zu_ne _ (by omega), zu_ne _ (by omega), zu_ne _ (by omega), zu_ne _ (by omega), zu_ne _ (by omega), zu_ne _ (by omega), zu_ne _ (by omega), zu_ne _ (by omega), zu_ne _ (by omega), zu_ne _ (by omega), zu_ne _ (by omega), zu_ne _ (by omega), zu_ne _ (by omega), zu_ne _ (by omega), zu_ne _ (by omega)]) i5 rfl (fun a h1 h2 => by rw [zu_ne _ (by omega), zu_ne _ (by omega), zu_ne _ (by omega), zu_ne _ (by omega), zu_ne _ (by omega), zu_ne _ (by omega), zu_ne _ (by omega), zu_ne _ (by omega), zu_ne _ (by omega), zu_ne _ (by omega), zu_ne _ (by omega), zu_ne _ (by omega), zu_ne _ (by omega), zu_ne _ (by omega), zu_ne _ (by omega), zu_ne _ (by omega), zu_ne _ (by omega), zu_ne _ (by omega), zu_ne _ (by omega), zu_ne _ (by omega), zu_ne _ (by omega), zu_ne _ (by omega), zu_ne _ (by omega), zu_ne _ (by omega)]) (fun a h1 h2 => by rw [zu_ne _ (by omega), zu_ne _ (by omega), zu_ne _ (by omega), zu_ne _ (by omega), zu_ne _ (by omega), zu_ne _ (by omega), zu_ne _ (by omega), zu_ne _ (by omega), zu_ne _ (by omega), zu_ne _ (by omega), zu_ne _ (by omega), zu_ne _ (by omega), zu_ne _ (by omega), zu_ne _ (by omega), zu_ne _ (by omega), zu_ne _ (by omega), zu_ne _ (by omega), zu_ne _ (by omega), zu_ne _ (by omega), zu_ne _ (by omega), zu_ne _ (by omega), zu_ne _ (by omega), zu_ne _ (by omega), zu_ne _ (by omega)]) i9⟩, i4⟩
      · refine ⟨?_, ?_, ?_, ?_⟩
        · exact upd_lt (g := σ 9) (fun _ v => v = 0 ∨ v = 1) hj (fun k hk => (i2.2.2.1 k hk).1) hp1
        · exact upd_lt (g := σ 9) (fun _ v => ∃ h, h ≤ 200 ∧ v = nI h) hj (fun k hk => (i2.2.2.1 k hk).2.1) ⟨Z, hZ, rfl⟩
        · exact upd_lt (g := σ 9) (fun _ v => ∃ c, c ≤ 10000 ∧ v = nI c) hj (fun k hk => (i2.2.2.1 k hk).2.2.1) ⟨C, hC, rfl⟩
        · exact upd_lt (g := σ 9) (fun _ v => ∃ m, m ≤ y ∧ v = nI m) hj (fun k hk => (i2.2.2.1 k hk).2.2.2) ⟨y, Nat.le_refl _, rfl⟩
      · show upd (σ 12) n (nI y) i ≤ upd (σ 12) n (nI y) j
        unfold upd
        rw [if_neg (by omega)]
        by_cases ej : j = n
        · rw [if_pos ej]
          obtain ⟨m, hm, hm2⟩ := (i2.2.2.1 i (by omega)).2.2.2
          rw [hm2]
          have := i1.2.2.2.1.2.2
          exact nI_le hm (by omega)
        · rw [if_neg ej]
          exact i2.2.2.2 i j hij (by omega)
      · match i, hi with
        | 0, _ => show upd (σ 18) n 0 = upd (σ 156) n 0; rw [show σ 18 = σ 156 from i3.1 0 (by decide)]
        | 1, _ => show upd (σ 19) n (nI C) = upd (σ 157) n (nI C); rw [show σ 19 = σ 157 from i3.1 1 (by decide)]
        | 2, _ => show upd (σ 20) n 0 = upd (σ 158) n 0; rw [show σ 20 = σ 158 from i3.1 2 (by decide)]
        | 3, _ => show upd (σ 21) n 0 = upd (σ 159) n 0; rw [show σ 21 = σ 159 from i3.1 3 (by decide)]
        | 4, _ => show upd (σ 22) n 0 = upd (σ 160) n 0; rw [show σ 22 = σ 160 from i3.1 4 (by decide)]
        | 5, _ => show upd (σ 23) n (-1) = upd (σ 161) n (-1); rw [show σ 23 = σ 161 from i3.1 5 (by decide)]
        | 6, _ => exact i3.1 6 (by decide)
        | 7, _ => exact i3.1 7 (by decide)
      · refine ⟨?_, ?_⟩
        · exact upd_lt (g := σ 9) (fun _ v => ∃ a, a ≤ s ∧ v = nI a) hk (fun k hk => (i3.2.2.1.1 k hk).1) ⟨0, Nat.zero_le _, rfl⟩
        · exact upd_lt (g := σ 9) (fun k v => ∃ w, w ≤ y + (if k < 0 then 1 else 0) ∧ v = nI w) hk (fun k hk => (i3.2.2.1.1 k hk).2) ⟨0, Nat.zero_le _, rfl⟩
      · show upd (σ 26) 0 (σ 26 0 + 1) k = nI (cntN (upd (σ 18) n 0) (nI k) (n + 1))
        rw [cntN, cnt_out (Nat.le_refl _), show upd (σ 18) n 0 n = 0 from if_pos rfl]
        unfold upd
        by_cases ek : k = 0
        · subst ek
          rw [if_pos rfl, if_pos (show (0 : Int32) = nI 0 from rfl), i3.2.2.2.2.1 0 (Nat.zero_le _), nI_1]
        · rw [if_neg ek, if_neg (show ¬ (0 : Int32) = nI k from fun z => absurd ((nI_eq (a := 0) (b := k) (by decide) (by omega)).mp z) (by omega))]
          exact i3.2.2.2.2.1 k hk
      · by_cases ej : j = n
        · refine ⟨0, 0, Nat.zero_le _, ?_, ?_, Nat.zero_le _⟩
          · show upd (σ 18) n 0 j = nI 0
            rw [ej]; exact if_pos rfl
          · show upd (σ 21) n 0 j = nI 0
            rw [ej]; exact if_pos rfl
        · obtain ⟨a, v, h1, h2, h3, h4⟩ := i3.2.2.2.2.2.2 j (by omega)
          refine ⟨a, v, h1, ?_, ?_, h4⟩
          · show upd (σ 18) n 0 j = nI a
            unfold upd
            rw [if_neg ej]; exact h2
          · show upd (σ 21) n 0 j = nI v
            unfold upd
            rw [if_neg ej]; exact h3
    · exact absurd hA hB
  · have et := et.symm
    subst et
    refine ⟨_, k_file s n y p q z _ i1.2.1.2.1 i1.2.2.1.2.1 i1.2.2.2.1.2.1 i1.2.1.2.2 i1.2.2.1.2.2.2, fun r2 ρ q2 => ?_⟩
    rcases q2 with ⟨hB, _, _⟩ | ⟨_, hr2, rfl⟩
    · exact absurd hB hA
    · exact ⟨_, hr, hr2, hI0⟩
/-! the tape -/
def feR (ob fd ar : Nat) (σ τ : zSt) (f : Nat → Int32) (u : Nat) : Prop := (∀ a, a ≠ ob → a ≠ ar → τ a = σ a) ∧ (∀ k, k ≠ fd → τ ob k = σ ob k) ∧ τ ob fd = nI u ∧ τ ar = f
def fe1 (f : Nat → Int32) (u : Nat) (x : Int32) : Nat → Int32 := upd f u x.toInt8.toInt32
theorem feB_R {ob fd ar : Nat} (h : ar ≠ ob) {σ τ : zSt} {f : Nat → Int32} {u : Nat} (x : Int32) (H : feR ob fd ar σ τ f u) : feR ob fd ar σ (feB ob fd ar τ u x) (fe1 f u x) (u + 1) := by
  obtain ⟨h1, h2, h3, h4⟩ := H
  refine ⟨fun a a1 a2 => ?_, fun k hk => ?_, zu_same _ _ _ _, ?_⟩
  · unfold feB
    rw [zu_ne _ a1, zu_ne _ a2]
    exact h1 a a1 a2
  · unfold feB
    rw [zu_off _ _ _ _ _ hk, zu_ne _ (Ne.symm h)]
    exact h2 k hk
  · unfold feB
    rw [zu_ne _ h, zu_at, h4]
    rfl
def fe4 (f : Nat → Int32) (u : Nat) (v : Int32) : Nat → Int32 := fe1 (fe1 (fe1 (fe1 f u (v >>> (24 &&& 31))) (u + 1) (v >>> (16 &&& 31))) (u + 2) (v >>> (8 &&& 31))) (u + 3) (v >>> (0 &&& 31))
theorem feW_R {ob fd ar : Nat} (h : ar ≠ ob) {σ τ : zSt} {f : Nat → Int32} {u : Nat} (v : Int32) (H : feR ob fd ar σ τ f u) : feR ob fd ar σ (feW ob fd ar τ u v) (fe4 f u v) (u + 4) := feB_R h _ (feB_R h _ (feB_R h _ (feB_R h _ H)))
def fe20 (f : Nat → Int32) (u : Nat) (a b c d e : Int32) : Nat → Int32 := fe4 (fe4 (fe4 (fe4 (fe4 f u a) (u + 4) b) (u + 8) c) (u + 12) d) (u + 16) e
theorem feA_R {ob fd ar : Nat} (h : ar ≠ ob) {σ : zSt} {u : Nat} (a b c d e : Int32) (hu : σ ob fd = nI u) : feR ob fd ar σ (feA ob fd ar σ u a b c d e) (fe20 (σ ar) u a b c d e) (u + 20) := feW_R h e (feW_R h d (feW_R h c (feW_R h b (feW_R h a ⟨fun _ _ _ => rfl, fun _ _ => rfl, hu, rfl⟩))))
theorem pr_feed (a b c d e : Int32) {σ : zSt} (hI : Inv σ) : Pair mX11_feed mX12_feed 1 1 [.int a, .int b, .int c, .int d, .int e] σ := by
  have hI0 := hI
  obtain ⟨e0, s, n, y, u, T, hP, i4⟩ := hI
  refine ⟨_, c_feed u a b c d e σ i4.1 i4.2.2.1, fun r τ q1 => ?_⟩
  rcases q1 with ⟨hA, hr, et⟩ | ⟨hA, hr, et⟩
  · have h1 := feA_R (ob := 1) (fd := 1) (ar := 2) (by decide) (σ := σ) (u := u) a b c d e i4.1
    rw [← et] at h1
    have hu : τ 145 24 = nI u := by rw [h1.1 145 (by decide) (by decide)]; exact i4.2.1
    refine ⟨_, k_feed u a b c d e τ hu i4.2.2.1, fun r2 ρ q2 => ?_⟩
    rcases q2 with ⟨_, hr2, et2⟩ | ⟨hB, _, _⟩
    · have h2 := feA_R (ob := 145) (fd := 24) (ar := 162) (by decide) (σ := τ) (u := u) a b c d e hu
      rw [← et2] at h2
      have hc : cE σ ρ := ⟨fun q hq => (h2.1 q (by omega) (by omega)).trans (h1.1 q (by omega) (by omega)), by rw [h2.1 16 (by decide) (by decide), h1.1 16 (by decide) (by decide)], fun k _ _ => by rw [h2.1 17 (by decide) (by decide), h1.1 17 (by decide) (by decide)], fun k k1 _ => by rw [h2.2.1 k (by omega), h1.1 145 (by decide) (by decide)]⟩
      refine ⟨_, hr, hr2, e0, s, n, y, u + 20, T, InvP_c hc hP, ?_, h2.2.2.1, hA, ?_⟩
      · rw [h2.1 1 (by decide) (by decide)]; exact h1.2.2.1
      · rw [h2.1 2 (by decide) (by decide), h1.2.2.2, h2.2.2.2, h1.1 162 (by decide) (by decide), i4.2.2.2]
    · exact absurd hA hB
  · have et := et.symm
    subst et
    refine ⟨_, k_feed u a b c d e _ i4.2.1 i4.2.2.1, fun r2 ρ q2 => ?_⟩
    rcases q2 with ⟨hB, _, _⟩ | ⟨_, hr2, rfl⟩
    · exact absurd hB hA
    · exact ⟨_, hr, hr2, hI0⟩
