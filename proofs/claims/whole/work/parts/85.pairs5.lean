/-! READING A TEXT -/
theorem by255 (x : Int32) : ∃ b, b < 256 ∧ x &&& 255 = nI b := by
  obtain ⟨k, rfl⟩ : ∃ k, x = nI k := ⟨x.toBitVec.toNat, by
    apply Int32.toBitVec_inj.1
    show x.toBitVec = BitVec.ofNat 32 x.toBitVec.toNat
    simp⟩
  exact ⟨k % 2 ^ 8, Nat.mod_lt _ (by decide), fa_mask k 8⟩
def tpC (σ : zSt) (n : Int32) : Nat → Nat := fun q => if q < n.toInt.toNat then (σ 2 q &&& 255).toInt.toNat else 300
theorem tpC_ok (σ : zSt) (n : Int32) : ∀ N : Nat, N ≤ 160 → n = nI N → inC (tpC σ n) N ∧ ∀ q, q < N → σ 2 q &&& 255 = nI (tpC σ n q) := by
  intro N hN e
  subst e
  have h : ∀ q, q < N → ∃ b, b < 256 ∧ σ 2 q &&& 255 = nI b ∧ tpC σ (nI N) q = b := fun q hq => by
    obtain ⟨b, hb, hb2⟩ := by255 (σ 2 q)
    refine ⟨b, hb, hb2, ?_⟩
    unfold tpC
    rw [if_pos (by rw [nI_tn (by omega)]; exact hq), hb2, nI_tn (by omega)]
  refine ⟨⟨fun q hq => ?_, fun q hq => ?_⟩, fun q hq => ?_⟩
  · obtain ⟨b, h1, h2, h3⟩ := h q hq
    rw [h3]; exact h1
  · unfold tpC
    rw [if_neg (by rw [nI_tn (by omega)]; omega)]
  · obtain ⟨b, h1, h2, h3⟩ := h q hq
    rw [h3]; exact h2
def dE (σ ρ : zSt) : Prop := (∀ a, (4 ≤ a ∧ a ≤ 5) ∨ (7 ≤ a ∧ a ≤ 12) ∨ (17 ≤ a ∧ a ≤ 26) ∨ (49 ≤ a ∧ a ≤ 50) ∨ (52 ≤ a ∧ a ≤ 60) ∨ (146 ≤ a ∧ a ≤ 161) ∨ (177 ≤ a ∧ a ≤ 183) → ρ a = σ a) ∧ (∀ k, k ≠ 12 → ρ 3 k = σ 3 k) ∧ ∀ k, (k < 24 ∨ 32 < k) → ρ 145 k = σ 145 k
theorem InvP_d {σ ρ : zSt} {e s n y : Nat} {T T' : Nat → TXT} (h : dE σ ρ) (hI : InvP σ e s n y T) (h5 : J5 ρ T') (h9 : J9 ρ e) : InvP ρ e s n y T' := by
  obtain ⟨i1, i2, i3, i5, i6, i7, i8, i9⟩ := hI
  refine ⟨?_, ?_, ?_, h5, ?_, ?_, ?_, h9⟩
  · unfold J1 at *
    rw [h.2.1 3 (by decide), h.2.1 6 (by decide), h.2.1 11 (by decide), h.2.1 13 (by decide), h.1 17 (by omega), h.2.2 0 (by omega), h.2.2 1 (by omega), h.2.2 2 (by omega), h.2.2 3 (by omega), h.2.2 4 (by omega)]
    exact i1
  · unfold J2 at *
    rw [h.1 4 (by omega), h.1 5 (by omega), h.1 7 (by omega), h.1 8 (by omega), h.1 9 (by omega), h.1 10 (by omega), h.1 11 (by omega), h.1 12 (by omega), h.1 146 (by omega), h.1 147 (by omega), h.1 150 (by omega), h.1 151 (by omega), h.1 152 (by omega), h.1 153 (by omega), h.1 154 (by omega), h.1 155 (by omega)]
    exact i2
  · exact J3_c (fun a ha => h.1 a (by omega)) (by rw [h.1 17 (by omega)]) (by rw [h.1 17 (by omega)]) (by rw [h.1 17 (by omega)]) (h.2.2 5 (by omega)) (h.2.2 6 (by omega)) i3
  · unfold J6 at *
    rw [h.1 49 (by omega), h.1 50 (by omega), h.1 177 (by omega), h.2.2 51 (by omega)]
    exact i6
  · unfold J7 at *
    rw [h.1 52 (by omega), h.1 53 (by omega), h.1 54 (by omega), h.1 178 (by omega), h.1 179 (by omega), h.2.2 52 (by omega)]
    exact i7
  · unfold J8 at *
    rw [h.1 55 (by omega), h.1 56 (by omega), h.1 57 (by omega), h.1 58 (by omega), h.1 59 (by omega), h.1 60 (by omega), h.1 180 (by omega), h.1 181 (by omega), h.1 182 (by omega), h.1 183 (by omega), h.2.2 53 (by omega)]
    exact i8
def swp (σ ρ : zSt) (i : Nat) : Prop := tf ρ i = tf σ 12 ∧ tf ρ 12 = tf σ i ∧ ∀ j, j ≤ 12 → j ≠ i → j ≠ 12 → tf ρ j = tf σ j
theorem sw_ok {σ ρ : zSt} {i : Nat} (hi : i ≤ 11) (h : swp σ ρ i) (h1 : ∀ i, i ≤ 12 → isT (tf σ i)) (h2 : ∀ i j, i ≤ 12 → j ≤ 12 → tf σ i = tf σ j → i = j) : (∀ i, i ≤ 12 → isT (tf ρ i)) ∧ ∀ i j, i ≤ 12 → j ≤ 12 → tf ρ i = tf ρ j → i = j := by
  obtain ⟨s1, s2, s3⟩ := h
  obtain ⟨f, hf⟩ : ∃ f : Nat → Nat, f = fun j => if j = i then 12 else if j = 12 then i else j := ⟨_, rfl⟩
  have hft : ∀ j, j ≤ 12 → tf ρ j = tf σ (f j) := fun j hj => by
    rw [hf]
    show tf ρ j = tf σ (if j = i then 12 else if j = 12 then i else j)
    by_cases e1 : j = i
    · rw [if_pos e1, e1, s1]
    · rw [if_neg e1]
      by_cases e2 : j = 12
      · rw [if_pos e2, e2, s2]
      · rw [if_neg e2, s3 j hj e1 e2]
  have hfl : ∀ j, j ≤ 12 → f j ≤ 12 := fun j hj => by
    rw [hf]
    show (if j = i then 12 else if j = 12 then i else j) ≤ 12
    split
    · omega
    · split <;> omega
  have hfi : ∀ j k, f j = f k → j = k := fun j k e => by
    rw [hf] at e
    have e : (if j = i then 12 else if j = 12 then i else j) = (if k = i then 12 else if k = 12 then i else k) := e
    split at e <;> split at e <;> (try split at e) <;> (try split at e) <;> omega
  refine ⟨fun j hj => ?_, fun j k hj hk e => ?_⟩
  · rw [hft j hj]
    exact h1 _ (hfl j hj)
  · rw [hft j hj, hft k hk] at e
    exact hfi j k (h2 _ _ (hfl j hj) (hfl k hk) e)
/-- the texts behind a reading that has come to its end -/
theorem J5_sw {σ ρ : zSt} {T : Nat → TXT} {X : TXT} {i : Nat} (hi : i ≤ 10) (h : J5 σ T) (hs : swp σ ρ i) (hX : txC ρ (tf σ 12) X) (hXK : txK ρ i X) (hXG : txG X) (hfr : ∀ a, 61 ≤ a → a < 145 → (a < tf σ 12 ∨ tf σ 12 + 5 < a) → ρ a = σ a) (hK : ∀ j, j ≤ 10 → j ≠ i → txK ρ j (T j)) : J5 ρ (fun k => if k = i then X else T k) := by
  obtain ⟨g1, g2⟩ := sw_ok (by omega) hs h.1 h.2.1
  refine ⟨g1, g2, fun k hk => ?_⟩
  show txC ρ (tf ρ k) (if k = i then X else T k) ∧ txK ρ k (if k = i then X else T k) ∧ txG (if k = i then X else T k)
  by_cases e : k = i
  · rw [if_pos e, e, hs.1]
    exact ⟨hX, hXK, hXG⟩
  · rw [if_neg e, hs.2.2 k (by omega) e (by omega)]
    obtain ⟨a1, a2, a3⟩ := h.2.2 k hk
    refine ⟨txC_congr (fun a b1 b2 => ?_) a1, hK k hk e, a3⟩
    have t1 := h.1 k (by omega)
    have t2 := h.1 12 (by omega)
    have hr := tx_rng t1
    have := isT_apart _ t1 _ t2 (fun z => absurd (h.2.1 k 12 (by omega) (by omega) z) (by omega))
    exact hfr a (by omega) (by omega) (by omega)
/-- the gain's text stays -/
theorem J9_sw {σ ρ : zSt} {T : Nat → TXT} {i e : Nat} (he : e ≤ 10) (hch : ∀ a, a = 4 ∨ a = 5 ∨ a = 37 ∨ (39 ≤ a ∧ a ≤ 48) ∨ a = 195 → ρ a = σ a) (hi : i ≤ 10) (h5 : J5 σ T) (h : J9 σ e) (hs : swp σ ρ i) (h37 : ρ 37 3 = σ 37 3) (hfr : ∀ a, 61 ≤ a → a < 145 → (a < tf σ 12 ∨ tf σ 12 + 5 < a) → ρ a = σ a) (h170 : ρ 170 11 = σ 170 11) (h172 : ρ 172 132 = σ 172 132) (h174 : ρ 174 132 = σ 174 132) (h169 : ∀ k, k < 180 → ρ 169 (1980 + k) = σ 169 (1980 + k)) : J9 ρ e := by
  obtain ⟨G, op, vl, len, g1, g2, g3, g4, g5⟩ := h
  have t1 := h5.1 11 (by omega)
  have t2 := h5.1 12 (by omega)
  have hr := tx_rng t1
  have hap := isT_apart _ t1 _ t2 (fun z => absurd (h5.2.1 11 12 (by omega) (by omega) z) (by omega))
  refine ⟨G, op, vl, len, by rw [h37]; exact g1, by rw [h170]; exact g2, fun z => ?_, by rw [hch 37 (by omega)]; exact g4, fun z => ?_⟩
  rotate_left
  · rw [hch 37 (by omega)] at z
    rw [hch 5 (by omega), hch 4 (by omega)]
    exact lrS_c (fun a ha => hch a (by omega)) he (g5 z)
  obtain ⟨a1, a2, a3, a4, a5, a6⟩ := g3 z
  rw [hs.2.2 11 (by omega) (by omega) (by omega), hfr (tf σ 11) (by omega) (by omega) (by omega), hfr (tf σ 11 + 1) (by omega) (by omega) (by omega), h172, h174]
  refine ⟨a1, a2, a3, a4, a5, fun k hk => ?_⟩
  have := a1.1
  rw [h169 k (by omega)]
  exact a6 k hk
/-- a fault on both sides -/
theorem Inv_bad {σ τ1 ρ : zSt} (hI : Inv σ) (h : frX (tf σ 12) σ τ1) (g : frR0 (zu τ1 1 1 0) ρ) : Inv ρ := by
  have hI0 := hI
  obtain ⟨e, s, n, y, u, T, hP, h4⟩ := hI
  have t2 := tx_rng (hP.2.2.2.1.1 12 (by omega))
  have hc : cE σ ρ := by
    refine ⟨fun a ha => ?_, ?_, fun k _ _ => ?_, fun k k1 k2 => ?_⟩
    · rw [g.1 a (by omega) (by omega), zu_ne _ (by omega), h.1 a (by omega) (by omega)]
    · rw [g.1 16 (by omega) (by omega), zu_ne _ (by omega), h.2]
    · rw [g.1 17 (by omega) (by omega), zu_ne _ (by omega), h.1 17 (by omega) (by omega)]
    · rw [g.2.1 k k1, zu_ne _ (by omega), h.1 145 (by omega) (by omega)]
  refine Inv_t hc hI0 ?_ ?_ ?_ g.2.2
  · rw [g.1 1 (by omega) (by omega)]
    rfl
  · rw [g.1 2 (by omega) (by omega), zu_ne _ (by omega), h.1 2 (by omega) (by omega)]
  · rw [g.1 162 (by omega) (by omega), zu_ne _ (by omega), h.1 162 (by omega) (by omega)]
theorem nI_isT {t : Nat} (h : isT t) : (nI t).toNatClampNeg = t := nI_clamp (by have := tx_rng h; omega)

theorem pr_way (i n : Int32) {σ : zSt} (hI : Inv σ) : Pair mX11_way mX12_way 32 9 [.int i, .int n] σ := by
  have hI0 := hI
  obtain ⟨e, s, N0, y, u, T, hP, h4⟩ := hI
  have i1 := hP.1
  have i5 := hP.2.2.2.1
  have t12 := i5.1 12 (by omega)
  have hr12 := tx_rng t12
  have htw : ∀ I, I < 10 → tf σ I = (σ 6 I).toNatClampNeg := fun I h => if_pos h
  refine ⟨_, c_way (tf σ 12) u e (tpC σ n) i n σ t12 rfl h4.1 h4.2.2.1 i1.1.1 i1.1.2.2 (fun I h => by have := i1.1.2.2; have h2 := i5.1 I (by omega); rw [htw I (by omega)] at h2; exact h2) (tpC_ok σ n), fun r τ q1 => ?_⟩
  have hB : ∀ τ : zSt, τ 162 = σ 162 → ∀ N : Nat, N ≤ 160 → n = nI N → inC (tpC σ n) N ∧ ∀ q, q < N → τ 162 q &&& 255 = nI (tpC σ n q) := fun τ e1 N h1 h2 => by
    have h := tpC_ok σ n N h1 h2
    rw [e1, ← h4.2.2.2]
    exact h
  have hKc : ∀ τ : zSt, τ 162 = σ 162 → τ 145 = σ 145 → Con mX12_way 9 [.ref 145, .int i, .int n] τ _ := fun τ e1 e2 => k_way u e (tpC σ n) i n τ (by rw [e2]; exact h4.2.1) h4.2.2.1 (by rw [e2]; exact i1.1.2.1) i1.1.2.2 (hB τ e1)
  rcases q1 with ⟨hA, N, I, hN, hI1, hIe, τ1, q1⟩ | ⟨hA, hr, et⟩
  · rcases q1 with ⟨q1, et⟩ | ⟨q1, et⟩
    · obtain ⟨p2, l2, m, op2, vl2, hh, sf, cf, en, hR, hr, hm, hC, hG, hX⟩ := q1
      have hτ : ∀ a, 145 ≤ a → τ a = σ a := fun a ha => by
        rw [et, zu_ne _ (by omega), zu_ne _ (by omega), zu_ne _ (by omega), hX.1 a (by omega) (by omega)]
      refine ⟨_, hKc τ (hτ 162 (by omega)) (hτ 145 (by omega)), fun r2 ρ q2 => ?_⟩
      rcases q2 with ⟨_, N2, I2, hN2, hI2, hIe2, q2⟩ | ⟨hA2, _, _⟩
      · have he10 := i1.1.2.2
        have eI : I2 = I := by
          rw [hI1] at hI2
          have := (nI_eq (by omega) (by omega)).mp hI2
          omega
        subst eI
        rcases q2 with ⟨p3, l3, m3, op3, vl3, hh3, sf3, cf3, en3, hR2, hr2, hK, hfr⟩ | ⟨f, e2, z2, hR2, _, _⟩
        · have hdt := Rn.det hR hR2 (s_end _ _) (s_end _ _)
          cases hdt
          have hf : ∀ a, a ≠ 145 → (a < 163 ∨ 174 < a) → a ≠ 1 → a ≠ 16 → a ≠ 6 → ρ a = τ1 a := fun a a1 a2 a3 a4 a5 => by
            rw [hfr.1 a a1 a2, et, zu_ne _ a5, zu_ne _ a4, zu_ne _ a3]
          have hg : ∀ a, a ≠ 145 → (a < 163 ∨ 174 < a) → a ≠ 1 → a ≠ 16 → a ≠ 6 → (a < tf σ 12 ∨ tf σ 12 + 5 < a) → ρ a = σ a := fun a a1 a2 a3 a4 a5 a6 => by
            rw [hf a a1 a2 a3 a4 a5, hX.1 a a4 a6]
          have ha : ρ 6 = upd (σ 6) I2 (nI (tf σ 12)) := by
            rw [hfr.1 6 (by omega) (by omega), et, zu_at, zu_ne _ (by omega), zu_ne _ (by omega), hX.1 6 (by omega) (by omega)]
          have h16 : (ρ 16 1).toNatClampNeg = tf σ I2 := by
            rw [hfr.1 16 (by omega) (by omega), et, zu_ne _ (by omega), zu_at]
            show (nI _).toNatClampNeg = _
            rw [← htw _ (by omega)]
            exact nI_isT (i5.1 _ (by omega))
          have hsw : swp σ ρ I2 := by
            have hI10 : I2 < 10 := by have := i1.1.2.2; omega
            refine ⟨?_, h16, fun j hj hji hj12 => ?_⟩
            · rw [show tf ρ I2 = (ρ 6 I2).toNatClampNeg from if_pos hI10, ha, show upd (σ 6) I2 (nI (tf σ 12)) I2 = nI (tf σ 12) from if_pos rfl, nI_isT t12]
            · unfold tf
              rw [ha, hg 3 (by omega) (by omega) (by omega) (by omega) (by omega) (by omega), hg 37 (by omega) (by omega) (by omega) (by omega) (by omega) (by omega), show upd (σ 6) I2 (nI (tf σ 12)) j = σ 6 j from if_neg hji]
              by_cases j1 : j < 10
              · rw [if_pos j1, if_pos j1]
              · rw [if_neg j1, if_neg j1]
                by_cases j2 : j = 10
                · rw [if_pos j2, if_pos j2]
                · rw [if_neg j2, if_neg j2, if_pos (by omega), if_pos (by omega)]
          have hde : dE σ ρ := by
            refine ⟨fun a h => hg a (by omega) (by omega) (by omega) (by omega) (by omega) (by omega), fun k hk => ?_, fun k hk => ?_⟩
            · rw [hg 3 (by omega) (by omega) (by omega) (by omega) (by omega) (by omega)]
            · rw [hfr.2.1 k hk, hτ 145 (by omega)]
          have hgt : ∀ a, 61 ≤ a → a < 145 → (a < tf σ 12 ∨ tf σ 12 + 5 < a) → ρ a = σ a := fun a a1 a2 a3 => hg a (by omega) (by omega) (by omega) (by omega) (by omega) a3
          have h11 := hfr.2.2.2 11 (by omega)
          refine ⟨_, hr, hr2, e, s, N0, y, 0, _, InvP_d hde hP (J5_sw (X := (m, hh, sf, cf, en, op2, vl2, l2)) (by omega) i5 hsw (txC_congr (fun a a1 a2 => hf a (by omega) (by omega) (by omega) (by omega) (by omega)) hC) hK hG hgt (fun j hj hji => txK_fr hfr hji (txK_congr (fun a a1 a2 => hτ a (by omega)) (i5.2.2 j hj).2.1) (i5.2.2 j hj).2.2.1)) (J9_sw i1.1.2.2 (fun a h => hg a (by omega) (by omega) (by omega) (by omega) (by omega) (by omega)) (by omega) i5 hP.2.2.2.2.2.2.2 hsw (by rw [hg 37 (by omega) (by omega) (by omega) (by omega) (by omega) (by omega)]) hgt (by rw [h11.1, hτ 170 (by omega)]) ((h11.2.1 0 (by omega)).2.1.trans (by rw [hτ 172 (by omega)])) ((h11.2.1 0 (by omega)).2.2.2.trans (by rw [hτ 174 (by omega)])) (fun k hk => (h11.2.2 k hk).trans (by rw [hτ 169 (by omega)]))), ?_, hfr.2.2.1, by omega, ?_⟩
          · rw [hfr.1 1 (by omega) (by omega), et, zu_ne _ (by omega), zu_ne _ (by omega), zu_at]
            exact if_pos rfl
          · rw [hg 2 (by omega) (by omega) (by omega) (by omega) (by omega) (by omega), hg 162 (by omega) (by omega) (by omega) (by omega) (by omega) (by omega)]
            exact h4.2.2.2
        · have hdt := Rn.det hR hR2 (s_end _ _) (s_fault _ _ _)
          cases hdt
      · exact absurd hA hA2
    · obtain ⟨f, e2, z2, hR, hr, hf, hX⟩ := q1
      have hτ : ∀ a, 145 ≤ a → τ a = σ a := fun a ha => by
        rw [et, zu_ne _ (by omega), hX.1 a (by omega) (by omega)]
      refine ⟨_, hKc τ (hτ 162 (by omega)) (hτ 145 (by omega)), fun r2 ρ q2 => ?_⟩
      rcases q2 with ⟨_, N2, I2, hN2, hI2, hIe2, q2⟩ | ⟨hA2, _, _⟩
      · have he10 := i1.1.2.2
        have eI : I2 = I := by
          rw [hI1] at hI2
          have := (nI_eq (by omega) (by omega)).mp hI2
          omega
        subst eI
        rcases q2 with ⟨p3, l3, m3, op3, vl3, hh3, sf3, cf3, en3, hR2, hr2, hK, hfr⟩ | ⟨f2, e3, z3, hR2, hr2, hfr⟩
        · have hdt := Rn.det hR hR2 (s_fault _ _ _) (s_end _ _)
          cases hdt
        · have hdt := Rn.det hR hR2 (s_fault _ _ _) (s_fault _ _ _)
          cases hdt
          rw [et] at hfr
          exact ⟨_, hr, hr2, Inv_bad hI0 hX hfr⟩
      · exact absurd hA hA2
  · have et := et.symm
    subst et
    refine ⟨_, hKc σ rfl rfl, fun r2 ρ q2 => ?_⟩
    rcases q2 with ⟨hA2, _⟩ | ⟨_, hr2, rfl⟩
    · exact absurd hA2 hA
    · exact ⟨_, hr, hr2, hI0⟩

theorem pr_law (n : Int32) {σ : zSt} (hI : Inv σ) : Pair mX11_law mX12_law 32 9 [.int n] σ := by
  have hI0 := hI
  obtain ⟨e, s, N0, y, u, T, hP, h4⟩ := hI
  have i1 := hP.1
  have i5 := hP.2.2.2.1
  have t12 := i5.1 12 (by omega)
  have hr12 := tx_rng t12
  have htw : ∀ I, I < 10 → tf σ I = (σ 6 I).toNatClampNeg := fun I h => if_pos h
  refine ⟨_, c_law (tf σ 12) u (tpC σ n) n σ t12 rfl h4.1 h4.2.2.1 (i5.1 10 (by omega)) (tpC_ok σ n), fun r τ q1 => ?_⟩
  have hB : ∀ τ : zSt, τ 162 = σ 162 → ∀ N : Nat, N ≤ 160 → n = nI N → inC (tpC σ n) N ∧ ∀ q, q < N → τ 162 q &&& 255 = nI (tpC σ n q) := fun τ e1 N h1 h2 => by
    have h := tpC_ok σ n N h1 h2
    rw [e1, ← h4.2.2.2]
    exact h
  have hKc : ∀ τ : zSt, τ 162 = σ 162 → τ 145 = σ 145 → Con mX12_law 9 [.ref 145, .int n] τ _ := fun τ e1 e2 => k_law u  (tpC σ n) n τ (by rw [e2]; exact h4.2.1) h4.2.2.1  (hB τ e1)
  rcases q1 with ⟨hA, N, hN, τ1, q1⟩ | ⟨hA, hr, et⟩
  · rcases q1 with ⟨q1, et⟩ | ⟨q1, et⟩
    · obtain ⟨p2, l2, m, op2, vl2, hh, sf, cf, en, hR, hr, hm, hC, hG, hX⟩ := q1
      have hτ : ∀ a, 145 ≤ a → τ a = σ a := fun a ha => by
        rw [et, zu_ne _ (by omega), zu_ne _ (by omega), zu_ne _ (by omega), hX.1 a (by omega) (by omega)]
      refine ⟨_, hKc τ (hτ 162 (by omega)) (hτ 145 (by omega)), fun r2 ρ q2 => ?_⟩
      rcases q2 with ⟨_, N2, hN2, q2⟩ | ⟨hA2, _, _⟩
      · have hN3 := hN2
        rcases q2 with ⟨p3, l3, m3, op3, vl3, hh3, sf3, cf3, en3, hR2, hr2, hK, hfr⟩ | ⟨f, e2, z2, hR2, _, _⟩
        · have hdt := Rn.det hR hR2 (s_end _ _) (s_end _ _)
          cases hdt
          have hf : ∀ a, a ≠ 145 → (a < 163 ∨ 174 < a) → a ≠ 1 → a ≠ 16 → a ≠ 3 → ρ a = τ1 a := fun a a1 a2 a3 a4 a5 => by
            rw [hfr.1 a a1 a2, et, zu_ne _ a5, zu_ne _ a4, zu_ne _ a3]
          have hg : ∀ a, a ≠ 145 → (a < 163 ∨ 174 < a) → a ≠ 1 → a ≠ 16 → a ≠ 3 → (a < tf σ 12 ∨ tf σ 12 + 5 < a) → ρ a = σ a := fun a a1 a2 a3 a4 a5 a6 => by
            rw [hf a a1 a2 a3 a4 a5, hX.1 a a4 a6]
          have ha : ρ 3 = upd (σ 3) 12 (nI (tf σ 12)) := by
            rw [hfr.1 3 (by omega) (by omega), et, zu_at, zu_ne _ (by omega), zu_ne _ (by omega), hX.1 3 (by omega) (by omega)]
          have h16 : (ρ 16 1).toNatClampNeg = tf σ 10 := by
            rw [hfr.1 16 (by omega) (by omega), et, zu_ne _ (by omega), zu_at]
            show (nI _).toNatClampNeg = _
            exact nI_isT (i5.1 10 (by omega))
          have hsw : swp σ ρ 10 := by
            refine ⟨?_, h16, fun j hj hji hj12 => ?_⟩
            · show (ρ 3 12).toNatClampNeg = _
              rw [ha, show upd (σ 3) 12 (nI (tf σ 12)) 12 = nI (tf σ 12) from if_pos rfl, nI_isT t12]
            · unfold tf
              rw [hg 6 (by omega) (by omega) (by omega) (by omega) (by omega) (by omega), hg 37 (by omega) (by omega) (by omega) (by omega) (by omega) (by omega)]
              by_cases j1 : j < 10
              · rw [if_pos j1, if_pos j1]
              · rw [if_neg j1, if_neg j1, if_neg hji, if_neg hji, if_pos (by omega), if_pos (by omega)]
          have hde : dE σ ρ := by
            refine ⟨fun a h => hg a (by omega) (by omega) (by omega) (by omega) (by omega) (by omega), fun k hk => ?_, fun k hk => ?_⟩
            · rw [ha]
              exact if_neg hk
            · rw [hfr.2.1 k hk, hτ 145 (by omega)]
          have hgt : ∀ a, 61 ≤ a → a < 145 → (a < tf σ 12 ∨ tf σ 12 + 5 < a) → ρ a = σ a := fun a a1 a2 a3 => hg a (by omega) (by omega) (by omega) (by omega) (by omega) a3
          have h11 := hfr.2.2.2 11 (by omega)
          refine ⟨_, hr, hr2, e, s, N0, y, 0, _, InvP_d hde hP (J5_sw (X := (m, hh, sf, cf, en, op2, vl2, l2)) (by omega) i5 hsw (txC_congr (fun a a1 a2 => hf a (by omega) (by omega) (by omega) (by omega) (by omega)) hC) hK hG hgt (fun j hj hji => txK_fr hfr hji (txK_congr (fun a a1 a2 => hτ a (by omega)) (i5.2.2 j hj).2.1) (i5.2.2 j hj).2.2.1)) (J9_sw i1.1.2.2 (fun a h => hg a (by omega) (by omega) (by omega) (by omega) (by omega) (by omega)) (by omega) i5 hP.2.2.2.2.2.2.2 hsw (by rw [hg 37 (by omega) (by omega) (by omega) (by omega) (by omega) (by omega)]) hgt (by rw [h11.1, hτ 170 (by omega)]) ((h11.2.1 0 (by omega)).2.1.trans (by rw [hτ 172 (by omega)])) ((h11.2.1 0 (by omega)).2.2.2.trans (by rw [hτ 174 (by omega)])) (fun k hk => (h11.2.2 k hk).trans (by rw [hτ 169 (by omega)]))), ?_, hfr.2.2.1, by omega, ?_⟩
          · rw [hfr.1 1 (by omega) (by omega), et, zu_ne _ (by omega), zu_ne _ (by omega), zu_at]
            exact if_pos rfl
          · rw [hg 2 (by omega) (by omega) (by omega) (by omega) (by omega) (by omega), hg 162 (by omega) (by omega) (by omega) (by omega) (by omega) (by omega)]
            exact h4.2.2.2
        · have hdt := Rn.det hR hR2 (s_end _ _) (s_fault _ _ _)
          cases hdt
      · exact absurd hA hA2
    · obtain ⟨f, e2, z2, hR, hr, hf, hX⟩ := q1
      have hτ : ∀ a, 145 ≤ a → τ a = σ a := fun a ha => by
        rw [et, zu_ne _ (by omega), hX.1 a (by omega) (by omega)]
      refine ⟨_, hKc τ (hτ 162 (by omega)) (hτ 145 (by omega)), fun r2 ρ q2 => ?_⟩
      rcases q2 with ⟨_, N2, hN2, q2⟩ | ⟨hA2, _, _⟩
      · have hN3 := hN2
        rcases q2 with ⟨p3, l3, m3, op3, vl3, hh3, sf3, cf3, en3, hR2, hr2, hK, hfr⟩ | ⟨f2, e3, z3, hR2, hr2, hfr⟩
        · have hdt := Rn.det hR hR2 (s_fault _ _ _) (s_end _ _)
          cases hdt
        · have hdt := Rn.det hR hR2 (s_fault _ _ _) (s_fault _ _ _)
          cases hdt
          rw [et] at hfr
          exact ⟨_, hr, hr2, Inv_bad hI0 hX hfr⟩
      · exact absurd hA hA2
  · have et := et.symm
    subst et
    refine ⟨_, hKc σ rfl rfl, fun r2 ρ q2 => ?_⟩
    rcases q2 with ⟨hA2, _⟩ | ⟨_, hr2, rfl⟩
    · exact absurd hA2 hA
    · exact ⟨_, hr, hr2, hI0⟩

theorem J5_sg {σ ρ : zSt} {T : Nat → TXT} (h : J5 σ T) (hs : swp σ ρ 11) (hfr : ∀ a, 61 ≤ a → a < 145 → (a < tf σ 12 ∨ tf σ 12 + 5 < a) → ρ a = σ a) (hK : ∀ j, j ≤ 10 → txK ρ j (T j)) : J5 ρ T := by
  obtain ⟨g1, g2⟩ := sw_ok (by omega) hs h.1 h.2.1
  refine ⟨g1, g2, fun k hk => ?_⟩
  rw [hs.2.2 k (by omega) (by omega) (by omega)]
  obtain ⟨a1, a2, a3⟩ := h.2.2 k hk
  refine ⟨txC_congr (fun a b1 b2 => ?_) a1, hK k hk, a3⟩
  have t1 := h.1 k (by omega)
  have t2 := h.1 12 (by omega)
  have hr := tx_rng t1
  have := isT_apart _ t1 _ t2 (fun z => absurd (h.2.1 k 12 (by omega) (by omega) z) (by omega))
  exact hfr a (by omega) (by omega) (by omega)
theorem pr_gain (n : Int32) {σ : zSt} (hI : Inv σ) : Pair mX11_gain mX12_gain 28 5 [.int n] σ := by
  have hI0 := hI
  obtain ⟨e, s, N0, y, u, T, hP, h4⟩ := hI
  have i1 := hP.1
  have i5 := hP.2.2.2.1
  have t12 := i5.1 12 (by omega)
  have hr12 := tx_rng t12
  refine ⟨_, c_gain (tf σ 12) u (tpC σ n) n σ t12 rfl h4.1 h4.2.2.1 (i5.1 11 (by omega)) (tpC_ok σ n), fun r τ q1 => ?_⟩
  have hB : ∀ τ : zSt, τ 162 = σ 162 → ∀ N : Nat, N ≤ 160 → n = nI N → inC (tpC σ n) N ∧ ∀ q, q < N → τ 162 q &&& 255 = nI (tpC σ n q) := fun τ e1 N h1 h2 => by
    have h := tpC_ok σ n N h1 h2
    rw [e1, ← h4.2.2.2]
    exact h
  have hKc : ∀ τ : zSt, τ 162 = σ 162 → τ 145 = σ 145 → Con mX12_gain 5 [.ref 145, .int n] τ _ := fun τ e1 e2 => k_gain u (tpC σ n) n τ (by rw [e2]; exact h4.2.1) h4.2.2.1 (hB τ e1)
  rcases q1 with ⟨hA, N, hN, τ1, q1⟩ | ⟨hA, hr, et⟩
  · rcases q1 with ⟨q1, et⟩ | ⟨q1, et⟩
    · obtain ⟨p2, l2, op2, vl2, hR, hr, hgn, hC1, hC2, hX⟩ := q1
      have hτ : ∀ a, 145 ≤ a → τ a = σ a := fun a ha => by
        rw [et, zu_ne _ (by omega), zu_ne _ (by omega), zu_ne _ (by omega), zu_ne _ (by omega), zu_ne _ (by omega), hX.1 a (by omega) (by omega)]
      refine ⟨_, hKc τ (hτ 162 (by omega)) (hτ 145 (by omega)), fun r2 ρ q2 => ?_⟩
      rcases q2 with ⟨_, N2, hN2, q2⟩ | ⟨hA2, _, _⟩
      · rcases q2 with ⟨p3, l3, op3, vl3, hR2, hr2, hK, hfr⟩ | ⟨f, e2, z2, hR2, _, _⟩
        · have hdt := Rn.det hR hR2 (s_end _ _) (s_end _ _)
          cases hdt
          have hf : ∀ a, a ≠ 145 → (a < 163 ∨ 174 < a) → a ≠ 1 → a ≠ 16 → a ≠ 37 → ρ a = τ1 a := fun a a1 a2 a3 a4 a5 => by
            rw [hfr.1 a a1 a2, et, zu_ne _ a5, zu_ne _ a5, zu_ne _ a5, zu_ne _ a4, zu_ne _ a3]
          have hg : ∀ a, a ≠ 145 → (a < 163 ∨ 174 < a) → a ≠ 1 → a ≠ 16 → a ≠ 37 → (a < tf σ 12 ∨ tf σ 12 + 5 < a) → ρ a = σ a := fun a a1 a2 a3 a4 a5 a6 => by
            rw [hf a a1 a2 a3 a4 a5, hX.1 a a4 a6]
          have h37 : ρ 37 2 = nI (tf σ 12) := by
            rw [hfr.1 37 (by omega) (by omega), et, zu_off _ _ _ _ _ (by decide), zu_off _ _ _ _ _ (by decide), zu_at]
            exact if_pos rfl
          have h376 : ρ 37 6 = -1 := by
            rw [hfr.1 37 (by omega) (by omega), et, zu_at]
            exact if_pos rfl
          have h373 : ρ 37 3 = 1 := by
            rw [hfr.1 37 (by omega) (by omega), et, zu_off _ _ _ _ _ (by decide), zu_at]
            exact if_pos rfl
          have h16 : (ρ 16 1).toNatClampNeg = tf σ 11 := by
            rw [hfr.1 16 (by omega) (by omega), et, zu_ne _ (by omega), zu_ne _ (by omega), zu_ne _ (by omega), zu_at]
            show (nI _).toNatClampNeg = _
            exact nI_isT (i5.1 11 (by omega))
          have h3 : ρ 3 = σ 3 := hg 3 (by omega) (by omega) (by omega) (by omega) (by omega) (by omega)
          have hsw : swp σ ρ 11 := by
            refine ⟨?_, h16, fun j hj hji hj12 => ?_⟩
            · show (ρ 37 2).toNatClampNeg = _
              rw [h37, nI_isT t12]
            · unfold tf
              rw [h3, hg 6 (by omega) (by omega) (by omega) (by omega) (by omega) (by omega)]
              by_cases j1 : j < 10
              · rw [if_pos j1, if_pos j1]
              · rw [if_neg j1, if_neg j1, if_pos (by omega), if_pos (by omega)]
          have hde : dE σ ρ := by
            refine ⟨fun a h => hg a (by omega) (by omega) (by omega) (by omega) (by omega) (by omega), fun k hk => by rw [h3], fun k hk => ?_⟩
            rw [hfr.2.1 k hk, hτ 145 (by omega)]
          have hgt : ∀ a, 61 ≤ a → a < 145 → (a < tf σ 12 ∨ tf σ 12 + 5 < a) → ρ a = σ a := fun a a1 a2 a3 => hg a (by omega) (by omega) (by omega) (by omega) (by omega) a3
          refine ⟨_, hr, hr2, e, s, N0, y, 0, T, InvP_d hde hP (J5_sg i5 hsw hgt (fun j hj => txK_fr hfr (by omega) (txK_congr (fun a a1 a2 => hτ a (by omega)) (i5.2.2 j hj).2.1) (i5.2.2 j hj).2.2.1)) ⟨true, op2, vl2, l2, ?_, ?_, fun _ => ⟨hgn, ?_, ?_, hK.2.1, hK.2.2.1, hK.2.2.2⟩, by rw [h376]; simp only [Int32.reduceToInt]; omega, fun z => absurd (h376.symm.trans z).symm (nI_nm1 (by have := i1.1.2.2; omega))⟩, ?_, hfr.2.2.1, by omega, ?_⟩
          · rw [h373]
            rfl
          · rw [hK.1]
            rfl
          · rw [hsw.1, hf _ (by omega) (by omega) (by omega) (by omega) (by omega)]
            exact hC1
          · rw [hsw.1, hf _ (by omega) (by omega) (by omega) (by omega) (by omega)]
            exact hC2
          · rw [hfr.1 1 (by omega) (by omega), et, zu_ne _ (by omega), zu_ne _ (by omega), zu_ne _ (by omega), zu_ne _ (by omega), zu_at]
            exact if_pos rfl
          · rw [hg 2 (by omega) (by omega) (by omega) (by omega) (by omega) (by omega), hg 162 (by omega) (by omega) (by omega) (by omega) (by omega) (by omega)]
            exact h4.2.2.2
        · have hdt := Rn.det hR hR2 (s_end _ _) (s_fault _ _ _)
          cases hdt
      · exact absurd hA hA2
    · obtain ⟨f, e2, z2, hR, hr, hf, hX⟩ := q1
      have hτ : ∀ a, 145 ≤ a → τ a = σ a := fun a ha => by
        rw [et, zu_ne _ (by omega), hX.1 a (by omega) (by omega)]
      refine ⟨_, hKc τ (hτ 162 (by omega)) (hτ 145 (by omega)), fun r2 ρ q2 => ?_⟩
      rcases q2 with ⟨_, N2, hN2, q2⟩ | ⟨hA2, _, _⟩
      · rcases q2 with ⟨p3, l3, op3, vl3, hR2, hr2, hK, hfr⟩ | ⟨f2, e3, z3, hR2, hr2, hfr⟩
        · have hdt := Rn.det hR hR2 (s_fault _ _ _) (s_end _ _)
          cases hdt
        · have hdt := Rn.det hR hR2 (s_fault _ _ _) (s_fault _ _ _)
          cases hdt
          rw [et] at hfr
          exact ⟨_, hr, hr2, Inv_bad hI0 hX hfr⟩
      · exact absurd hA hA2
  · have et := et.symm
    subst et
    refine ⟨_, hKc σ rfl rfl, fun r2 ρ q2 => ?_⟩
    rcases q2 with ⟨hA2, _⟩ | ⟨_, hr2, rfl⟩
    · exact absurd hA2 hA
    · exact ⟨_, hr, hr2, hI0⟩
