/-! WHAT CHANGES NOTHING BUT THE SCRATCH OF THE DEALING -/
theorem pv0_26 (σ : zSt) (g : Nat → Int32) : pv0 (zs σ 26 g) = pv0 σ := by
  funext i
  unfold pv0
  by_cases h8 : i < 8
  · rw [if_pos h8, if_pos h8, zs_ne _ (by omega)]
  · rw [if_neg h8, if_neg h8]
    rfl
theorem InvP_26 {σ : zSt} {e s n y : Nat} {T : Nat → TXT} (g : Nat → Int32) (hn : n ≠ 0) (hg : ∀ k, k ≤ s → g k = σ 26 k) (hI : InvP σ e s n y T) : InvP (zs σ 26 g) e s n y T := by
  obtain ⟨i1, i2, i3, i5, i6, i7, i8, i9⟩ := hI
  refine ⟨i1, i2, ?_, J5_c (σ := σ) rfl rfl rfl rfl (fun a a1 a2 => zs_ne _ (by omega) _) (fun a a1 a2 => zs_ne _ (by omega) _) i5, i6, i7, i8, J9_c (σ := σ) i1.1.2.2 (fun a ha => zs_ne _ (by omega) _) i5 rfl (fun a a1 a2 => zs_ne _ (by omega) _) (fun a a1 a2 => zs_ne _ (by omega) _) i9⟩
  unfold J3 at *
  rw [pv0_26]
  refine ⟨fun i hi => ?_, i3.2.1, i3.2.2.1, i3.2.2.2.1, fun k hk => ?_, fun z => absurd z hn, i3.2.2.2.2.2.2⟩
  · have := kA_ne hi
    rw [zs_ne _ (by omega), zs_ne _ (by omega)]
    exact i3.1 i hi
  · rw [zs_at, hg k hk]
    exact i3.2.2.2.2.1 k hk
theorem kA_inv {a : Nat} (h : a = 148 ∨ a = 149 ∨ (156 ≤ a ∧ a ≤ 161)) : ∃ i, i < 8 ∧ kA i = a := by
  rcases h with h | h | h
  · exact ⟨6, by decide, h.symm⟩
  · exact ⟨7, by decide, h.symm⟩
  · refine ⟨a - 156, by omega, ?_⟩
    unfold kA
    rw [if_pos (by omega)]
    omega
theorem Inv_rk {σ τ ρ : zSt} {e s n y u : Nat} {T : Nat → TXT} (hP : InvP σ e s n y T) (h4 : J4 σ u) (hn : n ≠ 0) (hr : RC 17 n s σ τ (zu (pv0 σ) 8 1 (σ 17 15))) (hk : KR τ ρ (zu (zu (pv0 σ) 8 1 (τ 145 50)) 8 2 (τ 145 49))) : Inv ρ := by
  obtain ⟨r1, r2, r3, r4, r5, r6⟩ := hr
  obtain ⟨k1, k2, k3, k4, k5, k6⟩ := hk
  have i3 := hP.2.2.1
  have c1 : cE (zs σ 26 (ρ 26)) ρ := by
    refine ⟨fun a ha => ?_, ?_, fun k h16 h17 => ?_, fun k h1 h2 => ?_⟩
    · by_cases e26 : a = 26
      · rw [e26, zs_at]
      · rw [zs_ne _ e26]
        by_cases hd : a = 148 ∨ a = 149 ∨ (156 ≤ a ∧ a ≤ 161)
        · obtain ⟨i, hi, rfl⟩ := kA_inv hd
          rw [k6 i hi, zu_ne _ (by omega), zu_ne _ (by omega), ← i3.1 i hi]
          exact if_pos hi
        · rw [k1 a (by omega) (by omega) (by omega) (by omega) (by omega) (by omega)]
          by_cases h18 : 18 ≤ a ∧ a ≤ 25
          · have h := r5 (a - 18) (by omega)
            rw [show 17 + 1 + (a - 18) = a by omega, zu_ne _ (by omega)] at h
            rw [h]
            unfold pv0
            rw [if_pos (by omega), show 18 + (a - 18) = a by omega]
          · exact r1 a (by omega) (by omega) (by omega)
    · rw [k1 16 (by decide) (by decide) (by decide) (by decide) (by decide) (by decide), r1 16 (by decide) (by decide) (by decide)]
      rfl
    · rw [k1 17 (by decide) (by decide) (by decide) (by decide) (by decide) (by decide)]
      show τ 17 k = σ 17 k
      by_cases h13 : k = 13
      · rw [h13, r3]
        rfl
      · by_cases h15 : k = 15
        · rw [h15, r4]
          rfl
        · exact r2 k h13 h15 h16 h17
    · show ρ 145 k = σ 145 k
      have e0 : τ 145 = σ 145 := r1 145 (by decide) (by decide) (by decide)
      by_cases h5 : k = 5
      · rw [h5, k3]
        show σ 17 13 = σ 145 5
        exact i3.2.1.1
      · rw [k2 k h5 h2, e0]
  have h26 : ∀ k, k ≤ s → ρ 26 k = σ 26 k := fun k hk => by
    rw [k1 26 (by decide) (by decide) (by decide) (by decide) (by decide) (by decide), r6 k hk]
    exact (i3.2.2.2.2.1 k hk).symm
  have hq := InvP_c c1 (InvP_26 (ρ 26) hn h26 hP)
  refine ⟨e, s, n, y, u, T, hq, ?_⟩
  unfold J4
  rw [k1 1 (by decide) (by decide) (by decide) (by decide) (by decide) (by decide), k1 2 (by decide) (by decide) (by decide) (by decide) (by decide) (by decide), k1 162 (by decide) (by decide) (by decide) (by decide) (by decide) (by decide), k2 24 (by decide) (by decide), r1 1 (by decide) (by decide) (by decide), r1 2 (by decide) (by decide) (by decide), r1 162 (by decide) (by decide) (by decide), r1 145 (by decide) (by decide) (by decide)]
  exact h4
theorem pr_asks (i j w : Int32) {σ : zSt} (hI : Inv σ) : Pair mX11_asks mX12_asks 4 4 [.int i, .int j, .int w] σ := by
  have hI0 := hI
  obtain ⟨e, s, n, y, u, T, hP, h4⟩ := hI
  have i1 := hP.1
  refine ⟨_, c_asks T (Dv σ) (zu (pv0 σ) 8 1 (σ 17 15)) n s y e (σ 17 14) (nI y) i j w σ (inv_envC hP) (inv_RC hP) i1.2.2.2.1.1 rfl i1.2.2.1.2.2.1 i1.2.2.1.2.2.2 (inv_okP hP) i1.1.1 i1.1.2.2, fun r τ q1 => ?_⟩
  rcases q1 with ⟨hA, hr, hR⟩ | ⟨hA, hr, et⟩
  · have hτ := RC_hi hR
    refine ⟨_, k_asks2 T (Dv σ) (zu (zu (pv0 σ) 8 1 (τ 145 50)) 8 2 (τ 145 49)) n s y e (σ 17 14) (nI y) i j w τ (inv_envK hP hτ) (inv_KR hP hτ) (inv_th hP hτ) (by rw [hτ 145 (by decide)]; exact hP.2.2.1.2.1.2.symm) i1.2.2.1.2.2.2 (inv_okPK hP) i1.1.2.2, fun r2 ρ q2 => ?_⟩
    rcases q2 with ⟨hB, hr2, hK⟩ | ⟨hB, _, _⟩
    · have hn : n ≠ 0 := fun z => by
        have h := hA.2.1
        omega
      exact ⟨_, hr, hr2, Inv_rk hP h4 hn hR hK⟩
    · exact absurd hA hB
  · have et := et.symm
    subst et
    have hτ : ∀ a, 145 ≤ a → σ a = σ a := fun _ _ => rfl
    refine ⟨_, k_asks2 T (Dv σ) (zu (zu (pv0 σ) 8 1 (σ 145 50)) 8 2 (σ 145 49)) n s y e (σ 17 14) (nI y) i j w σ (inv_envK hP hτ) (inv_KR hP hτ) (inv_th hP hτ) hP.2.2.1.2.1.2.symm i1.2.2.1.2.2.2 (inv_okPK hP) i1.1.2.2, fun r2 ρ q2 => ?_⟩
    rcases q2 with ⟨hB, _, _⟩ | ⟨_, hr2, rfl⟩
    · exact absurd hB hA
    · exact ⟨_, hr, hr2, hI0⟩
theorem pr_told (i j x w : Int32) {σ : zSt} (hI : Inv σ) : Pair mX11_told mX12_told 4 4 [.int i, .int j, .int x, .int w] σ := by
  have hI0 := hI
  obtain ⟨e, s, n, y, u, T, hP, h4⟩ := hI
  have i1 := hP.1
  refine ⟨_, c_told T (Dv σ) (zu (pv0 σ) 8 1 (σ 17 15)) n s y e (σ 17 14) (nI y) i j x w σ (inv_envC hP) (inv_RC hP) i1.2.2.2.1.1 rfl i1.2.2.1.2.2.1 i1.2.2.1.2.2.2 (inv_okP hP) i1.1.1 i1.1.2.2, fun r τ q1 => ?_⟩
  rcases q1 with ⟨hA, hr, hR⟩ | ⟨hA, hr, et⟩
  · have hτ := RC_hi hR
    refine ⟨_, k_told2 T (Dv σ) (zu (zu (pv0 σ) 8 1 (τ 145 50)) 8 2 (τ 145 49)) n s y e (σ 17 14) (nI y) i j x w τ (inv_envK hP hτ) (inv_KR hP hτ) (inv_th hP hτ) (by rw [hτ 145 (by decide)]; exact hP.2.2.1.2.1.2.symm) i1.2.2.1.2.2.2 (inv_okPK hP) i1.1.2.2, fun r2 ρ q2 => ?_⟩
    rcases q2 with ⟨hB, hr2, hK⟩ | ⟨hB, _, _⟩
    · have hn : n ≠ 0 := fun z => by
        have h := hA.2.1
        omega
      exact ⟨_, hr, hr2, Inv_rk hP h4 hn hR hK⟩
    · exact absurd hA hB
  · have et := et.symm
    subst et
    have hτ : ∀ a, 145 ≤ a → σ a = σ a := fun _ _ => rfl
    refine ⟨_, k_told2 T (Dv σ) (zu (zu (pv0 σ) 8 1 (σ 145 50)) 8 2 (σ 145 49)) n s y e (σ 17 14) (nI y) i j x w σ (inv_envK hP hτ) (inv_KR hP hτ) (inv_th hP hτ) hP.2.2.1.2.1.2.symm i1.2.2.1.2.2.2 (inv_okPK hP) i1.1.2.2, fun r2 ρ q2 => ?_⟩
    rcases q2 with ⟨hB, _, _⟩ | ⟨_, hr2, rfl⟩
    · exact absurd hB hA
    · exact ⟨_, hr, hr2, hI0⟩
/-! AGAIN -/
theorem pfx (p : Nat → Prop) : ∀ f, (∀ i j, i < j → j < f → p j → p i) → ∃ k, k ≤ f ∧ ∀ j, j < f → (p j ↔ j < k)
  | 0, _ => ⟨0, Nat.le_refl 0, fun j hj => absurd hj (Nat.not_lt_zero j)⟩
  | f + 1, h => by
    obtain ⟨k, hk, hk2⟩ := pfx p f (fun i j h1 h2 => h i j h1 (by omega))
    by_cases c : p f
    · refine ⟨f + 1, Nat.le_refl _, fun j hj => ⟨fun _ => hj, fun _ => ?_⟩⟩
      rcases Nat.lt_or_ge j f with q | q
      · exact h j f q (by omega) c
      · rw [show j = f by omega]; exact c
    · refine ⟨k, by omega, fun j hj => ?_⟩
      rcases Nat.lt_or_ge j f with q | q
      · exact hk2 j q
      · have e : j = f := by omega
        subst e
        exact ⟨fun z => absurd z c, fun z => absurd hk (by omega)⟩
theorem nn_ex {cm : Nat → Nat} {f : Nat} (h : ∀ i j, i < j → j < f → cm i ≤ cm j) : ∃ nn, nnOK cm nn f := by
  have h2 : ∀ y, ∃ k, k ≤ f ∧ ∀ j, j < f → (cm j ≤ y ↔ j < k) := fun y => pfx (fun j => cm j ≤ y) f (fun i j h1 h2 h3 => Nat.le_trans (h i j h1 h2) h3)
  exact ⟨fun y => Classical.choose (h2 y), fun y => Classical.choose_spec (h2 y)⟩
theorem pr_again (w : Int32) {σ : zSt} (hI : Inv σ) : Pair mX11_again mX12_again 7 6 [.int w] σ := by
  have hI0 := hI
  obtain ⟨e, s, n, y, u, T, hP, h4⟩ := hI
  have i1 := hP.1
  have i2 := hP.2.1
  have hy := i1.2.2.2.1.2.2
  obtain ⟨x, hx, hx1, hx2⟩ := i1.2.2.2.2
  have hcm : ∀ j, j < n → σ 12 j = nI (σ 12 j).toInt.toNat ∧ (σ 12 j).toInt.toNat ≤ y := fun j hj => by
    obtain ⟨m, hm, hm2⟩ := (i2.2.2.1 j hj).2.2.2
    rw [hm2, nI_tn (by omega)]
    exact ⟨rfl, hm⟩
  obtain ⟨nn, hnn⟩ := nn_ex (cm := fun j => (σ 12 j).toInt.toNat) (f := n) (fun i j h1 h2 => by
    obtain ⟨m, hm, hm2⟩ := (i2.2.2.1 j h2).2.2.2
    obtain ⟨m0, hm0, hm02⟩ := (i2.2.2.1 i (by omega)).2.2.2
    have h := i2.2.2.2 i j h1 h2
    show (σ 12 i).toInt.toNat ≤ (σ 12 j).toInt.toNat
    rw [hm2, hm02] at h
    rw [hm2, hm02, nI_tn (by omega), nI_tn (by omega)]
    exact (nI_leI (by omega) (by omega)).mp h)
  have hnf : nn y = n := by
    have h1 := (hnn y).1
    rcases Nat.eq_zero_or_pos n with z | z
    · omega
    · have h2 := ((hnn y).2 (n - 1) (by omega)).mp (hcm (n - 1) (by omega)).2
      omega
  refine ⟨_, c_again T (Dv σ) s e n y _ nn (nI x) w σ (inv_envC hP) (inv_okD hP) hx1 ⟨x, hx, rfl⟩ hnn hnf i1.2.2.1.1 i1.2.2.1.2.2.2 (fun j hj => ⟨(hcm j hj).1, by have := (hcm j hj).2; omega⟩) rfl i1.2.2.2.1.1 hy, fun r τ q1 => ?_⟩
  have hfr : fr27 σ τ := by
    rcases q1 with q | q
    · exact q.2.2
    · rw [q.2.2]
      exact fun _ _ _ _ => rfl
  have hτ : ∀ a, 145 ≤ a → τ a = σ a := fun a ha => hfr a (by omega) (by omega) (by omega)
  refine ⟨_, k_again T (Dv σ) s e n y _ nn (nI x) w τ (inv_envK hP hτ) (inv_okD hP) (by rw [hτ 145 (by decide)]; exact hx2) ⟨x, hx, rfl⟩ hnn (by rw [hτ 145 (by decide)]; exact i1.2.2.1.2.1) i1.2.2.1.2.2.2 (fun j hj => ⟨by rw [hτ 155 (by decide), ← i2.1.2.2.2.2.2.2.2]; exact (hcm j hj).1, by have := (hcm j hj).2; omega⟩) (by rw [hτ 153 (by decide)]; exact i2.1.2.2.2.2.2.1.symm) (by rw [hτ 145 (by decide)]; exact i1.2.2.2.1.2.1) hy (inv_okF hP), fun r2 ρ q2 => ?_⟩
  have hgr : fr145 τ ρ := by
    rcases q2 with q | q
    · exact q.2.2
    · rw [q.2.2]
      exact ⟨fun _ _ _ _ _ => rfl, fun _ _ => rfl⟩
  have hv : Inv ρ := by
    have hc : cE σ ρ := by
      refine ⟨fun a ha => ?_, ?_, fun k _ _ => ?_, fun k _ k2 => ?_⟩
      · rw [hgr.1 a (by omega) (by omega) (by omega) (by omega), hfr a (by omega) (by omega) (by omega)]
      · rw [hgr.1 16 (by decide) (by decide) (by decide) (by decide), hfr 16 (by decide) (by decide) (by decide)]
      · rw [hgr.1 17 (by decide) (by decide) (by decide) (by decide), hfr 17 (by decide) (by decide) (by decide)]
      · rw [hgr.2 k k2, hτ 145 (by decide)]
    refine Inv_c hc hI0 ?_ ?_ ?_ ?_
    · rw [hgr.1 1 (by decide) (by decide) (by decide) (by decide), hfr 1 (by decide) (by decide) (by decide)]
    · rw [hgr.1 2 (by decide) (by decide) (by decide) (by decide), hfr 2 (by decide) (by decide) (by decide)]
    · rw [hgr.1 162 (by decide) (by decide) (by decide) (by decide), hfr 162 (by decide) (by decide) (by decide)]
    · rw [hgr.2 24 (by decide), hτ 145 (by decide)]
  rcases q1 with ⟨hA, hr, _⟩ | ⟨hA, hr, _⟩
  · rcases q2 with ⟨_, hr2, _⟩ | ⟨hB, _, _⟩
    · refine ⟨_, hr, ?_, hv⟩
      rw [hr2, hτ 156 (by decide), show σ 18 = σ 156 from hP.2.2.1.1 0 (by decide)]
    · exact absurd hA hB
  · rcases q2 with ⟨hB, _, _⟩ | ⟨_, hr2, _⟩
    · exact absurd hB hA
    · exact ⟨_, hr, hr2, hv⟩
/-! MONTH -/
def mC (σ τ : zSt) (y n s : Nat) (Q : zSt) : Prop := (∀ a, a ≠ 14 → a ≠ 15 → (a < 17 ∨ 26 < a) → τ a = σ a) ∧ (∀ k, (k < 12 ∨ 17 < k) → τ 17 k = σ 17 k) ∧ τ 17 13 = Q 8 0 ∧ τ 17 15 = Q 8 1 ∧ τ 17 14 = nI (bcN (Q 8 1).toInt.toNat) ∧ τ 17 12 = nI (y + 1) ∧ (∀ i, i < 8 → τ (18 + i) = Q i) ∧ (∀ k, k ≤ s → τ 26 k = nI (cntN (Q 0) (nI k) n)) ∧ (n = 0 → τ 26 = σ 26)
theorem Inv_mon {σ τ τ1 ρ Q : zSt} {e s n y u : Nat} {T : Nat → TXT} (hy : y < 239) (hP : InvP σ e s n y T) (h4 : J4 σ u) (hc : mC σ τ y n s Q) (hk : KR τ τ1 Q) (hQ : okP s n (y + 1) 0 Q) (hpd : pdP s n Q) (hρ : ρ = zu (zu τ1 145 6 (nI (bcN (Q 8 1).toInt.toNat))) 145 0 (nI (y + 1))) : Inv ρ := by
  obtain ⟨c1, c2, c3, c4, c5, c6, c7, c8, c9⟩ := hc
  obtain ⟨k1, k2, k3, k4, k5, k6⟩ := hk
  obtain ⟨i1, i2, i3, i5, i6, i7, i8, i9⟩ := hP
  have hf : ∀ a, a ≠ 145 → a ≠ 148 → a ≠ 149 → (a < 156 ∨ 161 < a) → a ≠ 175 → a ≠ 176 → a ≠ 14 → a ≠ 15 → (a < 17 ∨ 26 < a) → ρ a = σ a := fun a a1 a2 a3 a4 a5 a6 a7 a8 a9 => by
    rw [hρ, zu_ne _ a1, zu_ne _ a1, k1 a a1 a2 a3 a4 a5 a6, c1 a a7 a8 a9]
  have hg : ∀ a, (17 ≤ a ∧ a ≤ 26) → ρ a = τ a := fun a ha => by
    rw [hρ, zu_ne _ (by omega), zu_ne _ (by omega), k1 a (by omega) (by omega) (by omega) (by omega) (by omega) (by omega)]
  have h17 : ρ 17 = τ 17 := hg 17 (by decide)
  have h145 : ∀ k, k ≠ 0 → k ≠ 5 → k ≠ 6 → (k < 47 ∨ 50 < k) → ρ 145 k = σ 145 k := fun k b0 b5 b6 b => by
    rw [hρ, zu_off _ _ _ _ _ b0, zu_off _ _ _ _ _ b6, k2 k b5 b, c1 145 (by decide) (by decide) (by decide)]
  have h1455 : ρ 145 5 = Q 8 0 := by
    rw [hρ, zu_off _ _ _ _ _ (by decide), zu_off _ _ _ _ _ (by decide), k3]
  have h1456 : ρ 145 6 = nI (bcN (Q 8 1).toInt.toNat) := by
    rw [hρ, zu_off _ _ _ _ _ (by decide), zu_at]
    exact if_pos rfl
  have h1450 : ρ 145 0 = nI (y + 1) := by
    rw [hρ, zu_at]
    exact if_pos rfl
  have hkA : ∀ i, i < 8 → ρ (kA i) = Q i := fun i hi => by
    have := kA_ne hi
    rw [hρ, zu_ne _ (by omega), zu_ne _ (by omega), k6 i hi]
  have h18 : ∀ i, i < 8 → ρ (18 + i) = Q i := fun i hi => by rw [hg _ (by omega), c7 i hi]
  have hpv : ∀ i, i < 8 → pv0 ρ i = Q i := fun i hi => by
    unfold pv0
    rw [if_pos hi, h18 i hi]
  have ht : ∀ a, 61 ≤ a → a < 145 → ρ a = σ a := fun a a1 a2 => hf a (by omega) (by omega) (by omega) (by omega) (by omega) (by omega) (by omega) (by omega) (by omega)
  have ht2 : ∀ a, 169 ≤ a → a ≤ 174 → ρ a = σ a := fun a a1 a2 => hf a (by omega) (by omega) (by omega) (by omega) (by omega) (by omega) (by omega) (by omega) (by omega)
  refine ⟨e, s, n, y + 1, u, T, ⟨?_, ?_, ?_, J5_c (σ := σ) (hf 6 (by decide) (by decide) (by decide) (by decide) (by decide) (by decide) (by decide) (by decide) (by decide)) (by rw [hf 3 (by decide) (by decide) (by decide) (by decide) (by decide) (by decide) (by decide) (by decide) (by decide)]) (by rw [hf 37 (by decide) (by decide) (by decide) (by decide) (by decide) (by decide) (by decide) (by decide) (by decide)]) (by rw [hf 16 (by decide) (by decide) (by decide) (by decide) (by decide) (by decide) (by decide) (by decide) (by decide)]) ht ht2 i5, ?_, ?_, ?_, J9_c (σ := σ) i1.1.2.2 (fun a ha => hf a (by omega) (by omega) (by omega) (by omega) (by omega) (by omega) (by omega) (by omega) (by omega)) i5 (hf 37 (by decide) (by decide) (by decide) (by decide) (by decide) (by decide) (by decide) (by decide) (by decide)) ht ht2 i9⟩, ?_⟩
  · unfold J1 at *
    rw [hf 3 (by decide) (by decide) (by decide) (by decide) (by decide) (by decide) (by decide) (by decide) (by decide), h17, c2 8 (by decide), c6, h1450, h145 1 (by decide) (by decide) (by decide) (by decide), h145 2 (by decide) (by decide) (by decide) (by decide), h145 3 (by decide) (by decide) (by decide) (by decide), h145 4 (by decide) (by decide) (by decide) (by decide)]
    exact ⟨i1.1, i1.2.1, i1.2.2.1, ⟨rfl, rfl, by omega⟩, i1.2.2.2.2⟩
  · unfold J2 at *
    rw [hf 4 (by decide) (by decide) (by decide) (by decide) (by decide) (by decide) (by decide) (by decide) (by decide), hf 5 (by decide) (by decide) (by decide) (by decide) (by decide) (by decide) (by decide) (by decide) (by decide), hf 7 (by decide) (by decide) (by decide) (by decide) (by decide) (by decide) (by decide) (by decide) (by decide), hf 8 (by decide) (by decide) (by decide) (by decide) (by decide) (by decide) (by decide) (by decide) (by decide), hf 9 (by decide) (by decide) (by decide) (by decide) (by decide) (by decide) (by decide) (by decide) (by decide), hf 10 (by decide) (by decide) (by decide) (by decide) (by decide) (by decide) (by decide) (by decide) (by decide), hf 11 (by decide) (by decide) (by decide) (by decide) (by decide) (by decide) (by decide) (by decide) (by decide), hf 12 (by decide) (by decide) (by decide) (by decide) (by decide) (by decide) (by decide) (by decide) (by decide), hf 146 (by decide) (by decide) (by decide) (by decide) (by decide) (by decide) (by decide) (by decide) (by decide), hf 147 (by decide) (by decide) (by decide) (by decide) (by decide) (by decide) (by decide) (by decide) (by decide), hf 150 (by decide) (by decide) (by decide) (by decide) (by decide) (by decide) (by decide) (by decide) (by decide), hf 151 (by decide) (by decide) (by decide) (by decide) (by decide) (by decide) (by decide) (by decide) (by decide), hf 152 (by decide) (by decide) (by decide) (by decide) (by decide) (by decide) (by decide) (by decide) (by decide), hf 153 (by decide) (by decide) (by decide) (by decide) (by decide) (by decide) (by decide) (by decide) (by decide), hf 154 (by decide) (by decide) (by decide) (by decide) (by decide) (by decide) (by decide) (by decide) (by decide), hf 155 (by decide) (by decide) (by decide) (by decide) (by decide) (by decide) (by decide) (by decide) (by decide)]
    refine ⟨i2.1, i2.2.1, fun j hj => ?_, i2.2.2.2⟩
    obtain ⟨a1, a2, a3, m, hm, hm2⟩ := i2.2.2.1 j hj
    exact ⟨a1, a2, a3, m, by omega, hm2⟩
  · have e18 : ρ 18 = Q 0 := h18 0 (by decide)
    have e26 : ρ 26 = τ 26 := hg 26 (by decide)
    refine ⟨fun i hi => by rw [h18 i hi, hkA i hi], ⟨by rw [h17, c3, h1455], by rw [h17, c5, h1456]⟩, ⟨?_, ?_, 0, by decide, rfl⟩, ?_, fun k hk => ?_, fun z k hk => ?_, fun j hj => ?_⟩
    · rw [hpv 0 (by decide), hpv 2 (by decide)]
      exact hQ.1
    · show ∃ x, x < 65536 ∧ ρ 17 13 = nI x
      rw [h17, c3]
      exact hQ.2.1
    · rw [h17, c4]
      exact hQ.2.2
    · rw [e18, e26]
      exact c8 k hk
    · rw [e26, c9 z]
      exact i3.2.2.2.2.2.1 z k hk
    · rw [hpv 0 (by decide), hpv 3 (by decide)]
      exact hpd j hj
  · unfold J6 at *
    rw [hf 49 (by decide) (by decide) (by decide) (by decide) (by decide) (by decide) (by decide) (by decide) (by decide), hf 50 (by decide) (by decide) (by decide) (by decide) (by decide) (by decide) (by decide) (by decide) (by decide), hf 177 (by decide) (by decide) (by decide) (by decide) (by decide) (by decide) (by decide) (by decide) (by decide), h145 51 (by decide) (by decide) (by decide) (by decide)]
    exact i6
  · unfold J7 at *
    rw [hf 52 (by decide) (by decide) (by decide) (by decide) (by decide) (by decide) (by decide) (by decide) (by decide), hf 53 (by decide) (by decide) (by decide) (by decide) (by decide) (by decide) (by decide) (by decide) (by decide), hf 54 (by decide) (by decide) (by decide) (by decide) (by decide) (by decide) (by decide) (by decide) (by decide), hf 178 (by decide) (by decide) (by decide) (by decide) (by decide) (by decide) (by decide) (by decide) (by decide), hf 179 (by decide) (by decide) (by decide) (by decide) (by decide) (by decide) (by decide) (by decide) (by decide), h145 52 (by decide) (by decide) (by decide) (by decide)]
    exact i7
  · unfold J8 at *
    rw [hf 55 (by decide) (by decide) (by decide) (by decide) (by decide) (by decide) (by decide) (by decide) (by decide), hf 56 (by decide) (by decide) (by decide) (by decide) (by decide) (by decide) (by decide) (by decide) (by decide), hf 57 (by decide) (by decide) (by decide) (by decide) (by decide) (by decide) (by decide) (by decide) (by decide), hf 58 (by decide) (by decide) (by decide) (by decide) (by decide) (by decide) (by decide) (by decide) (by decide), hf 59 (by decide) (by decide) (by decide) (by decide) (by decide) (by decide) (by decide) (by decide) (by decide), hf 60 (by decide) (by decide) (by decide) (by decide) (by decide) (by decide) (by decide) (by decide) (by decide), hf 180 (by decide) (by decide) (by decide) (by decide) (by decide) (by decide) (by decide) (by decide) (by decide), hf 181 (by decide) (by decide) (by decide) (by decide) (by decide) (by decide) (by decide) (by decide) (by decide), hf 182 (by decide) (by decide) (by decide) (by decide) (by decide) (by decide) (by decide) (by decide) (by decide), hf 183 (by decide) (by decide) (by decide) (by decide) (by decide) (by decide) (by decide) (by decide) (by decide), h145 53 (by decide) (by decide) (by decide) (by decide)]
    exact i8
  · unfold J4 at *
    rw [hf 1 (by decide) (by decide) (by decide) (by decide) (by decide) (by decide) (by decide) (by decide) (by decide), hf 2 (by decide) (by decide) (by decide) (by decide) (by decide) (by decide) (by decide) (by decide) (by decide), hf 162 (by decide) (by decide) (by decide) (by decide) (by decide) (by decide) (by decide) (by decide) (by decide), h145 24 (by decide) (by decide) (by decide) (by decide)]
    exact h4
theorem pr_month {σ : zSt} (hI : Inv σ) : Pair mX11_month mX12_month 7 6 [] σ := by
  have hI0 := hI
  obtain ⟨e, s, n, y, u, T, hP, h4⟩ := hI
  have i1 := hP.1
  have i3 := hP.2.2.1
  have hy2 := i1.2.2.2.1.2.2
  have hs := i1.2.1.2.2
  obtain ⟨Q, hQ⟩ : ∃ Q, Q = monP T (Dv σ) s n (σ 17 14) (nI y) n 0 (pv0 σ) := ⟨_, rfl⟩
  have hK : ∀ τ : zSt, (∀ a, 145 ≤ a → τ a = σ a) → Con mX12_month 6 [.ref 145] τ (fun r ρ => (y < 239 ∧ ∃ τ1, KR τ τ1 Q ∧ ρ = zu (zu τ1 145 6 (nI (bcN (Q 8 1).toInt.toNat))) 145 0 (nI (y + 1)) ∧ r = some (.int (Q 8 2))) ∨ (¬ y < 239 ∧ r = some (.int (-1)) ∧ ρ = τ)) := fun τ hτ => by
    have h := k_month2 T (Dv σ) (zu (zu (pv0 σ) 8 1 (τ 145 50)) 8 2 (τ 145 49)) n s y e y (σ 17 14) τ (inv_envK hP hτ) (inv_KR hP hτ) (inv_th hP hτ) (by rw [hτ 145 (by decide)]; exact i3.2.1.2.symm) (inv_okD hP) (inv_okPK hP) (by omega) (inv_okF hP) hy2
    rw [pv_k, ← hQ] at h
    exact h
  have hokQ : okP s n (y + 1) 0 Q := by
    rw [hQ]
    exact okP_end (okP_mon (inv_okD hP) hs n 0 _ (by omega) i3.2.2.1)
  have hpd : pdP s n Q := by
    rw [hQ]
    exact pd_mon hs n 0 _ (by omega) i3.2.2.2.2.2.2
  by_cases h239 : y < 239
  · have key : ∀ (r : Option Value) (τ : zSt), r = some (.int (Q 8 2)) → mC σ τ y n s Q → ∃ Q2, Con mX12_month 6 [.ref 145] τ Q2 ∧ ∀ r2 ρ, Q2 r2 ρ → ∃ v : Int32, r = some (.int v) ∧ r2 = some (.int v) ∧ Inv ρ := fun r τ hr hm => by
      refine ⟨_, hK τ (fun a ha => hm.1 a (by omega) (by omega) (by omega)), fun r2 ρ q2 => ?_⟩
      rcases q2 with ⟨_, τ1, hkr, et, hr2⟩ | ⟨hB, _, _⟩
      · exact ⟨_, hr, hr2, Inv_mon h239 hP h4 hm hkr hokQ hpd et⟩
      · exact absurd h239 hB
    by_cases hn : n = 0
    · subst hn
      have eQ : Q = pv0 σ := hQ
      refine ⟨_, c_month0 y σ i1.2.2.1.2.2.1 i1.2.2.2.1.1 h239, fun r τ q1 => key r τ ?_ ?_⟩
      · rw [q1.1, eQ]
        rfl
      · rw [q1.2, eQ]
        refine ⟨fun a _ _ a3 => by rw [zu_ne _ (by omega), zu_ne _ (by omega), zu_ne _ (by omega)], fun k hk => by rw [zu_off _ _ _ _ _ (by omega), zu_off _ _ _ _ _ (by omega), zu_off _ _ _ _ _ (by omega)], rfl, rfl, (show (0 : Int32) = nI (bcN (0 : Int32).toInt.toNat) by decide +kernel), rfl, fun i hi => ?_, fun k hk => ?_, fun _ => rfl⟩
        · rw [zu_ne _ (by omega), zu_ne _ (by omega), zu_ne _ (by omega)]
          exact (if_pos hi).symm
        · exact i3.2.2.2.2.1 k hk
    · have h := c_month T (Dv σ) (zu (pv0 σ) 8 1 (σ 17 15)) n s y e y (σ 17 14) σ (inv_envC hP) (inv_RC hP) i1.2.2.2.1.1 rfl i1.2.2.1.2.2.1 i1.2.2.1.2.2.2 (inv_okD hP) (inv_okP hP) hy2
      rw [pv_c, ← hQ] at h
      refine ⟨_, h, fun r τ q1 => ?_⟩
      rcases q1 with ⟨_, τ1, ⟨r1, r2, r3, r4, r5, r6⟩, et, hr⟩ | ⟨hB, _, _⟩
      · refine key r τ hr ?_
        rw [et]
        refine ⟨fun a a1 a2 a3 => by rw [zu_ne _ (by omega), zu_ne _ (by omega)]; exact r1 a a1 a2 (by omega), fun k hk => by rw [zu_off _ _ _ _ _ (by omega), zu_off _ _ _ _ _ (by omega)]; exact r2 k (by omega) (by omega) (by omega) (by omega), ?_, ?_, ?_, ?_, fun i hi => ?_, fun k hk => ?_, fun z => absurd z hn⟩
        · rw [zu_off _ _ _ _ _ (by decide), zu_off _ _ _ _ _ (by decide), r3]
        · rw [zu_off _ _ _ _ _ (by decide), zu_off _ _ _ _ _ (by decide), r4]
        · rw [zu_off _ _ _ _ _ (by decide), zu_at]
          exact if_pos rfl
        · rw [zu_at]
          exact if_pos rfl
        · rw [zu_ne _ (by omega), zu_ne _ (by omega)]
          exact r5 i hi
        · rw [zu_ne _ (by omega), zu_ne _ (by omega)]
          exact r6 k hk
      · exact absurd h239 hB
  · refine ⟨_, c_month T (Dv σ) (zu (pv0 σ) 8 1 (σ 17 15)) n s y e y (σ 17 14) σ (inv_envC hP) (inv_RC hP) i1.2.2.2.1.1 rfl i1.2.2.1.2.2.1 i1.2.2.1.2.2.2 (inv_okD hP) (inv_okP hP) hy2, fun r τ q1 => ?_⟩
    rcases q1 with ⟨hB, _⟩ | ⟨_, hr, et⟩
    · exact absurd hB h239
    · have et := et.symm
      subst et
      refine ⟨_, hK σ (fun _ _ => rfl), fun r2 ρ q2 => ?_⟩
      rcases q2 with ⟨hB, _⟩ | ⟨_, hr2, rfl⟩
      · exact absurd hB h239
      · exact ⟨_, hr, hr2, hI0⟩
