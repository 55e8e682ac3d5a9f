theorem Con.swap {M : ZM} {d : Nat} {av : List Value} {σ : zSt} {v : Int32} (h : Con M d av σ (fun r τ => τ = σ ∧ r = some (.int v))) : Con M d av σ (fun r τ => r = some (.int v) ∧ τ = σ) := h.mono (fun _ _ q => ⟨q.2, q.1⟩)
theorem pr_odds (a b c d e : Int32) {σ : zSt} (hI : Inv σ) : Pair mX11_odds mX12_odds 2 2 [.int a, .int b, .int c, .int d, .int e] σ := Pair.pure hI rfl (c_odds a b c d e σ) (k_odds a b c d e σ)
theorem pr_those (a b c d e : Int32) {σ : zSt} (hI : Inv σ) : Pair mX11_those mX12_those 2 2 [.int a, .int b, .int c, .int d, .int e] σ := Pair.pure hI rfl (c_those a b c d e σ) (k_those a b c d e σ)
theorem pr_fileIs (a b : Int32) {σ : zSt} (hI : Inv σ) : Pair mX11_fileIs mX12_fileIs 1 1 [.int a, .int b] σ := by
  have hI0 := hI
  obtain ⟨e, s, n, y, u, T, ⟨i1, i2, i3, _⟩, _⟩ := hI
  refine Pair.pure hI0 ?_ (c_fileIs n a b σ i1.2.2.1.1 i1.2.2.1.2.2.2) (k_fileIs n a b σ i1.2.2.1.2.1 i1.2.2.1.2.2.2)
  rw [show σ 18 = σ 156 from i3.1 0 (by decide), show σ 19 = σ 157 from i3.1 1 (by decide), show σ 20 = σ 158 from i3.1 2 (by decide), show σ 21 = σ 159 from i3.1 3 (by decide), show σ 22 = σ 160 from i3.1 4 (by decide), show σ 23 = σ 161 from i3.1 5 (by decide), i2.1.2.2.2.2.2.2.2]
theorem pr_clerkIs (a b : Int32) {σ : zSt} (hI : Inv σ) : Pair mX11_clerkIs mX12_clerkIs 1 1 [.int a, .int b] σ := by
  have hI0 := hI
  obtain ⟨e, s, n, y, u, T, ⟨i1, i2, i3, _⟩, _⟩ := hI
  refine Pair.pure hI0 ?_ (c_clerkIs e a b σ i1.1.1 i1.1.2.2) (k_clerkIs e a b σ i1.1.2.1 i1.1.2.2)
  rw [show σ 24 = σ 148 from i3.1 6 (by decide), show σ 25 = σ 149 from i3.1 7 (by decide), i2.1.1, i2.1.2.1]
theorem pr_made (a b : Int32) {σ : zSt} (hI : Inv σ) : Pair mX11_made mX12_made 2 1 [.int a, .int b] σ := by
  have hI0 := hI
  obtain ⟨e, s, n, y, u, T, ⟨i1, i2, i3, _⟩, _⟩ := hI
  refine Pair.pure hI0 ?_ (c_made n a b σ i1.2.2.1.2.2.1 i1.2.2.1.2.2.2).swap (k_made n a b σ i1.2.2.1.2.1 i1.2.2.1.2.2.2).swap
  rw [i1.2.1.1, i1.2.1.2.1, show σ 18 = σ 156 from i3.1 0 (by decide), show σ 19 = σ 157 from i3.1 1 (by decide), i2.1.2.2.2.2.1, i2.1.2.2.2.2.2.2.1]
theorem pr_bears {σ : zSt} (hI : Inv σ) : Pair mX11_bears mX12_bears 2 0 [] σ := by
  have hI0 := hI
  obtain ⟨e, s, n, y, u, T, ⟨i1, i2, i3, _⟩, _⟩ := hI
  have h3 : σ 21 = σ 159 := i3.1 3 (by decide)
  refine Pair.pure hI0 ?_ (c_bears n σ i1.2.2.1.2.2.1 i1.2.2.1.2.2.2) (k_bears n σ i1.2.2.1.2.1 i1.2.2.1.2.2.2 (fun j hj => ?_) (fun j hj => ?_))
  · rw [h3, i2.1.2.2.2.2.2.1]
  · obtain ⟨a, v, ha, hp0, hp3, hv⟩ := i3.2.2.2.2.2.2 j hj
    have hp3 : σ 21 j = nI v := hp3
    have hs := i1.2.1.2.2
    rw [← h3, hp3]
    exact nI_pos' (by omega)
  · obtain ⟨c, hc, hc2⟩ := (i2.2.2.1 j hj).2.2.1
    rw [← i2.1.2.2.2.2.2.1, hc2]
    exact nI_pos' (by omega)
theorem nsel_c {a0 a1 a2 a3 a4 a5 a6 a7 a8 a9 a10 : Int32} {f g : Nat → Int32} {c : Nat} (w : Int32) (h : ∀ i, i < c → f i = g i) : nsel a0 a1 a2 a3 a4 a5 a6 a7 a8 a9 a10 f c w = nsel a0 a1 a2 a3 a4 a5 a6 a7 a8 a9 a10 g c w := by
  unfold nsel
  by_cases q : 20 ≤ w.toInt ∧ w.toInt < 20 + (c : Int)
  · rw [h (w.toInt.toNat - 20) (by omega)]
  · simp only [if_neg q]
theorem tx_n {σ : zSt} {t i : Nat} {T : TXT} (h : txC σ t T) (g : txK σ i T) : σ t 6 = σ 170 i := by
  obtain ⟨n, hd, sf, cf, en, op, vl, len⟩ := T
  exact h.1.trans g.1.symm
theorem pr_count (a : Int32) {σ : zSt} (hI : Inv σ) : Pair mX11_count mX12_count 1 1 [.int a] σ := by
  have hI0 := hI
  obtain ⟨e, s, n, y, u, T, ⟨i1, i2, i3, i5, i6, i7, i8, i9⟩, i4⟩ := hI
  obtain ⟨m6, _, _, _, j6, k6, _⟩ := i6
  obtain ⟨m7, _, j7, k7, _⟩ := i7
  obtain ⟨m8, _, _, _, _, _, j8, k8, _⟩ := i8
  refine Pair.pure hI0 ?_ (c_count e a σ i1.1.1 i1.1.2.2 (i5.1 10 (by decide)) (fun i hi => by have h := i5.1 i (by omega); rw [show tf σ i = (σ 6 i).toNatClampNeg from if_pos hi] at h; exact h)) (k_count e a σ i1.1.2.1 i1.1.2.2)
  rw [i1.1.1, i1.1.2.1, i1.2.1.1, i1.2.1.2.1, i1.2.2.1.1, i1.2.2.1.2.1, i1.2.2.2.1.1, i1.2.2.2.1.2.1, i4.1, i4.2.1, j6, k6, j7, k7, j8, k8, i3.2.1.1, i3.2.1.2]
  have h10 : σ (σ 3 12).toNatClampNeg 6 = σ 170 10 := tx_n (i5.2.2 10 (by decide)).1 (i5.2.2 10 (by decide)).2.1
  rw [h10]
  refine nsel_c a (fun i hi => ?_)
  have he := i1.1.2.2
  have h := tx_n (i5.2.2 i (by omega)).1 (i5.2.2 i (by omega)).2.1
  rw [show tf σ i = (σ 6 i).toNatClampNeg from if_pos (by omega)] at h
  exact h
theorem cw_same {w u : Nat → Nat} {n : Nat} (hc : ∀ P : Nat → Bool, fb_ct (fun k => P (w k)) n = fb_ct (fun k => P (u k)) n) (v : Nat) : cw w n v = cw u n v := hc (fun z => decide (v ≤ z))
theorem one_same {w u : Nat → Nat} {n : Nat} (hc : ∀ P : Nat → Bool, fb_ct (fun k => P (w k)) n = fb_ct (fun k => P (u k)) n) (x : Int32) : oneR w n x = oneR u n x := by
  unfold oneR
  rw [bpX_same hc 0, cw_same hc]
theorem each_same {w u : Nat → Nat} {n : Nat} (hc : ∀ P : Nat → Bool, fb_ct (fun k => P (w k)) n = fb_ct (fun k => P (u k)) n) (m x : Int32) : eachR w n m x = eachR u n m x := by
  unfold eachR
  rw [show bpX w n = bpX u n from funext fun o => bpX_same hc o]
  have : ∀ o, eaV w n x o = eaV u n x o := by
    intro o
    cases o with
    | none => rfl
    | some a =>
      show (if x = 0 then nI a else nI (a * cw w n a)) = (if x = 0 then nI a else nI (a * cw u n a))
      rw [cw_same hc]
  rw [this]
theorem pr_one (a : Int32) {σ : zSt} (hI : Inv σ) : Pair mX11_one mX12_one 1 2 [.int a] σ := by
  have hI0 := hI
  obtain ⟨e, s, n, y, u, T, ⟨i1, i2, i3, i5, i6, i7, i8, i9⟩, i4⟩ := hI
  obtain ⟨m, w, w2, h1, h2, h3, h4, h5, h6, h7⟩ := i6
  exact Pair.pure hI0 (one_same h7 a) (c_one m w a σ h2 h1 h4 h5) (k_one m w2 a σ h3 h1 h6)
theorem pr_each (a b : Int32) {σ : zSt} (hI : Inv σ) : Pair mX11_each mX12_each 2 2 [.int a, .int b] σ := by
  have hI0 := hI
  obtain ⟨e, s, n, y, u, T, ⟨i1, i2, i3, i5, i6, i7, i8, i9⟩, i4⟩ := hI
  obtain ⟨m, w, w2, h1, h2, h3, h4, h5, h6, h7⟩ := i6
  refine ⟨_, c_each m w a b σ h2 h1 h4 h5, fun r τ q1 => ?_⟩
  obtain ⟨⟨g, rfl⟩, hr⟩ := q1
  refine ⟨_, k_each m w2 a b (zs σ 51 g) h3 h1 h6, fun r2 ρ q2 => ?_⟩
  obtain ⟨⟨g2, rfl⟩, hr2⟩ := q2
  have hc : cE σ (zs (zs σ 51 g) 184 g2) := ⟨fun a ha => by rw [zs_ne _ (by omega), zs_ne _ (by omega)], rfl, fun _ _ _ => rfl, fun _ _ _ => rfl⟩
  exact ⟨_, hr, by rw [hr2, each_same h7], Inv_c hc hI0 rfl rfl rfl rfl⟩
theorem pr_middle (a b c : Int32) {σ : zSt} (hI : Inv σ) : Pair mX11_middle mX12_middle 1 1 [.int a, .int b, .int c] σ := by
  have hI0 := hI
  obtain ⟨e, s, n, y, u, T, ⟨i1, i2, i3, i5, i6, i7, i8, i9⟩, i4⟩ := hI
  obtain ⟨m, h1, h2, h3, h4, h5⟩ := i7
  refine ⟨_, c_middle m a b c σ h2 h1 h4, fun r τ q1 => ?_⟩
  obtain ⟨rfl, v, hr, hM⟩ := q1
  refine ⟨_, k_middle m a b c _ h3 h1, fun r2 ρ q2 => ?_⟩
  obtain ⟨rfl, v2, hr2, hM2⟩ := q2
  rw [i1.2.1.1] at hM
  rw [i1.2.1.2.1] at hM2
  exact ⟨v, hr, by rw [hr2, MidP_one h5 hM hM2], hI0⟩
theorem pr_span (a b : Int32) {σ : zSt} (hI : Inv σ) : Pair mX11_span mX12_span 1 1 [.int a, .int b] σ := by
  have hI0 := hI
  obtain ⟨e, s, n, y, u, T, ⟨i1, i2, i3, i5, i6, i7, i8, i9⟩, i4⟩ := hI
  obtain ⟨m, S, L, M, tv, h1, h2, h3, h4, h5, h6, h7, h8⟩ := i8
  refine ⟨_, c_span e (tv = true) a b σ i1.1.1 i1.1.2.2 h6, fun r τ q1 => ?_⟩
  obtain ⟨et, hr⟩ := q1
  have et := et.symm
  subst et
  refine ⟨_, k_span e m S L M (σ 181) (σ 182) (σ 183) a b σ i1.1.2.1 i1.1.2.2 h3 h1 h4 (fun g hg => ⟨(h5 g hg).2.1, (h5 g hg).2.2.1, (h5 g hg).2.2.2, rfl, rfl, rfl⟩), fun r2 ρ q2 => ?_⟩
  obtain ⟨⟨lo, hi, rfl⟩, q⟩ := q2
  have hc : cE σ (zs (zs σ 185 lo) 186 hi) := ⟨fun a ha => by rw [zs_ne _ (by omega), zs_ne _ (by omega)], rfl, fun _ _ _ => rfl, fun _ _ _ => rfl⟩
  have hv := Inv_c hc hI0 rfl rfl rfl rfl
  rcases q with ⟨hA, hr2⟩ | ⟨hA, q⟩
  · rw [if_neg hA] at hr
    exact ⟨_, hr, hr2, hv⟩
  · rw [if_pos hA] at hr
    rcases h7 with ⟨ht, hG⟩ | ⟨ht, hG⟩
    · rw [if_neg ht] at hr
      rcases q with ⟨hn, hr2⟩ | ⟨lo2, hi2, hG2, hr2⟩
      · exact absurd ⟨_, _, hG.2.1⟩ hn
      · have hi := Gr_one hG hG2 (i := a.toInt.toNat) (by omega)
        rw [hi.1, hi.2] at hr
        exact ⟨_, hr, hr2, hv⟩
    · rw [if_pos ht] at hr
      rcases q with ⟨hn, hr2⟩ | ⟨lo2, hi2, hG2, hr2⟩
      · exact ⟨_, hr, hr2, hv⟩
      · exact absurd ⟨_, _, hG2.2.1⟩ hG
theorem pr_check (a : Int32) {σ : zSt} (hI : Inv σ) : Pair mX11_check mX12_check 3 1 [.int a] σ := by
  have hI0 := hI
  obtain ⟨e, s, n, y, u, T, ⟨i1, i2, i3, _⟩, i4⟩ := hI
  refine ⟨_, c_check n u a σ i1.2.2.1.2.2.1 i4.1 i1.2.2.1.2.2.2 i4.2.2.1, fun r τ q1 => ?_⟩
  rcases q1 with ⟨hA, hr, rfl⟩ | ⟨hA, hr, rfl⟩
  · refine ⟨_, k_check n u a (zu σ 1 1 0) i1.2.2.1.2.1 i4.2.1 i1.2.2.1.2.2.2 i4.2.2.1, fun r2 ρ q2 => ?_⟩
    rcases q2 with ⟨_, hr2, rfl⟩ | ⟨hB, _, _⟩
    · have e2 : (zu σ 1 1 0) 162 = σ 2 := i4.2.2.2.symm
      have e3 : (zu σ 1 1 0) 156 = σ 18 := (i3.1 0 (by decide)).symm
      have e4 : (zu σ 1 1 0) 157 = σ 19 := (i3.1 1 (by decide)).symm
      rw [e2, e3, e4] at hr2
      have hc : cE σ (zu (zu σ 1 1 0) 145 24 0) := ⟨fun a ha => by rw [zu_ne _ (by omega), zu_ne _ (by omega)], rfl, fun _ _ _ => rfl, fun k k1 _ => by rw [zu_off _ _ _ _ _ (by omega)]; rfl⟩
      exact ⟨_, hr, hr2, Inv_t hc hI0 rfl rfl rfl rfl⟩
    · exact absurd hA hB
  · refine ⟨_, k_check n u a _ i1.2.2.1.2.1 i4.2.1 i1.2.2.1.2.2.2 i4.2.2.1, fun r2 ρ q2 => ?_⟩
    rcases q2 with ⟨hB, _, _⟩ | ⟨_, hr2, rfl⟩
    · exact absurd hB hA
    · exact ⟨_, hr, hr2, hI0⟩
/-! RESTS -/
theorem gn_C {σ : zSt} {e s n y len : Nat} {T : Nat → TXT} {op vl : Nat → Nat} (h : InvP σ e s n y T) (g : gnOK op vl len ∧ σ (tf σ 11) 1 = nI len ∧ (∀ k, k < len → σ (tf σ 11 + 1) k = nI (256 * vl k + ck (op k))) ∧ σ 172 132 = nI 1980 ∧ σ 174 132 = nI (1980 + len) ∧ ∀ k, k < len → σ 169 (1980 + k) = nI (1048576 * op k + vl k)) : gnC σ op vl len e (σ 5) (σ 4) := ⟨h.2.2.2.1.1 11 (by decide), g.2.1, g.2.2.1, g.1, rfl, rfl, h.1.1.1, h.1.1.2.2⟩
theorem gn_K {σ τ : zSt} {e s n y len : Nat} {T : Nat → TXT} {op vl : Nat → Nat} (h : InvP σ e s n y T) (hτ : ∀ a, 145 ≤ a → a < 195 → τ a = σ a) (g : gnOK op vl len ∧ σ (tf σ 11) 1 = nI len ∧ (∀ k, k < len → σ (tf σ 11 + 1) k = nI (256 * vl k + ck (op k))) ∧ σ 172 132 = nI 1980 ∧ σ 174 132 = nI (1980 + len) ∧ ∀ k, k < len → σ 169 (1980 + k) = nI (1048576 * op k + vl k)) : gnK τ op vl len e (σ 5) (σ 4) := by
  refine ⟨(hτ _ (by decide) (by decide)).trans h.2.1.1.2.1.symm, (hτ _ (by decide) (by decide)).trans h.2.1.1.1.symm, by rw [hτ 145 (by decide) (by decide)]; exact h.1.1.2.1, h.1.1.2.2, by rw [hτ 172 (by decide) (by decide)]; exact g.2.2.2.1, by rw [hτ 174 (by decide) (by decide)]; exact g.2.2.2.2.1, fun k hk => by rw [hτ 169 (by decide) (by decide)]; exact g.2.2.2.2.2 k hk, g.1⟩
theorem fL_hi {σ τ : zSt} (h : fL σ τ) : ∀ a, 145 ≤ a → a < 195 → τ a = σ a := fun a h1 h2 => h.1 a (by omega) (by omega) (by omega) (by omega) (by omega)
theorem Inv_fK {σ ρ : zSt} (hI : Inv σ) (g : fK σ ρ) : Inv ρ := by
  have hc : cE σ ρ := ⟨fun a ha => g a (by omega) (by omega), by rw [g 16 (by decide) (by decide)], fun k _ _ => by rw [g 17 (by decide) (by decide)], fun k _ _ => by rw [g 145 (by decide) (by decide)]⟩
  refine Inv_c hc hI ?_ ?_ ?_ ?_
  · rw [g 1 (by decide) (by decide)]
  · rw [g 2 (by decide) (by decide)]
  · rw [g 162 (by decide) (by decide)]
  · rw [g 145 (by decide) (by decide)]
theorem Inv_gL {σ τ ρ : zSt} {e s n y u len : Nat} {T : Nat → TXT} {op vl : Nat → Nat} {G : Bool} (hP : InvP σ e s n y T) (h4 : J4 σ u) (g1 : σ 37 3 = bI (G = true)) (g2 : σ 170 11 = bI (G = true)) (g3 : G = true → gnOK op vl len ∧ σ (tf σ 11) 1 = nI len ∧ (∀ k, k < len → σ (tf σ 11 + 1) k = nI (256 * vl k + ck (op k))) ∧ σ 172 132 = nI 1980 ∧ σ 174 132 = nI (1980 + len) ∧ ∀ k, k < len → σ 169 (1980 + k) = nI (1048576 * op k + vl k)) (h : gL σ τ e (gvF op vl len (σ 5) (σ 4) e)) (g : fK τ ρ) : Inv ρ := by
  obtain ⟨⟨h1, h2⟩, h6, hch⟩ := h
  have he := hP.1.1.2.2
  have hr := tx_rng (hP.2.2.2.1.1 11 (by omega))
  have ha : ∀ a, a ≠ 14 → a ≠ 15 → a ≠ 37 → (a < 39 ∨ 48 < a) → a ≠ 195 → a ≠ 175 → a ≠ 176 → ρ a = σ a := fun a a1 a2 a3 a4 a5 a6 a7 => (g a a6 a7).trans (h1 a a1 a2 a3 a4 a5)
  have h37 : ∀ k, k ≠ 6 → ρ 37 k = σ 37 k := fun k hk => by rw [g 37 (by decide) (by decide)]; exact h2 k hk
  have hD : cD σ ρ := ⟨fun a hA => ha a (by omega) (by omega) (by omega) (by omega) (by omega) (by omega) (by omega), by rw [ha 16 (by decide) (by decide) (by decide) (by decide) (by decide) (by decide) (by decide)], fun k _ _ => by rw [ha 17 (by decide) (by decide) (by decide) (by decide) (by decide) (by decide) (by decide)], fun k _ _ => by rw [ha 145 (by decide) (by decide) (by decide) (by decide) (by decide) (by decide) (by decide)]⟩
  have ht := tf_d hD (h37 2 (by decide)) 11
  refine ⟨e, s, n, y, u, T, InvP_e hD (h37 2 (by decide)) hP ⟨G, op, vl, len, by rw [h37 3 (by decide)]; exact g1, by rw [ha 170 (by decide) (by decide) (by decide) (by decide) (by decide) (by decide) (by decide)]; exact g2, fun z => ?_, ?_, fun _ => ?_⟩, ?_⟩
  · rw [ht, ha (tf σ 11) (by omega) (by omega) (by omega) (by omega) (by omega) (by omega) (by omega), ha (tf σ 11 + 1) (by omega) (by omega) (by omega) (by omega) (by omega) (by omega) (by omega), ha 172 (by decide) (by decide) (by decide) (by decide) (by decide) (by decide) (by decide), ha 174 (by decide) (by decide) (by decide) (by decide) (by decide) (by decide) (by decide), ha 169 (by decide) (by decide) (by decide) (by decide) (by decide) (by decide) (by decide)]
    exact g3 z
  · rw [g 37 (by decide) (by decide), h6, nI_toInt (by omega)]
    exact Int.le_refl _
  · rw [ha 5 (by decide) (by decide) (by decide) (by decide) (by decide) (by decide) (by decide), ha 4 (by decide) (by decide) (by decide) (by decide) (by decide) (by decide) (by decide)]
    exact lrS_c (fun a hA => g a (by omega) (by omega)) he hch
  · unfold J4
    rw [ha 1 (by decide) (by decide) (by decide) (by decide) (by decide) (by decide) (by decide), ha 2 (by decide) (by decide) (by decide) (by decide) (by decide) (by decide) (by decide), ha 162 (by decide) (by decide) (by decide) (by decide) (by decide) (by decide) (by decide), ha 145 (by decide) (by decide) (by decide) (by decide) (by decide) (by decide) (by decide)]
    exact h4
theorem pr_rest (a : Int32) {σ : zSt} (hI : Inv σ) : Pair mX11_rest mX12_rest 3 5 [.int a] σ := by
  have hI0 := hI
  obtain ⟨e, s, n, y, u, T, hP, i4⟩ := hI
  obtain ⟨G, op, vl, len, g1, g2, g3, g4, g5⟩ := hP.2.2.2.2.2.2.2
  refine ⟨_, c_rest a op vl len e (σ 5) (σ 4) G σ hP.1.1.1 hP.1.1.2.2 g1 (fun z => gn_C hP (g3 z)) g5, fun r τ q1 => ?_⟩
  have hf : τ = σ ∨ gL σ τ e (gvF op vl len (σ 5) (σ 4) e) := by
    rcases q1 with q | q
    · exact Or.inr q.2.2
    · exact Or.inl q.2.2
  have hhi : ∀ a, 145 ≤ a → a < 195 → τ a = σ a := by
    rcases hf with h | h
    · exact fun a _ _ => by rw [h]
    · exact fL_hi h.1
  refine ⟨_, k_rest a op vl len e (σ 5) (σ 4) G τ (by rw [hhi 145 (by decide) (by decide)]; exact hP.1.1.2.1) hP.1.1.2.2 (by rw [hhi 170 (by decide) (by decide)]; exact g2) (fun z => gn_K hP hhi (g3 z)), fun r2 ρ q2 => ?_⟩
  have hk : fK τ ρ := by
    rcases q2 with q | q
    · exact q.2.2
    · rw [q.2.2]; exact fK_rf _
  have hv : Inv ρ := by
    rcases hf with h | h
    · rw [h] at hk
      exact Inv_fK hI0 hk
    · exact Inv_gL hP i4 g1 g2 g3 h hk
  rcases q1 with ⟨hA, hr, _⟩ | ⟨hA, hr, _⟩
  · rcases q2 with ⟨_, hr2, _⟩ | ⟨hB, _⟩
    · exact ⟨_, hr, hr2, hv⟩
    · exact absurd hA hB
  · rcases q2 with ⟨hB, _⟩ | ⟨_, hr2, _⟩
    · exact absurd hB hA
    · exact ⟨_, hr, hr2, hv⟩
theorem pr_rests (a : Int32) {σ : zSt} (hI : Inv σ) : Pair mX11_rests mX12_rests 4 5 [.int a] σ := by
  have hI0 := hI
  obtain ⟨e, s, n, y, u, T, hP, i4⟩ := hI
  obtain ⟨G, op, vl, len, g1, g2, g3, g4, g5⟩ := hP.2.2.2.2.2.2.2
  refine ⟨_, c_rests a op vl len e (σ 5) (σ 4) G σ hP.1.1.1 hP.1.1.2.2 g1 (fun z => gn_C hP (g3 z)) g5, fun r τ q1 => ?_⟩
  have hf : τ = σ ∨ gL σ τ e (gvF op vl len (σ 5) (σ 4) e) := by
    rcases q1 with q | q
    · exact Or.inr q.2.2
    · exact Or.inl q.2.2
  have hhi : ∀ a, 145 ≤ a → a < 195 → τ a = σ a := by
    rcases hf with h | h
    · exact fun a _ _ => by rw [h]
    · exact fL_hi h.1
  refine ⟨_, k_rests a op vl len e (σ 5) (σ 4) G τ (by rw [hhi 145 (by decide) (by decide)]; exact hP.1.1.2.1) hP.1.1.2.2 (by rw [hhi 170 (by decide) (by decide)]; exact g2) (fun z => gn_K hP hhi (g3 z)), fun r2 ρ q2 => ?_⟩
  have hk : fK τ ρ := by
    rcases q2 with q | q
    · exact q.2.2
    · rw [q.2.2]; exact fK_rf _
  have hv : Inv ρ := by
    rcases hf with h | h
    · rw [h] at hk
      exact Inv_fK hI0 hk
    · exact Inv_gL hP i4 g1 g2 g3 h hk
  rcases q1 with ⟨hA, hr, _⟩ | ⟨hA, hr, _⟩
  · rcases q2 with ⟨_, hr2, _⟩ | ⟨hB, _⟩
    · exact ⟨_, hr, hr2, hv⟩
    · exact absurd hA hB
  · rcases q2 with ⟨hB, _⟩ | ⟨_, hr2, _⟩
    · exact absurd hB hA
    · exact ⟨_, hr, hr2, hv⟩
theorem pr_goesTo (a : Int32) {σ : zSt} (hI : Inv σ) : Pair mX11_goesTo mX12_goesTo 4 5 [.int a] σ := by
  have hI0 := hI
  obtain ⟨e, s, n, y, u, T, hP, i4⟩ := hI
  obtain ⟨G, op, vl, len, g1, g2, g3, g4, g5⟩ := hP.2.2.2.2.2.2.2
  refine ⟨_, c_goesTo a op vl len e (σ 5) (σ 4) G σ hP.1.1.1 hP.1.1.2.2 g1 (fun z => gn_C hP (g3 z)) g5, fun r τ q1 => ?_⟩
  have hf : τ = σ ∨ gL σ τ e (gvF op vl len (σ 5) (σ 4) e) := by
    rcases q1 with q | q
    · exact Or.inr q.2.2
    · exact Or.inl q.2.2
  have hhi : ∀ a, 145 ≤ a → a < 195 → τ a = σ a := by
    rcases hf with h | h
    · exact fun a _ _ => by rw [h]
    · exact fL_hi h.1
  refine ⟨_, k_goesTo a op vl len e (σ 5) (σ 4) G τ (by rw [hhi 145 (by decide) (by decide)]; exact hP.1.1.2.1) hP.1.1.2.2 (by rw [hhi 170 (by decide) (by decide)]; exact g2) (fun z => gn_K hP hhi (g3 z)), fun r2 ρ q2 => ?_⟩
  have hk : fK τ ρ := by
    rcases q2 with q | q
    · exact q.2.2
    · rw [q.2.2]; exact fK_rf _
  have hv : Inv ρ := by
    rcases hf with h | h
    · rw [h] at hk
      exact Inv_fK hI0 hk
    · exact Inv_gL hP i4 g1 g2 g3 h hk
  rcases q1 with ⟨hA, hr, _⟩ | ⟨hA, hr, _⟩
  · rcases q2 with ⟨_, hr2, _⟩ | ⟨hB, _⟩
    · exact ⟨_, hr, hr2, hv⟩
    · exact absurd hA hB
  · rcases q2 with ⟨hB, _⟩ | ⟨_, hr2, _⟩
    · exact absurd hB hA
    · exact ⟨_, hr, hr2, hv⟩
theorem pr_turned (a b : Int32) {σ : zSt} (hI : Inv σ) : Pair mX11_turned mX12_turned 5 5 [.int a, .int b] σ := by
  have hI0 := hI
  obtain ⟨e, s, n, y, u, T, hP, i4⟩ := hI
  obtain ⟨G, op, vl, len, g1, g2, g3, g4, g5⟩ := hP.2.2.2.2.2.2.2
  refine ⟨_, c_turned a b op vl len e (σ 5) (σ 4) G σ hP.1.1.1 hP.1.1.2.2 g1 (fun z => gn_C hP (g3 z)) g5, fun r τ q1 => ?_⟩
  have hf : τ = σ ∨ gL σ τ e (gvF op vl len (σ 5) (σ 4) e) := by
    rcases q1 with q | q
    · exact Or.inr q.2.2
    · exact q.2.2
  have hhi : ∀ a, 145 ≤ a → a < 195 → τ a = σ a := by
    rcases hf with h | h
    · exact fun a _ _ => by rw [h]
    · exact fL_hi h.1
  refine ⟨_, k_turned a b op vl len e (σ 5) (σ 4) G τ (by rw [hhi 145 (by decide) (by decide)]; exact hP.1.1.2.1) hP.1.1.2.2 (by rw [hhi 170 (by decide) (by decide)]; exact g2) (fun z => gn_K hP hhi (g3 z)), fun r2 ρ q2 => ?_⟩
  have hk : fK τ ρ := by
    rcases q2 with q | q
    · exact q.2.2
    · exact q.2.2
  have hv : Inv ρ := by
    rcases hf with h | h
    · rw [h] at hk
      exact Inv_fK hI0 hk
    · exact Inv_gL hP i4 g1 g2 g3 h hk
  rcases q1 with ⟨hA, hr, _⟩ | ⟨hA, hr, _⟩
  · rcases q2 with ⟨_, hr2, _⟩ | ⟨hB, _⟩
    · obtain ⟨d, hr, hd⟩ := hr
      obtain ⟨d2, hr2, hd2⟩ := hr2
      exact ⟨_, hr, by rw [hr2, isMn_one hd hd2], hv⟩
    · exact absurd hA hB
  · rcases q2 with ⟨hB, _⟩ | ⟨_, hr2, _⟩
    · exact absurd hB hA
    · exact ⟨_, hr, hr2, hv⟩
