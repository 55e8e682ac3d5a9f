/-! THE INVARIANT between the two halves -/
def pdP (s n : Nat) (P : zSt) : Prop := ∀ j, j < n → ∃ a v, a ≤ s ∧ P 0 j = nI a ∧ P 3 j = nI v ∧ v ≤ 10000 * a
theorem giveP_3 (P : zSt) (i j : Nat) (p g k b : Int32) : giveP P i j p g k b 3 = upd (P 3) j (P 3 j + p) := by
  unfold giveP
  split <;> rfl
theorem goOnP_0 (s : Nat) (y : Int32) (P : zSt) (j : Nat) : goOnP s y P j 0 = upd (P 0) j (P 0 j + 1) := by
  unfold goOnP
  split <;> rfl
theorem goOnP_3 (s : Nat) (y : Int32) (P : zSt) (j : Nat) : goOnP s y P j 3 = P 3 := by
  unfold goOnP
  split <;> rfl
theorem pd_step {T : Nat → TXT} {D : zSt} {s n j : Nat} {o y : Int32} {P : zSt} (h : pdP s n P) (hj : j < n) (hs : s ≤ 8) : pdP s n (stepP T D s n o y P j) := by
  obtain ⟨a, v, ha, hP0, hP3, hv⟩ := h j hj
  unfold stepP
  by_cases c : P 0 j < nI s
  · rw [if_pos c]
    have ha2 : a < s := (nI_ltI (by omega) (by omega)).mp (by rw [← hP0]; exact c)
    have q0 := (srvQ_o (D := D) (P := P) (j := j)).1 0 (by decide)
    have q3 := (srvQ_o (D := D) (P := P) (j := j)).1 3 (by decide)
    unfold servP
    split
    · intro k hk
      rw [goOnP_0, goOnP_3, giveP_0, giveP_3, q0, q3]
      by_cases e : k = j
      · subst e
        have hr := pkF_rng (T (srvI T D n o y P k)) (fcP D (srvQ D P k) n o y (srvI T D n o y P k) k 0) 97 (most := 10000) (by decide)
        obtain ⟨w, hw, hw2⟩ : ∃ w : Nat, w ≤ 10000 ∧ prP T D (srvQ D P k) n o y (srvI T D n o y P k) k = nI w := by
          have h1 := hr.1
          have h2 := hr.2
          rw [fa_le] at h1 h2
          exact nI_rng h1 h2
        refine ⟨a + 1, v + w, by omega, ?_, ?_, by omega⟩
        · unfold upd
          rw [if_pos rfl, hP0, nI_1]
        · unfold upd
          rw [if_pos rfl, hP3, hw2, nI_add]
      · obtain ⟨a2, v2, h1, h2, h3, h4⟩ := h k hk
        refine ⟨a2, v2, h1, ?_, ?_, h4⟩
        · unfold upd
          rw [if_neg e]; exact h2
        · unfold upd
          rw [if_neg e]; exact h3
    · split
      · intro k hk
        rw [goOnP_0, goOnP_3, q0, q3]
        by_cases e : k = j
        · subst e
          refine ⟨a + 1, v, by omega, ?_, hP3, by omega⟩
          unfold upd
          rw [if_pos rfl, hP0, nI_1]
        · obtain ⟨a2, v2, h1, h2, h3, h4⟩ := h k hk
          refine ⟨a2, v2, h1, ?_, h3, h4⟩
          unfold upd
          rw [if_neg e]; exact h2
      · intro k hk
        rw [zu_ne _ (by decide), zu_ne _ (by decide), q0, q3]
        exact h k hk
  · rw [if_neg c]
    exact h
theorem pd_mon {T : Nat → TXT} {D : zSt} {s n : Nat} {o y : Int32} (hs : s ≤ 8) : ∀ (q j : Nat) (P : zSt), j + q = n → pdP s n P → pdP s n (monP T D s n o y q j P)
  | 0, _, _, _, h => h
  | q + 1, j, P, hj, h => pd_mon hs q (j + 1) _ (by omega) (pd_step h (by omega) hs)
def pv0 (σ : zSt) : zSt := fun i => if i < 8 then σ (18 + i) else if i = 8 then (fun k => if k = 0 then σ 17 13 else 0) else fun _ => 0
def Dv (σ : zSt) : zSt := fun i => if i = 0 then σ 4 else if i = 1 then σ 5 else if i = 2 then σ 7 else if i = 3 then σ 8 else if i = 4 then σ 9 else if i = 5 then σ 11 else σ 10
def tf (σ : zSt) (i : Nat) : Nat := if i < 10 then (σ 6 i).toNatClampNeg else if i = 10 then (σ 3 12).toNatClampNeg else if i = 11 then (σ 37 2).toNatClampNeg else (σ 16 1).toNatClampNeg
def J1 (σ : zSt) (e s n y : Nat) : Prop := (σ 3 3 = nI e ∧ σ 145 1 = nI e ∧ e ≤ 10) ∧ (σ 3 6 = nI s ∧ σ 145 2 = nI s ∧ s ≤ 8) ∧ (σ 3 11 = nI n ∧ σ 145 3 = nI n ∧ σ 17 8 = nI n ∧ n ≤ 40) ∧ (σ 17 12 = nI y ∧ σ 145 0 = nI y ∧ y ≤ 239) ∧ ∃ x, x < 65536 ∧ σ 3 13 = nI x ∧ σ 145 4 = nI x
def J2 (σ : zSt) (e s n y : Nat) : Prop := (σ 4 = σ 146 ∧ σ 5 = σ 147 ∧ σ 7 = σ 150 ∧ σ 8 = σ 151 ∧ σ 9 = σ 152 ∧ σ 10 = σ 153 ∧ σ 11 = σ 154 ∧ σ 12 = σ 155) ∧ (∀ a, a < s → ∃ c, σ 7 a = nI c ∧ 0 < c ∧ c < 2 ^ e) ∧ (∀ j, j < n → (σ 9 j = 0 ∨ σ 9 j = 1) ∧ (∃ h, h ≤ 200 ∧ σ 11 j = nI h) ∧ (∃ c, c ≤ 10000 ∧ σ 10 j = nI c) ∧ ∃ m, m ≤ y ∧ σ 12 j = nI m) ∧ ∀ i j, i < j → j < n → σ 12 i ≤ σ 12 j
def J3 (σ : zSt) (s n y : Nat) : Prop := (∀ i, i < 8 → σ (18 + i) = σ (kA i)) ∧ (σ 17 13 = σ 145 5 ∧ σ 17 14 = σ 145 6) ∧ okP s n y 0 (pv0 σ) ∧ (∃ t, t < 1024 ∧ σ 17 15 = nI t) ∧ (∀ k, k ≤ s → σ 26 k = nI (cntN (σ 18) (nI k) n)) ∧ (n = 0 → ∀ k, k ≤ 8 → σ 26 k = 0) ∧ pdP s n (pv0 σ)
def J4 (σ : zSt) (u : Nat) : Prop := σ 1 1 = nI u ∧ σ 145 24 = nI u ∧ u ≤ 200 ∧ σ 2 = σ 162
def J5 (σ : zSt) (T : Nat → TXT) : Prop := (∀ i, i ≤ 12 → isT (tf σ i)) ∧ (∀ i j, i ≤ 12 → j ≤ 12 → tf σ i = tf σ j → i = j) ∧ ∀ i, i ≤ 10 → txC σ (tf σ i) (T i) ∧ txK σ i (T i) ∧ txG (T i)
def J6 (σ : zSt) : Prop := ∃ (m : Nat) (w w2 : Nat → Nat), m ≤ 20 ∧ σ 49 1 = nI m ∧ σ 145 51 = nI m ∧ (∀ k, k < m → σ 50 k = nI (w k) ∧ w k ≤ 10000) ∧ srd w m ∧ (∀ k, k < m → σ 177 k = nI (w2 k) ∧ w2 k ≤ 10000) ∧ ∀ P : Nat → Bool, fb_ct (fun k => P (w k)) m = fb_ct (fun k => P (w2 k)) m
def J7 (σ : zSt) : Prop := ∃ m : Nat, m ≤ 60 ∧ σ 52 2 = nI m ∧ σ 145 52 = nI m ∧ srt (σ 53) m ∧ ∀ P : Int32 → Int32 → Bool, fb_ct (fun k => P (σ 53 k) (σ 54 k)) m = fb_ct (fun k => P (σ 179 k) (σ 178 k)) m
def J8 (σ : zSt) (e : Nat) : Prop := ∃ (m : Nat) (S : Nat → Nat) (L M : Nat → Int32) (tv : Bool), m ≤ 8 ∧ σ 55 3 = nI m ∧ σ 145 53 = nI m ∧ okG e m S L M ∧ (∀ g, g < m → (σ 56 g = nI (S g) ∧ σ 57 g = L g ∧ σ 58 g = M g) ∧ σ 180 g = nI (S g) ∧ σ 181 g - σ 183 g = L g ∧ σ 181 g - σ 182 g = M g) ∧ σ 55 6 = bI (tv = true) ∧ GrI e m S L M (σ 59) (σ 60) (tv = true) ∧ ∀ q, e ≤ q → q < 10 → σ 59 q = 0 ∧ σ 60 q = 10000
def J9 (σ : zSt) (e : Nat) : Prop := ∃ (G : Bool) (op vl : Nat → Nat) (len : Nat), σ 37 3 = bI (G = true) ∧ σ 170 11 = bI (G = true) ∧ (G = true → gnOK op vl len ∧ σ (tf σ 11) 1 = nI len ∧ (∀ k, k < len → σ (tf σ 11 + 1) k = nI (256 * vl k + ck (op k))) ∧ σ 172 132 = nI 1980 ∧ σ 174 132 = nI (1980 + len) ∧ ∀ k, k < len → σ 169 (1980 + k) = nI (1048576 * op k + vl k)) ∧ (σ 37 6).toInt ≤ e ∧ (σ 37 6 = nI e → lrS σ e (gvF op vl len (σ 5) (σ 4) e))
theorem lrS_c {σ τ : zSt} {e : Nat} {gv : Nat → Nat → Int32} (h : ∀ a, (39 ≤ a ∧ a ≤ 48) ∨ a = 195 → τ a = σ a) (he : e ≤ 10) (hc : lrS σ e gv) : lrS τ e gv := ⟨fun i hi o ho => by rw [h (39 + i) (by omega)]; exact hc.1 i hi o ho, fun x hx => by rw [h 195 (by omega)]; exact hc.2 x hx⟩
/-- all but the tape -/
def InvP (σ : zSt) (e s n y : Nat) (T : Nat → TXT) : Prop := J1 σ e s n y ∧ J2 σ e s n y ∧ J3 σ s n y ∧ J5 σ T ∧ J6 σ ∧ J7 σ ∧ J8 σ e ∧ J9 σ e
def Inv (σ : zSt) : Prop := ∃ (e s n y u : Nat) (T : Nat → TXT), InvP σ e s n y T ∧ J4 σ u
/-- what nobody has changed: the TEXT at t is being written -/
abbrev okd (t a : Nat) : Prop := (3 ≤ a ∧ a ≤ 12) ∨ (18 ≤ a ∧ a ≤ 26) ∨ (49 ≤ a ∧ a ≤ 50) ∨ (52 ≤ a ∧ a ≤ 60) ∨ (146 ≤ a ∧ a ≤ 161) ∨ (169 ≤ a ∧ a ≤ 174) ∨ (177 ≤ a ∧ a ≤ 183) ∨ (61 ≤ a ∧ a ≤ 144 ∧ ¬ (t ≤ a ∧ a ≤ t + 5))
def cD (σ τ : zSt) : Prop := (∀ a, okd (tf σ 12) a → τ a = σ a) ∧ τ 16 1 = σ 16 1 ∧ (∀ k, k ≠ 16 → k ≠ 17 → τ 17 k = σ 17 k) ∧ ∀ k, (k < 24 ∨ 32 < k) → (k < 47 ∨ 50 < k) → τ 145 k = σ 145 k
abbrev okc (t a : Nat) : Prop := (3 ≤ a ∧ a ≤ 12) ∨ (18 ≤ a ∧ a ≤ 26) ∨ a = 37 ∨ (39 ≤ a ∧ a ≤ 48) ∨ a = 195 ∨ (49 ≤ a ∧ a ≤ 50) ∨ (52 ≤ a ∧ a ≤ 60) ∨ (146 ≤ a ∧ a ≤ 161) ∨ (169 ≤ a ∧ a ≤ 174) ∨ (177 ≤ a ∧ a ≤ 183) ∨ (61 ≤ a ∧ a ≤ 144 ∧ ¬ (t ≤ a ∧ a ≤ t + 5))
def cE (σ τ : zSt) : Prop := (∀ a, okc (tf σ 12) a → τ a = σ a) ∧ τ 16 1 = σ 16 1 ∧ (∀ k, k ≠ 16 → k ≠ 17 → τ 17 k = σ 17 k) ∧ ∀ k, (k < 24 ∨ 32 < k) → (k < 47 ∨ 50 < k) → τ 145 k = σ 145 k
theorem cE.D {σ τ : zSt} (h : cE σ τ) : cD σ τ := ⟨fun a ha => h.1 a (by omega), h.2⟩
theorem tf_d {σ τ : zSt} (h : cD σ τ) (h37 : τ 37 2 = σ 37 2) (i : Nat) : tf τ i = tf σ i := by
  unfold tf
  rw [h.1 6 (by omega), h.1 3 (by omega), h37, h.2.1]
theorem cE.rf (σ : zSt) : cE σ σ := ⟨fun _ _ => rfl, rfl, fun _ _ _ => rfl, fun _ _ _ => rfl⟩
theorem isT_apart : ∀ a ∈ txl, ∀ b ∈ txl, a ≠ b → a + 5 < b ∨ b + 5 < a := by decide +kernel
theorem tf_c {σ τ : zSt} (h : cE σ τ) (i : Nat) : tf τ i = tf σ i := by
  unfold tf
  rw [h.1 6 (by omega), h.1 3 (by omega), h.1 37 (by omega), h.2.1]
theorem cE.tr {σ τ ρ : zSt} (h : cE σ τ) (g : cE τ ρ) : cE σ ρ := by
  refine ⟨fun a ha => (g.1 a (by rw [tf_c h]; exact ha)).trans (h.1 a ha), g.2.1.trans h.2.1, fun k k1 k2 => (g.2.2.1 k k1 k2).trans (h.2.2.1 k k1 k2), fun k k1 k2 => (g.2.2.2 k k1 k2).trans (h.2.2.2 k k1 k2)⟩
theorem pv0_c {σ τ : zSt} (h : cD σ τ) : pv0 τ = pv0 σ := by
  funext i
  unfold pv0
  by_cases h8 : i < 8
  · rw [if_pos h8, if_pos h8, h.1 (18 + i) (by omega)]
  · rw [if_neg h8, if_neg h8, h.2.2.1 13 (by decide) (by decide)]
theorem kA_okc {t i : Nat} (h : i < 8) : okc t (kA i) := by
  unfold kA
  split <;> omega
theorem kA_okd {t i : Nat} (h : i < 8) : okd t (kA i) := by
  unfold kA
  split <;> omega
theorem InvP_e {σ τ : zSt} {e s n y : Nat} {T : Nat → TXT} (h : cD σ τ) (h37 : τ 37 2 = σ 37 2) (hI : InvP σ e s n y T) (h9 : J9 τ e) : InvP τ e s n y T := by
  obtain ⟨i1, i2, i3, i5, i6, i7, i8, i9⟩ := hI
  have hp := pv0_c h
  have ht := tf_d h h37
  refine ⟨?_, ?_, ?_, ?_, ?_, ?_, ?_, h9⟩
  · unfold J1 at *
    rw [h.1 3 (by omega), h.2.2.1 8 (by decide) (by decide), h.2.2.1 12 (by decide) (by decide), h.2.2.2 0 (by omega) (by omega), h.2.2.2 1 (by omega) (by omega), h.2.2.2 2 (by omega) (by omega), h.2.2.2 3 (by omega) (by omega), h.2.2.2 4 (by omega) (by omega)]
    exact i1
  · unfold J2 at *
    rw [h.1 4 (by omega), h.1 5 (by omega), h.1 7 (by omega), h.1 8 (by omega), h.1 9 (by omega), h.1 10 (by omega), h.1 11 (by omega), h.1 12 (by omega), h.1 146 (by omega), h.1 147 (by omega), h.1 150 (by omega), h.1 151 (by omega), h.1 152 (by omega), h.1 153 (by omega), h.1 154 (by omega), h.1 155 (by omega)]
    exact i2
  · unfold J3 at *
    rw [hp, h.2.2.1 13 (by decide) (by decide), h.2.2.1 14 (by decide) (by decide), h.2.2.1 15 (by decide) (by decide), h.2.2.2 5 (by omega) (by omega), h.2.2.2 6 (by omega) (by omega), h.1 26 (by omega), h.1 18 (by omega)]
    exact ⟨fun i hi => by rw [h.1 (18 + i) (by omega), h.1 (kA i) (kA_okd hi)]; exact i3.1 i hi, i3.2⟩
  · refine ⟨fun i hi => by rw [ht]; exact i5.1 i hi, fun i j hi hj => by rw [ht, ht]; exact i5.2.1 i j hi hj, fun i hi => ?_⟩
    obtain ⟨a1, a2, a3⟩ := i5.2.2 i hi
    rw [ht]
    refine ⟨txC_congr (fun a b1 b2 => h.1 a ?_) a1, txK_congr (fun a b1 b2 => h.1 a (by omega)) a2, a3⟩
    have t1 := i5.1 i (by omega)
    have t2 := i5.1 12 (by omega)
    have hr := tx_rng t1
    have := isT_apart _ t1 _ t2 (fun z => absurd (i5.2.1 i 12 (by omega) (by omega) z) (by omega))
    omega
  · unfold J6 at *
    rw [h.1 49 (by omega), h.1 50 (by omega), h.1 177 (by omega), h.2.2.2 51 (by omega) (by omega)]
    exact i6
  · unfold J7 at *
    rw [h.1 52 (by omega), h.1 53 (by omega), h.1 54 (by omega), h.1 178 (by omega), h.1 179 (by omega), h.2.2.2 52 (by omega) (by omega)]
    exact i7
  · unfold J8 at *
    rw [h.1 55 (by omega), h.1 56 (by omega), h.1 57 (by omega), h.1 58 (by omega), h.1 59 (by omega), h.1 60 (by omega), h.1 180 (by omega), h.1 181 (by omega), h.1 182 (by omega), h.1 183 (by omega), h.2.2.2 53 (by omega) (by omega)]
    exact i8
theorem InvP_c {σ τ : zSt} {e s n y : Nat} {T : Nat → TXT} (h : cE σ τ) (hI : InvP σ e s n y T) : InvP τ e s n y T := by
  refine InvP_e h.D (congrFun (h.1 37 (by omega)) 2) hI ?_
  obtain ⟨i1, i2, i3, i5, i6, i7, i8, i9⟩ := hI
  obtain ⟨G, op, vl, len, g⟩ := i9
  have t1 := i5.1 11 (by omega)
  have t2 := i5.1 12 (by omega)
  have hr := tx_rng t1
  have hap := isT_apart _ t1 _ t2 (fun z => absurd (i5.2.1 11 12 (by omega) (by omega) z) (by omega))
  refine ⟨G, op, vl, len, ?_⟩
  rw [tf_c h, h.1 (tf σ 11) (by omega), h.1 (tf σ 11 + 1) (by omega), h.1 37 (by omega), h.1 169 (by omega), h.1 170 (by omega), h.1 172 (by omega), h.1 174 (by omega), h.1 5 (by omega), h.1 4 (by omega)]
  exact ⟨g.1, g.2.1, g.2.2.1, g.2.2.2.1, fun z => lrS_c (fun a ha => h.1 a (by omega)) i1.1.2.2 (g.2.2.2.2 z)⟩
theorem Inv_c {σ τ : zSt} (h : cE σ τ) (hI : Inv σ) (h1 : τ 1 1 = σ 1 1) (h2 : τ 2 = σ 2) (h3 : τ 162 = σ 162) (h4 : τ 145 24 = σ 145 24) : Inv τ := by
  obtain ⟨e, s, n, y, u, T, hP, hJ⟩ := hI
  refine ⟨e, s, n, y, u, T, InvP_c h hP, ?_⟩
  unfold J4
  rw [h1, h2, h3, h4]
  exact hJ
/-- behind a refusal or a reading that changes nothing but the tape -/
theorem Inv_t {σ τ : zSt} (h : cE σ τ) (hI : Inv σ) (h1 : τ 1 1 = 0) (h2 : τ 2 = σ 2) (h3 : τ 162 = σ 162) (h4 : τ 145 24 = 0) : Inv τ := by
  obtain ⟨e, s, n, y, u, T, hP, hJ⟩ := hI
  exact ⟨e, s, n, y, 0, T, InvP_c h hP, h1, h4, by omega, by rw [h2, h3]; exact hJ.2.2.2⟩
/-! what the contracts want of the invariant -/
theorem inv_envC {σ : zSt} {e s n y : Nat} {T : Nat → TXT} (h : InvP σ e s n y T) : EnvC σ (Dv σ) T s := by
  obtain ⟨i1, i2, i3, i5, _⟩ := h
  refine ⟨rfl, rfl, rfl, rfl, rfl, rfl, i1.2.1.1, i1.2.1.2.2, fun i hi => ?_, ?_, fun i hi => (i5.2.2 i hi).2.2⟩
  · have h1 := i5.1 i (by omega)
    have h2 := (i5.2.2 i (by omega)).1
    have et : tf σ i = (σ 6 i).toNatClampNeg := if_pos hi
    rw [et] at h1 h2
    exact ⟨h1, h2⟩
  · exact ⟨i5.1 10 (by omega), (i5.2.2 10 (by omega)).1⟩
theorem inv_RC {σ : zSt} {e s n y : Nat} {T : Nat → TXT} (h : InvP σ e s n y T) : RC 17 n s σ σ (zu (pv0 σ) 8 1 (σ 17 15)) := by
  obtain ⟨i1, i2, i3, _⟩ := h
  refine ⟨fun _ _ _ _ => rfl, fun _ _ _ _ _ => rfl, rfl, rfl, fun i hi => ?_, fun k hk => ?_⟩
  · rw [zu_ne _ (by omega)]
    exact (if_pos hi).symm
  · exact i3.2.2.2.2.1 k hk
theorem inv_okP {σ : zSt} {e s n y : Nat} {T : Nat → TXT} (h : InvP σ e s n y T) : okP s n y 0 (zu (pv0 σ) 8 1 (σ 17 15)) := by
  obtain ⟨i1, i2, i3, _⟩ := h
  exact ⟨i3.2.2.1.1, i3.2.2.1.2.1, i3.2.2.2.1⟩
theorem inv_okD {σ : zSt} {e s n y : Nat} {T : Nat → TXT} (h : InvP σ e s n y T) : okD (Dv σ) s e := ⟨h.1.1.2.2, h.2.1.2.1⟩
theorem inv_okF {σ : zSt} {e s n y : Nat} {T : Nat → TXT} (h : InvP σ e s n y T) : okF (Dv σ) n := fun j hj => ⟨(h.2.1.2.2.1 j hj).1, (h.2.1.2.2.1 j hj).2.1⟩
/-- the same on the reference's side, at a store whose upper half is the same -/
theorem inv_envK {σ τ : zSt} {e s n y : Nat} {T : Nat → TXT} (h : InvP σ e s n y T) (hτ : ∀ a, 145 ≤ a → τ a = σ a) : EnvK τ (Dv σ) T s e := by
  obtain ⟨i1, i2, i3, i5, _⟩ := h
  obtain ⟨a1, a2, a3, a4, a5, a6, a7, a8⟩ := i2.1
  refine ⟨(hτ _ (by decide)).trans a1.symm, (hτ _ (by decide)).trans a2.symm, (hτ _ (by decide)).trans a3.symm, (hτ _ (by decide)).trans a4.symm, (hτ _ (by decide)).trans a5.symm, (hτ _ (by decide)).trans a7.symm, by rw [hτ 145 (by decide)]; exact i1.2.1.2.1, i1.2.1.2.2, by rw [hτ 145 (by decide)]; exact i1.1.2.1, fun i hi => txK_congr (fun a h1 _ => hτ a (by omega)) (i5.2.2 i hi).2.1, fun i hi => (i5.2.2 i hi).2.2⟩
theorem inv_KR {σ τ : zSt} {e s n y : Nat} {T : Nat → TXT} (h : InvP σ e s n y T) (hτ : ∀ a, 145 ≤ a → τ a = σ a) : KR τ τ (zu (zu (pv0 σ) 8 1 (τ 145 50)) 8 2 (τ 145 49)) := by
  obtain ⟨i1, i2, i3, _⟩ := h
  refine ⟨fun _ _ _ _ _ _ _ => rfl, fun _ _ _ => rfl, ?_, rfl, rfl, fun i hi => ?_⟩
  · rw [hτ 145 (by decide)]
    exact i3.2.1.1.symm
  · have := kA_ne hi
    rw [zu_ne _ (by omega), zu_ne _ (by omega), hτ (kA i) (by unfold kA; split <;> omega), ← i3.1 i hi]
    exact (if_pos hi).symm
theorem inv_th {σ τ : zSt} {e s n y : Nat} {T : Nat → TXT} (h : InvP σ e s n y T) (hτ : ∀ a, 145 ≤ a → τ a = σ a) : thK τ n n (nI y) := by
  obtain ⟨i1, i2, i3, _⟩ := h
  refine ⟨Nat.le_refl _, i1.2.2.1.2.2.2, by rw [hτ 145 (by decide)]; exact i1.2.2.1.2.1, by rw [hτ 145 (by decide)]; exact i1.2.2.2.1.2.1, fun q hq => ⟨fun _ => hq, fun _ => ?_⟩⟩
  obtain ⟨m, hm, hm2⟩ := (i2.2.2.1 q hq).2.2.2
  rw [hτ 155 (by decide), ← i2.1.2.2.2.2.2.2.2, hm2]
  have := i1.2.2.2.1.2.2
  exact nI_le hm (by omega)
theorem inv_okPK {σ τ : zSt} {e s n y : Nat} {T : Nat → TXT} (h : InvP σ e s n y T) : okP s n y 0 (zu (zu (zu (pv0 σ) 8 1 (τ 145 50)) 8 2 (τ 145 49)) 8 1 0) := by
  obtain ⟨i1, i2, i3, _⟩ := h
  exact ⟨i3.2.2.1.1, i3.2.2.1.2.1, 0, by decide, rfl⟩
def Pair (M1 M2 : ZM) (d1 d2 : Nat) (av : List Value) (σ : zSt) : Prop := ∃ Q1, Con M1 d1 (.ref 0 :: av) σ Q1 ∧ ∀ r τ, Q1 r τ → ∃ Q2, Con M2 d2 (.ref 145 :: av) τ Q2 ∧ ∀ r2 ρ, Q2 r2 ρ → ∃ v : Int32, r = some (.int v) ∧ r2 = some (.int v) ∧ Inv ρ
theorem Pair.pure {M1 M2 : ZM} {d1 d2 : Nat} {av : List Value} {σ : zSt} {v w : Int32} (hI : Inv σ) (e : v = w) (h1 : Con M1 d1 (.ref 0 :: av) σ (fun r τ => r = some (.int v) ∧ τ = σ)) (h2 : Con M2 d2 (.ref 145 :: av) σ (fun r τ => r = some (.int w) ∧ τ = σ)) : Pair M1 M2 d1 d2 av σ := by
  subst e
  refine ⟨_, h1, fun r τ q1 => ?_⟩
  obtain ⟨a1, rfl⟩ := q1
  refine ⟨_, h2, fun r2 ρ q2 => ?_⟩
  obtain ⟨a2, rfl⟩ := q2
  exact ⟨v, a1, a2, hI⟩
