def prP (T : Nat → TXT) (D P : zSt) (n : Nat) (o y : Int32) (i j : Nat) : Int32 := pkF (T i) (fcP D P n o y i j 0) 97 10000
def wtP (T : Nat → TXT) (D P : zSt) (n : Nat) (o y : Int32) (i j : Nat) : Int32 := pkF (T i) (fcP D P n o y i j 0) 119 24
def lwP (T : Nat → TXT) (D P : zSt) (n : Nat) (o y : Int32) (i j : Nat) (x : Int32) (h : Nat) : Int32 := pkF (T 10) (fcP D P n o y i j x) h 10000
def EnvC (σ D : zSt) (T : Nat → TXT) (s : Nat) : Prop := σ 4 = D 0 ∧ σ 5 = D 1 ∧ σ 7 = D 2 ∧ σ 8 = D 3 ∧ σ 9 = D 4 ∧ σ 11 = D 5 ∧ σ 3 6 = nI s ∧ s ≤ 8 ∧ (∀ i, i < 10 → isT (σ 6 i).toNatClampNeg ∧ txC σ (σ 6 i).toNatClampNeg (T i)) ∧ (isT (σ 3 12).toNatClampNeg ∧ txC σ (σ 3 12).toNatClampNeg (T 10)) ∧ ∀ i, i ≤ 10 → txG (T i)
def RC (B n s : Nat) (σ0 τ P : zSt) : Prop :=
  (∀ a, a ≠ 14 → a ≠ 15 → (a < B ∨ B + 9 < a) → τ a = σ0 a) ∧ (∀ k, k ≠ 13 → k ≠ 15 → k ≠ 16 → k ≠ 17 → τ B k = σ0 B k) ∧ τ B 13 = P 8 0 ∧ τ B 15 = P 8 1 ∧ (∀ i, i < 8 → τ (B + 1 + i) = P i) ∧ ∀ k, k ≤ s → τ (B + 9) k = nI (cntN (P 0) (nI k) n)
theorem EnvC_congr {σ τ D : zSt} {T : Nat → TXT} {s : Nat} (h : ∀ a, (3 ≤ a ∧ a ≤ 11) ∨ 61 ≤ a → τ a = σ a) (he : EnvC σ D T s) : EnvC τ D T s := by
  obtain ⟨h1, h2, h3, h4, h5, h6, h7, h8, h9, h10, h11⟩ := he
  unfold EnvC
  rw [h 4 (by omega), h 5 (by omega), h 7 (by omega), h 8 (by omega), h 9 (by omega), h 11 (by omega), h 3 (by omega), h 6 (by omega)]
  refine ⟨h1, h2, h3, h4, h5, h6, h7, h8, fun i hi => ⟨(h9 i hi).1, txC_congr (fun a ha _ => h a (Or.inr ?_)) (h9 i hi).2⟩, ⟨h10.1, txC_congr (fun a ha _ => h a (Or.inr ?_)) h10.2⟩, h11⟩
  · have := tx_rng (h9 i hi).1
    omega
  · have := tx_rng h10.1
    omega
theorem RC_env {B n s : Nat} {σ0 τ P D : zSt} {T : Nat → TXT} (hB : B = 17 ∨ B = 27) (h : RC B n s σ0 τ P) (he : EnvC σ0 D T s) : EnvC τ D T s := EnvC_congr (fun a ha => h.1 a (by omega) (by omega) (by omega)) he
theorem RC_meet {B n s : Nat} {σ0 σ τ P : zSt} (hB : B = 17 ∨ B = 27) (h : RC B n s σ0 σ P) (h1 : ∀ a, a ≠ 14 → a ≠ 15 → a ≠ B → τ a = σ a) (h2 : ∀ k, k ≠ 16 → k ≠ 17 → τ B k = σ B k) : RC B n s σ0 τ P := by
  obtain ⟨r1, r2, r3, r4, r5, r6⟩ := h
  refine ⟨fun a a1 a2 a3 => (h1 a a1 a2 (by omega)).trans (r1 a a1 a2 a3), fun k k1 k2 k3 k4 => (h2 k k3 k4).trans (r2 k k1 k2 k3 k4), (h2 13 (by decide) (by decide)).trans r3, (h2 15 (by decide) (by decide)).trans r4, fun i hi => (h1 _ (by omega) (by omega) (by omega)).trans (r5 i hi), fun k hk => ?_⟩
  rw [h1 _ (by omega) (by omega) (by omega)]
  exact r6 k hk
theorem RC_upd {B n s : Nat} {σ0 σ P : zSt} (q j : Nat) (v : Int32) (hB : B = 17 ∨ B = 27) (hq : q < 8) (h0 : q ≠ 0) (h : RC B n s σ0 σ P) : RC B n s σ0 (zu σ (B + 1 + q) j v) (zu P q j v) := by
  obtain ⟨r1, r2, r3, r4, r5, r6⟩ := h
  refine ⟨fun a a1 a2 a3 => (zu_ne _ (by omega) _ _).trans (r1 a a1 a2 a3), fun k k1 k2 k3 k4 => by rw [zu_ne _ (by omega)]; exact r2 k k1 k2 k3 k4, by rw [zu_ne _ (by omega), zu_ne _ (by omega)]; exact r3, by rw [zu_ne _ (by omega), zu_ne _ (by omega)]; exact r4, fun i hi => ?_, fun k hk => by rw [zu_ne _ (by omega), zu_ne _ (by omega)]; exact r6 k hk⟩
  by_cases e : i = q
  · subst e
    rw [zu_at, zu_at, r5 i hi]
  · rw [zu_ne _ (by omega), zu_ne _ e]
    exact r5 i hi
theorem RC_tk {B n s : Nat} {σ0 σ P : zSt} (v : Int32) (hB : B = 17 ∨ B = 27) (h : RC B n s σ0 σ P) : RC B n s σ0 (zu σ B 15 v) (zu P 8 1 v) := by
  obtain ⟨r1, r2, r3, r4, r5, r6⟩ := h
  refine ⟨fun a a1 a2 a3 => (zu_ne _ (by omega) _ _).trans (r1 a a1 a2 a3), fun k k1 k2 k3 k4 => by rw [zu_off _ _ _ _ _ k2]; exact r2 k k1 k2 k3 k4, by rw [zu_off _ _ _ _ _ (by decide), zu_off _ _ _ _ _ (by decide)]; exact r3, by rw [zu_same, zu_same], fun i hi => ?_, fun k hk => by rw [zu_ne _ (by omega), zu_ne _ (by omega)]; exact r6 k hk⟩
  rw [zu_ne _ (by omega), zu_ne _ (by omega)]
  exact r5 i hi
theorem RC_x {B n s : Nat} {σ0 σ P : zSt} (v : Int32) (hB : B = 17 ∨ B = 27) (h : RC B n s σ0 σ P) : RC B n s σ0 (zu σ B 13 v) (zu P 8 0 v) := by
  obtain ⟨r1, r2, r3, r4, r5, r6⟩ := h
  refine ⟨fun a a1 a2 a3 => (zu_ne _ (by omega) _ _).trans (r1 a a1 a2 a3), fun k k1 k2 k3 k4 => by rw [zu_off _ _ _ _ _ k1]; exact r2 k k1 k2 k3 k4, by rw [zu_same, zu_same], by rw [zu_off _ _ _ _ _ (by decide), zu_off _ _ _ _ _ (by decide)]; exact r4, fun i hi => ?_, fun k hk => by rw [zu_ne _ (by omega), zu_ne _ (by omega)]; exact r6 k hk⟩
  rw [zu_ne _ (by omega), zu_ne _ (by omega)]
  exact r5 i hi
theorem RC_sum {B n s : Nat} {σ0 σ P : zSt} (v : Int32) (h : RC B n s σ0 σ P) : RC B n s σ0 σ (zu P 8 2 v) := by
  obtain ⟨r1, r2, r3, r4, r5, r6⟩ := h
  refine ⟨r1, r2, by rw [zu_off _ _ _ _ _ (by decide)]; exact r3, by rw [zu_off _ _ _ _ _ (by decide)]; exact r4, fun i hi => ?_, fun k hk => by rw [zu_ne _ (by omega)]; exact r6 k hk⟩
  rw [zu_ne _ (by omega)]
  exact r5 i hi
theorem cnt_out {f : Nat → Int32} {j : Nat} {v w : Int32} : ∀ {n : Nat}, n ≤ j → cntN (upd f j v) w n = cntN f w n
  | 0, _ => rfl
  | n + 1, h => by
    rw [cntN, cntN, cnt_out (by omega), show upd f j v n = f n from if_neg (by omega)]
theorem cnt_upd {f : Nat → Int32} {j : Nat} {v w : Int32} : ∀ {n : Nat}, j < n → cntN (upd f j v) w n + (if f j = w then 1 else 0) = cntN f w n + (if v = w then 1 else 0)
  | n + 1, h => by
    rw [cntN, cntN]
    by_cases e : j = n
    · subst e
      rw [cnt_out (Nat.le_refl _)]
      unfold upd
      rw [if_pos rfl]
      omega
    · have := cnt_upd (f := f) (v := v) (w := w) (show j < n by omega)
      unfold upd at *
      rw [if_neg (show ¬ n = j by omega)]
      omega
theorem cnt_le (f : Nat → Int32) (w : Int32) : ∀ n, cntN f w n ≤ n
  | 0 => Nat.le_refl _
  | n + 1 => by
    have := cnt_le f w n
    rw [cntN]
    split <;> omega
theorem cnt_pos {f : Nat → Int32} {j n : Nat} {w : Int32} (hj : j < n) (h : f j = w) : 0 < cntN f w n := by
  have := cnt_upd (f := f) (v := w + 1) (w := w) hj
  rw [if_pos h] at this
  have e : ¬ w + 1 = w := fun z => by
    have : (1 : Int32) = 0 := by grind
    exact absurd this (by decide)
  rw [if_neg e] at this
  omega
theorem RC_goOn {B n s a j : Nat} {σ0 σ P : zSt} (hB : B = 17 ∨ B = 27) (h : RC B n s σ0 σ P) (hj : j < n) (hn : n ≤ 40) (ha : a < s) (hs : s ≤ 8) (hP : P 0 j = nI a) :
    RC B n s σ0 (zu (zu (zu (zu σ (B + 9) a (nI (cntN (P 0) (nI a) n) - 1)) (B + 1) j (nI (a + 1))) (B + 9) (a + 1) (nI (cntN (P 0) (nI (a + 1)) n) + 1)) (B + 3) j 0) (zu (zu P 0 j (nI (a + 1))) 2 j 0) := by
  refine RC_upd 2 j 0 hB (by decide) (by decide) ?_
  obtain ⟨r1, r2, r3, r4, r5, r6⟩ := h
  refine ⟨fun b a1 a2 a3 => ?_, fun k k1 k2 k3 k4 => ?_, ?_, ?_, fun i hi => ?_, fun k hk => ?_⟩
  · rw [zu_ne _ (by omega), zu_ne _ (by omega), zu_ne _ (by omega)]
    exact r1 b a1 a2 a3
  · rw [zu_ne _ (by omega), zu_ne _ (by omega), zu_ne _ (by omega)]
    exact r2 k k1 k2 k3 k4
  · rw [zu_ne _ (by omega), zu_ne _ (by omega), zu_ne _ (by omega), zu_ne _ (by omega)]
    exact r3
  · rw [zu_ne _ (by omega), zu_ne _ (by omega), zu_ne _ (by omega), zu_ne _ (by omega)]
    exact r4
  · rw [zu_ne _ (by omega)]
    by_cases e : i = 0
    · subst e
      rw [show B + 1 + 0 = B + 1 from rfl, zu_at, zu_at, zu_ne _ (by omega)]
      have := r5 0 hi
      rw [show B + 1 + 0 = B + 1 from rfl] at this
      rw [this]
    · rw [zu_ne _ (by omega), zu_ne _ (by omega), zu_ne _ e]
      exact r5 i hi
  · rw [zu_at, zu_at, zu_ne _ (by omega), zu_at]
    have c0 := cnt_upd (f := P 0) (v := nI (a + 1)) (w := nI k) hj
    have hp := cnt_pos hj hP
    have h40 := cnt_le (P 0) (nI a) n
    rw [hP] at c0
    unfold upd at *
    by_cases e1 : k = a + 1
    · subst e1
      rw [if_pos rfl, nI_1]
      rw [if_neg (fun z => absurd ((nI_eq (by omega) (by omega)).mp z) (by omega)), if_pos rfl] at c0
      exact congrArg nI (by omega)
    · rw [if_neg e1]
      by_cases e2 : k = a
      · subst e2
        rw [if_pos rfl]
        rw [if_pos rfl, if_neg (fun z => absurd ((nI_eq (by omega) (by omega)).mp z) (by omega))] at c0
        rw [show cntN (P 0) (nI k) n = (cntN (P 0) (nI k) n - 1) + 1 by omega, nI_pred]
        congr 1
        omega
      · rw [if_neg e2, r6 k hk]
        rw [if_neg (fun z => absurd ((nI_eq (by omega) (by omega)).mp z) (by omega)), if_neg (fun z => absurd ((nI_eq (by omega) (by omega)).mp z) (by omega))] at c0
        exact congrArg nI (by omega)
abbrev payQ (p w c r h m : Int32) : Prop := p ≠ 0 ∧ p ≤ c ∧ (r = 0 ∨ (0 < w - m ∧ p ≤ h * (w - m)))
def giveQ (P : zSt) (i j : Nat) (p : Int32) : zSt := zu (zu (zu (zu (zu (zu P 1 j (P 1 j - p)) 3 j (P 3 j + p)) 8 2 (P 8 2 + p)) 6 i (P 6 i + p)) 7 i (P 7 i + 1)) 8 1 (P 8 1 ||| 1 <<< (nI i &&& 31))
def giveP (P : zSt) (i j : Nat) (p g k b : Int32) : zSt := if g < b then zu (zu (zu (giveQ P i j p) 4 j (P 4 j + 1)) 1 j (P 1 j - p + (b - g))) 6 i (P 6 i + p - (b + k)) else giveQ P i j p
theorem giveP_0 (P : zSt) (i j : Nat) (p g k b : Int32) : giveP P i j p g k b 0 = P 0 := by
  unfold giveP
  split <;> rfl
theorem giveP_2 (P : zSt) (i j : Nat) (p g k b : Int32) : giveP P i j p g k b 2 = P 2 := by
  unfold giveP
  split <;> rfl
theorem giveP_8 (P : zSt) (i j : Nat) (p g k b : Int32) : giveP P i j p g k b 8 0 = P 8 0 ∧ giveP P i j p g k b 8 1 = P 8 1 ||| 1 <<< (nI i &&& 31) ∧ giveP P i j p g k b 8 2 = P 8 2 + p := by
  unfold giveP
  split <;> exact ⟨rfl, rfl, rfl⟩
def goOnP (s : Nat) (y : Int32) (P : zSt) (j : Nat) : zSt := if P 0 j + 1 = nI s then zu (zu (zu P 0 j (P 0 j + 1)) 2 j 0) 5 j y else zu (zu P 0 j (P 0 j + 1)) 2 j 0
theorem goOnP_8 (s : Nat) (y : Int32) (P : zSt) (j : Nat) : goOnP s y P j 8 = P 8 := by
  unfold goOnP
  split <;> rfl
def servP (T : Nat → TXT) (D : zSt) (s n : Nat) (o y : Int32) (P : zSt) (i j : Nat) : zSt :=
  if payQ (prP T D P n o y i j) (wtP T D P n o y i j) (P 1 j) (D 4 j) (D 5 j) (P 2 j) then
    goOnP s y (giveP P i j (prP T D P n o y i j) (lwP T D P n o y i j (prP T D P n o y i j) 103) (lwP T D P n o y i j (prP T D P n o y i j) 107) (lwP T D P n o y i j (prP T D P n o y i j) 98)) j
  else if (D 4 j = 1 ∨ prP T D P n o y i j = 0) ∧ wtP T D P n o y i j ≤ P 2 j then goOnP s y P j else zu P 2 j (P 2 j + 1)
theorem fcC_17 {T : Nat → TXT} {D P σ0 σ : zSt} {n s a : Nat} {o y : Int32} {i j : Nat} {x : Int32} (he : EnvC σ D T s) (hr : RC 17 n s σ0 σ P) (hy : σ0 17 12 = y) (ho : σ0 17 14 = o) (ha : a ≤ s) (hP : P 0 j = nI a) : fcF (σ 9 j) (σ 19 j) (σ 11 j) (σ 20 j) (nI a) (σ 5 i) (σ 4 i) (nI i) (σ 26 a) (σ 17 14) (σ 17 12) x = fcP D P n o y i j x := by
  obtain ⟨h1, h2, h3, h4, h5, h6, _⟩ := he
  obtain ⟨r1, r2, r3, r4, r5, r6⟩ := hr
  unfold fcP
  rw [h1, h2, h5, h6, show σ 19 = P 1 from r5 1 (by decide), show σ 20 = P 2 from r5 2 (by decide), show σ 26 a = _ from r6 a ha, r2 14 (by decide) (by decide) (by decide) (by decide), r2 12 (by decide) (by decide) (by decide) (by decide), hy, ho, hP]
set_option maxHeartbeats 4000000 in
set_option maxRecDepth 100000 in
theorem c_meet_17 (T : Nat → TXT) (D P σ0 : zSt) (n s a : Nat) (o y : Int32) (i j : Nat) (σ : zSt) (he : EnvC σ D T s) (hr : RC 17 n s σ0 σ P) (hy : σ0 17 12 = y) (ho : σ0 17 14 = o) (hi : i < 10) (hj : j < n) (hn : n ≤ 40) (ha : a ≤ s) (hP : P 0 j = nI a) : Con mX6_meet 3 [.ref 17, .int (nI i), .int (nI j)] σ (fun r τ => r = none ∧ RC 17 n s σ0 τ P ∧ τ 17 16 = prP T D P n o y i j ∧ τ 17 17 = wtP T D P n o y i j) := by
  have hTi := tx_rng (he.2.2.2.2.2.2.2.2.1 i hi).1
  have hs8 := he.2.2.2.2.2.2.2.1
  refine Con.of (lv := [.ref 17, .int (nI i), .int (nI j), .long 0]) mk_X6_meet rfl (Nat.le_of_ble_eq_true rfl) rfl (fun X F E => ?_)
  refine g_aload_n (nx := 1) 0 F dX6_meet_0 rfl rfl rfl ?_
  refine g_iload_n (nx := 2) 1 F dX6_meet_1 rfl rfl rfl ?_
  refine g_iload_n (nx := 3) 2 F dX6_meet_2 rfl rfl rfl ?_
  refine g_iconst (nx := 4) (0) F dX6_meet_3 rfl rfl ?_
  refine g_callV (nx := 7) 3 0 [.int (nI i), .int (nI j), .int 0] F dX6_meet_4 rfl ml_RX6_133 mo_X6_face rfl rfl rfl rfl (Nat.le_of_ble_eq_true rfl) (by first | decide | omega) (c_face_17 i j a 0 _ hi (by omega) (by omega) (by have := hr.2.2.2.2.1 0 (by decide); rw [← hP]; exact congrFun this j)) (fun r_4 τ_4 q_4 => ?_)
  obtain ⟨rfl, g_4, et_4, hg_4⟩ := q_4
  subst et_4
  dsimp only [Option.toList, List.append, List.cons_append, List.nil_append]
  refine g_aload_n (nx := 8) 0 F dX6_meet_7 rfl rfl rfl ?_
  refine g_getR (nx := 11) F dX6_meet_8 rfl fl_RX6_43 rfl (by decide) (by decide) rfl ?_
  refine g_iload_n (nx := 12) 1 F dX6_meet_11 rfl rfl rfl ?_
  refine g_callV (nx := 15) 1 0 [.int (nI i)] F dX6_meet_12 rfl ml_RX6_137 mo_X2_wayOf rfl rfl rfl rfl (Nat.le_of_ble_eq_true rfl) (by first | decide | omega) (c_wayOf i (σ 6 i).toNatClampNeg _ rfl hi) (fun r_12 τ_12 q_12 => ?_)
  obtain ⟨rfl, et_12⟩ := q_12
  have et_12 := et_12.symm
  subst et_12
  dsimp only [Option.toList, List.append, List.cons_append, List.nil_append]
  refine g_astore_n (nx := 16) 3 F dX6_meet_15 rfl rfl (by decide) ?_
  try dsimp only [List.set]
  refine g_aload_n (nx := 17) 0 F dX6_meet_16 rfl rfl rfl ?_
  refine g_aload_n (nx := 18) 0 F dX6_meet_17 rfl rfl rfl ?_
  refine g_getR (nx := 21) F dX6_meet_18 rfl fl_RX6_47 rfl (by decide) (by decide) rfl ?_
  refine g_aload_n (nx := 22) 3 F dX6_meet_21 rfl rfl rfl ?_
  refine g_bipush (nx := 24) (97) F dX6_meet_22 rfl (by decide) ?_
  refine g_sipush (nx := 27) (10000) F dX6_meet_24 rfl (by decide) ?_
  refine g_callV (nx := 30) 3 2 [.ref (σ 6 i).toNatClampNeg, .int (nI 97), .int 10000] F dX6_meet_27 rfl ml_RX6_141 mo_X7_pick rfl rfl rfl rfl (Nat.le_of_ble_eq_true rfl) (by first | decide | omega) (c_pickT (σ 6 i).toNatClampNeg 97 (T i) 10000 _ (he.2.2.2.2.2.2.2.2.1 i hi).1 (he.2.2.2.2.2.2.2.2.2.2 i (by omega)) (txC_congr (fun b hb _ => zs_ne _ (by omega) _) (he.2.2.2.2.2.2.2.2.1 i hi).2) (by decide) (by decide)) (fun r_27 τ_27 q_27 => ?_)
  obtain ⟨⟨g_27, et_27⟩, rfl⟩ := q_27
  subst et_27
  dsimp only [Option.toList, List.append, List.cons_append, List.nil_append]
  refine g_putI (nx := 33) F dX6_meet_30 rfl fl_RX6_122 fi_5_16 rfl (by decide) (by decide) rfl rfl ?_
  refine g_aload_n (nx := 34) 0 F dX6_meet_33 rfl rfl rfl ?_
  refine g_aload_n (nx := 35) 0 F dX6_meet_34 rfl rfl rfl ?_
  refine g_getR (nx := 38) F dX6_meet_35 rfl fl_RX6_47 rfl (by decide) (by decide) rfl ?_
  refine g_aload_n (nx := 39) 3 F dX6_meet_38 rfl rfl rfl ?_
  refine g_bipush (nx := 41) (119) F dX6_meet_39 rfl (by decide) ?_
  refine g_bipush (nx := 43) (24) F dX6_meet_41 rfl (by decide) ?_
  refine g_callV (nx := 46) 3 2 [.ref (σ 6 i).toNatClampNeg, .int (nI 119), .int 24] F dX6_meet_43 rfl ml_RX6_141 mo_X7_pick rfl rfl rfl rfl (Nat.le_of_ble_eq_true rfl) (by first | decide | omega) (c_pickT (σ 6 i).toNatClampNeg 119 (T i) 24 _ (he.2.2.2.2.2.2.2.2.1 i hi).1 (he.2.2.2.2.2.2.2.2.2.2 i (by omega)) (txC_congr (fun b hb _ => by rw [zu_ne _ (by omega), zs_ne _ (by omega), zs_ne _ (by omega)]) (he.2.2.2.2.2.2.2.2.1 i hi).2) (by decide) (by decide)) (fun r_43 τ_43 q_43 => ?_)
  obtain ⟨⟨g_43, et_43⟩, rfl⟩ := q_43
  subst et_43
  dsimp only [Option.toList, List.append, List.cons_append, List.nil_append]
  refine g_putI (nx := 49) F dX6_meet_46 rfl fl_RX6_125 fi_5_17 rfl (by decide) (by decide) rfl rfl ?_
  refine g_vret F E dX6_meet_49 ?_
  refine ⟨rfl, RC_meet (by decide) hr (fun b b1 b2 b3 => ?_) (fun k k1 k2 => ?_), ?_, ?_⟩
  · rw [zu_ne _ b3, zs_ne _ b2, zu_ne _ b3, zs_ne _ b2, zs_ne _ b1]
  · rw [zu_off _ _ _ _ _ k2, zs_ne _ (by decide), zu_off _ _ _ _ _ k1, zs_ne _ (by decide), zs_ne _ (by decide)]
  · exact pkF_congr (he.2.2.2.2.2.2.2.2.2.2 i (by omega)).1 (fun k hk => (hg_4 k hk).trans (congrFun (fcC_17 he hr hy ho ha hP) k))
  · exact pkF_congr (he.2.2.2.2.2.2.2.2.2.2 i (by omega)).1 (fun k hk => (hg_4 k hk).trans (congrFun (fcC_17 he hr hy ho ha hP) k))
set_option maxHeartbeats 4000000 in
set_option maxRecDepth 100000 in
theorem c_pays_17 (j : Nat) (p w : Int32) (σ : zSt) (hj : j < 40) (hp : σ 17 16 = p) (hw : σ 17 17 = w) : Con mX6_pays 0 [.ref 17, .int (nI j)] σ (fun r τ => r = some (.int (bI (payQ p w (σ 19 j) (σ 9 j) (σ 11 j) (σ 20 j)))) ∧ τ = σ) := by
  refine Con.of (lv := [.ref 17, .int (nI j), .long 0]) mk_X6_pays rfl (Nat.le_of_ble_eq_true rfl) rfl (fun X F E => ?_)
  refine g_aload_n (nx := 1) 0 F dX6_pays_0 rfl rfl rfl ?_
  refine g_getV (nx := 4) (p) F dX6_pays_1 rfl fl_RX6_122 rfl (by decide) (by decide) rfl rfl (hp) ?_
  refine g_if_eq (nx := 7) 20 F dX6_pays_4 rfl (by decide) (fun c_4 => ?_) (fun c_4 => ?_)
  · refine g_iconst (nx := 21) (0) F dX6_pays_20 rfl rfl ?_
    refine g_zret F E dX6_pays_21 (by first | rfl | assumption) ?_
    refine ⟨congrArg (fun z => some (Value.int z)) (Eq.symm ?_), rfl⟩
    clear F E
    first | refine bI_f ?_ | refine bI_t ?_
    all_goals (unfold payQ; simp only [fa_lt, fa_le, fa_eq, ne_eq, Int32.toInt_zero] at *)
    all_goals omega
  · refine g_aload_n (nx := 8) 0 F dX6_pays_7 rfl rfl rfl ?_
    refine g_getV (nx := 11) (p) F dX6_pays_8 rfl fl_RX6_122 rfl (by decide) (by decide) rfl rfl (hp) ?_
    refine g_aload_n (nx := 12) 0 F dX6_pays_11 rfl rfl rfl ?_
    refine g_getR (nx := 15) F dX6_pays_12 rfl fl_RX6_15 rfl (by decide) (by decide) rfl ?_
    refine g_iload_n (nx := 16) 1 F dX6_pays_15 rfl rfl rfl ?_
    refine g_ialdN (nx := 17) (j) (_) F dX6_pays_16 rfl rfl (by omega) (rfl) ?_
    refine g_icmp_le (nx := 20) 22 F dX6_pays_17 rfl (by decide) (fun c_17 => ?_) (fun c_17 => ?_)
    · refine g_aload_n (nx := 23) 0 F dX6_pays_22 rfl rfl rfl ?_
      refine g_getV (nx := 26) (w) F dX6_pays_23 rfl fl_RX6_125 rfl (by decide) (by decide) rfl rfl (hw) ?_
      refine g_aload_n (nx := 27) 0 F dX6_pays_26 rfl rfl rfl ?_
      refine g_getR (nx := 30) F dX6_pays_27 rfl fl_RX6_18 rfl (by decide) (by decide) rfl ?_
      refine g_iload_n (nx := 31) 1 F dX6_pays_30 rfl rfl rfl ?_
      refine g_ialdN (nx := 32) (j) (_) F dX6_pays_31 rfl rfl (by omega) (rfl) ?_
      refine g_isub (nx := 33) F dX6_pays_32 rfl ?_
      refine g_istore_n (nx := 34) 2 F dX6_pays_33 rfl rfl (by decide) ?_
      try dsimp only [List.set]
      refine g_aload_n (nx := 35) 0 F dX6_pays_34 rfl rfl rfl ?_
      refine g_getR (nx := 38) F dX6_pays_35 rfl fl_RX6_43 rfl (by decide) (by decide) rfl ?_
      refine g_getR (nx := 41) F dX6_pays_38 rfl fl_RX6_150 rfl (by decide) (by decide) rfl ?_
      refine g_iload_n (nx := 42) 1 F dX6_pays_41 rfl rfl rfl ?_
      refine g_ialdN (nx := 43) (j) (_) F dX6_pays_42 rfl rfl (by omega) (rfl) ?_
      refine g_if_eq (nx := 46) 68 F dX6_pays_43 rfl (by decide) (fun c_43 => ?_) (fun c_43 => ?_)
      · refine g_iconst (nx := 69) (1) F dX6_pays_68 rfl rfl ?_
        refine g_goto 73 F dX6_pays_69 (by decide) ?_
        refine g_zret F E dX6_pays_73 (by first | rfl | assumption) ?_
        refine ⟨congrArg (fun z => some (Value.int z)) (Eq.symm ?_), rfl⟩
        clear F E
        first | refine bI_f ?_ | refine bI_t ?_
        all_goals (unfold payQ; simp only [fa_lt, fa_le, fa_eq, ne_eq, Int32.toInt_zero] at *)
        all_goals omega
      · refine g_iload_n (nx := 47) 2 F dX6_pays_46 rfl rfl rfl ?_
        refine g_if_le (nx := 50) 72 F dX6_pays_47 rfl (by decide) (fun c_47 => ?_) (fun c_47 => ?_)
        · refine g_iconst (nx := 73) (0) F dX6_pays_72 rfl rfl ?_
          refine g_zret F E dX6_pays_73 (by first | rfl | assumption) ?_
          refine ⟨congrArg (fun z => some (Value.int z)) (Eq.symm ?_), rfl⟩
          clear F E
          first | refine bI_f ?_ | refine bI_t ?_
          all_goals (unfold payQ; simp only [fa_lt, fa_le, fa_eq, ne_eq, Int32.toInt_zero] at *)
          all_goals omega
        · refine g_aload_n (nx := 51) 0 F dX6_pays_50 rfl rfl rfl ?_
          refine g_getV (nx := 54) (p) F dX6_pays_51 rfl fl_RX6_122 rfl (by decide) (by decide) rfl rfl (hp) ?_
          refine g_aload_n (nx := 55) 0 F dX6_pays_54 rfl rfl rfl ?_
          refine g_getR (nx := 58) F dX6_pays_55 rfl fl_RX6_43 rfl (by decide) (by decide) rfl ?_
          refine g_getR (nx := 61) F dX6_pays_58 rfl fl_RX6_153 rfl (by decide) (by decide) rfl ?_
          refine g_iload_n (nx := 62) 1 F dX6_pays_61 rfl rfl rfl ?_
          refine g_ialdN (nx := 63) (j) (_) F dX6_pays_62 rfl rfl (by omega) (rfl) ?_
          refine g_iload_n (nx := 64) 2 F dX6_pays_63 rfl rfl rfl ?_
          refine g_imul (nx := 65) F dX6_pays_64 rfl ?_
          refine g_icmp_gt (nx := 68) 72 F dX6_pays_65 rfl (by decide) (fun c_65 => ?_) (fun c_65 => ?_)
          · refine g_iconst (nx := 73) (0) F dX6_pays_72 rfl rfl ?_
            refine g_zret F E dX6_pays_73 (by first | rfl | assumption) ?_
            refine ⟨congrArg (fun z => some (Value.int z)) (Eq.symm ?_), rfl⟩
            clear F E
            first | refine bI_f ?_ | refine bI_t ?_
            all_goals (unfold payQ; simp only [fa_lt, fa_le, fa_eq, ne_eq, Int32.toInt_zero] at *)
            all_goals omega
          · refine g_iconst (nx := 69) (1) F dX6_pays_68 rfl rfl ?_
            refine g_goto 73 F dX6_pays_69 (by decide) ?_
            refine g_zret F E dX6_pays_73 (by first | rfl | assumption) ?_
            refine ⟨congrArg (fun z => some (Value.int z)) (Eq.symm ?_), rfl⟩
            clear F E
            first | refine bI_f ?_ | refine bI_t ?_
            all_goals (unfold payQ; simp only [fa_lt, fa_le, fa_eq, ne_eq, Int32.toInt_zero] at *)
            all_goals omega
    · refine g_iconst (nx := 21) (0) F dX6_pays_20 rfl rfl ?_
      refine g_zret F E dX6_pays_21 (by first | rfl | assumption) ?_
      refine ⟨congrArg (fun z => some (Value.int z)) (Eq.symm ?_), rfl⟩
      clear F E
      first | refine bI_f ?_ | refine bI_t ?_
      all_goals (unfold payQ; simp only [fa_lt, fa_le, fa_eq, ne_eq, Int32.toInt_zero] at *)
      all_goals omega
set_option maxHeartbeats 4000000 in
set_option maxRecDepth 100000 in
theorem c_give_17 (T : Nat → TXT) (D P σ0 : zSt) (n s a : Nat) (o y : Int32) (i j : Nat) (p : Int32) (σ : zSt) (he : EnvC σ D T s) (hr : RC 17 n s σ0 σ P) (hy : σ0 17 12 = y) (ho : σ0 17 14 = o) (hi : i < 10) (hj : j < n) (hn : n ≤ 40) (ha : a ≤ s) (hP : P 0 j = nI a) : Con mX6_give 3 [.ref 17, .int (nI i), .int (nI j), .int p] σ (fun r τ => r = none ∧ RC 17 n s σ0 τ (giveP P i j p (lwP T D P n o y i j p 103) (lwP T D P n o y i j p 107) (lwP T D P n o y i j p 98))) := by
  have hTi := tx_rng he.2.2.2.2.2.2.2.2.2.1.1
  have hs8 := he.2.2.2.2.2.2.2.1
  refine Con.of (lv := [.ref 17, .int (nI i), .int (nI j), .int p, .long 0, .long 0, .long 0]) mk_X6_give rfl (Nat.le_of_ble_eq_true rfl) rfl (fun X F E => ?_)
  refine g_aload_n (nx := 1) 0 F dX6_give_0 rfl rfl rfl ?_
  refine g_iload_n (nx := 2) 1 F dX6_give_1 rfl rfl rfl ?_
  refine g_iload_n (nx := 3) 2 F dX6_give_2 rfl rfl rfl ?_
  refine g_iload_n (nx := 4) 3 F dX6_give_3 rfl rfl rfl ?_
  refine g_callV (nx := 7) 3 0 [.int (nI i), .int (nI j), .int p] F dX6_give_4 rfl ml_RX6_133 mo_X6_face rfl rfl rfl rfl (Nat.le_of_ble_eq_true rfl) (by first | decide | omega) (c_face_17 i j a p _ hi (by omega) (by omega) (by have := hr.2.2.2.2.1 0 (by decide); rw [← hP]; exact congrFun this j)) (fun r_4 τ_4 q_4 => ?_)
  obtain ⟨rfl, g_4, et_4, hg_4⟩ := q_4
  subst et_4
  dsimp only [Option.toList, List.append, List.cons_append, List.nil_append]
  refine g_aload_n (nx := 8) 0 F dX6_give_7 rfl rfl rfl ?_
  refine g_getR (nx := 11) F dX6_give_8 rfl fl_RX6_47 rfl (by decide) (by decide) rfl ?_
  refine g_aload_n (nx := 12) 0 F dX6_give_11 rfl rfl rfl ?_
  refine g_getR (nx := 15) F dX6_give_12 rfl fl_RX6_43 rfl (by decide) (by decide) rfl ?_
  refine g_getD (nx := 18) F dX6_give_15 rfl fl_RX6_171 rfl (by decide) (by decide) rfl rfl ?_
  refine g_bipush (nx := 20) (103) F dX6_give_18 rfl (by decide) ?_
  refine g_sipush (nx := 23) (10000) F dX6_give_20 rfl (by decide) ?_
  refine g_callV (nx := 26) 3 2 [.ref (σ 3 12).toNatClampNeg, .int (nI 103), .int 10000] F dX6_give_23 rfl ml_RX6_141 mo_X7_pick rfl rfl rfl rfl (Nat.le_of_ble_eq_true rfl) (by first | decide | omega) (c_pickT (σ 3 12).toNatClampNeg 103 (T 10) 10000 _ he.2.2.2.2.2.2.2.2.2.1.1 (he.2.2.2.2.2.2.2.2.2.2 10 (by omega)) (txC_congr (fun b hb _ => by (repeat rw [zs_ne _ (by omega)])) he.2.2.2.2.2.2.2.2.2.1.2) (by decide) (by decide)) (fun r_23 τ_23 q_23 => ?_)
  obtain ⟨⟨g_23, et_23⟩, rfl⟩ := q_23
  subst et_23
  dsimp only [Option.toList, List.append, List.cons_append, List.nil_append]
  refine g_top (lwP T D P n o y i j p 103) (pkF_congr (he.2.2.2.2.2.2.2.2.2.2 10 (by omega)).1 (fun k hk => (hg_4 k hk).trans (congrFun (fcC_17 he hr hy ho ha hP) k))) ?_
  refine g_istore (nx := 28) F dX6_give_26 rfl (by decide) ?_
  try dsimp only [List.set]
  refine g_aload_n (nx := 29) 0 F dX6_give_28 rfl rfl rfl ?_
  refine g_getR (nx := 32) F dX6_give_29 rfl fl_RX6_47 rfl (by decide) (by decide) rfl ?_
  refine g_aload_n (nx := 33) 0 F dX6_give_32 rfl rfl rfl ?_
  refine g_getR (nx := 36) F dX6_give_33 rfl fl_RX6_43 rfl (by decide) (by decide) rfl ?_
  refine g_getD (nx := 39) F dX6_give_36 rfl fl_RX6_171 rfl (by decide) (by decide) rfl rfl ?_
  refine g_bipush (nx := 41) (107) F dX6_give_39 rfl (by decide) ?_
  refine g_sipush (nx := 44) (10000) F dX6_give_41 rfl (by decide) ?_
  refine g_callV (nx := 47) 3 2 [.ref (σ 3 12).toNatClampNeg, .int (nI 107), .int 10000] F dX6_give_44 rfl ml_RX6_141 mo_X7_pick rfl rfl rfl rfl (Nat.le_of_ble_eq_true rfl) (by first | decide | omega) (c_pickT (σ 3 12).toNatClampNeg 107 (T 10) 10000 _ he.2.2.2.2.2.2.2.2.2.1.1 (he.2.2.2.2.2.2.2.2.2.2 10 (by omega)) (txC_congr (fun b hb _ => by (repeat rw [zs_ne _ (by omega)])) he.2.2.2.2.2.2.2.2.2.1.2) (by decide) (by decide)) (fun r_44 τ_44 q_44 => ?_)
  obtain ⟨⟨g_44, et_44⟩, rfl⟩ := q_44
  subst et_44
  dsimp only [Option.toList, List.append, List.cons_append, List.nil_append]
  rw [zs_zs]
  refine g_top (lwP T D P n o y i j p 107) (pkF_congr (he.2.2.2.2.2.2.2.2.2.2 10 (by omega)).1 (fun k hk => (hg_4 k hk).trans (congrFun (fcC_17 he hr hy ho ha hP) k))) ?_
  refine g_istore (nx := 49) F dX6_give_47 rfl (by decide) ?_
  try dsimp only [List.set]
  refine g_aload_n (nx := 50) 0 F dX6_give_49 rfl rfl rfl ?_
  refine g_getR (nx := 53) F dX6_give_50 rfl fl_RX6_47 rfl (by decide) (by decide) rfl ?_
  refine g_aload_n (nx := 54) 0 F dX6_give_53 rfl rfl rfl ?_
  refine g_getR (nx := 57) F dX6_give_54 rfl fl_RX6_43 rfl (by decide) (by decide) rfl ?_
  refine g_getD (nx := 60) F dX6_give_57 rfl fl_RX6_171 rfl (by decide) (by decide) rfl rfl ?_
  refine g_bipush (nx := 62) (98) F dX6_give_60 rfl (by decide) ?_
  refine g_sipush (nx := 65) (10000) F dX6_give_62 rfl (by decide) ?_
  refine g_callV (nx := 68) 3 2 [.ref (σ 3 12).toNatClampNeg, .int (nI 98), .int 10000] F dX6_give_65 rfl ml_RX6_141 mo_X7_pick rfl rfl rfl rfl (Nat.le_of_ble_eq_true rfl) (by first | decide | omega) (c_pickT (σ 3 12).toNatClampNeg 98 (T 10) 10000 _ he.2.2.2.2.2.2.2.2.2.1.1 (he.2.2.2.2.2.2.2.2.2.2 10 (by omega)) (txC_congr (fun b hb _ => by (repeat rw [zs_ne _ (by omega)])) he.2.2.2.2.2.2.2.2.2.1.2) (by decide) (by decide)) (fun r_65 τ_65 q_65 => ?_)
  obtain ⟨⟨g_65, et_65⟩, rfl⟩ := q_65
  subst et_65
  dsimp only [Option.toList, List.append, List.cons_append, List.nil_append]
  rw [zs_zs]
  refine g_top (lwP T D P n o y i j p 98) (pkF_congr (he.2.2.2.2.2.2.2.2.2.2 10 (by omega)).1 (fun k hk => (hg_4 k hk).trans (congrFun (fcC_17 he hr hy ho ha hP) k))) ?_
  refine g_istore (nx := 70) F dX6_give_68 rfl (by decide) ?_
  try dsimp only [List.set]
  refine g_aload_n (nx := 71) 0 F dX6_give_70 rfl rfl rfl ?_
  refine g_getR (nx := 74) F dX6_give_71 rfl fl_RX6_15 rfl (by decide) (by decide) rfl ?_
  refine g_iload_n (nx := 75) 2 F dX6_give_74 rfl rfl rfl ?_
  refine g_dup2 (nx := 76) F dX6_give_75 rfl rfl rfl ?_
  refine g_ialdN (nx := 77) (j) (P 1 j) F dX6_give_76 rfl rfl (by omega) (congrFun (hr.2.2.2.2.1 1 (by decide)) j) ?_
  refine g_iload_n (nx := 78) 3 F dX6_give_77 rfl rfl rfl ?_
  refine g_isub (nx := 79) F dX6_give_78 rfl ?_
  refine g_iastN (nx := 80) (j) F dX6_give_79 rfl rfl (by omega) ?_
  refine g_aload_n (nx := 81) 0 F dX6_give_80 rfl rfl rfl ?_
  refine g_getR (nx := 84) F dX6_give_81 rfl fl_RX6_21 rfl (by decide) (by decide) rfl ?_
  refine g_iload_n (nx := 85) 2 F dX6_give_84 rfl rfl rfl ?_
  refine g_dup2 (nx := 86) F dX6_give_85 rfl rfl rfl ?_
  refine g_ialdN (nx := 87) (j) (P 3 j) F dX6_give_86 rfl rfl (by omega) (congrFun (hr.2.2.2.2.1 3 (by decide)) j) ?_
  refine g_iload_n (nx := 88) 3 F dX6_give_87 rfl rfl rfl ?_
  refine g_iadd (nx := 89) F dX6_give_88 rfl ?_
  refine g_iastN (nx := 90) (j) F dX6_give_89 rfl rfl (by omega) ?_
  refine g_aload_n (nx := 91) 0 F dX6_give_90 rfl rfl rfl ?_
  refine g_getR (nx := 94) F dX6_give_91 rfl fl_RX6_30 rfl (by decide) (by decide) rfl ?_
  refine g_iload_n (nx := 95) 1 F dX6_give_94 rfl rfl rfl ?_
  refine g_dup2 (nx := 96) F dX6_give_95 rfl rfl rfl ?_
  refine g_ialdN (nx := 97) (i) (P 6 i) F dX6_give_96 rfl rfl (by omega) (congrFun (hr.2.2.2.2.1 6 (by decide)) i) ?_
  refine g_iload_n (nx := 98) 3 F dX6_give_97 rfl rfl rfl ?_
  refine g_iadd (nx := 99) F dX6_give_98 rfl ?_
  refine g_iastN (nx := 100) (i) F dX6_give_99 rfl rfl (by omega) ?_
  refine g_aload_n (nx := 101) 0 F dX6_give_100 rfl rfl rfl ?_
  refine g_getR (nx := 104) F dX6_give_101 rfl fl_RX6_33 rfl (by decide) (by decide) rfl ?_
  refine g_iload_n (nx := 105) 1 F dX6_give_104 rfl rfl rfl ?_
  refine g_dup2 (nx := 106) F dX6_give_105 rfl rfl rfl ?_
  refine g_ialdN (nx := 107) (i) (P 7 i) F dX6_give_106 rfl rfl (by omega) (congrFun (hr.2.2.2.2.1 7 (by decide)) i) ?_
  refine g_iconst (nx := 108) (1) F dX6_give_107 rfl rfl ?_
  refine g_iadd (nx := 109) F dX6_give_108 rfl ?_
  refine g_iastN (nx := 110) (i) F dX6_give_109 rfl rfl (by omega) ?_
  refine g_aload_n (nx := 111) 0 F dX6_give_110 rfl rfl rfl ?_
  refine g_dup (nx := 112) F dX6_give_111 rfl rfl ?_
  refine g_getV (nx := 115) (P 8 1) F dX6_give_112 rfl fl_RX6_85 rfl (by decide) (by decide) rfl rfl (hr.2.2.2.1) ?_
  refine g_iconst (nx := 116) (1) F dX6_give_115 rfl rfl ?_
  refine g_iload_n (nx := 117) 1 F dX6_give_116 rfl rfl rfl ?_
  refine g_ishl (nx := 118) F dX6_give_117 rfl ?_
  refine g_ior (nx := 119) F dX6_give_118 rfl ?_
  refine g_putI (nx := 122) F dX6_give_119 rfl fl_RX6_85 fi_5_15 rfl (by decide) (by decide) rfl rfl ?_
  refine g_iload (nx := 124) F dX6_give_122 rfl rfl ?_
  refine g_iload (nx := 126) F dX6_give_124 rfl rfl ?_
  refine g_icmp_le (nx := 129) 167 F dX6_give_126 rfl (by decide) (fun c_126 => ?_) (fun c_126 => ?_)
  · refine g_vret F E dX6_give_167 ?_
    have hr2 : RC 17 n s σ0 (zs (zs σ 14 g_4) 15 g_65) P := RC_meet (by decide) hr (fun b b1 b2 b3 => by rw [zs_ne _ b2, zs_ne _ b1]) (fun k k1 k2 => by rw [zs_ne _ (by decide), zs_ne _ (by decide)])
    refine ⟨rfl, ?_⟩
    unfold giveP
    first
      | (rw [if_neg (not_lt_I.mpr c_126)]; exact RC_tk _ (by decide) (RC_upd 7 i _ (by decide) (by decide) (by decide) (RC_upd 6 i _ (by decide) (by decide) (by decide) (RC_sum _ (RC_upd 3 j _ (by decide) (by decide) (by decide) (RC_upd 1 j _ (by decide) (by decide) (by decide) hr2))))))
      | (rw [if_pos (not_le_I.mp c_126)]; exact RC_upd 6 i _ (by decide) (by decide) (by decide) (RC_upd 1 j _ (by decide) (by decide) (by decide) (RC_upd 4 j _ (by decide) (by decide) (by decide) (RC_tk _ (by decide) (RC_upd 7 i _ (by decide) (by decide) (by decide) (RC_upd 6 i _ (by decide) (by decide) (by decide) (RC_sum _ (RC_upd 3 j _ (by decide) (by decide) (by decide) (RC_upd 1 j _ (by decide) (by decide) (by decide) hr2)))))))))
  · refine g_aload_n (nx := 130) 0 F dX6_give_129 rfl rfl rfl ?_
    refine g_getR (nx := 133) F dX6_give_130 rfl fl_RX6_24 rfl (by decide) (by decide) rfl ?_
    refine g_iload_n (nx := 134) 2 F dX6_give_133 rfl rfl rfl ?_
    refine g_dup2 (nx := 135) F dX6_give_134 rfl rfl rfl ?_
    refine g_ialdN (nx := 136) (j) (P 4 j) F dX6_give_135 rfl rfl (by omega) (congrFun (hr.2.2.2.2.1 4 (by decide)) j) ?_
    refine g_iconst (nx := 137) (1) F dX6_give_136 rfl rfl ?_
    refine g_iadd (nx := 138) F dX6_give_137 rfl ?_
    refine g_iastN (nx := 139) (j) F dX6_give_138 rfl rfl (by omega) ?_
    refine g_aload_n (nx := 140) 0 F dX6_give_139 rfl rfl rfl ?_
    refine g_getR (nx := 143) F dX6_give_140 rfl fl_RX6_15 rfl (by decide) (by decide) rfl ?_
    refine g_iload_n (nx := 144) 2 F dX6_give_143 rfl rfl rfl ?_
    refine g_dup2 (nx := 145) F dX6_give_144 rfl rfl rfl ?_
    refine g_ialdN (nx := 146) (j) (P 1 j - p) F dX6_give_145 rfl rfl (by omega) (if_pos rfl) ?_
    refine g_iload (nx := 148) F dX6_give_146 rfl rfl ?_
    refine g_iload (nx := 150) F dX6_give_148 rfl rfl ?_
    refine g_isub (nx := 151) F dX6_give_150 rfl ?_
    refine g_iadd (nx := 152) F dX6_give_151 rfl ?_
    refine g_iastN (nx := 153) (j) F dX6_give_152 rfl rfl (by omega) ?_
    refine g_aload_n (nx := 154) 0 F dX6_give_153 rfl rfl rfl ?_
    refine g_getR (nx := 157) F dX6_give_154 rfl fl_RX6_30 rfl (by decide) (by decide) rfl ?_
    refine g_iload_n (nx := 158) 1 F dX6_give_157 rfl rfl rfl ?_
    refine g_dup2 (nx := 159) F dX6_give_158 rfl rfl rfl ?_
    refine g_ialdN (nx := 160) (i) (P 6 i + p) F dX6_give_159 rfl rfl (by omega) (if_pos rfl) ?_
    refine g_iload (nx := 162) F dX6_give_160 rfl rfl ?_
    refine g_iload (nx := 164) F dX6_give_162 rfl rfl ?_
    refine g_iadd (nx := 165) F dX6_give_164 rfl ?_
    refine g_isub (nx := 166) F dX6_give_165 rfl ?_
    refine g_iastN (nx := 167) (i) F dX6_give_166 rfl rfl (by omega) ?_
    refine g_vret F E dX6_give_167 ?_
    have hr2 : RC 17 n s σ0 (zs (zs σ 14 g_4) 15 g_65) P := RC_meet (by decide) hr (fun b b1 b2 b3 => by rw [zs_ne _ b2, zs_ne _ b1]) (fun k k1 k2 => by rw [zs_ne _ (by decide), zs_ne _ (by decide)])
    refine ⟨rfl, ?_⟩
    unfold giveP
    first
      | (rw [if_neg (not_lt_I.mpr c_126)]; exact RC_tk _ (by decide) (RC_upd 7 i _ (by decide) (by decide) (by decide) (RC_upd 6 i _ (by decide) (by decide) (by decide) (RC_sum _ (RC_upd 3 j _ (by decide) (by decide) (by decide) (RC_upd 1 j _ (by decide) (by decide) (by decide) hr2))))))
      | (rw [if_pos (not_le_I.mp c_126)]; exact RC_upd 6 i _ (by decide) (by decide) (by decide) (RC_upd 1 j _ (by decide) (by decide) (by decide) (RC_upd 4 j _ (by decide) (by decide) (by decide) (RC_tk _ (by decide) (RC_upd 7 i _ (by decide) (by decide) (by decide) (RC_upd 6 i _ (by decide) (by decide) (by decide) (RC_sum _ (RC_upd 3 j _ (by decide) (by decide) (by decide) (RC_upd 1 j _ (by decide) (by decide) (by decide) hr2)))))))))
set_option maxHeartbeats 4000000 in
set_option maxRecDepth 100000 in
theorem c_goOn_17 (P σ0 : zSt) (n s a : Nat) (y : Int32) (j : Nat) (σ : zSt) (hr : RC 17 n s σ0 σ P) (hy : σ0 17 12 = y) (hj : j < n) (hn : n ≤ 40) (ha : a < s) (hs : s ≤ 8) (hP : P 0 j = nI a) (hs3 : σ 3 6 = nI s) : Con mX6_goOn 0 [.ref 17, .int (nI j)] σ (fun r τ => r = none ∧ RC 17 n s σ0 τ (goOnP s y P j)) := by
  refine Con.of (lv := [.ref 17, .int (nI j)]) mk_X6_goOn rfl (Nat.le_of_ble_eq_true rfl) rfl (fun X F E => ?_)
  refine g_aload_n (nx := 1) 0 F dX6_goOn_0 rfl rfl rfl ?_
  refine g_getR (nx := 4) F dX6_goOn_1 rfl fl_RX6_36 rfl (by decide) (by decide) rfl ?_
  refine g_aload_n (nx := 5) 0 F dX6_goOn_4 rfl rfl rfl ?_
  refine g_getR (nx := 8) F dX6_goOn_5 rfl fl_RX6_9 rfl (by decide) (by decide) rfl ?_
  refine g_iload_n (nx := 9) 1 F dX6_goOn_8 rfl rfl rfl ?_
  refine g_ialdN (nx := 10) (j) (nI a) F dX6_goOn_9 rfl rfl (by omega) ((congrFun (hr.2.2.2.2.1 0 (by decide)) j).trans hP) ?_
  refine g_dup2 (nx := 11) F dX6_goOn_10 rfl rfl rfl ?_
  refine g_ialdN (nx := 12) (a) (nI (cntN (P 0) (nI a) n)) F dX6_goOn_11 rfl rfl (by omega) ((by have := hr.2.2.2.2.2 (a) (by omega); exact this)) ?_
  refine g_iconst (nx := 13) (1) F dX6_goOn_12 rfl rfl ?_
  refine g_isub (nx := 14) F dX6_goOn_13 rfl ?_
  refine g_iastN (nx := 15) (a) F dX6_goOn_14 rfl rfl (by omega) ?_
  refine g_aload_n (nx := 16) 0 F dX6_goOn_15 rfl rfl rfl ?_
  refine g_getR (nx := 19) F dX6_goOn_16 rfl fl_RX6_9 rfl (by decide) (by decide) rfl ?_
  refine g_iload_n (nx := 20) 1 F dX6_goOn_19 rfl rfl rfl ?_
  refine g_dup2 (nx := 21) F dX6_goOn_20 rfl rfl rfl ?_
  refine g_ialdN (nx := 22) (j) (nI a) F dX6_goOn_21 rfl rfl (by omega) ((congrFun (hr.2.2.2.2.1 0 (by decide)) j).trans hP) ?_
  refine g_iconst (nx := 23) (1) F dX6_goOn_22 rfl rfl ?_
  refine g_iadd (nx := 24) F dX6_goOn_23 rfl ?_
  rw [nI_1]
  refine g_iastN (nx := 25) (j) F dX6_goOn_24 rfl rfl (by omega) ?_
  refine g_aload_n (nx := 26) 0 F dX6_goOn_25 rfl rfl rfl ?_
  refine g_getR (nx := 29) F dX6_goOn_26 rfl fl_RX6_36 rfl (by decide) (by decide) rfl ?_
  refine g_aload_n (nx := 30) 0 F dX6_goOn_29 rfl rfl rfl ?_
  refine g_getR (nx := 33) F dX6_goOn_30 rfl fl_RX6_9 rfl (by decide) (by decide) rfl ?_
  refine g_iload_n (nx := 34) 1 F dX6_goOn_33 rfl rfl rfl ?_
  refine g_ialdN (nx := 35) (j) (nI (a + 1)) F dX6_goOn_34 rfl rfl (by omega) (if_pos rfl) ?_
  refine g_dup2 (nx := 36) F dX6_goOn_35 rfl rfl rfl ?_
  refine g_ialdN (nx := 37) (a + 1) (nI (cntN (P 0) (nI (a + 1)) n)) F dX6_goOn_36 rfl rfl (by omega) ((zu_off _ _ _ _ _ (by omega)).trans (hr.2.2.2.2.2 (a + 1) (by omega))) ?_
  refine g_iconst (nx := 38) (1) F dX6_goOn_37 rfl rfl ?_
  refine g_iadd (nx := 39) F dX6_goOn_38 rfl ?_
  refine g_iastN (nx := 40) (a + 1) F dX6_goOn_39 rfl rfl (by omega) ?_
  refine g_aload_n (nx := 41) 0 F dX6_goOn_40 rfl rfl rfl ?_
  refine g_getR (nx := 44) F dX6_goOn_41 rfl fl_RX6_18 rfl (by decide) (by decide) rfl ?_
  refine g_iload_n (nx := 45) 1 F dX6_goOn_44 rfl rfl rfl ?_
  refine g_iconst (nx := 46) (0) F dX6_goOn_45 rfl rfl ?_
  refine g_iastN (nx := 47) (j) F dX6_goOn_46 rfl rfl (by omega) ?_
  refine g_aload_n (nx := 48) 0 F dX6_goOn_47 rfl rfl rfl ?_
  refine g_getR (nx := 51) F dX6_goOn_48 rfl fl_RX6_9 rfl (by decide) (by decide) rfl ?_
  refine g_iload_n (nx := 52) 1 F dX6_goOn_51 rfl rfl rfl ?_
  refine g_ialdN (nx := 53) (j) (nI (a + 1)) F dX6_goOn_52 rfl rfl (by omega) (if_pos rfl) ?_
  refine g_aload_n (nx := 54) 0 F dX6_goOn_53 rfl rfl rfl ?_
  refine g_getR (nx := 57) F dX6_goOn_54 rfl fl_RX6_43 rfl (by decide) (by decide) rfl ?_
  refine g_getV (nx := 60) (nI s) F dX6_goOn_57 rfl fl_RX6_82 rfl (by decide) (by decide) rfl rfl (hs3) ?_
  refine g_icmp_lt (nx := 63) 73 F dX6_goOn_60 rfl (by decide) (fun c_60 => ?_) (fun c_60 => ?_)
  · refine g_vret F E dX6_goOn_73 ?_
    refine ⟨rfl, ?_⟩
    have hgo := RC_goOn (by decide) hr hj hn ha hs hP
    have hc := nI_ltI (a := a + 1) (b := s) (by omega) (by omega)
    unfold goOnP
    rw [hP, show nI a + 1 = nI (a + 1) by rw [nI_1]]
    first
      | (have hc2 := hc.mp c_60; rw [if_neg (fun z => absurd ((nI_eq (by omega) (by omega)).mp z) (by omega))]; exact hgo)
      | (have hc2 : ¬ a + 1 < s := fun z => c_60 (hc.mpr z); rw [if_pos (by rw [show s = a + 1 by omega])]; exact RC_upd 5 j _ (by decide) (by decide) (by decide) hgo)
  · refine g_aload_n (nx := 64) 0 F dX6_goOn_63 rfl rfl rfl ?_
    refine g_getR (nx := 67) F dX6_goOn_64 rfl fl_RX6_27 rfl (by decide) (by decide) rfl ?_
    refine g_iload_n (nx := 68) 1 F dX6_goOn_67 rfl rfl rfl ?_
    refine g_aload_n (nx := 69) 0 F dX6_goOn_68 rfl rfl rfl ?_
    refine g_getV (nx := 72) (y) F dX6_goOn_69 rfl fl_RX6_54 rfl (by decide) (by decide) rfl rfl ((hr.2.1 12 (by decide) (by decide) (by decide) (by decide)).trans hy) ?_
    refine g_iastN (nx := 73) (j) F dX6_goOn_72 rfl rfl (by omega) ?_
    refine g_vret F E dX6_goOn_73 ?_
    refine ⟨rfl, ?_⟩
    have hgo := RC_goOn (by decide) hr hj hn ha hs hP
    have hc := nI_ltI (a := a + 1) (b := s) (by omega) (by omega)
    unfold goOnP
    rw [hP, show nI a + 1 = nI (a + 1) by rw [nI_1]]
    first
      | (have hc2 := hc.mp c_60; rw [if_neg (fun z => absurd ((nI_eq (by omega) (by omega)).mp z) (by omega))]; exact hgo)
      | (have hc2 : ¬ a + 1 < s := fun z => c_60 (hc.mpr z); rw [if_pos (by rw [show s = a + 1 by omega])]; exact RC_upd 5 j _ (by decide) (by decide) (by decide) hgo)
theorem fcC_27 {T : Nat → TXT} {D P σ0 σ : zSt} {n s a : Nat} {o y : Int32} {i j : Nat} {x : Int32} (he : EnvC σ D T s) (hr : RC 27 n s σ0 σ P) (hy : σ0 27 12 = y) (ho : σ0 27 14 = o) (ha : a ≤ s) (hP : P 0 j = nI a) : fcF (σ 9 j) (σ 29 j) (σ 11 j) (σ 30 j) (nI a) (σ 5 i) (σ 4 i) (nI i) (σ 36 a) (σ 27 14) (σ 27 12) x = fcP D P n o y i j x := by
  obtain ⟨h1, h2, h3, h4, h5, h6, _⟩ := he
  obtain ⟨r1, r2, r3, r4, r5, r6⟩ := hr
  unfold fcP
  rw [h1, h2, h5, h6, show σ 29 = P 1 from r5 1 (by decide), show σ 30 = P 2 from r5 2 (by decide), show σ 36 a = _ from r6 a ha, r2 14 (by decide) (by decide) (by decide) (by decide), r2 12 (by decide) (by decide) (by decide) (by decide), hy, ho, hP]
set_option maxHeartbeats 4000000 in
set_option maxRecDepth 100000 in
theorem c_meet_27 (T : Nat → TXT) (D P σ0 : zSt) (n s a : Nat) (o y : Int32) (i j : Nat) (σ : zSt) (he : EnvC σ D T s) (hr : RC 27 n s σ0 σ P) (hy : σ0 27 12 = y) (ho : σ0 27 14 = o) (hi : i < 10) (hj : j < n) (hn : n ≤ 40) (ha : a ≤ s) (hP : P 0 j = nI a) : Con mX6_meet 3 [.ref 27, .int (nI i), .int (nI j)] σ (fun r τ => r = none ∧ RC 27 n s σ0 τ P ∧ τ 27 16 = prP T D P n o y i j ∧ τ 27 17 = wtP T D P n o y i j) := by
  have hTi := tx_rng (he.2.2.2.2.2.2.2.2.1 i hi).1
  have hs8 := he.2.2.2.2.2.2.2.1
  refine Con.of (lv := [.ref 27, .int (nI i), .int (nI j), .long 0]) mk_X6_meet rfl (Nat.le_of_ble_eq_true rfl) rfl (fun X F E => ?_)
  refine g_aload_n (nx := 1) 0 F dX6_meet_0 rfl rfl rfl ?_
  refine g_iload_n (nx := 2) 1 F dX6_meet_1 rfl rfl rfl ?_
  refine g_iload_n (nx := 3) 2 F dX6_meet_2 rfl rfl rfl ?_
  refine g_iconst (nx := 4) (0) F dX6_meet_3 rfl rfl ?_
  refine g_callV (nx := 7) 3 0 [.int (nI i), .int (nI j), .int 0] F dX6_meet_4 rfl ml_RX6_133 mo_X6_face rfl rfl rfl rfl (Nat.le_of_ble_eq_true rfl) (by first | decide | omega) (c_face_27 i j a 0 _ hi (by omega) (by omega) (by have := hr.2.2.2.2.1 0 (by decide); rw [← hP]; exact congrFun this j)) (fun r_4 τ_4 q_4 => ?_)
  obtain ⟨rfl, g_4, et_4, hg_4⟩ := q_4
  subst et_4
  dsimp only [Option.toList, List.append, List.cons_append, List.nil_append]
  refine g_aload_n (nx := 8) 0 F dX6_meet_7 rfl rfl rfl ?_
  refine g_getR (nx := 11) F dX6_meet_8 rfl fl_RX6_43 rfl (by decide) (by decide) rfl ?_
  refine g_iload_n (nx := 12) 1 F dX6_meet_11 rfl rfl rfl ?_
  refine g_callV (nx := 15) 1 0 [.int (nI i)] F dX6_meet_12 rfl ml_RX6_137 mo_X2_wayOf rfl rfl rfl rfl (Nat.le_of_ble_eq_true rfl) (by first | decide | omega) (c_wayOf i (σ 6 i).toNatClampNeg _ rfl hi) (fun r_12 τ_12 q_12 => ?_)
  obtain ⟨rfl, et_12⟩ := q_12
  have et_12 := et_12.symm
  subst et_12
  dsimp only [Option.toList, List.append, List.cons_append, List.nil_append]
  refine g_astore_n (nx := 16) 3 F dX6_meet_15 rfl rfl (by decide) ?_
  try dsimp only [List.set]
  refine g_aload_n (nx := 17) 0 F dX6_meet_16 rfl rfl rfl ?_
  refine g_aload_n (nx := 18) 0 F dX6_meet_17 rfl rfl rfl ?_
  refine g_getR (nx := 21) F dX6_meet_18 rfl fl_RX6_47 rfl (by decide) (by decide) rfl ?_
  refine g_aload_n (nx := 22) 3 F dX6_meet_21 rfl rfl rfl ?_
  refine g_bipush (nx := 24) (97) F dX6_meet_22 rfl (by decide) ?_
  refine g_sipush (nx := 27) (10000) F dX6_meet_24 rfl (by decide) ?_
  refine g_callV (nx := 30) 3 2 [.ref (σ 6 i).toNatClampNeg, .int (nI 97), .int 10000] F dX6_meet_27 rfl ml_RX6_141 mo_X7_pick rfl rfl rfl rfl (Nat.le_of_ble_eq_true rfl) (by first | decide | omega) (c_pickT (σ 6 i).toNatClampNeg 97 (T i) 10000 _ (he.2.2.2.2.2.2.2.2.1 i hi).1 (he.2.2.2.2.2.2.2.2.2.2 i (by omega)) (txC_congr (fun b hb _ => zs_ne _ (by omega) _) (he.2.2.2.2.2.2.2.2.1 i hi).2) (by decide) (by decide)) (fun r_27 τ_27 q_27 => ?_)
  obtain ⟨⟨g_27, et_27⟩, rfl⟩ := q_27
  subst et_27
  dsimp only [Option.toList, List.append, List.cons_append, List.nil_append]
  refine g_putI (nx := 33) F dX6_meet_30 rfl fl_RX6_122 fi_5_16 rfl (by decide) (by decide) rfl rfl ?_
  refine g_aload_n (nx := 34) 0 F dX6_meet_33 rfl rfl rfl ?_
  refine g_aload_n (nx := 35) 0 F dX6_meet_34 rfl rfl rfl ?_
  refine g_getR (nx := 38) F dX6_meet_35 rfl fl_RX6_47 rfl (by decide) (by decide) rfl ?_
  refine g_aload_n (nx := 39) 3 F dX6_meet_38 rfl rfl rfl ?_
  refine g_bipush (nx := 41) (119) F dX6_meet_39 rfl (by decide) ?_
  refine g_bipush (nx := 43) (24) F dX6_meet_41 rfl (by decide) ?_
  refine g_callV (nx := 46) 3 2 [.ref (σ 6 i).toNatClampNeg, .int (nI 119), .int 24] F dX6_meet_43 rfl ml_RX6_141 mo_X7_pick rfl rfl rfl rfl (Nat.le_of_ble_eq_true rfl) (by first | decide | omega) (c_pickT (σ 6 i).toNatClampNeg 119 (T i) 24 _ (he.2.2.2.2.2.2.2.2.1 i hi).1 (he.2.2.2.2.2.2.2.2.2.2 i (by omega)) (txC_congr (fun b hb _ => by rw [zu_ne _ (by omega), zs_ne _ (by omega), zs_ne _ (by omega)]) (he.2.2.2.2.2.2.2.2.1 i hi).2) (by decide) (by decide)) (fun r_43 τ_43 q_43 => ?_)
  obtain ⟨⟨g_43, et_43⟩, rfl⟩ := q_43
  subst et_43
  dsimp only [Option.toList, List.append, List.cons_append, List.nil_append]
  refine g_putI (nx := 49) F dX6_meet_46 rfl fl_RX6_125 fi_5_17 rfl (by decide) (by decide) rfl rfl ?_
  refine g_vret F E dX6_meet_49 ?_
  refine ⟨rfl, RC_meet (by decide) hr (fun b b1 b2 b3 => ?_) (fun k k1 k2 => ?_), ?_, ?_⟩
  · rw [zu_ne _ b3, zs_ne _ b2, zu_ne _ b3, zs_ne _ b2, zs_ne _ b1]
  · rw [zu_off _ _ _ _ _ k2, zs_ne _ (by decide), zu_off _ _ _ _ _ k1, zs_ne _ (by decide), zs_ne _ (by decide)]
  · exact pkF_congr (he.2.2.2.2.2.2.2.2.2.2 i (by omega)).1 (fun k hk => (hg_4 k hk).trans (congrFun (fcC_27 he hr hy ho ha hP) k))
  · exact pkF_congr (he.2.2.2.2.2.2.2.2.2.2 i (by omega)).1 (fun k hk => (hg_4 k hk).trans (congrFun (fcC_27 he hr hy ho ha hP) k))
set_option maxHeartbeats 4000000 in
set_option maxRecDepth 100000 in
theorem c_pays_27 (j : Nat) (p w : Int32) (σ : zSt) (hj : j < 40) (hp : σ 27 16 = p) (hw : σ 27 17 = w) : Con mX6_pays 0 [.ref 27, .int (nI j)] σ (fun r τ => r = some (.int (bI (payQ p w (σ 29 j) (σ 9 j) (σ 11 j) (σ 30 j)))) ∧ τ = σ) := by
  refine Con.of (lv := [.ref 27, .int (nI j), .long 0]) mk_X6_pays rfl (Nat.le_of_ble_eq_true rfl) rfl (fun X F E => ?_)
  refine g_aload_n (nx := 1) 0 F dX6_pays_0 rfl rfl rfl ?_
  refine g_getV (nx := 4) (p) F dX6_pays_1 rfl fl_RX6_122 rfl (by decide) (by decide) rfl rfl (hp) ?_
  refine g_if_eq (nx := 7) 20 F dX6_pays_4 rfl (by decide) (fun c_4 => ?_) (fun c_4 => ?_)
  · refine g_iconst (nx := 21) (0) F dX6_pays_20 rfl rfl ?_
    refine g_zret F E dX6_pays_21 (by first | rfl | assumption) ?_
    refine ⟨congrArg (fun z => some (Value.int z)) (Eq.symm ?_), rfl⟩
    clear F E
    first | refine bI_f ?_ | refine bI_t ?_
    all_goals (unfold payQ; simp only [fa_lt, fa_le, fa_eq, ne_eq, Int32.toInt_zero] at *)
    all_goals omega
  · refine g_aload_n (nx := 8) 0 F dX6_pays_7 rfl rfl rfl ?_
    refine g_getV (nx := 11) (p) F dX6_pays_8 rfl fl_RX6_122 rfl (by decide) (by decide) rfl rfl (hp) ?_
    refine g_aload_n (nx := 12) 0 F dX6_pays_11 rfl rfl rfl ?_
    refine g_getR (nx := 15) F dX6_pays_12 rfl fl_RX6_15 rfl (by decide) (by decide) rfl ?_
    refine g_iload_n (nx := 16) 1 F dX6_pays_15 rfl rfl rfl ?_
    refine g_ialdN (nx := 17) (j) (_) F dX6_pays_16 rfl rfl (by omega) (rfl) ?_
    refine g_icmp_le (nx := 20) 22 F dX6_pays_17 rfl (by decide) (fun c_17 => ?_) (fun c_17 => ?_)
    · refine g_aload_n (nx := 23) 0 F dX6_pays_22 rfl rfl rfl ?_
      refine g_getV (nx := 26) (w) F dX6_pays_23 rfl fl_RX6_125 rfl (by decide) (by decide) rfl rfl (hw) ?_
      refine g_aload_n (nx := 27) 0 F dX6_pays_26 rfl rfl rfl ?_
      refine g_getR (nx := 30) F dX6_pays_27 rfl fl_RX6_18 rfl (by decide) (by decide) rfl ?_
      refine g_iload_n (nx := 31) 1 F dX6_pays_30 rfl rfl rfl ?_
      refine g_ialdN (nx := 32) (j) (_) F dX6_pays_31 rfl rfl (by omega) (rfl) ?_
      refine g_isub (nx := 33) F dX6_pays_32 rfl ?_
      refine g_istore_n (nx := 34) 2 F dX6_pays_33 rfl rfl (by decide) ?_
      try dsimp only [List.set]
      refine g_aload_n (nx := 35) 0 F dX6_pays_34 rfl rfl rfl ?_
      refine g_getR (nx := 38) F dX6_pays_35 rfl fl_RX6_43 rfl (by decide) (by decide) rfl ?_
      refine g_getR (nx := 41) F dX6_pays_38 rfl fl_RX6_150 rfl (by decide) (by decide) rfl ?_
      refine g_iload_n (nx := 42) 1 F dX6_pays_41 rfl rfl rfl ?_
      refine g_ialdN (nx := 43) (j) (_) F dX6_pays_42 rfl rfl (by omega) (rfl) ?_
      refine g_if_eq (nx := 46) 68 F dX6_pays_43 rfl (by decide) (fun c_43 => ?_) (fun c_43 => ?_)
      · refine g_iconst (nx := 69) (1) F dX6_pays_68 rfl rfl ?_
        refine g_goto 73 F dX6_pays_69 (by decide) ?_
        refine g_zret F E dX6_pays_73 (by first | rfl | assumption) ?_
        refine ⟨congrArg (fun z => some (Value.int z)) (Eq.symm ?_), rfl⟩
        clear F E
        first | refine bI_f ?_ | refine bI_t ?_
        all_goals (unfold payQ; simp only [fa_lt, fa_le, fa_eq, ne_eq, Int32.toInt_zero] at *)
        all_goals omega
      · refine g_iload_n (nx := 47) 2 F dX6_pays_46 rfl rfl rfl ?_
        refine g_if_le (nx := 50) 72 F dX6_pays_47 rfl (by decide) (fun c_47 => ?_) (fun c_47 => ?_)
        · refine g_iconst (nx := 73) (0) F dX6_pays_72 rfl rfl ?_
          refine g_zret F E dX6_pays_73 (by first | rfl | assumption) ?_
          refine ⟨congrArg (fun z => some (Value.int z)) (Eq.symm ?_), rfl⟩
          clear F E
          first | refine bI_f ?_ | refine bI_t ?_
          all_goals (unfold payQ; simp only [fa_lt, fa_le, fa_eq, ne_eq, Int32.toInt_zero] at *)
          all_goals omega
        · refine g_aload_n (nx := 51) 0 F dX6_pays_50 rfl rfl rfl ?_
          refine g_getV (nx := 54) (p) F dX6_pays_51 rfl fl_RX6_122 rfl (by decide) (by decide) rfl rfl (hp) ?_
          refine g_aload_n (nx := 55) 0 F dX6_pays_54 rfl rfl rfl ?_
          refine g_getR (nx := 58) F dX6_pays_55 rfl fl_RX6_43 rfl (by decide) (by decide) rfl ?_
          refine g_getR (nx := 61) F dX6_pays_58 rfl fl_RX6_153 rfl (by decide) (by decide) rfl ?_
          refine g_iload_n (nx := 62) 1 F dX6_pays_61 rfl rfl rfl ?_
          refine g_ialdN (nx := 63) (j) (_) F dX6_pays_62 rfl rfl (by omega) (rfl) ?_
          refine g_iload_n (nx := 64) 2 F dX6_pays_63 rfl rfl rfl ?_
          refine g_imul (nx := 65) F dX6_pays_64 rfl ?_
          refine g_icmp_gt (nx := 68) 72 F dX6_pays_65 rfl (by decide) (fun c_65 => ?_) (fun c_65 => ?_)
          · refine g_iconst (nx := 73) (0) F dX6_pays_72 rfl rfl ?_
            refine g_zret F E dX6_pays_73 (by first | rfl | assumption) ?_
            refine ⟨congrArg (fun z => some (Value.int z)) (Eq.symm ?_), rfl⟩
            clear F E
            first | refine bI_f ?_ | refine bI_t ?_
            all_goals (unfold payQ; simp only [fa_lt, fa_le, fa_eq, ne_eq, Int32.toInt_zero] at *)
            all_goals omega
          · refine g_iconst (nx := 69) (1) F dX6_pays_68 rfl rfl ?_
            refine g_goto 73 F dX6_pays_69 (by decide) ?_
            refine g_zret F E dX6_pays_73 (by first | rfl | assumption) ?_
            refine ⟨congrArg (fun z => some (Value.int z)) (Eq.symm ?_), rfl⟩
            clear F E
            first | refine bI_f ?_ | refine bI_t ?_
            all_goals (unfold payQ; simp only [fa_lt, fa_le, fa_eq, ne_eq, Int32.toInt_zero] at *)
            all_goals omega
    · refine g_iconst (nx := 21) (0) F dX6_pays_20 rfl rfl ?_
      refine g_zret F E dX6_pays_21 (by first | rfl | assumption) ?_
      refine ⟨congrArg (fun z => some (Value.int z)) (Eq.symm ?_), rfl⟩
      clear F E
      first | refine bI_f ?_ | refine bI_t ?_
      all_goals (unfold payQ; simp only [fa_lt, fa_le, fa_eq, ne_eq, Int32.toInt_zero] at *)
      all_goals omega
set_option maxHeartbeats 4000000 in
set_option maxRecDepth 100000 in
theorem c_give_27 (T : Nat → TXT) (D P σ0 : zSt) (n s a : Nat) (o y : Int32) (i j : Nat) (p : Int32) (σ : zSt) (he : EnvC σ D T s) (hr : RC 27 n s σ0 σ P) (hy : σ0 27 12 = y) (ho : σ0 27 14 = o) (hi : i < 10) (hj : j < n) (hn : n ≤ 40) (ha : a ≤ s) (hP : P 0 j = nI a) : Con mX6_give 3 [.ref 27, .int (nI i), .int (nI j), .int p] σ (fun r τ => r = none ∧ RC 27 n s σ0 τ (giveP P i j p (lwP T D P n o y i j p 103) (lwP T D P n o y i j p 107) (lwP T D P n o y i j p 98))) := by
  have hTi := tx_rng he.2.2.2.2.2.2.2.2.2.1.1
  have hs8 := he.2.2.2.2.2.2.2.1
  refine Con.of (lv := [.ref 27, .int (nI i), .int (nI j), .int p, .long 0, .long 0, .long 0]) mk_X6_give rfl (Nat.le_of_ble_eq_true rfl) rfl (fun X F E => ?_)
  refine g_aload_n (nx := 1) 0 F dX6_give_0 rfl rfl rfl ?_
  refine g_iload_n (nx := 2) 1 F dX6_give_1 rfl rfl rfl ?_
  refine g_iload_n (nx := 3) 2 F dX6_give_2 rfl rfl rfl ?_
  refine g_iload_n (nx := 4) 3 F dX6_give_3 rfl rfl rfl ?_
  refine g_callV (nx := 7) 3 0 [.int (nI i), .int (nI j), .int p] F dX6_give_4 rfl ml_RX6_133 mo_X6_face rfl rfl rfl rfl (Nat.le_of_ble_eq_true rfl) (by first | decide | omega) (c_face_27 i j a p _ hi (by omega) (by omega) (by have := hr.2.2.2.2.1 0 (by decide); rw [← hP]; exact congrFun this j)) (fun r_4 τ_4 q_4 => ?_)
  obtain ⟨rfl, g_4, et_4, hg_4⟩ := q_4
  subst et_4
  dsimp only [Option.toList, List.append, List.cons_append, List.nil_append]
  refine g_aload_n (nx := 8) 0 F dX6_give_7 rfl rfl rfl ?_
  refine g_getR (nx := 11) F dX6_give_8 rfl fl_RX6_47 rfl (by decide) (by decide) rfl ?_
  refine g_aload_n (nx := 12) 0 F dX6_give_11 rfl rfl rfl ?_
  refine g_getR (nx := 15) F dX6_give_12 rfl fl_RX6_43 rfl (by decide) (by decide) rfl ?_
  refine g_getD (nx := 18) F dX6_give_15 rfl fl_RX6_171 rfl (by decide) (by decide) rfl rfl ?_
  refine g_bipush (nx := 20) (103) F dX6_give_18 rfl (by decide) ?_
  refine g_sipush (nx := 23) (10000) F dX6_give_20 rfl (by decide) ?_
  refine g_callV (nx := 26) 3 2 [.ref (σ 3 12).toNatClampNeg, .int (nI 103), .int 10000] F dX6_give_23 rfl ml_RX6_141 mo_X7_pick rfl rfl rfl rfl (Nat.le_of_ble_eq_true rfl) (by first | decide | omega) (c_pickT (σ 3 12).toNatClampNeg 103 (T 10) 10000 _ he.2.2.2.2.2.2.2.2.2.1.1 (he.2.2.2.2.2.2.2.2.2.2 10 (by omega)) (txC_congr (fun b hb _ => by (repeat rw [zs_ne _ (by omega)])) he.2.2.2.2.2.2.2.2.2.1.2) (by decide) (by decide)) (fun r_23 τ_23 q_23 => ?_)
  obtain ⟨⟨g_23, et_23⟩, rfl⟩ := q_23
  subst et_23
  dsimp only [Option.toList, List.append, List.cons_append, List.nil_append]
  refine g_top (lwP T D P n o y i j p 103) (pkF_congr (he.2.2.2.2.2.2.2.2.2.2 10 (by omega)).1 (fun k hk => (hg_4 k hk).trans (congrFun (fcC_27 he hr hy ho ha hP) k))) ?_
  refine g_istore (nx := 28) F dX6_give_26 rfl (by decide) ?_
  try dsimp only [List.set]
  refine g_aload_n (nx := 29) 0 F dX6_give_28 rfl rfl rfl ?_
  refine g_getR (nx := 32) F dX6_give_29 rfl fl_RX6_47 rfl (by decide) (by decide) rfl ?_
  refine g_aload_n (nx := 33) 0 F dX6_give_32 rfl rfl rfl ?_
  refine g_getR (nx := 36) F dX6_give_33 rfl fl_RX6_43 rfl (by decide) (by decide) rfl ?_
  refine g_getD (nx := 39) F dX6_give_36 rfl fl_RX6_171 rfl (by decide) (by decide) rfl rfl ?_
  refine g_bipush (nx := 41) (107) F dX6_give_39 rfl (by decide) ?_
  refine g_sipush (nx := 44) (10000) F dX6_give_41 rfl (by decide) ?_
  refine g_callV (nx := 47) 3 2 [.ref (σ 3 12).toNatClampNeg, .int (nI 107), .int 10000] F dX6_give_44 rfl ml_RX6_141 mo_X7_pick rfl rfl rfl rfl (Nat.le_of_ble_eq_true rfl) (by first | decide | omega) (c_pickT (σ 3 12).toNatClampNeg 107 (T 10) 10000 _ he.2.2.2.2.2.2.2.2.2.1.1 (he.2.2.2.2.2.2.2.2.2.2 10 (by omega)) (txC_congr (fun b hb _ => by (repeat rw [zs_ne _ (by omega)])) he.2.2.2.2.2.2.2.2.2.1.2) (by decide) (by decide)) (fun r_44 τ_44 q_44 => ?_)
  obtain ⟨⟨g_44, et_44⟩, rfl⟩ := q_44
  subst et_44
  dsimp only [Option.toList, List.append, List.cons_append, List.nil_append]
  rw [zs_zs]
  refine g_top (lwP T D P n o y i j p 107) (pkF_congr (he.2.2.2.2.2.2.2.2.2.2 10 (by omega)).1 (fun k hk => (hg_4 k hk).trans (congrFun (fcC_27 he hr hy ho ha hP) k))) ?_
  refine g_istore (nx := 49) F dX6_give_47 rfl (by decide) ?_
  try dsimp only [List.set]
  refine g_aload_n (nx := 50) 0 F dX6_give_49 rfl rfl rfl ?_
  refine g_getR (nx := 53) F dX6_give_50 rfl fl_RX6_47 rfl (by decide) (by decide) rfl ?_
  refine g_aload_n (nx := 54) 0 F dX6_give_53 rfl rfl rfl ?_
  refine g_getR (nx := 57) F dX6_give_54 rfl fl_RX6_43 rfl (by decide) (by decide) rfl ?_
  refine g_getD (nx := 60) F dX6_give_57 rfl fl_RX6_171 rfl (by decide) (by decide) rfl rfl ?_
  refine g_bipush (nx := 62) (98) F dX6_give_60 rfl (by decide) ?_
  refine g_sipush (nx := 65) (10000) F dX6_give_62 rfl (by decide) ?_
  refine g_callV (nx := 68) 3 2 [.ref (σ 3 12).toNatClampNeg, .int (nI 98), .int 10000] F dX6_give_65 rfl ml_RX6_141 mo_X7_pick rfl rfl rfl rfl (Nat.le_of_ble_eq_true rfl) (by first | decide | omega) (c_pickT (σ 3 12).toNatClampNeg 98 (T 10) 10000 _ he.2.2.2.2.2.2.2.2.2.1.1 (he.2.2.2.2.2.2.2.2.2.2 10 (by omega)) (txC_congr (fun b hb _ => by (repeat rw [zs_ne _ (by omega)])) he.2.2.2.2.2.2.2.2.2.1.2) (by decide) (by decide)) (fun r_65 τ_65 q_65 => ?_)
  obtain ⟨⟨g_65, et_65⟩, rfl⟩ := q_65
  subst et_65
  dsimp only [Option.toList, List.append, List.cons_append, List.nil_append]
  rw [zs_zs]
  refine g_top (lwP T D P n o y i j p 98) (pkF_congr (he.2.2.2.2.2.2.2.2.2.2 10 (by omega)).1 (fun k hk => (hg_4 k hk).trans (congrFun (fcC_27 he hr hy ho ha hP) k))) ?_
  refine g_istore (nx := 70) F dX6_give_68 rfl (by decide) ?_
  try dsimp only [List.set]
  refine g_aload_n (nx := 71) 0 F dX6_give_70 rfl rfl rfl ?_
  refine g_getR (nx := 74) F dX6_give_71 rfl fl_RX6_15 rfl (by decide) (by decide) rfl ?_
  refine g_iload_n (nx := 75) 2 F dX6_give_74 rfl rfl rfl ?_
  refine g_dup2 (nx := 76) F dX6_give_75 rfl rfl rfl ?_
  refine g_ialdN (nx := 77) (j) (P 1 j) F dX6_give_76 rfl rfl (by omega) (congrFun (hr.2.2.2.2.1 1 (by decide)) j) ?_
  refine g_iload_n (nx := 78) 3 F dX6_give_77 rfl rfl rfl ?_
  refine g_isub (nx := 79) F dX6_give_78 rfl ?_
  refine g_iastN (nx := 80) (j) F dX6_give_79 rfl rfl (by omega) ?_
  refine g_aload_n (nx := 81) 0 F dX6_give_80 rfl rfl rfl ?_
  refine g_getR (nx := 84) F dX6_give_81 rfl fl_RX6_21 rfl (by decide) (by decide) rfl ?_
  refine g_iload_n (nx := 85) 2 F dX6_give_84 rfl rfl rfl ?_
  refine g_dup2 (nx := 86) F dX6_give_85 rfl rfl rfl ?_
  refine g_ialdN (nx := 87) (j) (P 3 j) F dX6_give_86 rfl rfl (by omega) (congrFun (hr.2.2.2.2.1 3 (by decide)) j) ?_
  refine g_iload_n (nx := 88) 3 F dX6_give_87 rfl rfl rfl ?_
  refine g_iadd (nx := 89) F dX6_give_88 rfl ?_
  refine g_iastN (nx := 90) (j) F dX6_give_89 rfl rfl (by omega) ?_
  refine g_aload_n (nx := 91) 0 F dX6_give_90 rfl rfl rfl ?_
  refine g_getR (nx := 94) F dX6_give_91 rfl fl_RX6_30 rfl (by decide) (by decide) rfl ?_
  refine g_iload_n (nx := 95) 1 F dX6_give_94 rfl rfl rfl ?_
  refine g_dup2 (nx := 96) F dX6_give_95 rfl rfl rfl ?_
  refine g_ialdN (nx := 97) (i) (P 6 i) F dX6_give_96 rfl rfl (by omega) (congrFun (hr.2.2.2.2.1 6 (by decide)) i) ?_
  refine g_iload_n (nx := 98) 3 F dX6_give_97 rfl rfl rfl ?_
  refine g_iadd (nx := 99) F dX6_give_98 rfl ?_
  refine g_iastN (nx := 100) (i) F dX6_give_99 rfl rfl (by omega) ?_
  refine g_aload_n (nx := 101) 0 F dX6_give_100 rfl rfl rfl ?_
  refine g_getR (nx := 104) F dX6_give_101 rfl fl_RX6_33 rfl (by decide) (by decide) rfl ?_
  refine g_iload_n (nx := 105) 1 F dX6_give_104 rfl rfl rfl ?_
  refine g_dup2 (nx := 106) F dX6_give_105 rfl rfl rfl ?_
  refine g_ialdN (nx := 107) (i) (P 7 i) F dX6_give_106 rfl rfl (by omega) (congrFun (hr.2.2.2.2.1 7 (by decide)) i) ?_
  refine g_iconst (nx := 108) (1) F dX6_give_107 rfl rfl ?_
  refine g_iadd (nx := 109) F dX6_give_108 rfl ?_
  refine g_iastN (nx := 110) (i) F dX6_give_109 rfl rfl (by omega) ?_
  refine g_aload_n (nx := 111) 0 F dX6_give_110 rfl rfl rfl ?_
  refine g_dup (nx := 112) F dX6_give_111 rfl rfl ?_
  refine g_getV (nx := 115) (P 8 1) F dX6_give_112 rfl fl_RX6_85 rfl (by decide) (by decide) rfl rfl (hr.2.2.2.1) ?_
  refine g_iconst (nx := 116) (1) F dX6_give_115 rfl rfl ?_
  refine g_iload_n (nx := 117) 1 F dX6_give_116 rfl rfl rfl ?_
  refine g_ishl (nx := 118) F dX6_give_117 rfl ?_
  refine g_ior (nx := 119) F dX6_give_118 rfl ?_
  refine g_putI (nx := 122) F dX6_give_119 rfl fl_RX6_85 fi_5_15 rfl (by decide) (by decide) rfl rfl ?_
  refine g_iload (nx := 124) F dX6_give_122 rfl rfl ?_
  refine g_iload (nx := 126) F dX6_give_124 rfl rfl ?_
  refine g_icmp_le (nx := 129) 167 F dX6_give_126 rfl (by decide) (fun c_126 => ?_) (fun c_126 => ?_)
  · refine g_vret F E dX6_give_167 ?_
    have hr2 : RC 27 n s σ0 (zs (zs σ 14 g_4) 15 g_65) P := RC_meet (by decide) hr (fun b b1 b2 b3 => by rw [zs_ne _ b2, zs_ne _ b1]) (fun k k1 k2 => by rw [zs_ne _ (by decide), zs_ne _ (by decide)])
    refine ⟨rfl, ?_⟩
    unfold giveP
    first
      | (rw [if_neg (not_lt_I.mpr c_126)]; exact RC_tk _ (by decide) (RC_upd 7 i _ (by decide) (by decide) (by decide) (RC_upd 6 i _ (by decide) (by decide) (by decide) (RC_sum _ (RC_upd 3 j _ (by decide) (by decide) (by decide) (RC_upd 1 j _ (by decide) (by decide) (by decide) hr2))))))
      | (rw [if_pos (not_le_I.mp c_126)]; exact RC_upd 6 i _ (by decide) (by decide) (by decide) (RC_upd 1 j _ (by decide) (by decide) (by decide) (RC_upd 4 j _ (by decide) (by decide) (by decide) (RC_tk _ (by decide) (RC_upd 7 i _ (by decide) (by decide) (by decide) (RC_upd 6 i _ (by decide) (by decide) (by decide) (RC_sum _ (RC_upd 3 j _ (by decide) (by decide) (by decide) (RC_upd 1 j _ (by decide) (by decide) (by decide) hr2)))))))))
  · refine g_aload_n (nx := 130) 0 F dX6_give_129 rfl rfl rfl ?_
    refine g_getR (nx := 133) F dX6_give_130 rfl fl_RX6_24 rfl (by decide) (by decide) rfl ?_
    refine g_iload_n (nx := 134) 2 F dX6_give_133 rfl rfl rfl ?_
    refine g_dup2 (nx := 135) F dX6_give_134 rfl rfl rfl ?_
    refine g_ialdN (nx := 136) (j) (P 4 j) F dX6_give_135 rfl rfl (by omega) (congrFun (hr.2.2.2.2.1 4 (by decide)) j) ?_
    refine g_iconst (nx := 137) (1) F dX6_give_136 rfl rfl ?_
    refine g_iadd (nx := 138) F dX6_give_137 rfl ?_
    refine g_iastN (nx := 139) (j) F dX6_give_138 rfl rfl (by omega) ?_
    refine g_aload_n (nx := 140) 0 F dX6_give_139 rfl rfl rfl ?_
    refine g_getR (nx := 143) F dX6_give_140 rfl fl_RX6_15 rfl (by decide) (by decide) rfl ?_
    refine g_iload_n (nx := 144) 2 F dX6_give_143 rfl rfl rfl ?_
    refine g_dup2 (nx := 145) F dX6_give_144 rfl rfl rfl ?_
    refine g_ialdN (nx := 146) (j) (P 1 j - p) F dX6_give_145 rfl rfl (by omega) (if_pos rfl) ?_
    refine g_iload (nx := 148) F dX6_give_146 rfl rfl ?_
    refine g_iload (nx := 150) F dX6_give_148 rfl rfl ?_
    refine g_isub (nx := 151) F dX6_give_150 rfl ?_
    refine g_iadd (nx := 152) F dX6_give_151 rfl ?_
    refine g_iastN (nx := 153) (j) F dX6_give_152 rfl rfl (by omega) ?_
    refine g_aload_n (nx := 154) 0 F dX6_give_153 rfl rfl rfl ?_
    refine g_getR (nx := 157) F dX6_give_154 rfl fl_RX6_30 rfl (by decide) (by decide) rfl ?_
    refine g_iload_n (nx := 158) 1 F dX6_give_157 rfl rfl rfl ?_
    refine g_dup2 (nx := 159) F dX6_give_158 rfl rfl rfl ?_
    refine g_ialdN (nx := 160) (i) (P 6 i + p) F dX6_give_159 rfl rfl (by omega) (if_pos rfl) ?_
    refine g_iload (nx := 162) F dX6_give_160 rfl rfl ?_
    refine g_iload (nx := 164) F dX6_give_162 rfl rfl ?_
    refine g_iadd (nx := 165) F dX6_give_164 rfl ?_
    refine g_isub (nx := 166) F dX6_give_165 rfl ?_
    refine g_iastN (nx := 167) (i) F dX6_give_166 rfl rfl (by omega) ?_
    refine g_vret F E dX6_give_167 ?_
    have hr2 : RC 27 n s σ0 (zs (zs σ 14 g_4) 15 g_65) P := RC_meet (by decide) hr (fun b b1 b2 b3 => by rw [zs_ne _ b2, zs_ne _ b1]) (fun k k1 k2 => by rw [zs_ne _ (by decide), zs_ne _ (by decide)])
    refine ⟨rfl, ?_⟩
    unfold giveP
    first
      | (rw [if_neg (not_lt_I.mpr c_126)]; exact RC_tk _ (by decide) (RC_upd 7 i _ (by decide) (by decide) (by decide) (RC_upd 6 i _ (by decide) (by decide) (by decide) (RC_sum _ (RC_upd 3 j _ (by decide) (by decide) (by decide) (RC_upd 1 j _ (by decide) (by decide) (by decide) hr2))))))
      | (rw [if_pos (not_le_I.mp c_126)]; exact RC_upd 6 i _ (by decide) (by decide) (by decide) (RC_upd 1 j _ (by decide) (by decide) (by decide) (RC_upd 4 j _ (by decide) (by decide) (by decide) (RC_tk _ (by decide) (RC_upd 7 i _ (by decide) (by decide) (by decide) (RC_upd 6 i _ (by decide) (by decide) (by decide) (RC_sum _ (RC_upd 3 j _ (by decide) (by decide) (by decide) (RC_upd 1 j _ (by decide) (by decide) (by decide) hr2)))))))))
set_option maxHeartbeats 4000000 in
set_option maxRecDepth 100000 in
theorem c_goOn_27 (P σ0 : zSt) (n s a : Nat) (y : Int32) (j : Nat) (σ : zSt) (hr : RC 27 n s σ0 σ P) (hy : σ0 27 12 = y) (hj : j < n) (hn : n ≤ 40) (ha : a < s) (hs : s ≤ 8) (hP : P 0 j = nI a) (hs3 : σ 3 6 = nI s) : Con mX6_goOn 0 [.ref 27, .int (nI j)] σ (fun r τ => r = none ∧ RC 27 n s σ0 τ (goOnP s y P j)) := by
  refine Con.of (lv := [.ref 27, .int (nI j)]) mk_X6_goOn rfl (Nat.le_of_ble_eq_true rfl) rfl (fun X F E => ?_)
  refine g_aload_n (nx := 1) 0 F dX6_goOn_0 rfl rfl rfl ?_
  refine g_getR (nx := 4) F dX6_goOn_1 rfl fl_RX6_36 rfl (by decide) (by decide) rfl ?_
  refine g_aload_n (nx := 5) 0 F dX6_goOn_4 rfl rfl rfl ?_
  refine g_getR (nx := 8) F dX6_goOn_5 rfl fl_RX6_9 rfl (by decide) (by decide) rfl ?_
  refine g_iload_n (nx := 9) 1 F dX6_goOn_8 rfl rfl rfl ?_
  refine g_ialdN (nx := 10) (j) (nI a) F dX6_goOn_9 rfl rfl (by omega) ((congrFun (hr.2.2.2.2.1 0 (by decide)) j).trans hP) ?_
  refine g_dup2 (nx := 11) F dX6_goOn_10 rfl rfl rfl ?_
  refine g_ialdN (nx := 12) (a) (nI (cntN (P 0) (nI a) n)) F dX6_goOn_11 rfl rfl (by omega) ((by have := hr.2.2.2.2.2 (a) (by omega); exact this)) ?_
  refine g_iconst (nx := 13) (1) F dX6_goOn_12 rfl rfl ?_
  refine g_isub (nx := 14) F dX6_goOn_13 rfl ?_
  refine g_iastN (nx := 15) (a) F dX6_goOn_14 rfl rfl (by omega) ?_
  refine g_aload_n (nx := 16) 0 F dX6_goOn_15 rfl rfl rfl ?_
  refine g_getR (nx := 19) F dX6_goOn_16 rfl fl_RX6_9 rfl (by decide) (by decide) rfl ?_
  refine g_iload_n (nx := 20) 1 F dX6_goOn_19 rfl rfl rfl ?_
  refine g_dup2 (nx := 21) F dX6_goOn_20 rfl rfl rfl ?_
  refine g_ialdN (nx := 22) (j) (nI a) F dX6_goOn_21 rfl rfl (by omega) ((congrFun (hr.2.2.2.2.1 0 (by decide)) j).trans hP) ?_
  refine g_iconst (nx := 23) (1) F dX6_goOn_22 rfl rfl ?_
  refine g_iadd (nx := 24) F dX6_goOn_23 rfl ?_
  rw [nI_1]
  refine g_iastN (nx := 25) (j) F dX6_goOn_24 rfl rfl (by omega) ?_
  refine g_aload_n (nx := 26) 0 F dX6_goOn_25 rfl rfl rfl ?_
  refine g_getR (nx := 29) F dX6_goOn_26 rfl fl_RX6_36 rfl (by decide) (by decide) rfl ?_
  refine g_aload_n (nx := 30) 0 F dX6_goOn_29 rfl rfl rfl ?_
  refine g_getR (nx := 33) F dX6_goOn_30 rfl fl_RX6_9 rfl (by decide) (by decide) rfl ?_
  refine g_iload_n (nx := 34) 1 F dX6_goOn_33 rfl rfl rfl ?_
  refine g_ialdN (nx := 35) (j) (nI (a + 1)) F dX6_goOn_34 rfl rfl (by omega) (if_pos rfl) ?_
  refine g_dup2 (nx := 36) F dX6_goOn_35 rfl rfl rfl ?_
  refine g_ialdN (nx := 37) (a + 1) (nI (cntN (P 0) (nI (a + 1)) n)) F dX6_goOn_36 rfl rfl (by omega) ((zu_off _ _ _ _ _ (by omega)).trans (hr.2.2.2.2.2 (a + 1) (by omega))) ?_
  refine g_iconst (nx := 38) (1) F dX6_goOn_37 rfl rfl ?_
  refine g_iadd (nx := 39) F dX6_goOn_38 rfl ?_
  refine g_iastN (nx := 40) (a + 1) F dX6_goOn_39 rfl rfl (by omega) ?_
  refine g_aload_n (nx := 41) 0 F dX6_goOn_40 rfl rfl rfl ?_
  refine g_getR (nx := 44) F dX6_goOn_41 rfl fl_RX6_18 rfl (by decide) (by decide) rfl ?_
  refine g_iload_n (nx := 45) 1 F dX6_goOn_44 rfl rfl rfl ?_
  refine g_iconst (nx := 46) (0) F dX6_goOn_45 rfl rfl ?_
  refine g_iastN (nx := 47) (j) F dX6_goOn_46 rfl rfl (by omega) ?_
  refine g_aload_n (nx := 48) 0 F dX6_goOn_47 rfl rfl rfl ?_
  refine g_getR (nx := 51) F dX6_goOn_48 rfl fl_RX6_9 rfl (by decide) (by decide) rfl ?_
  refine g_iload_n (nx := 52) 1 F dX6_goOn_51 rfl rfl rfl ?_
  refine g_ialdN (nx := 53) (j) (nI (a + 1)) F dX6_goOn_52 rfl rfl (by omega) (if_pos rfl) ?_
  refine g_aload_n (nx := 54) 0 F dX6_goOn_53 rfl rfl rfl ?_
  refine g_getR (nx := 57) F dX6_goOn_54 rfl fl_RX6_43 rfl (by decide) (by decide) rfl ?_
  refine g_getV (nx := 60) (nI s) F dX6_goOn_57 rfl fl_RX6_82 rfl (by decide) (by decide) rfl rfl (hs3) ?_
  refine g_icmp_lt (nx := 63) 73 F dX6_goOn_60 rfl (by decide) (fun c_60 => ?_) (fun c_60 => ?_)
  · refine g_vret F E dX6_goOn_73 ?_
    refine ⟨rfl, ?_⟩
    have hgo := RC_goOn (by decide) hr hj hn ha hs hP
    have hc := nI_ltI (a := a + 1) (b := s) (by omega) (by omega)
    unfold goOnP
    rw [hP, show nI a + 1 = nI (a + 1) by rw [nI_1]]
    first
      | (have hc2 := hc.mp c_60; rw [if_neg (fun z => absurd ((nI_eq (by omega) (by omega)).mp z) (by omega))]; exact hgo)
      | (have hc2 : ¬ a + 1 < s := fun z => c_60 (hc.mpr z); rw [if_pos (by rw [show s = a + 1 by omega])]; exact RC_upd 5 j _ (by decide) (by decide) (by decide) hgo)
  · refine g_aload_n (nx := 64) 0 F dX6_goOn_63 rfl rfl rfl ?_
    refine g_getR (nx := 67) F dX6_goOn_64 rfl fl_RX6_27 rfl (by decide) (by decide) rfl ?_
    refine g_iload_n (nx := 68) 1 F dX6_goOn_67 rfl rfl rfl ?_
    refine g_aload_n (nx := 69) 0 F dX6_goOn_68 rfl rfl rfl ?_
    refine g_getV (nx := 72) (y) F dX6_goOn_69 rfl fl_RX6_54 rfl (by decide) (by decide) rfl rfl ((hr.2.1 12 (by decide) (by decide) (by decide) (by decide)).trans hy) ?_
    refine g_iastN (nx := 73) (j) F dX6_goOn_72 rfl rfl (by omega) ?_
    refine g_vret F E dX6_goOn_73 ?_
    refine ⟨rfl, ?_⟩
    have hgo := RC_goOn (by decide) hr hj hn ha hs hP
    have hc := nI_ltI (a := a + 1) (b := s) (by omega) (by omega)
    unfold goOnP
    rw [hP, show nI a + 1 = nI (a + 1) by rw [nI_1]]
    first
      | (have hc2 := hc.mp c_60; rw [if_neg (fun z => absurd ((nI_eq (by omega) (by omega)).mp z) (by omega))]; exact hgo)
      | (have hc2 : ¬ a + 1 < s := fun z => c_60 (hc.mpr z); rw [if_pos (by rw [show s = a + 1 by omega])]; exact RC_upd 5 j _ (by decide) (by decide) (by decide) hgo)
