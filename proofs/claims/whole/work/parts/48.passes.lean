def kA (q : Nat) : Nat := if q < 6 then 156 + q else 142 + q
def KR (σ0 τ P : zSt) : Prop :=
  (∀ a, a ≠ 145 → a ≠ 148 → a ≠ 149 → (a < 156 ∨ 161 < a) → a ≠ 175 → a ≠ 176 → τ a = σ0 a) ∧ (∀ k, k ≠ 5 → (k < 47 ∨ 50 < k) → τ 145 k = σ0 145 k) ∧ τ 145 5 = P 8 0 ∧ τ 145 50 = P 8 1 ∧ τ 145 49 = P 8 2 ∧ ∀ i, i < 8 → τ (kA i) = P i
def EnvK (σ D : zSt) (T : Nat → TXT) (s e : Nat) : Prop := σ 146 = D 0 ∧ σ 147 = D 1 ∧ σ 150 = D 2 ∧ σ 151 = D 3 ∧ σ 152 = D 4 ∧ σ 154 = D 5 ∧ σ 145 2 = nI s ∧ s ≤ 8 ∧ σ 145 1 = nI e ∧ (∀ i, i ≤ 10 → txK σ i (T i)) ∧ ∀ i, i ≤ 10 → txG (T i)
/-- who is there: the first n of f -/
def thK (σ : zSt) (n f : Nat) (y : Int32) : Prop := n ≤ f ∧ f ≤ 40 ∧ σ 145 3 = nI f ∧ σ 145 0 = y ∧ ∀ q, q < f → (σ 155 q ≤ y ↔ q < n)
theorem kA_ne {i : Nat} (h : i < 8) : kA i ≠ 145 ∧ (kA i = 148 ∨ kA i = 149 ∨ (156 ≤ kA i ∧ kA i ≤ 161)) := by
  unfold kA
  split <;> omega
theorem kA_inj {i j : Nat} (h : i < 8) (h2 : j < 8) (e : kA i = kA j) : i = j := by
  unfold kA at e
  split at e <;> split at e <;> omega
theorem EnvK_congr {σ τ D : zSt} {T : Nat → TXT} {s e : Nat} (h : ∀ a, a ≠ 145 → a ≠ 148 → a ≠ 149 → (a < 156 ∨ 161 < a) → a ≠ 175 → a ≠ 176 → τ a = σ a) (h1 : τ 145 1 = σ 145 1) (h2 : τ 145 2 = σ 145 2) (he : EnvK σ D T s e) : EnvK τ D T s e := by
  obtain ⟨a1, a2, a3, a4, a5, a6, a7, a8, a9, a10, a11⟩ := he
  unfold EnvK
  rw [h 146 (by omega) (by omega) (by omega) (by omega) (by omega) (by omega), h 147 (by omega) (by omega) (by omega) (by omega) (by omega) (by omega), h 150 (by omega) (by omega) (by omega) (by omega) (by omega) (by omega), h 151 (by omega) (by omega) (by omega) (by omega) (by omega) (by omega), h 152 (by omega) (by omega) (by omega) (by omega) (by omega) (by omega), h 154 (by omega) (by omega) (by omega) (by omega) (by omega) (by omega), h1, h2]
  exact ⟨a1, a2, a3, a4, a5, a6, a7, a8, a9, fun i hi => txK_congr (fun b b1 b2 => h b (by omega) (by omega) (by omega) (by omega) (by omega) (by omega)) (a10 i hi), a11⟩
theorem KR_env {σ0 τ P D : zSt} {T : Nat → TXT} {s e : Nat} (h : KR σ0 τ P) (he : EnvK σ0 D T s e) : EnvK τ D T s e := EnvK_congr h.1 (h.2.1 1 (by decide) (by decide)) (h.2.1 2 (by decide) (by decide)) he
theorem KR_th {σ0 τ P : zSt} {n f : Nat} {y : Int32} (h : KR σ0 τ P) (ht : thK σ0 n f y) : thK τ n f y := by
  obtain ⟨a1, a2, a3, a4, a5⟩ := ht
  refine ⟨a1, a2, (h.2.1 3 (by decide) (by decide)).trans a3, (h.2.1 0 (by decide) (by decide)).trans a4, ?_⟩
  rw [h.1 155 (by decide) (by decide) (by decide) (by decide) (by decide) (by decide)]
  exact a5
theorem KR_free {σ0 σ τ P : zSt} (h : KR σ0 σ P) (h1 : ∀ a, a ≠ 145 → a ≠ 175 → a ≠ 176 → τ a = σ a) (h2 : ∀ k, k ≠ 47 → k ≠ 48 → τ 145 k = σ 145 k) : KR σ0 τ P := by
  obtain ⟨r1, r2, r3, r4, r5, r6⟩ := h
  refine ⟨fun a a1 a2 a3 a4 a5 a6 => (h1 a a1 a5 a6).trans (r1 a a1 a2 a3 a4 a5 a6), fun k k1 k2 => (h2 k (by omega) (by omega)).trans (r2 k k1 k2), (h2 5 (by decide) (by decide)).trans r3, (h2 50 (by decide) (by decide)).trans r4, (h2 49 (by decide) (by decide)).trans r5, fun i hi => ?_⟩
  have := kA_ne hi
  rw [h1 _ (by omega) (by omega) (by omega)]
  exact r6 i hi
theorem KR_upd {σ0 σ P : zSt} (q j : Nat) (v : Int32) (hq : q < 8) (h : KR σ0 σ P) : KR σ0 (zu σ (kA q) j v) (zu P q j v) := by
  obtain ⟨r1, r2, r3, r4, r5, r6⟩ := h
  have hk := kA_ne hq
  refine ⟨fun a a1 a2 a3 a4 a5 a6 => (zu_ne _ (by omega) _ _).trans (r1 a a1 a2 a3 a4 a5 a6), fun k k1 k2 => by rw [zu_ne _ (by omega)]; exact r2 k k1 k2, by rw [zu_ne _ (by omega), zu_ne _ (by omega)]; exact r3, by rw [zu_ne _ (by omega), zu_ne _ (by omega)]; exact r4, by rw [zu_ne _ (by omega), zu_ne _ (by omega)]; exact r5, fun i hi => ?_⟩
  by_cases e : i = q
  · subst e
    rw [zu_at, zu_at, r6 i hi]
  · rw [zu_ne _ (fun z => e (kA_inj hi hq z)), zu_ne _ e]
    exact r6 i hi
theorem KR_fld {σ0 σ P : zSt} (q k : Nat) (v : Int32) (hq : (q = 5 ∧ k = 0) ∨ (q = 50 ∧ k = 1) ∨ (q = 49 ∧ k = 2)) (h : KR σ0 σ P) : KR σ0 (zu σ 145 q v) (zu P 8 k v) := by
  obtain ⟨r1, r2, r3, r4, r5, r6⟩ := h
  refine ⟨fun a a1 a2 a3 a4 a5 a6 => (zu_ne _ a1 _ _).trans (r1 a a1 a2 a3 a4 a5 a6), fun k k1 k2 => by rw [zu_off _ _ _ _ _ (by omega)]; exact r2 k k1 k2, ?_, ?_, ?_, fun i hi => ?_⟩
  · rcases hq with ⟨rfl, rfl⟩ | ⟨rfl, rfl⟩ | ⟨rfl, rfl⟩
    · rw [zu_same, zu_same]
    · rw [zu_off _ _ _ _ _ (by decide), zu_off _ _ _ _ _ (by decide)]; exact r3
    · rw [zu_off _ _ _ _ _ (by decide), zu_off _ _ _ _ _ (by decide)]; exact r3
  · rcases hq with ⟨rfl, rfl⟩ | ⟨rfl, rfl⟩ | ⟨rfl, rfl⟩
    · rw [zu_off _ _ _ _ _ (by decide), zu_off _ _ _ _ _ (by decide)]; exact r4
    · rw [zu_same, zu_same]
    · rw [zu_off _ _ _ _ _ (by decide), zu_off _ _ _ _ _ (by decide)]; exact r4
  · rcases hq with ⟨rfl, rfl⟩ | ⟨rfl, rfl⟩ | ⟨rfl, rfl⟩
    · rw [zu_off _ _ _ _ _ (by decide), zu_off _ _ _ _ _ (by decide)]; exact r5
    · rw [zu_off _ _ _ _ _ (by decide), zu_off _ _ _ _ _ (by decide)]; exact r5
    · rw [zu_same, zu_same]
  · have := kA_ne hi
    rw [zu_ne _ (by omega), zu_ne _ (by omega)]
    exact r6 i hi
theorem toI_sub {a b : Int32} (h1 : -2147483648 ≤ a.toInt - b.toInt) (h2 : a.toInt - b.toInt < 2147483648) : (a - b).toInt = a.toInt - b.toInt := by
  rw [Int32.toInt_sub, Int.bmod]
  split <;> omega
theorem toI_mul {a b : Int32} (h1 : -2147483648 ≤ a.toInt * b.toInt) (h2 : a.toInt * b.toInt < 2147483648) : (a * b).toInt = a.toInt * b.toInt := by
  rw [Int32.toInt_mul, Int.bmod]
  generalize a.toInt * b.toInt = z at *
  split <;> omega
theorem payQ_K {p w c r h m : Int32} {hN wN mN : Nat} (hp : 0 ≤ p) (hr : r = 0 ∨ r = 1) (hh : h = nI hN) (h2 : hN ≤ 200) (hw : w = nI wN) (h3 : wN ≤ 24) (hm : m = nI mN) (h4 : mN ≤ 1000) : (0 < p ∧ p ≤ c ∧ (¬ r = 1 ∨ p ≤ h * (w - m))) ↔ payQ p w c r h m := by
  have e1 : (w - m).toInt = (wN : Int) - mN := by
    rw [toI_sub] <;> rw [hw, hm, nI_toInt (by omega), nI_toInt (by omega)] <;> omega
  have hb : ((hN : Int) * ((wN : Int) - mN)) ≤ 200 * 24 ∧ -200000 ≤ ((hN : Int) * ((wN : Int) - mN)) := by
    constructor
    · refine Int.le_trans (Int.mul_le_mul_of_nonneg_left (show (wN : Int) - mN ≤ 24 by omega) (by omega)) ?_
      omega
    · refine Int.le_trans ?_ (Int.mul_le_mul_of_nonneg_left (show -1000 ≤ (wN : Int) - mN by omega) (by omega))
      omega
  have e2 : (h * (w - m)).toInt = (hN : Int) * ((wN : Int) - mN) := by
    have e0 : h.toInt = hN := by rw [hh, nI_toInt (by omega)]
    rw [toI_mul] <;> rw [e0, e1] <;> omega
  have e3 : (wN : Int) - mN ≤ 0 → (hN : Int) * ((wN : Int) - mN) ≤ 0 := fun z => by
    have := Int.mul_le_mul_of_nonneg_left z (show (0 : Int) ≤ hN by omega)
    rw [Int.mul_zero] at this
    exact this
  unfold payQ
  simp only [fa_lt, fa_le, fa_eq, ne_eq, e1, e2, Int32.toInt_zero] at *
  rw [show (1 : Int32).toInt = 1 from rfl] at *
  generalize (hN : Int) * ((wN : Int) - mN) = z at *
  omega
set_option maxHeartbeats 4000000 in
set_option maxRecDepth 100000 in
theorem k_isThere (q : Nat) (σ : zSt) (hq : q < 40) : Con mX12_isThere 0 [.ref 145, .int (nI q)] σ (fun r τ => r = some (.int (bI (σ 155 q ≤ σ 145 0))) ∧ τ = σ) := by
  refine Con.of (lv := [.ref 145, .int (nI q)]) mk_X12_isThere rfl (Nat.le_of_ble_eq_true rfl) rfl (fun X F E => ?_)
  refine g_aload_n (nx := 1) 0 F dX12_isThere_0 rfl rfl rfl ?_
  refine g_getR (nx := 4) F dX12_isThere_1 rfl fl_RX12_37 rfl (by decide) (by decide) rfl ?_
  refine g_iload_n (nx := 5) 1 F dX12_isThere_4 rfl rfl rfl ?_
  refine g_ialdN (nx := 6) (q) (_) F dX12_isThere_5 rfl rfl (by omega) (rfl) ?_
  refine g_aload_n (nx := 7) 0 F dX12_isThere_6 rfl rfl rfl ?_
  refine g_getI (nx := 10) F dX12_isThere_7 rfl fl_RX12_183 rfl (by decide) (by decide) rfl rfl ?_
  refine g_icmp_gt (nx := 13) 17 F dX12_isThere_10 rfl (by decide) (fun c_10 => ?_) (fun c_10 => ?_)
  · refine g_iconst (nx := 18) (0) F dX12_isThere_17 rfl rfl ?_
    refine g_zret F E dX12_isThere_18 (by first | rfl | assumption) ?_
    refine ⟨congrArg (fun z => some (Value.int z)) (Eq.symm ?_), rfl⟩
    first | exact bI_f (not_le_I.mpr c_10) | exact bI_t (not_lt_I.mp c_10)
  · refine g_iconst (nx := 14) (1) F dX12_isThere_13 rfl rfl ?_
    refine g_goto 18 F dX12_isThere_14 (by decide) ?_
    refine g_zret F E dX12_isThere_18 (by first | rfl | assumption) ?_
    refine ⟨congrArg (fun z => some (Value.int z)) (Eq.symm ?_), rfl⟩
    first | exact bI_f (not_le_I.mpr c_10) | exact bI_t (not_lt_I.mp c_10)
set_option maxHeartbeats 4000000 in
set_option maxRecDepth 100000 in
theorem k_feels (i j a n f : Nat) (x y : Int32) (σ : zSt) (hi : i < 10) (hj : j < 40) (ha : σ 156 j = nI a) (hth : thK σ n f y) : Con mX12_feels 1 [.ref 145, .int (nI i), .int (nI j), .int x] σ (fun r τ => r = none ∧ ∃ g, τ = zs σ 176 g ∧ ∀ k, k < 12 → g k = fcF (σ 152 j) (σ 157 j) (σ 154 j) (σ 158 j) (nI a) (σ 147 i) (σ 146 i) (nI i) (nI (cntN (σ 156) (nI a) n)) (σ 145 6) (σ 145 0) x k) := by
  refine Con.of (lv := [.ref 145, .int (nI i), .int (nI j), .int x, .long 0, .long 0, .long 0]) mk_X12_feels rfl (Nat.le_of_ble_eq_true rfl) rfl (fun X F E => ?_)
  obtain ⟨hnf, hf40, hf, hy, hth⟩ := hth
  have K : ∀ z : Value, Gs X 60 [.ref 145, .int (nI i), .int (nI j), .int x, .int (nI a), .int (nI (cntN (σ 156) (nI a) n)), z] [] σ := by
    intro z
    refine g_st (zs σ 176 (σ 176)) (zs_id σ 176 _ rfl).symm ?_
    refine g_aload_n (nx := 61) 0 F dX12_feels_60 rfl rfl rfl ?_
    refine g_getR (nx := 64) F dX12_feels_61 rfl fl_RX12_101 rfl (by decide) (by decide) rfl ?_
    refine g_iconst (nx := 65) (0) F dX12_feels_64 rfl rfl ?_
    refine g_aload_n (nx := 66) 0 F dX12_feels_65 rfl rfl rfl ?_
    refine g_getR (nx := 69) F dX12_feels_66 rfl fl_RX12_28 rfl (by decide) (by decide) rfl ?_
    refine g_iload_n (nx := 70) 2 F dX12_feels_69 rfl rfl rfl ?_
    refine g_ialdN (nx := 71) (j) (_) F dX12_feels_70 rfl rfl (by omega) (rfl) ?_
    show Gs X 71 _ (.int _ :: .int (nI 0) :: .ref 176 :: []) _
    refine g_iastN (nx := 72) (0) F dX12_feels_71 rfl rfl (by omega) ?_
    rw [zs_zu]
    refine g_aload_n (nx := 73) 0 F dX12_feels_72 rfl rfl rfl ?_
    refine g_getR (nx := 76) F dX12_feels_73 rfl fl_RX12_101 rfl (by decide) (by decide) rfl ?_
    refine g_iconst (nx := 77) (1) F dX12_feels_76 rfl rfl ?_
    refine g_aload_n (nx := 78) 0 F dX12_feels_77 rfl rfl rfl ?_
    refine g_getR (nx := 81) F dX12_feels_78 rfl fl_RX12_43 rfl (by decide) (by decide) rfl ?_
    refine g_iload_n (nx := 82) 2 F dX12_feels_81 rfl rfl rfl ?_
    refine g_ialdN (nx := 83) (j) (_) F dX12_feels_82 rfl rfl (by omega) (rfl) ?_
    show Gs X 83 _ (.int _ :: .int (nI 1) :: .ref 176 :: []) _
    refine g_iastN (nx := 84) (1) F dX12_feels_83 rfl rfl (by omega) ?_
    rw [zs_zu]
    refine g_aload_n (nx := 85) 0 F dX12_feels_84 rfl rfl rfl ?_
    refine g_getR (nx := 88) F dX12_feels_85 rfl fl_RX12_101 rfl (by decide) (by decide) rfl ?_
    refine g_iconst (nx := 89) (2) F dX12_feels_88 rfl rfl ?_
    refine g_aload_n (nx := 90) 0 F dX12_feels_89 rfl rfl rfl ?_
    refine g_getR (nx := 93) F dX12_feels_90 rfl fl_RX12_34 rfl (by decide) (by decide) rfl ?_
    refine g_iload_n (nx := 94) 2 F dX12_feels_93 rfl rfl rfl ?_
    refine g_ialdN (nx := 95) (j) (_) F dX12_feels_94 rfl rfl (by omega) (rfl) ?_
    show Gs X 95 _ (.int _ :: .int (nI 2) :: .ref 176 :: []) _
    refine g_iastN (nx := 96) (2) F dX12_feels_95 rfl rfl (by omega) ?_
    rw [zs_zu]
    refine g_aload_n (nx := 97) 0 F dX12_feels_96 rfl rfl rfl ?_
    refine g_getR (nx := 100) F dX12_feels_97 rfl fl_RX12_101 rfl (by decide) (by decide) rfl ?_
    refine g_iconst (nx := 101) (3) F dX12_feels_100 rfl rfl ?_
    refine g_aload_n (nx := 102) 0 F dX12_feels_101 rfl rfl rfl ?_
    refine g_getR (nx := 105) F dX12_feels_102 rfl fl_RX12_46 rfl (by decide) (by decide) rfl ?_
    refine g_iload_n (nx := 106) 2 F dX12_feels_105 rfl rfl rfl ?_
    refine g_ialdN (nx := 107) (j) (_) F dX12_feels_106 rfl rfl (by omega) (rfl) ?_
    show Gs X 107 _ (.int _ :: .int (nI 3) :: .ref 176 :: []) _
    refine g_iastN (nx := 108) (3) F dX12_feels_107 rfl rfl (by omega) ?_
    rw [zs_zu]
    refine g_aload_n (nx := 109) 0 F dX12_feels_108 rfl rfl rfl ?_
    refine g_getR (nx := 112) F dX12_feels_109 rfl fl_RX12_101 rfl (by decide) (by decide) rfl ?_
    refine g_iconst (nx := 113) (4) F dX12_feels_112 rfl rfl ?_
    refine g_iload (nx := 115) F dX12_feels_113 rfl rfl ?_
    show Gs X 115 _ (.int _ :: .int (nI 4) :: .ref 176 :: []) _
    refine g_iastN (nx := 116) (4) F dX12_feels_115 rfl rfl (by omega) ?_
    rw [zs_zu]
    refine g_aload_n (nx := 117) 0 F dX12_feels_116 rfl rfl rfl ?_
    refine g_getR (nx := 120) F dX12_feels_117 rfl fl_RX12_101 rfl (by decide) (by decide) rfl ?_
    refine g_iconst (nx := 121) (5) F dX12_feels_120 rfl rfl ?_
    refine g_aload_n (nx := 122) 0 F dX12_feels_121 rfl rfl rfl ?_
    refine g_getR (nx := 125) F dX12_feels_122 rfl fl_RX12_13 rfl (by decide) (by decide) rfl ?_
    refine g_iload_n (nx := 126) 1 F dX12_feels_125 rfl rfl rfl ?_
    refine g_ialdN (nx := 127) (i) (_) F dX12_feels_126 rfl rfl (by omega) (rfl) ?_
    show Gs X 127 _ (.int _ :: .int (nI 5) :: .ref 176 :: []) _
    refine g_iastN (nx := 128) (5) F dX12_feels_127 rfl rfl (by omega) ?_
    rw [zs_zu]
    refine g_aload_n (nx := 129) 0 F dX12_feels_128 rfl rfl rfl ?_
    refine g_getR (nx := 132) F dX12_feels_129 rfl fl_RX12_101 rfl (by decide) (by decide) rfl ?_
    refine g_bipush (nx := 134) (6) F dX12_feels_132 rfl (by decide) ?_
    refine g_aload_n (nx := 135) 0 F dX12_feels_134 rfl rfl rfl ?_
    refine g_getR (nx := 138) F dX12_feels_135 rfl fl_RX12_7 rfl (by decide) (by decide) rfl ?_
    refine g_iload_n (nx := 139) 1 F dX12_feels_138 rfl rfl rfl ?_
    refine g_ialdN (nx := 140) (i) (_) F dX12_feels_139 rfl rfl (by omega) (rfl) ?_
    show Gs X 140 _ (.int _ :: .int (nI 6) :: .ref 176 :: []) _
    refine g_iastN (nx := 141) (6) F dX12_feels_140 rfl rfl (by omega) ?_
    rw [zs_zu]
    refine g_aload_n (nx := 142) 0 F dX12_feels_141 rfl rfl rfl ?_
    refine g_getR (nx := 145) F dX12_feels_142 rfl fl_RX12_101 rfl (by decide) (by decide) rfl ?_
    refine g_bipush (nx := 147) (7) F dX12_feels_145 rfl (by decide) ?_
    refine g_iload_n (nx := 148) 1 F dX12_feels_147 rfl rfl rfl ?_
    show Gs X 148 _ (.int _ :: .int (nI 7) :: .ref 176 :: []) _
    refine g_iastN (nx := 149) (7) F dX12_feels_148 rfl rfl (by omega) ?_
    rw [zs_zu]
    refine g_aload_n (nx := 150) 0 F dX12_feels_149 rfl rfl rfl ?_
    refine g_getR (nx := 153) F dX12_feels_150 rfl fl_RX12_101 rfl (by decide) (by decide) rfl ?_
    refine g_bipush (nx := 155) (8) F dX12_feels_153 rfl (by decide) ?_
    refine g_iload (nx := 157) F dX12_feels_155 rfl rfl ?_
    show Gs X 157 _ (.int _ :: .int (nI 8) :: .ref 176 :: []) _
    refine g_iastN (nx := 158) (8) F dX12_feels_157 rfl rfl (by omega) ?_
    rw [zs_zu]
    refine g_aload_n (nx := 159) 0 F dX12_feels_158 rfl rfl rfl ?_
    refine g_getR (nx := 162) F dX12_feels_159 rfl fl_RX12_101 rfl (by decide) (by decide) rfl ?_
    refine g_bipush (nx := 164) (9) F dX12_feels_162 rfl (by decide) ?_
    refine g_aload_n (nx := 165) 0 F dX12_feels_164 rfl rfl rfl ?_
    refine g_getI (nx := 168) F dX12_feels_165 rfl fl_RX12_308 rfl (by decide) (by decide) rfl rfl ?_
    show Gs X 168 _ (.int _ :: .int (nI 9) :: .ref 176 :: []) _
    refine g_iastN (nx := 169) (9) F dX12_feels_168 rfl rfl (by omega) ?_
    rw [zs_zu]
    refine g_aload_n (nx := 170) 0 F dX12_feels_169 rfl rfl rfl ?_
    refine g_getR (nx := 173) F dX12_feels_170 rfl fl_RX12_101 rfl (by decide) (by decide) rfl ?_
    refine g_bipush (nx := 175) (10) F dX12_feels_173 rfl (by decide) ?_
    refine g_aload_n (nx := 176) 0 F dX12_feels_175 rfl rfl rfl ?_
    refine g_getI (nx := 179) F dX12_feels_176 rfl fl_RX12_183 rfl (by decide) (by decide) rfl rfl ?_
    show Gs X 179 _ (.int _ :: .int (nI 10) :: .ref 176 :: []) _
    refine g_iastN (nx := 180) (10) F dX12_feels_179 rfl rfl (by omega) ?_
    rw [zs_zu]
    refine g_aload_n (nx := 181) 0 F dX12_feels_180 rfl rfl rfl ?_
    refine g_getR (nx := 184) F dX12_feels_181 rfl fl_RX12_101 rfl (by decide) (by decide) rfl ?_
    refine g_bipush (nx := 186) (11) F dX12_feels_184 rfl (by decide) ?_
    refine g_iload_n (nx := 187) 3 F dX12_feels_186 rfl rfl rfl ?_
    show Gs X 187 _ (.int _ :: .int (nI 11) :: .ref 176 :: []) _
    refine g_iastN (nx := 188) (11) F dX12_feels_187 rfl rfl (by omega) ?_
    rw [zs_zu]
    refine g_vret F E dX12_feels_188 ?_
    refine ⟨rfl, _, rfl, fun k hk => ?_⟩
    match k, hk with
    | 0, _ => rfl
    | 1, _ => rfl
    | 2, _ => rfl
    | 3, _ => rfl
    | 4, _ => rfl
    | 5, _ => rfl
    | 6, _ => rfl
    | 7, _ => rfl
    | 8, _ => rfl
    | 9, _ => rfl
    | 10, _ => rfl
    | 11, _ => rfl
    | k + 12, hk => exact absurd hk (by omega)
  have L : ∀ (q k : Nat), k + q = f → Gs X 14 [.ref 145, .int (nI i), .int (nI j), .int x, .int (nI a), .int (nI (cntN (σ 156) (nI a) (min k n))), .int (nI k)] [] σ := by
    intro q
    induction q with
    | zero =>
      intro k hk
      have hk : k = f := hk
      subst hk
      rw [Nat.min_eq_right hnf]
      refine g_iload (nx := 16) F dX12_feels_14 rfl rfl ?_
      refine g_aload_n (nx := 17) 0 F dX12_feels_16 rfl rfl rfl ?_
      refine g_getV (nx := 20) (nI k) F dX12_feels_17 rfl fl_RX12_171 rfl (by decide) (by decide) rfl rfl (hf) ?_
      refine g_icmp_ge (nx := 23) 60 F dX12_feels_20 rfl (by decide) (fun c_20 => ?_) (fun c_20 => absurd c_20 (by exact fun zq => zq (nI_le (Nat.le_refl k) (by omega))))
      exact K _
    | succ q ih =>
      intro k hk
      have hk2 := hth k (by omega)
      rw [← hy] at hk2
      have ih := ih (k + 1) (by omega)
      refine g_iload (nx := 16) F dX12_feels_14 rfl rfl ?_
      refine g_aload_n (nx := 17) 0 F dX12_feels_16 rfl rfl rfl ?_
      refine g_getV (nx := 20) (nI f) F dX12_feels_17 rfl fl_RX12_171 rfl (by decide) (by decide) rfl rfl (hf) ?_
      refine g_icmp_ge (nx := 23) 60 F dX12_feels_20 rfl (by decide) (fun c_20 => absurd c_20 (by exact nI_ge (by omega) (by omega))) (fun c_20 => ?_)
      refine g_iload (nx := 25) F dX12_feels_23 rfl rfl ?_
      refine g_aload_n (nx := 26) 0 F dX12_feels_25 rfl rfl rfl ?_
      refine g_iload (nx := 28) F dX12_feels_26 rfl rfl ?_
      refine g_callV (nx := 31) 1 0 [.int (nI k)] F dX12_feels_28 rfl ml_RX12_305 mo_X12_isThere rfl rfl rfl rfl (Nat.le_of_ble_eq_true rfl) (by first | decide | omega) (k_isThere k _ (by omega)) (fun r_28 τ_28 q_28 => ?_)
      obtain ⟨rfl, et_28⟩ := q_28
      have et_28 := et_28.symm
      subst et_28
      dsimp only [Option.toList, List.append, List.cons_append, List.nil_append]
      refine g_if_eq (nx := 34) 50 F dX12_feels_31 rfl (by decide) (fun c_31 => ?_) (fun c_31 => ?_)
      · refine g_iconst (nx := 51) (0) F dX12_feels_50 rfl rfl ?_
        refine g_iadd (nx := 52) F dX12_feels_51 rfl ?_
        refine g_istore (nx := 54) F dX12_feels_52 rfl (by decide) ?_
        try dsimp only [List.set]
        refine g_iinc (nx := 57) (1) F dX12_feels_54 rfl rfl (by decide) (by decide) ?_
        try dsimp only [List.set]
        refine g_goto 14 F dX12_feels_57 (by decide) ?_
        rw [nI_1]
        first
          | (have hq : ¬ k < n := fun z => bI_0.mp c_31 (hk2.mpr z); rw [Int32.add_zero, Nat.min_eq_right (by omega)]; rw [Nat.min_eq_right (by omega)] at ih; exact ih)
          | (have hq : k < n := hk2.mp (bI_n0.mp c_31); have hq2 : σ 156 k = nI a := c_43; rw [Nat.min_eq_left (by omega), nI_1]; rw [Nat.min_eq_left (by omega), cntN, if_pos hq2] at ih; exact ih)
          | (have hq : k < n := hk2.mp (bI_n0.mp c_31); have hq2 : ¬ σ 156 k = nI a := c_43; rw [Nat.min_eq_left (by omega), Int32.add_zero]; rw [Nat.min_eq_left (by omega), cntN, if_neg hq2] at ih; exact ih)
      · refine g_aload_n (nx := 35) 0 F dX12_feels_34 rfl rfl rfl ?_
        refine g_getR (nx := 38) F dX12_feels_35 rfl fl_RX12_40 rfl (by decide) (by decide) rfl ?_
        refine g_iload (nx := 40) F dX12_feels_38 rfl rfl ?_
        refine g_ialdN (nx := 41) (k) (σ 156 k) F dX12_feels_40 rfl rfl (by omega) (rfl) ?_
        refine g_iload (nx := 43) F dX12_feels_41 rfl rfl ?_
        refine g_icmp_ne (nx := 46) 50 F dX12_feels_43 rfl (by decide) (fun c_43 => ?_) (fun c_43 => ?_)
        · refine g_iconst (nx := 51) (0) F dX12_feels_50 rfl rfl ?_
          refine g_iadd (nx := 52) F dX12_feels_51 rfl ?_
          refine g_istore (nx := 54) F dX12_feels_52 rfl (by decide) ?_
          try dsimp only [List.set]
          refine g_iinc (nx := 57) (1) F dX12_feels_54 rfl rfl (by decide) (by decide) ?_
          try dsimp only [List.set]
          refine g_goto 14 F dX12_feels_57 (by decide) ?_
          rw [nI_1]
          first
            | (have hq : ¬ k < n := fun z => bI_0.mp c_31 (hk2.mpr z); rw [Int32.add_zero, Nat.min_eq_right (by omega)]; rw [Nat.min_eq_right (by omega)] at ih; exact ih)
            | (have hq : k < n := hk2.mp (bI_n0.mp c_31); have hq2 : σ 156 k = nI a := c_43; rw [Nat.min_eq_left (by omega), nI_1]; rw [Nat.min_eq_left (by omega), cntN, if_pos hq2] at ih; exact ih)
            | (have hq : k < n := hk2.mp (bI_n0.mp c_31); have hq2 : ¬ σ 156 k = nI a := c_43; rw [Nat.min_eq_left (by omega), Int32.add_zero]; rw [Nat.min_eq_left (by omega), cntN, if_neg hq2] at ih; exact ih)
        · refine g_iconst (nx := 47) (1) F dX12_feels_46 rfl rfl ?_
          refine g_goto 51 F dX12_feels_47 (by decide) ?_
          refine g_iadd (nx := 52) F dX12_feels_51 rfl ?_
          refine g_istore (nx := 54) F dX12_feels_52 rfl (by decide) ?_
          try dsimp only [List.set]
          refine g_iinc (nx := 57) (1) F dX12_feels_54 rfl rfl (by decide) (by decide) ?_
          try dsimp only [List.set]
          refine g_goto 14 F dX12_feels_57 (by decide) ?_
          rw [nI_1]
          first
            | (have hq : ¬ k < n := fun z => bI_0.mp c_31 (hk2.mpr z); rw [Int32.add_zero, Nat.min_eq_right (by omega)]; rw [Nat.min_eq_right (by omega)] at ih; exact ih)
            | (have hq : k < n := hk2.mp (bI_n0.mp c_31); have hq2 : σ 156 k = nI a := c_43; rw [Nat.min_eq_left (by omega), nI_1]; rw [Nat.min_eq_left (by omega), cntN, if_pos hq2] at ih; exact ih)
            | (have hq : k < n := hk2.mp (bI_n0.mp c_31); have hq2 : ¬ σ 156 k = nI a := c_43; rw [Nat.min_eq_left (by omega), Int32.add_zero]; rw [Nat.min_eq_left (by omega), cntN, if_neg hq2] at ih; exact ih)
  refine g_aload_n (nx := 1) 0 F dX12_feels_0 rfl rfl rfl ?_
  refine g_getR (nx := 4) F dX12_feels_1 rfl fl_RX12_40 rfl (by decide) (by decide) rfl ?_
  refine g_iload_n (nx := 5) 2 F dX12_feels_4 rfl rfl rfl ?_
  refine g_ialdN (nx := 6) (j) (nI a) F dX12_feels_5 rfl rfl (by omega) (ha) ?_
  refine g_istore (nx := 8) F dX12_feels_6 rfl (by decide) ?_
  try dsimp only [List.set]
  refine g_iconst (nx := 9) (0) F dX12_feels_8 rfl rfl ?_
  refine g_istore (nx := 11) F dX12_feels_9 rfl (by decide) ?_
  try dsimp only [List.set]
  refine g_iconst (nx := 12) (0) F dX12_feels_11 rfl rfl ?_
  refine g_istore (nx := 14) F dX12_feels_12 rfl (by decide) ?_
  try dsimp only [List.set]
  have := L f 0 (by omega)
  rw [Nat.zero_min] at this
  exact this
theorem fcK {T : Nat → TXT} {D P σ0 σ : zSt} {n f s e a : Nat} {o y : Int32} {i j : Nat} {x : Int32} (he : EnvK σ D T s e) (hr : KR σ0 σ P) (hth : thK σ n f y) (ho : σ0 145 6 = o) (hP : P 0 j = nI a) : fcF (σ 152 j) (σ 157 j) (σ 154 j) (σ 158 j) (nI a) (σ 147 i) (σ 146 i) (nI i) (nI (cntN (σ 156) (nI a) n)) (σ 145 6) (σ 145 0) x = fcP D P n o y i j x := by
  obtain ⟨h1, h2, h3, h4, h5, h6, _⟩ := he
  obtain ⟨r1, r2, r3, r4, r5, r6⟩ := hr
  unfold fcP
  rw [h1, h2, h5, h6, show σ 157 = P 1 from r6 1 (by decide), show σ 158 = P 2 from r6 2 (by decide), show σ 156 = P 0 from r6 0 (by decide), r2 6 (by decide) (by decide), hth.2.2.2.1, ho, hP]
set_option maxHeartbeats 4000000 in
set_option maxRecDepth 100000 in
theorem k_asksOf (T : Nat → TXT) (D P σ0 : zSt) (n f s e a : Nat) (o y : Int32) (i j : Nat) (σ : zSt) (he : EnvK σ D T s e) (hr : KR σ0 σ P) (hth : thK σ n f y) (ho : σ0 145 6 = o) (hi : i < 10) (hj : j < n) (ha : a ≤ s) (hP : P 0 j = nI a) : Con mX12_asksOf 3 [.ref 145, .int (nI i), .int (nI j)] σ (fun r τ => r = none ∧ KR σ0 τ P ∧ τ 145 47 = prP T D P n o y i j ∧ τ 145 48 = wtP T D P n o y i j) := by
  have hnf := hth.1
  have hf40 := hth.2.1
  refine Con.of (lv := [.ref 145, .int (nI i), .int (nI j)]) mk_X12_asksOf rfl (Nat.le_of_ble_eq_true rfl) rfl (fun X F E => ?_)
  refine g_aload_n (nx := 1) 0 F dX12_asksOf_0 rfl rfl rfl ?_
  refine g_iload_n (nx := 2) 1 F dX12_asksOf_1 rfl rfl rfl ?_
  refine g_iload_n (nx := 3) 2 F dX12_asksOf_2 rfl rfl rfl ?_
  refine g_iconst (nx := 4) (0) F dX12_asksOf_3 rfl rfl ?_
  refine g_callV (nx := 7) 3 1 [.int (nI i), .int (nI j), .int 0] F dX12_asksOf_4 rfl ml_RX12_311 mo_X12_feels rfl rfl rfl rfl (Nat.le_of_ble_eq_true rfl) (by first | decide | omega) (k_feels i j a n f 0 y _ hi (by omega) ((congrFun (hr.2.2.2.2.2 0 (by decide)) j).trans hP) hth) (fun r_4 τ_4 q_4 => ?_)
  obtain ⟨rfl, g_4, et_4, hg_4⟩ := q_4
  subst et_4
  dsimp only [Option.toList, List.append, List.cons_append, List.nil_append]
  refine g_aload_n (nx := 8) 0 F dX12_asksOf_7 rfl rfl rfl ?_
  refine g_aload_n (nx := 9) 0 F dX12_asksOf_8 rfl rfl rfl ?_
  refine g_iload_n (nx := 10) 1 F dX12_asksOf_9 rfl rfl rfl ?_
  refine g_bipush (nx := 12) (97) F dX12_asksOf_10 rfl (by decide) ?_
  refine g_sipush (nx := 15) (10000) F dX12_asksOf_12 rfl (by decide) ?_
  refine g_callV (nx := 18) 3 2 [.int (nI i), .int (nI 97), .int 10000] F dX12_asksOf_15 rfl ml_RX12_315 mo_X12_byText rfl rfl rfl rfl (Nat.le_of_ble_eq_true rfl) (by first | decide | omega) (k_byTextT i 97 (T i) 10000 _ (by omega) (he.2.2.2.2.2.2.2.2.2.2 i (by omega)) (txK_congr (fun b b1 b2 => zs_ne _ (by omega) _) (he.2.2.2.2.2.2.2.2.2.1 i (by omega))) (by decide)) (fun r_15 τ_15 q_15 => ?_)
  obtain ⟨⟨g_15, et_15⟩, rfl⟩ := q_15
  subst et_15
  dsimp only [Option.toList, List.append, List.cons_append, List.nil_append]
  refine g_putI (nx := 21) F dX12_asksOf_18 rfl fl_RX12_318 fi_11_47 rfl (by decide) (by decide) rfl rfl ?_
  refine g_aload_n (nx := 22) 0 F dX12_asksOf_21 rfl rfl rfl ?_
  refine g_aload_n (nx := 23) 0 F dX12_asksOf_22 rfl rfl rfl ?_
  refine g_iload_n (nx := 24) 1 F dX12_asksOf_23 rfl rfl rfl ?_
  refine g_bipush (nx := 26) (119) F dX12_asksOf_24 rfl (by decide) ?_
  refine g_bipush (nx := 28) (24) F dX12_asksOf_26 rfl (by decide) ?_
  refine g_callV (nx := 31) 3 2 [.int (nI i), .int (nI 119), .int 24] F dX12_asksOf_28 rfl ml_RX12_315 mo_X12_byText rfl rfl rfl rfl (Nat.le_of_ble_eq_true rfl) (by first | decide | omega) (k_byTextT i 119 (T i) 24 _ (by omega) (he.2.2.2.2.2.2.2.2.2.2 i (by omega)) (txK_congr (fun b b1 b2 => by rw [zu_ne _ (by omega), zs_ne _ (by omega), zs_ne _ (by omega)]) (he.2.2.2.2.2.2.2.2.2.1 i (by omega))) (by decide)) (fun r_28 τ_28 q_28 => ?_)
  obtain ⟨⟨g_28, et_28⟩, rfl⟩ := q_28
  subst et_28
  dsimp only [Option.toList, List.append, List.cons_append, List.nil_append]
  refine g_putI (nx := 34) F dX12_asksOf_31 rfl fl_RX12_321 fi_11_48 rfl (by decide) (by decide) rfl rfl ?_
  refine g_vret F E dX12_asksOf_34 ?_
  refine ⟨rfl, KR_free hr (fun b b1 b2 b3 => ?_) (fun k k1 k2 => ?_), ?_, ?_⟩
  · rw [zu_ne _ b1, zs_ne _ b2, zu_ne _ b1, zs_ne _ b2, zs_ne _ b3]
  · rw [zu_off _ _ _ _ _ k2, zs_ne _ (by decide), zu_off _ _ _ _ _ k1, zs_ne _ (by decide), zs_ne _ (by decide)]
  · exact pkF_congr (he.2.2.2.2.2.2.2.2.2.2 i (by omega)).1 (fun k hk => (hg_4 k hk).trans (congrFun (fcK he hr hth ho hP) k))
  · exact pkF_congr (he.2.2.2.2.2.2.2.2.2.2 i (by omega)).1 (fun k hk => (hg_4 k hk).trans (congrFun (fcK he hr hth ho hP) k))
theorem lo_e : ∀ e, e ≤ 10 → ∀ c, c < 2 ^ e → ∀ b, b < bcN c → loF c e 0 b = loF c 10 0 b ∧ (loF c e 0 b < e) := by decide +kernel
def bcR (c : Nat) : Nat → Nat → Nat
  | 0, _ => 0
  | q + 1, i => c / 2 ^ i % 2 + bcR c q (i + 1)
theorem bcR_e : ∀ e, e ≤ 10 → ∀ c, c < 2 ^ e → bcR c e 0 = bcN c := by decide +kernel
set_option maxHeartbeats 4000000 in
set_option maxRecDepth 100000 in
theorem k_lowest (e c b0 : Nat) (σ : zSt) (h1 : σ 145 1 = nI e) (he : e ≤ 10) (hc : c < 2 ^ e) (hb : b0 < bcN c) : Con mX12_lowest 0 [.ref 145, .int (nI c), .int (nI b0)] σ (fun r τ => r = some (.int (nI (loF c 10 0 b0))) ∧ τ = σ) := by
  rw [← (lo_e e he c hc b0 hb).1]
  refine Con.of (lv := [.ref 145, .int (nI c), .int (nI b0), .long 0, .long 0]) mk_X12_lowest rfl (Nat.le_of_ble_eq_true rfl) rfl (fun X F E => ?_)
  have h2 : c < 1024 := Nat.lt_of_lt_of_le hc (show 2 ^ e ≤ 2 ^ 10 from Nat.pow_le_pow_right (by decide) he)
  have L : ∀ (q i b : Nat) (z : Value), i + q = e → b < bcR c q i → b < 1000 → loF c q i b = loF c e 0 b0 → Gs X 5 [.ref 145, .int (nI c), z, .int (nI b), .int (nI i)] [] σ := by
    intro q
    induction q with
    | zero =>
      intro i b z hi hb _ _
      exact absurd hb (Nat.not_lt_zero _)
    | succ q ih =>
      intro i b z hi hb hb1 hA
      have hbit := bit_ok c h2 i (by omega)
      rw [loF] at hA
      rw [bcR] at hb
      refine g_iload (nx := 7) F dX12_lowest_5 rfl rfl ?_
      refine g_aload_n (nx := 8) 0 F dX12_lowest_7 rfl rfl rfl ?_
      refine g_getV (nx := 11) (nI e) F dX12_lowest_8 rfl fl_RX12_165 rfl (by decide) (by decide) rfl rfl (h1) ?_
      refine g_icmp_ge (nx := 14) 43 F dX12_lowest_11 rfl (by decide) (fun c_11 => absurd c_11 (by exact nI_ge (b := e) (by omega) (by omega))) (fun c_11 => ?_)
      refine g_iload_n (nx := 15) 1 F dX12_lowest_14 rfl rfl rfl ?_
      refine g_iload (nx := 17) F dX12_lowest_15 rfl rfl ?_
      refine g_ishr (nx := 18) F dX12_lowest_17 rfl ?_
      refine g_iconst (nx := 19) (1) F dX12_lowest_18 rfl rfl ?_
      refine g_iand (nx := 20) F dX12_lowest_19 rfl ?_
      rw [hbit]
      refine g_if_ne (nx := 23) 26 F dX12_lowest_20 rfl (by decide) (fun c_20 => ?_) (fun c_20 => ?_)
      · refine g_iload_n (nx := 27) 3 F dX12_lowest_26 rfl rfl rfl ?_
        refine g_if_ne (nx := 30) 33 F dX12_lowest_27 rfl (by decide) (fun c_27 => ?_) (fun c_27 => ?_)
        · refine g_iload_n (nx := 34) 3 F dX12_lowest_33 rfl rfl rfl ?_
          refine g_iconst (nx := 35) (1) F dX12_lowest_34 rfl rfl ?_
          refine g_isub (nx := 36) F dX12_lowest_35 rfl ?_
          skip
          refine g_istore_n (nx := 37) 3 F dX12_lowest_36 rfl rfl (by decide) ?_
          try dsimp only [List.set]
          refine g_iinc (nx := 40) (1) F dX12_lowest_37 rfl rfl (by decide) (by decide) ?_
          try dsimp only [List.set]
          refine g_goto 5 F dX12_lowest_40 (by decide) ?_
          rw [nI_1]
          first
            | (have hq := (bt_0 _).mp c_20; rw [if_neg hq] at hA; exact ih (i + 1) b _ (by omega) (by omega) hb1 hA)
            | (have hq := Classical.byContradiction (fun z0 => c_20 ((bt_0 _).mpr z0)); have hb0 : b ≠ 0 := (by intro z0; subst z0; exact c_27 rfl); obtain ⟨b, rfl⟩ : ∃ b2, b = b2 + 1 := ⟨b - 1, by omega⟩; rw [nI_pred]; rw [if_pos hq, if_neg hb0] at hA; exact ih (i + 1) b _ (by omega) (by omega) (by omega) hA)
        · refine g_iload (nx := 32) F dX12_lowest_30 rfl rfl ?_
          refine g_iret F E dX12_lowest_32 ?_
          have hq := Classical.byContradiction (fun z0 => c_20 ((bt_0 _).mpr z0))
          rw [if_pos hq, if_pos (by apply Classical.byContradiction; intro z0; exact nI_ne0 (by omega) (by omega) c_27)] at hA
          exact ⟨by rw [← hA, ], rfl⟩
      · refine g_goto 37 F dX12_lowest_23 (by decide) ?_
        refine g_iinc (nx := 40) (1) F dX12_lowest_37 rfl rfl (by decide) (by decide) ?_
        try dsimp only [List.set]
        refine g_goto 5 F dX12_lowest_40 (by decide) ?_
        rw [nI_1]
        first
          | (have hq := (bt_0 _).mp c_20; rw [if_neg hq] at hA; exact ih (i + 1) b _ (by omega) (by omega) hb1 hA)
          | (have hq := Classical.byContradiction (fun z0 => c_20 ((bt_0 _).mpr z0)); have hb0 : b ≠ 0 := (by intro z0; subst z0; exact c_27 rfl); obtain ⟨b, rfl⟩ : ∃ b2, b = b2 + 1 := ⟨b - 1, by omega⟩; rw [nI_pred]; rw [if_pos hq, if_neg hb0] at hA; exact ih (i + 1) b _ (by omega) (by omega) (by omega) hA)
  refine g_iload_n (nx := 1) 2 F dX12_lowest_0 rfl rfl rfl ?_
  refine g_istore_n (nx := 2) 3 F dX12_lowest_1 rfl rfl (by decide) ?_
  try dsimp only [List.set]
  refine g_iconst (nx := 3) (0) F dX12_lowest_2 rfl rfl ?_
  refine g_istore (nx := 5) F dX12_lowest_3 rfl (by decide) ?_
  try dsimp only [List.set]
  exact L e 0 b0 _ (by omega) (by rw [bcR_e e he c hc]; exact hb) (by have := bcN_le c h2; omega) rfl
