/-! ODDS, THOSE -/
def chL (n k : Int32) : Nat → Int32
  | 0 => 1
  | j + 1 => chL n k j * (n - k + nI (j + 1)) / nI (j + 1)
def chF (N K : Nat) : Int32 := if N < K then 0 else chL (nI N) (nI K) K
def eu : Nat → Nat → Nat → Nat
  | 0, a, _ => a
  | f + 1, a, b => if b = 0 then a else eu f b (a % b)
set_option maxHeartbeats 4000000 in
set_option maxRecDepth 100000 in
theorem c_choose (N K : Nat) (hN : N ≤ 10) (hK : K ≤ 10) (σ : zSt) : Con mX3_choose 0 [.int (nI N), .int (nI K)] σ (fun r τ => r = some (.int (chF N K)) ∧ τ = σ) := by
  refine Con.of (lv := [.int (nI N), .int (nI K), .long 0, .long 0]) mk_X3_choose rfl (Nat.le_of_ble_eq_true rfl) rfl (fun X F E => ?_)
  by_cases hlt : N < K
  · refine g_iload_n (nx := 1) 1 F dX3_choose_0 rfl rfl rfl ?_
    refine g_if_lt (nx := 4) 9 F dX3_choose_1 rfl (by decide) (fun c_1 => absurd c_1 (by exact nI_pos (by omega))) (fun c_1 => ?_)
    refine g_iload_n (nx := 5) 1 F dX3_choose_4 rfl rfl rfl ?_
    refine g_iload_n (nx := 6) 0 F dX3_choose_5 rfl rfl rfl ?_
    refine g_icmp_le (nx := 9) 11 F dX3_choose_6 rfl (by decide) (fun c_6 => absurd c_6 (by exact nI_ge hlt (by omega))) (fun c_6 => ?_)
    refine g_iconst (nx := 10) (0) F dX3_choose_9 rfl rfl ?_
    refine g_iret F E dX3_choose_10 ?_
    exact ⟨by rw [chF, if_pos hlt], rfl⟩
  · have hKi : (nI K).toInt = (K : Int) := nI_toInt (by omega)
    have hNi : (nI N).toInt = (N : Int) := nI_toInt (by omega)
    have L : ∀ (f j : Nat), K = j + f → Gs X 15 [.int (nI N), .int (nI K), .int (chL (nI N) (nI K) j), .int (nI (j + 1))] [] σ := by
      intro f
      induction f with
      | zero =>
        intro j hj
        refine g_iload_n (nx := 16) 3 F dX3_choose_15 rfl rfl rfl ?_
        refine g_iload_n (nx := 17) 1 F dX3_choose_16 rfl rfl rfl ?_
        refine g_icmp_gt (nx := 20) 36 F dX3_choose_17 rfl (by decide) (fun c_17 => ?_) (fun c_17 => absurd (nI_lt (a := K) (b := j + 1) (by omega) (by omega)) c_17)
        refine g_iload_n (nx := 37) 2 F dX3_choose_36 rfl rfl rfl ?_
        refine g_iret F E dX3_choose_37 ?_
        have e : K = j := hj
        subst e
        exact ⟨by rw [chF, if_neg hlt], rfl⟩
      | succ f ih =>
        intro j hj
        refine g_iload_n (nx := 16) 3 F dX3_choose_15 rfl rfl rfl ?_
        refine g_iload_n (nx := 17) 1 F dX3_choose_16 rfl rfl rfl ?_
        refine g_icmp_gt (nx := 20) 36 F dX3_choose_17 rfl (by decide) (fun c_17 => absurd c_17 (by exact nI_nlt (by omega) (by omega))) (fun c_17 => ?_)
        refine g_iload_n (nx := 21) 2 F dX3_choose_20 rfl rfl rfl ?_
        refine g_iload_n (nx := 22) 0 F dX3_choose_21 rfl rfl rfl ?_
        refine g_iload_n (nx := 23) 1 F dX3_choose_22 rfl rfl rfl ?_
        refine g_isub (nx := 24) F dX3_choose_23 rfl ?_
        refine g_iload_n (nx := 25) 3 F dX3_choose_24 rfl rfl rfl ?_
        refine g_iadd (nx := 26) F dX3_choose_25 rfl ?_
        refine g_imul (nx := 27) F dX3_choose_26 rfl ?_
        refine g_iload_n (nx := 28) 3 F dX3_choose_27 rfl rfl rfl ?_
        refine g_idiv (nx := 29) F dX3_choose_28 rfl (by exact nI_ne0 (by omega) (by omega)) ?_
        refine g_istore_n (nx := 30) 2 F dX3_choose_29 rfl rfl (by decide) ?_
        try dsimp only [List.set]
        refine g_iinc (nx := 33) (1) F dX3_choose_30 rfl rfl (by decide) (by decide) ?_
        try dsimp only [List.set]
        refine g_goto 15 F dX3_choose_33 (by decide) ?_
        rw [nI_1]
        exact ih (j + 1) (by omega)
    refine g_iload_n (nx := 1) 1 F dX3_choose_0 rfl rfl rfl ?_
    refine g_if_lt (nx := 4) 9 F dX3_choose_1 rfl (by decide) (fun c_1 => absurd c_1 (by exact nI_pos (by omega))) (fun c_1 => ?_)
    refine g_iload_n (nx := 5) 1 F dX3_choose_4 rfl rfl rfl ?_
    refine g_iload_n (nx := 6) 0 F dX3_choose_5 rfl rfl rfl ?_
    refine g_icmp_le (nx := 9) 11 F dX3_choose_6 rfl (by decide) (fun c_6 => ?_) (fun c_6 => absurd c_6 (by exact fun q => q (nI_le (by omega) (by omega))))
    refine g_iconst (nx := 12) (1) F dX3_choose_11 rfl rfl ?_
    refine g_istore_n (nx := 13) 2 F dX3_choose_12 rfl rfl (by decide) ?_
    try dsimp only [List.set]
    refine g_iconst (nx := 14) (1) F dX3_choose_13 rfl rfl ?_
    refine g_istore_n (nx := 15) 3 F dX3_choose_14 rfl rfl (by decide) ?_
    try dsimp only [List.set]
    exact L K 0 (by omega)
set_option maxHeartbeats 4000000 in
set_option maxRecDepth 100000 in
theorem k_choose (N K : Nat) (hN : N ≤ 10) (hK : K ≤ 10) (σ : zSt) : Con mX12_choose 0 [.int (nI N), .int (nI K)] σ (fun r τ => r = some (.int (chF N K)) ∧ τ = σ) := by
  refine Con.of (lv := [.int (nI N), .int (nI K), .long 0, .long 0]) mk_X12_choose rfl (Nat.le_of_ble_eq_true rfl) rfl (fun X F E => ?_)
  by_cases hlt : N < K
  · refine g_iload_n (nx := 1) 1 F dX12_choose_0 rfl rfl rfl ?_
    refine g_if_lt (nx := 4) 9 F dX12_choose_1 rfl (by decide) (fun c_1 => absurd c_1 (by exact nI_pos (by omega))) (fun c_1 => ?_)
    refine g_iload_n (nx := 5) 1 F dX12_choose_4 rfl rfl rfl ?_
    refine g_iload_n (nx := 6) 0 F dX12_choose_5 rfl rfl rfl ?_
    refine g_icmp_le (nx := 9) 11 F dX12_choose_6 rfl (by decide) (fun c_6 => absurd c_6 (by exact nI_ge hlt (by omega))) (fun c_6 => ?_)
    refine g_iconst (nx := 10) (0) F dX12_choose_9 rfl rfl ?_
    refine g_iret F E dX12_choose_10 ?_
    exact ⟨by rw [chF, if_pos hlt], rfl⟩
  · have hKi : (nI K).toInt = (K : Int) := nI_toInt (by omega)
    have hNi : (nI N).toInt = (N : Int) := nI_toInt (by omega)
    have L : ∀ (f j : Nat), K = j + f → Gs X 15 [.int (nI N), .int (nI K), .int (chL (nI N) (nI K) j), .int (nI (j + 1))] [] σ := by
      intro f
      induction f with
      | zero =>
        intro j hj
        refine g_iload_n (nx := 16) 3 F dX12_choose_15 rfl rfl rfl ?_
        refine g_iload_n (nx := 17) 1 F dX12_choose_16 rfl rfl rfl ?_
        refine g_icmp_gt (nx := 20) 36 F dX12_choose_17 rfl (by decide) (fun c_17 => ?_) (fun c_17 => absurd (nI_lt (a := K) (b := j + 1) (by omega) (by omega)) c_17)
        refine g_iload_n (nx := 37) 2 F dX12_choose_36 rfl rfl rfl ?_
        refine g_iret F E dX12_choose_37 ?_
        have e : K = j := hj
        subst e
        exact ⟨by rw [chF, if_neg hlt], rfl⟩
      | succ f ih =>
        intro j hj
        refine g_iload_n (nx := 16) 3 F dX12_choose_15 rfl rfl rfl ?_
        refine g_iload_n (nx := 17) 1 F dX12_choose_16 rfl rfl rfl ?_
        refine g_icmp_gt (nx := 20) 36 F dX12_choose_17 rfl (by decide) (fun c_17 => absurd c_17 (by exact nI_nlt (by omega) (by omega))) (fun c_17 => ?_)
        refine g_iload_n (nx := 21) 2 F dX12_choose_20 rfl rfl rfl ?_
        refine g_iload_n (nx := 22) 0 F dX12_choose_21 rfl rfl rfl ?_
        refine g_iload_n (nx := 23) 1 F dX12_choose_22 rfl rfl rfl ?_
        refine g_isub (nx := 24) F dX12_choose_23 rfl ?_
        refine g_iload_n (nx := 25) 3 F dX12_choose_24 rfl rfl rfl ?_
        refine g_iadd (nx := 26) F dX12_choose_25 rfl ?_
        refine g_imul (nx := 27) F dX12_choose_26 rfl ?_
        refine g_iload_n (nx := 28) 3 F dX12_choose_27 rfl rfl rfl ?_
        refine g_idiv (nx := 29) F dX12_choose_28 rfl (by exact nI_ne0 (by omega) (by omega)) ?_
        refine g_istore_n (nx := 30) 2 F dX12_choose_29 rfl rfl (by decide) ?_
        try dsimp only [List.set]
        refine g_iinc (nx := 33) (1) F dX12_choose_30 rfl rfl (by decide) (by decide) ?_
        try dsimp only [List.set]
        refine g_goto 15 F dX12_choose_33 (by decide) ?_
        rw [nI_1]
        exact ih (j + 1) (by omega)
    refine g_iload_n (nx := 1) 1 F dX12_choose_0 rfl rfl rfl ?_
    refine g_if_lt (nx := 4) 9 F dX12_choose_1 rfl (by decide) (fun c_1 => absurd c_1 (by exact nI_pos (by omega))) (fun c_1 => ?_)
    refine g_iload_n (nx := 5) 1 F dX12_choose_4 rfl rfl rfl ?_
    refine g_iload_n (nx := 6) 0 F dX12_choose_5 rfl rfl rfl ?_
    refine g_icmp_le (nx := 9) 11 F dX12_choose_6 rfl (by decide) (fun c_6 => ?_) (fun c_6 => absurd c_6 (by exact fun q => q (nI_le (by omega) (by omega))))
    refine g_iconst (nx := 12) (1) F dX12_choose_11 rfl rfl ?_
    refine g_istore_n (nx := 13) 2 F dX12_choose_12 rfl rfl (by decide) ?_
    try dsimp only [List.set]
    refine g_iconst (nx := 14) (1) F dX12_choose_13 rfl rfl ?_
    refine g_istore_n (nx := 15) 3 F dX12_choose_14 rfl rfl (by decide) ?_
    try dsimp only [List.set]
    exact L K 0 (by omega)
theorem eu_ok : ∀ (f a b : Nat), b < f → eu f a b = Nat.gcd a b
  | 0, a, b, h => absurd h (Nat.not_lt_zero b)
  | f + 1, a, b, h => by
    unfold eu
    by_cases hb : b = 0
    · rw [if_pos hb, hb, Nat.gcd_zero_right]
    · rw [if_neg hb, eu_ok f b (a % b) (Nat.lt_of_lt_of_le (Nat.mod_lt a (Nat.pos_of_ne_zero hb)) (by omega)), Nat.gcd_comm b, Nat.gcd_comm a, ← Nat.gcd_rec b a]
theorem eu_log : ∀ (f n a b : Nat), b < 2 ^ f → 2 * f + 1 ≤ n → eu n a b = Nat.gcd a b
  | 0, n, a, b, h, hn => by
    have hb : b = 0 := by simpa using h
    obtain ⟨k, rfl⟩ : ∃ k, n = k + 1 := ⟨n - 1, by omega⟩
    rw [eu, if_pos hb, hb, Nat.gcd_zero_right]
  | f + 1, n, a, b, h, hn => by
    obtain ⟨k, rfl⟩ : ∃ k, n = k + 2 := ⟨n - 2, by omega⟩
    rw [show k + 2 = (k + 1) + 1 from rfl, eu]
    by_cases hb : b = 0
    · rw [if_pos hb, hb, Nat.gcd_zero_right]
    · rw [if_neg hb, eu]
      have hr := Nat.mod_lt a (Nat.pos_of_ne_zero hb)
      have e1 : Nat.gcd a b = Nat.gcd b (a % b) := by rw [Nat.gcd_comm b, ← Nat.gcd_rec b a, Nat.gcd_comm]
      by_cases h0 : a % b = 0
      · rw [if_pos h0, e1, h0, Nat.gcd_zero_right]
      · rw [if_neg h0]
        have e2 : Nat.gcd b (a % b) = Nat.gcd (a % b) (b % (a % b)) := by rw [Nat.gcd_comm (a % b) (b % (a % b)), ← Nat.gcd_rec (a % b) b, Nat.gcd_comm]
        rw [e1, e2]
        have h3 := Nat.mod_lt b (Nat.pos_of_ne_zero h0)
        have h4 := Nat.div_add_mod b (a % b)
        have h5 : 1 ≤ b / (a % b) := Nat.div_pos (Nat.le_of_lt hr) (Nat.pos_of_ne_zero h0)
        have h6 : a % b ≤ a % b * (b / (a % b)) := Nat.le_mul_of_pos_right _ h5
        rw [Nat.pow_succ] at h
        exact eu_log f k _ _ (by omega) (by omega)
theorem eu_gcd (a b : Nat) (_ : a < 253) (hb : b < 253) : eu 100 a b = Nat.gcd a b := eu_log 8 100 a b (by omega) (by omega)
set_option maxHeartbeats 4000000 in
set_option maxRecDepth 100000 in
theorem c_divisor (a b : Nat) (ha : a < 253) (hb : b < 253) (σ : zSt) : Con mX3_divisor 0 [.int (nI a), .int (nI b)] σ (fun r τ => r = some (.int (nI (Nat.gcd a b))) ∧ τ = σ) := by
  refine Con.of (lv := [.int (nI a), .int (nI b), .long 0, .long 0, .long 0, .long 0]) mk_X3_divisor rfl (Nat.le_of_ble_eq_true rfl) rfl (fun X F E => ?_)
  have L : ∀ (f k a1 b1 : Nat) (z : Value), f + k = 100 → a1 < 253 → b1 < 253 → eu f a1 b1 = Nat.gcd a b → Gs X 7 [.int (nI a), .int (nI b), .int (nI a1), .int (nI b1), .int (nI k), z] [] σ := by
    intro f
    induction f with
    | zero =>
      intro k a1 b1 z hk h1 h2 hg
      refine g_iload (nx := 9) F dX3_divisor_7 rfl rfl ?_
      refine g_bipush (nx := 11) (100) F dX3_divisor_9 rfl (by decide) ?_
      refine g_icmp_ge (nx := 14) 34 F dX3_divisor_11 rfl (by decide) (fun c_11 => ?_) (fun c_11 => absurd c_11 (by exact fun q => q (nI_le (a := 100) (b := k) (by omega) (by omega))))
      refine g_iload_n (nx := 35) 2 F dX3_divisor_34 rfl rfl rfl ?_
      refine g_iret F E dX3_divisor_35 ?_
      exact ⟨by rw [← hg]; rfl, rfl⟩
    | succ f ih =>
      intro k a1 b1 z hk h1 h2 hg
      by_cases hb0 : b1 = 0
      · subst hb0
        refine g_iload (nx := 9) F dX3_divisor_7 rfl rfl ?_
        refine g_bipush (nx := 11) (100) F dX3_divisor_9 rfl (by decide) ?_
        refine g_icmp_ge (nx := 14) 34 F dX3_divisor_11 rfl (by decide) (fun c_11 => absurd c_11 (by exact nI_ge (a := k) (b := 100) (by omega) (by omega))) (fun c_11 => ?_)
        refine g_iload_n (nx := 15) 3 F dX3_divisor_14 rfl rfl rfl ?_
        refine g_if_eq (nx := 18) 34 F dX3_divisor_15 rfl (by decide) (fun c_15 => ?_) (fun c_15 => absurd c_15 (by exact fun q => q rfl))
        refine g_iload_n (nx := 35) 2 F dX3_divisor_34 rfl rfl rfl ?_
        refine g_iret F E dX3_divisor_35 ?_
        exact ⟨by rw [← hg]; rfl, rfl⟩
      · refine g_iload (nx := 9) F dX3_divisor_7 rfl rfl ?_
        refine g_bipush (nx := 11) (100) F dX3_divisor_9 rfl (by decide) ?_
        refine g_icmp_ge (nx := 14) 34 F dX3_divisor_11 rfl (by decide) (fun c_11 => absurd c_11 (by exact nI_ge (a := k) (b := 100) (by omega) (by omega))) (fun c_11 => ?_)
        refine g_iload_n (nx := 15) 3 F dX3_divisor_14 rfl rfl rfl ?_
        refine g_if_eq (nx := 18) 34 F dX3_divisor_15 rfl (by decide) (fun c_15 => absurd c_15 (by exact nI_ne0 (by omega) (by omega))) (fun c_15 => ?_)
        refine g_iload_n (nx := 19) 2 F dX3_divisor_18 rfl rfl rfl ?_
        refine g_iload_n (nx := 20) 3 F dX3_divisor_19 rfl rfl rfl ?_
        refine g_irem (nx := 21) F dX3_divisor_20 rfl (by exact nI_ne0 (by omega) (by omega)) ?_
        refine g_istore (nx := 23) F dX3_divisor_21 rfl (by decide) ?_
        try dsimp only [List.set]
        refine g_iload_n (nx := 24) 3 F dX3_divisor_23 rfl rfl rfl ?_
        refine g_istore_n (nx := 25) 2 F dX3_divisor_24 rfl rfl (by decide) ?_
        try dsimp only [List.set]
        refine g_iload (nx := 27) F dX3_divisor_25 rfl rfl ?_
        refine g_istore_n (nx := 28) 3 F dX3_divisor_27 rfl rfl (by decide) ?_
        try dsimp only [List.set]
        refine g_iinc (nx := 31) (1) F dX3_divisor_28 rfl rfl (by decide) (by decide) ?_
        try dsimp only [List.set]
        refine g_goto 7 F dX3_divisor_31 (by decide) ?_
        rw [nI_1, pk_rem (by omega) (by omega) (by omega)]
        exact ih (k + 1) b1 (a1 % b1) _ (by omega) h2 (Nat.lt_trans (Nat.mod_lt _ (by omega)) h2) (by rw [← hg]; show _ = eu (f + 1) a1 b1; rw [eu, if_neg hb0])
  refine g_iload_n (nx := 1) 0 F dX3_divisor_0 rfl rfl rfl ?_
  refine g_istore_n (nx := 2) 2 F dX3_divisor_1 rfl rfl (by decide) ?_
  try dsimp only [List.set]
  refine g_iload_n (nx := 3) 1 F dX3_divisor_2 rfl rfl rfl ?_
  refine g_istore_n (nx := 4) 3 F dX3_divisor_3 rfl rfl (by decide) ?_
  try dsimp only [List.set]
  refine g_iconst (nx := 5) (0) F dX3_divisor_4 rfl rfl ?_
  refine g_istore (nx := 7) F dX3_divisor_5 rfl (by decide) ?_
  try dsimp only [List.set]
  exact L 100 0 a b _ rfl ha hb (eu_gcd a b ha hb)
set_option maxHeartbeats 4000000 in
set_option maxRecDepth 100000 in
theorem k_gcd (a b : Nat) (ha : a < 253) (hb : b < 253) (σ : zSt) : Con mX12_gcd 0 [.int (nI a), .int (nI b)] σ (fun r τ => r = some (.int (nI (Nat.gcd a b))) ∧ τ = σ) := by
  refine Con.of (lv := [.int (nI a), .int (nI b), .long 0, .long 0, .long 0]) mk_X12_gcd rfl (Nat.le_of_ble_eq_true rfl) rfl (fun X F E => ?_)
  have L : ∀ (f a1 b1 : Nat) (z : Value), b1 < f → a1 < 253 → b1 < 253 → eu f a1 b1 = Nat.gcd a b → Gs X 4 [.int (nI a), .int (nI b), .int (nI a1), .int (nI b1), z] [] σ := by
    intro f
    induction f with
    | zero => intro a1 b1 z hk h1 h2 hg; omega
    | succ f ih =>
      intro a1 b1 z hk h1 h2 hg
      by_cases hb0 : b1 = 0
      · subst hb0
        refine g_iload_n (nx := 5) 3 F dX12_gcd_4 rfl rfl rfl ?_
        refine g_if_eq (nx := 8) 21 F dX12_gcd_5 rfl (by decide) (fun c_5 => ?_) (fun c_5 => absurd c_5 (by exact fun q => q rfl))
        refine g_iload_n (nx := 22) 2 F dX12_gcd_21 rfl rfl rfl ?_
        refine g_iret F E dX12_gcd_22 ?_
        exact ⟨by rw [← hg]; rfl, rfl⟩
      · refine g_iload_n (nx := 5) 3 F dX12_gcd_4 rfl rfl rfl ?_
        refine g_if_eq (nx := 8) 21 F dX12_gcd_5 rfl (by decide) (fun c_5 => absurd c_5 (by exact nI_ne0 (by omega) (by omega))) (fun c_5 => ?_)
        refine g_iload_n (nx := 9) 2 F dX12_gcd_8 rfl rfl rfl ?_
        refine g_iload_n (nx := 10) 3 F dX12_gcd_9 rfl rfl rfl ?_
        refine g_irem (nx := 11) F dX12_gcd_10 rfl (by exact nI_ne0 (by omega) (by omega)) ?_
        refine g_istore (nx := 13) F dX12_gcd_11 rfl (by decide) ?_
        try dsimp only [List.set]
        refine g_iload_n (nx := 14) 3 F dX12_gcd_13 rfl rfl rfl ?_
        refine g_istore_n (nx := 15) 2 F dX12_gcd_14 rfl rfl (by decide) ?_
        try dsimp only [List.set]
        refine g_iload (nx := 17) F dX12_gcd_15 rfl rfl ?_
        refine g_istore_n (nx := 18) 3 F dX12_gcd_17 rfl rfl (by decide) ?_
        try dsimp only [List.set]
        refine g_goto 4 F dX12_gcd_18 (by decide) ?_
        rw [pk_rem (by omega) (by omega) (by omega)]
        have hm := Nat.mod_lt a1 (Nat.pos_of_ne_zero hb0)
        exact ih b1 (a1 % b1) _ (by omega) h2 (by omega) (by rw [← hg]; show _ = eu (f + 1) a1 b1; rw [eu, if_neg hb0])
  refine g_iload_n (nx := 1) 0 F dX12_gcd_0 rfl rfl rfl ?_
  refine g_istore_n (nx := 2) 2 F dX12_gcd_1 rfl rfl (by decide) ?_
  try dsimp only [List.set]
  refine g_iload_n (nx := 3) 1 F dX12_gcd_2 rfl rfl rfl ?_
  refine g_istore_n (nx := 4) 3 F dX12_gcd_3 rfl rfl (by decide) ?_
  try dsimp only [List.set]
  exact L 253 a b _ (by omega) ha hb (eu_ok 253 a b (by omega))
set_option maxHeartbeats 4000000 in
set_option maxRecDepth 100000 in
theorem c_isTry (n m k : Int32) (σ : zSt) : Con mX3_isTry 0 [.int n, .int m, .int k] σ (fun r τ => r = some (.int (bI (1 ≤ n.toInt ∧ n.toInt ≤ 10 ∧ 0 ≤ m.toInt ∧ m.toInt ≤ n.toInt ∧ 0 ≤ k.toInt ∧ k.toInt ≤ m.toInt))) ∧ τ = σ) := by
  refine Con.of (lv := [.int n, .int m, .int k]) mk_X3_isTry rfl (Nat.le_of_ble_eq_true rfl) rfl (fun X F E => ?_)
  refine g_iload_n (nx := 1) 0 F dX3_isTry_0 rfl rfl rfl ?_
  refine g_iconst (nx := 2) (1) F dX3_isTry_1 rfl rfl ?_
  refine g_icmp_lt (nx := 5) 33 F dX3_isTry_2 rfl (by decide) (fun c_2 => ?_) (fun c_2 => ?_)
  · refine g_iconst (nx := 34) (0) F dX3_isTry_33 rfl rfl ?_
    refine g_zret F E dX3_isTry_34 (by first | rfl | assumption) ?_
    clear F E
    refine ⟨congrArg (fun z => some (Value.int z)) (Eq.symm ?_), rfl⟩
    first | refine bI_f ?_ | refine bI_t ?_
    all_goals (try simp only [bI_0, bI_n0, bI_1, fa_lt, fa_le, Int32.toInt_zero, Int32.reduceToInt] at *)
    all_goals omega
  · refine g_iload_n (nx := 6) 0 F dX3_isTry_5 rfl rfl rfl ?_
    refine g_bipush (nx := 8) (10) F dX3_isTry_6 rfl (by decide) ?_
    refine g_icmp_gt (nx := 11) 33 F dX3_isTry_8 rfl (by decide) (fun c_8 => ?_) (fun c_8 => ?_)
    · refine g_iconst (nx := 34) (0) F dX3_isTry_33 rfl rfl ?_
      refine g_zret F E dX3_isTry_34 (by first | rfl | assumption) ?_
      clear F E
      refine ⟨congrArg (fun z => some (Value.int z)) (Eq.symm ?_), rfl⟩
      first | refine bI_f ?_ | refine bI_t ?_
      all_goals (try simp only [bI_0, bI_n0, bI_1, fa_lt, fa_le, Int32.toInt_zero, Int32.reduceToInt] at *)
      all_goals omega
    · refine g_iload_n (nx := 12) 1 F dX3_isTry_11 rfl rfl rfl ?_
      refine g_if_lt (nx := 15) 33 F dX3_isTry_12 rfl (by decide) (fun c_12 => ?_) (fun c_12 => ?_)
      · refine g_iconst (nx := 34) (0) F dX3_isTry_33 rfl rfl ?_
        refine g_zret F E dX3_isTry_34 (by first | rfl | assumption) ?_
        clear F E
        refine ⟨congrArg (fun z => some (Value.int z)) (Eq.symm ?_), rfl⟩
        first | refine bI_f ?_ | refine bI_t ?_
        all_goals (try simp only [bI_0, bI_n0, bI_1, fa_lt, fa_le, Int32.toInt_zero, Int32.reduceToInt] at *)
        all_goals omega
      · refine g_iload_n (nx := 16) 1 F dX3_isTry_15 rfl rfl rfl ?_
        refine g_iload_n (nx := 17) 0 F dX3_isTry_16 rfl rfl rfl ?_
        refine g_icmp_gt (nx := 20) 33 F dX3_isTry_17 rfl (by decide) (fun c_17 => ?_) (fun c_17 => ?_)
        · refine g_iconst (nx := 34) (0) F dX3_isTry_33 rfl rfl ?_
          refine g_zret F E dX3_isTry_34 (by first | rfl | assumption) ?_
          clear F E
          refine ⟨congrArg (fun z => some (Value.int z)) (Eq.symm ?_), rfl⟩
          first | refine bI_f ?_ | refine bI_t ?_
          all_goals (try simp only [bI_0, bI_n0, bI_1, fa_lt, fa_le, Int32.toInt_zero, Int32.reduceToInt] at *)
          all_goals omega
        · refine g_iload_n (nx := 21) 2 F dX3_isTry_20 rfl rfl rfl ?_
          refine g_if_lt (nx := 24) 33 F dX3_isTry_21 rfl (by decide) (fun c_21 => ?_) (fun c_21 => ?_)
          · refine g_iconst (nx := 34) (0) F dX3_isTry_33 rfl rfl ?_
            refine g_zret F E dX3_isTry_34 (by first | rfl | assumption) ?_
            clear F E
            refine ⟨congrArg (fun z => some (Value.int z)) (Eq.symm ?_), rfl⟩
            first | refine bI_f ?_ | refine bI_t ?_
            all_goals (try simp only [bI_0, bI_n0, bI_1, fa_lt, fa_le, Int32.toInt_zero, Int32.reduceToInt] at *)
            all_goals omega
          · refine g_iload_n (nx := 25) 2 F dX3_isTry_24 rfl rfl rfl ?_
            refine g_iload_n (nx := 26) 1 F dX3_isTry_25 rfl rfl rfl ?_
            refine g_icmp_gt (nx := 29) 33 F dX3_isTry_26 rfl (by decide) (fun c_26 => ?_) (fun c_26 => ?_)
            · refine g_iconst (nx := 34) (0) F dX3_isTry_33 rfl rfl ?_
              refine g_zret F E dX3_isTry_34 (by first | rfl | assumption) ?_
              clear F E
              refine ⟨congrArg (fun z => some (Value.int z)) (Eq.symm ?_), rfl⟩
              first | refine bI_f ?_ | refine bI_t ?_
              all_goals (try simp only [bI_0, bI_n0, bI_1, fa_lt, fa_le, Int32.toInt_zero, Int32.reduceToInt] at *)
              all_goals omega
            · refine g_iconst (nx := 30) (1) F dX3_isTry_29 rfl rfl ?_
              refine g_goto 34 F dX3_isTry_30 (by decide) ?_
              refine g_zret F E dX3_isTry_34 (by first | rfl | assumption) ?_
              clear F E
              refine ⟨congrArg (fun z => some (Value.int z)) (Eq.symm ?_), rfl⟩
              first | refine bI_f ?_ | refine bI_t ?_
              all_goals (try simp only [bI_0, bI_n0, bI_1, fa_lt, fa_le, Int32.toInt_zero, Int32.reduceToInt] at *)
              all_goals omega
set_option maxHeartbeats 4000000 in
set_option maxRecDepth 100000 in
theorem k_areSent (n m k : Int32) (σ : zSt) : Con mX12_areSent 1 [.int n, .int m, .int k] σ (fun r τ => r = some (.int (bI (1 ≤ n.toInt ∧ n.toInt ≤ 10 ∧ 0 ≤ m.toInt ∧ m.toInt ≤ n.toInt ∧ 0 ≤ k.toInt ∧ k.toInt ≤ m.toInt))) ∧ τ = σ) := by
  refine Con.of (lv := [.int n, .int m, .int k]) mk_X12_areSent rfl (Nat.le_of_ble_eq_true rfl) rfl (fun X F E => ?_)
  refine g_iload_n (nx := 1) 0 F dX12_areSent_0 rfl rfl rfl ?_
  refine g_iconst (nx := 2) (1) F dX12_areSent_1 rfl rfl ?_
  refine g_bipush (nx := 4) (10) F dX12_areSent_2 rfl (by decide) ?_
  refine g_callS (nx := 7) 3 0 [.int n, .int 1, .int 10] F dX12_areSent_4 rfl ml_RX12_174 mo_X12_in rfl rfl (Nat.le_of_ble_eq_true rfl) (by first | decide | omega) (k_in n 1 10 _) (fun r_4 τ_4 q_4 => ?_)
  obtain ⟨rfl, et_4⟩ := q_4
  have et_4 := et_4.symm
  subst et_4
  dsimp only [Option.toList, List.append, List.cons_append, List.nil_append]
  refine g_if_eq (nx := 10) 32 F dX12_areSent_7 rfl (by decide) (fun c_7 => ?_) (fun c_7 => ?_)
  · refine g_iconst (nx := 33) (0) F dX12_areSent_32 rfl rfl ?_
    refine g_zret F E dX12_areSent_33 (by first | rfl | assumption) ?_
    clear F E
    refine ⟨congrArg (fun z => some (Value.int z)) (Eq.symm ?_), rfl⟩
    first | refine bI_f ?_ | refine bI_t ?_
    all_goals (try simp only [bI_0, bI_n0, bI_1, fa_lt, fa_le, Int32.toInt_zero, Int32.reduceToInt] at *)
    all_goals omega
  · refine g_iload_n (nx := 11) 1 F dX12_areSent_10 rfl rfl rfl ?_
    refine g_iconst (nx := 12) (0) F dX12_areSent_11 rfl rfl ?_
    refine g_iload_n (nx := 13) 0 F dX12_areSent_12 rfl rfl rfl ?_
    refine g_callS (nx := 16) 3 0 [.int m, .int 0, .int n] F dX12_areSent_13 rfl ml_RX12_174 mo_X12_in rfl rfl (Nat.le_of_ble_eq_true rfl) (by first | decide | omega) (k_in m 0 n _) (fun r_13 τ_13 q_13 => ?_)
    obtain ⟨rfl, et_13⟩ := q_13
    have et_13 := et_13.symm
    subst et_13
    dsimp only [Option.toList, List.append, List.cons_append, List.nil_append]
    refine g_if_eq (nx := 19) 32 F dX12_areSent_16 rfl (by decide) (fun c_16 => ?_) (fun c_16 => ?_)
    · refine g_iconst (nx := 33) (0) F dX12_areSent_32 rfl rfl ?_
      refine g_zret F E dX12_areSent_33 (by first | rfl | assumption) ?_
      clear F E
      refine ⟨congrArg (fun z => some (Value.int z)) (Eq.symm ?_), rfl⟩
      first | refine bI_f ?_ | refine bI_t ?_
      all_goals (try simp only [bI_0, bI_n0, bI_1, fa_lt, fa_le, Int32.toInt_zero, Int32.reduceToInt] at *)
      all_goals omega
    · refine g_iload_n (nx := 20) 2 F dX12_areSent_19 rfl rfl rfl ?_
      refine g_iconst (nx := 21) (0) F dX12_areSent_20 rfl rfl ?_
      refine g_iload_n (nx := 22) 1 F dX12_areSent_21 rfl rfl rfl ?_
      refine g_callS (nx := 25) 3 0 [.int k, .int 0, .int m] F dX12_areSent_22 rfl ml_RX12_174 mo_X12_in rfl rfl (Nat.le_of_ble_eq_true rfl) (by first | decide | omega) (k_in k 0 m _) (fun r_22 τ_22 q_22 => ?_)
      obtain ⟨rfl, et_22⟩ := q_22
      have et_22 := et_22.symm
      subst et_22
      dsimp only [Option.toList, List.append, List.cons_append, List.nil_append]
      refine g_if_eq (nx := 28) 32 F dX12_areSent_25 rfl (by decide) (fun c_25 => ?_) (fun c_25 => ?_)
      · refine g_iconst (nx := 33) (0) F dX12_areSent_32 rfl rfl ?_
        refine g_zret F E dX12_areSent_33 (by first | rfl | assumption) ?_
        clear F E
        refine ⟨congrArg (fun z => some (Value.int z)) (Eq.symm ?_), rfl⟩
        first | refine bI_f ?_ | refine bI_t ?_
        all_goals (try simp only [bI_0, bI_n0, bI_1, fa_lt, fa_le, Int32.toInt_zero, Int32.reduceToInt] at *)
        all_goals omega
      · refine g_iconst (nx := 29) (1) F dX12_areSent_28 rfl rfl ?_
        refine g_goto 33 F dX12_areSent_29 (by decide) ?_
        refine g_zret F E dX12_areSent_33 (by first | rfl | assumption) ?_
        clear F E
        refine ⟨congrArg (fun z => some (Value.int z)) (Eq.symm ?_), rfl⟩
        first | refine bI_f ?_ | refine bI_t ?_
        all_goals (try simp only [bI_0, bI_n0, bI_1, fa_lt, fa_le, Int32.toInt_zero, Int32.reduceToInt] at *)
        all_goals omega
set_option maxHeartbeats 4000000 in
set_option maxRecDepth 100000 in
theorem c_above (N M K T : Nat) (hN : N ≤ 10) (hM : M ≤ N) (hK : K ≤ M) (hT : T ≤ N) (σ : zSt) : Con mX3_above 1 [.int (nI N), .int (nI M), .int (nI K), .int (nI T)] σ (fun r τ => r = some (.int (chF T K * chF (N - T) (M - K))) ∧ τ = σ) := by
  refine Con.of (lv := [.int (nI N), .int (nI M), .int (nI K), .int (nI T)]) mk_X3_above rfl (Nat.le_of_ble_eq_true rfl) rfl (fun X F E => ?_)
  refine g_iload_n (nx := 1) 3 F dX3_above_0 rfl rfl rfl ?_
  refine g_iload_n (nx := 2) 2 F dX3_above_1 rfl rfl rfl ?_
  refine g_callS (nx := 5) 2 0 [.int (nI T), .int (nI K)] F dX3_above_2 rfl ml_RX3_9 mo_X3_choose rfl rfl (Nat.le_of_ble_eq_true rfl) (by first | decide | omega) (c_choose T K (by omega) (by omega) _) (fun r_2 τ_2 q_2 => ?_)
  obtain ⟨rfl, et_2⟩ := q_2
  have et_2 := et_2.symm
  subst et_2
  dsimp only [Option.toList, List.append, List.cons_append, List.nil_append]
  refine g_iload_n (nx := 6) 0 F dX3_above_5 rfl rfl rfl ?_
  refine g_iload_n (nx := 7) 3 F dX3_above_6 rfl rfl rfl ?_
  refine g_isub (nx := 8) F dX3_above_7 rfl ?_
  refine g_iload_n (nx := 9) 1 F dX3_above_8 rfl rfl rfl ?_
  refine g_iload_n (nx := 10) 2 F dX3_above_9 rfl rfl rfl ?_
  refine g_isub (nx := 11) F dX3_above_10 rfl ?_
  rw [pk_sub hT, pk_sub hK]
  refine g_callS (nx := 14) 2 0 [.int (nI (N - T)), .int (nI (M - K))] F dX3_above_11 rfl ml_RX3_9 mo_X3_choose rfl rfl (Nat.le_of_ble_eq_true rfl) (by first | decide | omega) (c_choose (N - T) (M - K) (by omega) (by omega) _) (fun r_11 τ_11 q_11 => ?_)
  obtain ⟨rfl, et_11⟩ := q_11
  have et_11 := et_11.symm
  subst et_11
  dsimp only [Option.toList, List.append, List.cons_append, List.nil_append]
  refine g_imul (nx := 15) F dX3_above_14 rfl ?_
  refine g_iret F E dX3_above_15 ?_
  exact ⟨rfl, rfl⟩
/-- what is known of the numbers -/
theorem ch_nat : ∀ N, N ≤ 10 → ∀ K, K ≤ 10 → ∃ c, c < 253 ∧ chF N K = nI c := by
  intro N hN K hK
  have h : ∀ N, N < 11 → ∀ K, K < 11 → ((chF N K).toInt.toNat < 253 ∧ chF N K = nI (chF N K).toInt.toNat) := by decide +kernel
  exact ⟨_, h N (by omega) K (by omega)⟩
theorem ch_pos : ∀ N, N ≤ 10 → ∀ K, K ≤ N → ∃ c, 0 < c ∧ c < 253 ∧ chF N K = nI c := by
  intro N hN K hK
  have h : ∀ N, N < 11 → ∀ K, K < N + 1 → (0 < (chF N K).toInt.toNat ∧ (chF N K).toInt.toNat < 253 ∧ chF N K = nI (chF N K).toInt.toNat) := by decide +kernel
  exact ⟨_, h N (by omega) K (by omega)⟩
theorem ch_prod : ∀ N, N ≤ 10 → ∀ M, M ≤ N → ∀ K, K ≤ M → ∀ T, T ≤ N → ∃ c, c < 253 ∧ chF T K * chF (N - T) (M - K) = nI c := by
  intro N hN M hM K hK T hT
  have h : ∀ N, N < 11 → ∀ M, M < N + 1 → ∀ K, K < M + 1 → ∀ T, T < N + 1 → ((chF T K * chF (N - T) (M - K)).toInt.toNat < 253 ∧ chF T K * chF (N - T) (M - K) = nI (chF T K * chF (N - T) (M - K)).toInt.toNat) := by decide +kernel
  exact ⟨_, h N (by omega) M (by omega) K (by omega) T (by omega)⟩
/-- the numbers of a call, as they are asked -/
theorem nI_rng {x : Int32} {n : Nat} (h0 : 0 ≤ x.toInt) (h1 : x.toInt ≤ n) : ∃ k : Nat, k ≤ n ∧ x = nI k := by
  refine ⟨x.toInt.toNat, by omega, ?_⟩
  rw [fa_eq, nI_toInt (by have := fb_rng x; omega)]
  omega
/-- ODDS: what both answer -/
abbrev odA (n m k t : Int32) : Prop := (1 ≤ n.toInt ∧ n.toInt ≤ 10 ∧ 0 ≤ m.toInt ∧ m.toInt ≤ n.toInt ∧ 0 ≤ k.toInt ∧ k.toInt ≤ m.toInt) ∧ (0 ≤ t.toInt ∧ t.toInt ≤ n.toInt)
def odV (n m k t what : Int32) : Int32 :=
  let a := chF t.toInt.toNat k.toInt.toNat * chF (n.toInt.toNat - t.toInt.toNat) (m.toInt.toNat - k.toInt.toNat)
  let b := chF n.toInt.toNat m.toInt.toNat
  (if what = 0 then a else b) / nI (Nat.gcd a.toInt.toNat b.toInt.toNat)
def odR (n m k t what : Int32) : Int32 := if (odA n m k t ∧ 0 ≤ what.toInt ∧ what.toInt ≤ 1) then odV n m k t what else -1
theorem nI_tn {n : Nat} (h : n < 2 ^ 31) : (nI n).toInt.toNat = n := by rw [nI_toInt h]; omega
def thP (N M K : Nat) (th : Int32) (t : Nat) : Prop := (chF t K * chF (N - t) (M - K)) * 1000 < th * chF N M
def thL (N M K : Nat) (th what : Int32) : Nat → Int32
  | 0 => -2
  | t + 1 => if ¬ (chF t K * chF (N - t) (M - K)) * 1000 < th * chF N M ∧ (thL N M K th what t = -2 ∨ what = 1) then nI t else thL N M K th what t
abbrev thA (n m k th what : Int32) : Prop := (1 ≤ n.toInt ∧ n.toInt ≤ 10 ∧ 0 ≤ m.toInt ∧ m.toInt ≤ n.toInt ∧ 0 ≤ k.toInt ∧ k.toInt ≤ m.toInt) ∧ (1 ≤ th.toInt ∧ th.toInt ≤ 1000) ∧ (0 ≤ what.toInt ∧ what.toInt ≤ 1)
def thR (n m k th what : Int32) : Int32 := if ((1 ≤ n.toInt ∧ n.toInt ≤ 10 ∧ 0 ≤ m.toInt ∧ m.toInt ≤ n.toInt ∧ 0 ≤ k.toInt ∧ k.toInt ≤ m.toInt) ∧ (1 ≤ th.toInt ∧ th.toInt ≤ 1000) ∧ (0 ≤ what.toInt ∧ what.toInt ≤ 1)) then thL n.toInt.toNat m.toInt.toNat k.toInt.toNat th what (n.toInt.toNat + 1) else -1
set_option maxHeartbeats 4000000 in
set_option maxRecDepth 100000 in
theorem c_odds (n m k t what : Int32) (σ : zSt) : Con mX11_odds 2 [.ref 0, .int n, .int m, .int k, .int t, .int what] σ (fun r τ => r = some (.int (odR n m k t what)) ∧ τ = σ) := by
  refine Con.of (lv := [.ref 0, .int n, .int m, .int k, .int t, .int what, .long 0, .long 0, .long 0]) mk_X11_odds rfl (Nat.le_of_ble_eq_true rfl) rfl (fun X F E => ?_)
  by_cases hA : odA n m k t ∧ 0 ≤ what.toInt ∧ what.toInt ≤ 1
  · simp only [odA] at hA
    obtain ⟨⟨⟨a1, a2, a3, a4, a5, a6⟩, a7, a8⟩, a9, a10⟩ := id hA
    obtain ⟨N, hN, eN⟩ := nI_rng (n := 10) (x := n) (by omega) (by omega)
    obtain ⟨M, hM, eM⟩ := nI_rng (n := 10) (x := m) (by omega) (by omega)
    obtain ⟨K, hK, eK⟩ := nI_rng (n := 10) (x := k) (by omega) (by omega)
    obtain ⟨T, hT, eT⟩ := nI_rng (n := 10) (x := t) (by omega) (by omega)
    subst eN eM eK eT
    have e1 : (nI N).toInt = N := nI_toInt (by omega)
    have e2 : (nI M).toInt = M := nI_toInt (by omega)
    have e3 : (nI K).toInt = K := nI_toInt (by omega)
    have e4 : (nI T).toInt = T := nI_toInt (by omega)
    have hR : odR (nI N) (nI M) (nI K) (nI T) what = (if what = 0 then chF T K * chF (N - T) (M - K) else chF N M) / nI (Nat.gcd (chF T K * chF (N - T) (M - K)).toInt.toNat (chF N M).toInt.toNat) := by
      rw [odR, if_pos hA, odV, e1, e2, e3, e4]
      rfl
    obtain ⟨b, hb0, hb, eb⟩ := ch_pos N hN M (by omega)
    obtain ⟨a, ha, ea⟩ := ch_prod N hN M (by omega) K (by omega) T (by omega)
    have hg : 0 < Nat.gcd a b := Nat.gcd_pos_of_pos_right a hb0
    have hg2 : Nat.gcd a b ≤ b := Nat.gcd_le_right a hb0
    have hRv : odR (nI N) (nI M) (nI K) (nI T) what = (if what = 0 then nI a else nI b) / nI (Nat.gcd a b) := by rw [hR, ea, eb, nI_tn (by omega), nI_tn (by omega)]
    have hw0 : (what = 0) ↔ what.toInt = 0 := by rw [fa_eq]; rfl
    refine g_iload_n (nx := 1) 1 F dX11_odds_0 rfl rfl rfl ?_
    refine g_iload_n (nx := 2) 2 F dX11_odds_1 rfl rfl rfl ?_
    refine g_iload_n (nx := 3) 3 F dX11_odds_2 rfl rfl rfl ?_
    refine g_callS (nx := 6) 3 0 [.int (nI N), .int (nI M), .int (nI K)] F dX11_odds_3 rfl ml_RX11_300 mo_X3_isTry rfl rfl (Nat.le_of_ble_eq_true rfl) (by first | decide | omega) (c_isTry _ _ _ _) (fun r_3 τ_3 q_3 => ?_)
    obtain ⟨rfl, et_3⟩ := q_3
    have et_3 := et_3.symm
    subst et_3
    dsimp only [Option.toList, List.append, List.cons_append, List.nil_append]
    refine g_if_eq (nx := 9) 27 F dX11_odds_6 rfl (by decide) (fun c_6 => absurd c_6 (by exact bI_n0.mpr (by omega))) (fun c_6 => ?_)
    refine g_iload (nx := 11) F dX11_odds_9 rfl rfl ?_
    refine g_iload_n (nx := 12) 1 F dX11_odds_11 rfl rfl rfl ?_
    refine g_callS (nx := 15) 2 0 [.int (nI T), .int (nI N)] F dX11_odds_12 rfl ml_RX11_79 mo_X11_isOutside rfl rfl (Nat.le_of_ble_eq_true rfl) (by first | decide | omega) (c_isOutside _ _ _) (fun r_12 τ_12 q_12 => ?_)
    obtain ⟨rfl, et_12⟩ := q_12
    have et_12 := et_12.symm
    subst et_12
    dsimp only [Option.toList, List.append, List.cons_append, List.nil_append]
    refine g_if_ne (nx := 18) 27 F dX11_odds_15 rfl (by decide) (fun c_15 => absurd c_15 (by exact fun q => q (bI_f (by omega)))) (fun c_15 => ?_)
    refine g_iload (nx := 20) F dX11_odds_18 rfl rfl ?_
    refine g_iconst (nx := 21) (1) F dX11_odds_20 rfl rfl ?_
    refine g_callS (nx := 24) 2 0 [.int what, .int 1] F dX11_odds_21 rfl ml_RX11_79 mo_X11_isOutside rfl rfl (Nat.le_of_ble_eq_true rfl) (by first | decide | omega) (c_isOutside what 1 _) (fun r_21 τ_21 q_21 => ?_)
    obtain ⟨rfl, et_21⟩ := q_21
    have et_21 := et_21.symm
    subst et_21
    dsimp only [Option.toList, List.append, List.cons_append, List.nil_append]
    refine g_if_eq (nx := 27) 29 F dX11_odds_24 rfl (by decide) (fun c_24 => ?_) (fun c_24 => absurd c_24 (by exact fun q => q (bI_f (by simp only [Int32.reduceToInt]; omega))))
    refine g_iload_n (nx := 30) 1 F dX11_odds_29 rfl rfl rfl ?_
    refine g_iload_n (nx := 31) 2 F dX11_odds_30 rfl rfl rfl ?_
    refine g_iload_n (nx := 32) 3 F dX11_odds_31 rfl rfl rfl ?_
    refine g_iload (nx := 34) F dX11_odds_32 rfl rfl ?_
    refine g_callS (nx := 37) 4 1 [.int (nI N), .int (nI M), .int (nI K), .int (nI T)] F dX11_odds_34 rfl ml_RX11_306 mo_X3_above rfl rfl (Nat.le_of_ble_eq_true rfl) (by first | decide | omega) (c_above N M K T hN (by omega) (by omega) (by omega) _) (fun r_34 τ_34 q_34 => ?_)
    obtain ⟨rfl, et_34⟩ := q_34
    have et_34 := et_34.symm
    subst et_34
    dsimp only [Option.toList, List.append, List.cons_append, List.nil_append]
    refine g_istore (nx := 39) F dX11_odds_37 rfl (by decide) ?_
    try dsimp only [List.set]
    refine g_iload_n (nx := 40) 1 F dX11_odds_39 rfl rfl rfl ?_
    refine g_iload_n (nx := 41) 2 F dX11_odds_40 rfl rfl rfl ?_
    refine g_callS (nx := 44) 2 0 [.int (nI N), .int (nI M)] F dX11_odds_41 rfl ml_RX11_309 mo_X3_choose rfl rfl (Nat.le_of_ble_eq_true rfl) (by first | decide | omega) (c_choose N M hN hM _) (fun r_41 τ_41 q_41 => ?_)
    obtain ⟨rfl, et_41⟩ := q_41
    have et_41 := et_41.symm
    subst et_41
    dsimp only [Option.toList, List.append, List.cons_append, List.nil_append]
    refine g_istore (nx := 46) F dX11_odds_44 rfl (by decide) ?_
    try dsimp only [List.set]
    refine g_iload (nx := 48) F dX11_odds_46 rfl rfl ?_
    refine g_iload (nx := 50) F dX11_odds_48 rfl rfl ?_
    rw [ea, eb]
    refine g_callS (nx := 53) 2 0 [.int (nI a), .int (nI b)] F dX11_odds_50 rfl ml_RX11_312 mo_X3_divisor rfl rfl (Nat.le_of_ble_eq_true rfl) (by first | decide | omega) (c_divisor a b ha hb _) (fun r_50 τ_50 q_50 => ?_)
    obtain ⟨rfl, et_50⟩ := q_50
    have et_50 := et_50.symm
    subst et_50
    dsimp only [Option.toList, List.append, List.cons_append, List.nil_append]
    refine g_istore (nx := 55) F dX11_odds_53 rfl (by decide) ?_
    try dsimp only [List.set]
    refine g_iload (nx := 57) F dX11_odds_55 rfl rfl ?_
    refine g_if_ne (nx := 60) 62 F dX11_odds_57 rfl (by decide) (fun c_57 => ?_) (fun c_57 => absurd c_57 (by exact fun q => nI_ne0 hg (by omega) q))
    refine g_iload (nx := 64) F dX11_odds_62 rfl rfl ?_
    refine g_if_ne (nx := 67) 72 F dX11_odds_64 rfl (by decide) (fun c_64 => ?_) (fun c_64 => ?_)
    · refine g_iload (nx := 74) F dX11_odds_72 rfl rfl ?_
      refine g_iload (nx := 76) F dX11_odds_74 rfl rfl ?_
      refine g_idiv (nx := 77) F dX11_odds_76 rfl (by exact nI_ne0 hg (by omega)) ?_
      refine g_iret F E dX11_odds_77 ?_
      exact ⟨by rw [hRv]; first | rw [if_pos (by assumption)] | rw [if_neg (by assumption)], rfl⟩
    · refine g_iload (nx := 69) F dX11_odds_67 rfl rfl ?_
      refine g_goto 74 F dX11_odds_69 (by decide) ?_
      refine g_iload (nx := 76) F dX11_odds_74 rfl rfl ?_
      refine g_idiv (nx := 77) F dX11_odds_76 rfl (by exact nI_ne0 hg (by omega)) ?_
      refine g_iret F E dX11_odds_77 ?_
      exact ⟨by rw [hRv]; first | rw [if_pos (by assumption)] | rw [if_neg (by assumption)], rfl⟩
  · refine g_iload_n (nx := 1) 1 F dX11_odds_0 rfl rfl rfl ?_
    refine g_iload_n (nx := 2) 2 F dX11_odds_1 rfl rfl rfl ?_
    refine g_iload_n (nx := 3) 3 F dX11_odds_2 rfl rfl rfl ?_
    refine g_callS (nx := 6) 3 0 [.int n, .int m, .int k] F dX11_odds_3 rfl ml_RX11_300 mo_X3_isTry rfl rfl (Nat.le_of_ble_eq_true rfl) (by first | decide | omega) (c_isTry n m k _) (fun r_3 τ_3 q_3 => ?_)
    obtain ⟨rfl, et_3⟩ := q_3
    have et_3 := et_3.symm
    subst et_3
    dsimp only [Option.toList, List.append, List.cons_append, List.nil_append]
    refine g_if_eq (nx := 9) 27 F dX11_odds_6 rfl (by decide) (fun c_6 => ?_) (fun c_6 => ?_)
    · refine g_iconst (nx := 28) (-1) F dX11_odds_27 rfl rfl ?_
      refine g_iret F E dX11_odds_28 ?_
      exact ⟨by rw [odR, if_neg hA], rfl⟩
    · refine g_iload (nx := 11) F dX11_odds_9 rfl rfl ?_
      refine g_iload_n (nx := 12) 1 F dX11_odds_11 rfl rfl rfl ?_
      refine g_callS (nx := 15) 2 0 [.int t, .int n] F dX11_odds_12 rfl ml_RX11_79 mo_X11_isOutside rfl rfl (Nat.le_of_ble_eq_true rfl) (by first | decide | omega) (c_isOutside t n _) (fun r_12 τ_12 q_12 => ?_)
      obtain ⟨rfl, et_12⟩ := q_12
      have et_12 := et_12.symm
      subst et_12
      dsimp only [Option.toList, List.append, List.cons_append, List.nil_append]
      refine g_if_ne (nx := 18) 27 F dX11_odds_15 rfl (by decide) (fun c_15 => ?_) (fun c_15 => ?_)
      · refine g_iconst (nx := 28) (-1) F dX11_odds_27 rfl rfl ?_
        refine g_iret F E dX11_odds_28 ?_
        exact ⟨by rw [odR, if_neg hA], rfl⟩
      · refine g_iload (nx := 20) F dX11_odds_18 rfl rfl ?_
        refine g_iconst (nx := 21) (1) F dX11_odds_20 rfl rfl ?_
        refine g_callS (nx := 24) 2 0 [.int what, .int 1] F dX11_odds_21 rfl ml_RX11_79 mo_X11_isOutside rfl rfl (Nat.le_of_ble_eq_true rfl) (by first | decide | omega) (c_isOutside what 1 _) (fun r_21 τ_21 q_21 => ?_)
        obtain ⟨rfl, et_21⟩ := q_21
        have et_21 := et_21.symm
        subst et_21
        dsimp only [Option.toList, List.append, List.cons_append, List.nil_append]
        refine g_if_eq (nx := 27) 29 F dX11_odds_24 rfl (by decide) (fun c_24 => ?_) (fun c_24 => ?_)
        · exfalso
          clear F E
          simp only [odA, bI_0, bI_n0, ne_eq, fa_lt, fa_le, Int32.reduceToInt, Int32.toInt_zero, Decidable.not_not] at *
          omega
        · refine g_iconst (nx := 28) (-1) F dX11_odds_27 rfl rfl ?_
          refine g_iret F E dX11_odds_28 ?_
          exact ⟨by rw [odR, if_neg hA], rfl⟩
set_option maxHeartbeats 4000000 in
set_option maxRecDepth 100000 in
theorem k_odds (n m k t what : Int32) (σ : zSt) : Con mX12_odds 2 [.ref 145, .int n, .int m, .int k, .int t, .int what] σ (fun r τ => r = some (.int (odR n m k t what)) ∧ τ = σ) := by
  refine Con.of (lv := [.ref 145, .int n, .int m, .int k, .int t, .int what, .long 0, .long 0, .long 0]) mk_X12_odds rfl (Nat.le_of_ble_eq_true rfl) rfl (fun X F E => ?_)
  by_cases hA : odA n m k t ∧ 0 ≤ what.toInt ∧ what.toInt ≤ 1
  · simp only [odA] at hA
    obtain ⟨⟨⟨a1, a2, a3, a4, a5, a6⟩, a7, a8⟩, a9, a10⟩ := id hA
    obtain ⟨N, hN, eN⟩ := nI_rng (n := 10) (x := n) (by omega) (by omega)
    obtain ⟨M, hM, eM⟩ := nI_rng (n := 10) (x := m) (by omega) (by omega)
    obtain ⟨K, hK, eK⟩ := nI_rng (n := 10) (x := k) (by omega) (by omega)
    obtain ⟨T, hT, eT⟩ := nI_rng (n := 10) (x := t) (by omega) (by omega)
    subst eN eM eK eT
    have e1 : (nI N).toInt = N := nI_toInt (by omega)
    have e2 : (nI M).toInt = M := nI_toInt (by omega)
    have e3 : (nI K).toInt = K := nI_toInt (by omega)
    have e4 : (nI T).toInt = T := nI_toInt (by omega)
    have hR : odR (nI N) (nI M) (nI K) (nI T) what = (if what = 0 then chF T K * chF (N - T) (M - K) else chF N M) / nI (Nat.gcd (chF T K * chF (N - T) (M - K)).toInt.toNat (chF N M).toInt.toNat) := by
      rw [odR, if_pos hA, odV, e1, e2, e3, e4]
      rfl
    obtain ⟨b, hb0, hb, eb⟩ := ch_pos N hN M (by omega)
    obtain ⟨a, ha, ea⟩ := ch_prod N hN M (by omega) K (by omega) T (by omega)
    have hg : 0 < Nat.gcd a b := Nat.gcd_pos_of_pos_right a hb0
    have hg2 : Nat.gcd a b ≤ b := Nat.gcd_le_right a hb0
    have hRv : odR (nI N) (nI M) (nI K) (nI T) what = (if what = 0 then nI a else nI b) / nI (Nat.gcd a b) := by rw [hR, ea, eb, nI_tn (by omega), nI_tn (by omega)]
    have hw0 : (what = 0) ↔ what.toInt = 0 := by rw [fa_eq]; rfl
    refine g_iload_n (nx := 1) 1 F dX12_odds_0 rfl rfl rfl ?_
    refine g_iload_n (nx := 2) 2 F dX12_odds_1 rfl rfl rfl ?_
    refine g_iload_n (nx := 3) 3 F dX12_odds_2 rfl rfl rfl ?_
    refine g_callS (nx := 6) 3 1 [.int (nI N), .int (nI M), .int (nI K)] F dX12_odds_3 rfl ml_RX12_404 mo_X12_areSent rfl rfl (Nat.le_of_ble_eq_true rfl) (by first | decide | omega) (k_areSent _ _ _ _) (fun r_3 τ_3 q_3 => ?_)
    obtain ⟨rfl, et_3⟩ := q_3
    have et_3 := et_3.symm
    subst et_3
    dsimp only [Option.toList, List.append, List.cons_append, List.nil_append]
    refine g_if_eq (nx := 9) 29 F dX12_odds_6 rfl (by decide) (fun c_6 => absurd c_6 (by exact bI_n0.mpr (by omega))) (fun c_6 => ?_)
    refine g_iload (nx := 11) F dX12_odds_9 rfl rfl ?_
    refine g_iconst (nx := 12) (0) F dX12_odds_11 rfl rfl ?_
    refine g_iload_n (nx := 13) 1 F dX12_odds_12 rfl rfl rfl ?_
    refine g_callS (nx := 16) 3 0 [.int (nI T), .int 0, .int (nI N)] F dX12_odds_13 rfl ml_RX12_174 mo_X12_in rfl rfl (Nat.le_of_ble_eq_true rfl) (by first | decide | omega) (k_in _ _ _ _) (fun r_13 τ_13 q_13 => ?_)
    obtain ⟨rfl, et_13⟩ := q_13
    have et_13 := et_13.symm
    subst et_13
    dsimp only [Option.toList, List.append, List.cons_append, List.nil_append]
    refine g_if_eq (nx := 19) 29 F dX12_odds_16 rfl (by decide) (fun c_16 => absurd c_16 (by exact bI_n0.mpr (by simp only [Int32.reduceToInt]; omega))) (fun c_16 => ?_)
    refine g_iload (nx := 21) F dX12_odds_19 rfl rfl ?_
    refine g_iconst (nx := 22) (0) F dX12_odds_21 rfl rfl ?_
    refine g_iconst (nx := 23) (1) F dX12_odds_22 rfl rfl ?_
    refine g_callS (nx := 26) 3 0 [.int what, .int 0, .int 1] F dX12_odds_23 rfl ml_RX12_174 mo_X12_in rfl rfl (Nat.le_of_ble_eq_true rfl) (by first | decide | omega) (k_in what 0 1 _) (fun r_23 τ_23 q_23 => ?_)
    obtain ⟨rfl, et_23⟩ := q_23
    have et_23 := et_23.symm
    subst et_23
    dsimp only [Option.toList, List.append, List.cons_append, List.nil_append]
    refine g_if_ne (nx := 29) 31 F dX12_odds_26 rfl (by decide) (fun c_26 => ?_) (fun c_26 => absurd c_26 (by exact bI_n0.mpr (by simp only [Int32.reduceToInt]; omega)))
    refine g_iload (nx := 33) F dX12_odds_31 rfl rfl ?_
    refine g_iload_n (nx := 34) 3 F dX12_odds_33 rfl rfl rfl ?_
    refine g_callS (nx := 37) 2 0 [.int (nI T), .int (nI K)] F dX12_odds_34 rfl ml_RX12_407 mo_X12_choose rfl rfl (Nat.le_of_ble_eq_true rfl) (by first | decide | omega) (k_choose T K (by omega) (by omega) _) (fun r_34 τ_34 q_34 => ?_)
    obtain ⟨rfl, et_34⟩ := q_34
    have et_34 := et_34.symm
    subst et_34
    dsimp only [Option.toList, List.append, List.cons_append, List.nil_append]
    refine g_iload_n (nx := 38) 1 F dX12_odds_37 rfl rfl rfl ?_
    refine g_iload (nx := 40) F dX12_odds_38 rfl rfl ?_
    refine g_isub (nx := 41) F dX12_odds_40 rfl ?_
    refine g_iload_n (nx := 42) 2 F dX12_odds_41 rfl rfl rfl ?_
    refine g_iload_n (nx := 43) 3 F dX12_odds_42 rfl rfl rfl ?_
    refine g_isub (nx := 44) F dX12_odds_43 rfl ?_
    rw [pk_sub (by omega), pk_sub (by omega)]
    refine g_callS (nx := 47) 2 0 [.int (nI (N - T)), .int (nI (M - K))] F dX12_odds_44 rfl ml_RX12_407 mo_X12_choose rfl rfl (Nat.le_of_ble_eq_true rfl) (by first | decide | omega) (k_choose (N - T) (M - K) (by omega) (by omega) _) (fun r_44 τ_44 q_44 => ?_)
    obtain ⟨rfl, et_44⟩ := q_44
    have et_44 := et_44.symm
    subst et_44
    dsimp only [Option.toList, List.append, List.cons_append, List.nil_append]
    refine g_imul (nx := 48) F dX12_odds_47 rfl ?_
    refine g_istore (nx := 50) F dX12_odds_48 rfl (by decide) ?_
    try dsimp only [List.set]
    refine g_iload_n (nx := 51) 1 F dX12_odds_50 rfl rfl rfl ?_
    refine g_iload_n (nx := 52) 2 F dX12_odds_51 rfl rfl rfl ?_
    refine g_callS (nx := 55) 2 0 [.int (nI N), .int (nI M)] F dX12_odds_52 rfl ml_RX12_407 mo_X12_choose rfl rfl (Nat.le_of_ble_eq_true rfl) (by first | decide | omega) (k_choose N M hN hM _) (fun r_52 τ_52 q_52 => ?_)
    obtain ⟨rfl, et_52⟩ := q_52
    have et_52 := et_52.symm
    subst et_52
    dsimp only [Option.toList, List.append, List.cons_append, List.nil_append]
    refine g_istore (nx := 57) F dX12_odds_55 rfl (by decide) ?_
    try dsimp only [List.set]
    refine g_iload (nx := 59) F dX12_odds_57 rfl rfl ?_
    refine g_iload (nx := 61) F dX12_odds_59 rfl rfl ?_
    rw [ea, eb]
    refine g_callS (nx := 64) 2 0 [.int (nI a), .int (nI b)] F dX12_odds_61 rfl ml_RX12_410 mo_X12_gcd rfl rfl (Nat.le_of_ble_eq_true rfl) (by first | decide | omega) (k_gcd a b ha hb _) (fun r_61 τ_61 q_61 => ?_)
    obtain ⟨rfl, et_61⟩ := q_61
    have et_61 := et_61.symm
    subst et_61
    dsimp only [Option.toList, List.append, List.cons_append, List.nil_append]
    refine g_istore (nx := 66) F dX12_odds_64 rfl (by decide) ?_
    try dsimp only [List.set]
    refine g_iload (nx := 68) F dX12_odds_66 rfl rfl ?_
    refine g_if_ne (nx := 71) 79 F dX12_odds_68 rfl (by decide) (fun c_68 => ?_) (fun c_68 => ?_)
    · refine g_iload (nx := 81) F dX12_odds_79 rfl rfl ?_
      refine g_iload (nx := 83) F dX12_odds_81 rfl rfl ?_
      refine g_idiv (nx := 84) F dX12_odds_83 rfl (by exact nI_ne0 hg (by omega)) ?_
      refine g_iret F E dX12_odds_84 ?_
      exact ⟨by rw [hRv]; first | rw [if_pos (by assumption)] | rw [if_neg (by assumption)], rfl⟩
    · refine g_iload (nx := 73) F dX12_odds_71 rfl rfl ?_
      refine g_iload (nx := 75) F dX12_odds_73 rfl rfl ?_
      refine g_idiv (nx := 76) F dX12_odds_75 rfl (by exact nI_ne0 hg (by omega)) ?_
      refine g_goto 84 F dX12_odds_76 (by decide) ?_
      refine g_iret F E dX12_odds_84 ?_
      exact ⟨by rw [hRv]; first | rw [if_pos (by assumption)] | rw [if_neg (by assumption)], rfl⟩
  · refine g_iload_n (nx := 1) 1 F dX12_odds_0 rfl rfl rfl ?_
    refine g_iload_n (nx := 2) 2 F dX12_odds_1 rfl rfl rfl ?_
    refine g_iload_n (nx := 3) 3 F dX12_odds_2 rfl rfl rfl ?_
    refine g_callS (nx := 6) 3 1 [.int n, .int m, .int k] F dX12_odds_3 rfl ml_RX12_404 mo_X12_areSent rfl rfl (Nat.le_of_ble_eq_true rfl) (by first | decide | omega) (k_areSent n m k _) (fun r_3 τ_3 q_3 => ?_)
    obtain ⟨rfl, et_3⟩ := q_3
    have et_3 := et_3.symm
    subst et_3
    dsimp only [Option.toList, List.append, List.cons_append, List.nil_append]
    refine g_if_eq (nx := 9) 29 F dX12_odds_6 rfl (by decide) (fun c_6 => ?_) (fun c_6 => ?_)
    · refine g_iconst (nx := 30) (-1) F dX12_odds_29 rfl rfl ?_
      refine g_iret F E dX12_odds_30 ?_
      exact ⟨by rw [odR, if_neg hA], rfl⟩
    · refine g_iload (nx := 11) F dX12_odds_9 rfl rfl ?_
      refine g_iconst (nx := 12) (0) F dX12_odds_11 rfl rfl ?_
      refine g_iload_n (nx := 13) 1 F dX12_odds_12 rfl rfl rfl ?_
      refine g_callS (nx := 16) 3 0 [.int t, .int 0, .int n] F dX12_odds_13 rfl ml_RX12_174 mo_X12_in rfl rfl (Nat.le_of_ble_eq_true rfl) (by first | decide | omega) (k_in t 0 n _) (fun r_13 τ_13 q_13 => ?_)
      obtain ⟨rfl, et_13⟩ := q_13
      have et_13 := et_13.symm
      subst et_13
      dsimp only [Option.toList, List.append, List.cons_append, List.nil_append]
      refine g_if_eq (nx := 19) 29 F dX12_odds_16 rfl (by decide) (fun c_16 => ?_) (fun c_16 => ?_)
      · refine g_iconst (nx := 30) (-1) F dX12_odds_29 rfl rfl ?_
        refine g_iret F E dX12_odds_30 ?_
        exact ⟨by rw [odR, if_neg hA], rfl⟩
      · refine g_iload (nx := 21) F dX12_odds_19 rfl rfl ?_
        refine g_iconst (nx := 22) (0) F dX12_odds_21 rfl rfl ?_
        refine g_iconst (nx := 23) (1) F dX12_odds_22 rfl rfl ?_
        refine g_callS (nx := 26) 3 0 [.int what, .int 0, .int 1] F dX12_odds_23 rfl ml_RX12_174 mo_X12_in rfl rfl (Nat.le_of_ble_eq_true rfl) (by first | decide | omega) (k_in what 0 1 _) (fun r_23 τ_23 q_23 => ?_)
        obtain ⟨rfl, et_23⟩ := q_23
        have et_23 := et_23.symm
        subst et_23
        dsimp only [Option.toList, List.append, List.cons_append, List.nil_append]
        refine g_if_ne (nx := 29) 31 F dX12_odds_26 rfl (by decide) (fun c_26 => ?_) (fun c_26 => ?_)
        · exfalso
          clear F E
          simp only [odA, bI_0, bI_n0, ne_eq, fa_lt, fa_le, Int32.reduceToInt, Int32.toInt_zero, Decidable.not_not] at *
          omega
        · refine g_iconst (nx := 30) (-1) F dX12_odds_29 rfl rfl ?_
          refine g_iret F E dX12_odds_30 ?_
          exact ⟨by rw [odR, if_neg hA], rfl⟩
