/-! RESTS: gv i o is the GAIN of CLERK i when o others take -/
theorem nI_xor (a b : Nat) : nI a ^^^ nI b = nI (a ^^^ b) := by
  apply Int32.toBitVec_inj.1
  show BitVec.ofNat 32 a ^^^ BitVec.ofNat 32 b = BitVec.ofNat 32 (a ^^^ b)
  apply BitVec.eq_of_getLsbD_eq
  intro i hi
  simp [hi]
theorem bc_e : ∀ e, e ≤ 10 → ∀ x, x < 2 ^ e → bcN x ≤ e ∧ ∀ i, i < e → (x / 2 ^ i % 2 = 1 → 1 ≤ bcN x) ∧ (x / 2 ^ i % 2 = 0 → bcN x < e) := by decide +kernel
theorem off_ok : ∀ x, x < 1024 → ∀ i, i < 10 → (nI x &&& ((1 : Int32) <<< (nI i &&& 31) ^^^ -1)) = nI (x - x / 2 ^ i % 2 * 2 ^ i) ∧ x - x / 2 ^ i % 2 * 2 ^ i < 1024 ∧ bcN (x - x / 2 ^ i % 2 * 2 ^ i) = bcN x - x / 2 ^ i % 2 := by decide +kernel
theorem shl_e : ∀ e, e ≤ 10 → (1 : Int32) <<< (nI e &&& 31) = nI (2 ^ e) := by decide +kernel
def woB (gv : Nat → Nat → Int32) (x i : Nat) : Bool := if x / 2 ^ i % 2 = 1 then decide (gv i (bcN x - 1) < 0) else decide (0 < gv i (bcN x))
def psF (wo : Nat → Nat → Bool) : Nat → Nat → Nat → Nat
  | 0, _, x => x
  | q + 1, i, x => psF wo q (i + 1) (if wo x i then x ^^^ 2 ^ i else x)
def cgF (wo : Nat → Nat → Bool) : Nat → Nat → Nat → Bool
  | 0, _, _ => false
  | q + 1, i, x => wo x i || cgF wo q (i + 1) (if wo x i then x ^^^ 2 ^ i else x)
def stF (wo : Nat → Nat → Bool) (e : Nat) : Nat → Nat → Int32
  | 0, _ => -2
  | r + 1, x => if psF wo e 0 x = x then nI x else stF wo e r (psF wo e 0 x)
theorem xor_bit {x i k : Nat} : (x ^^^ 2 ^ i).testBit k = (if k = i then !(x.testBit k) else x.testBit k) := by
  rw [Nat.testBit_xor]
  by_cases h : k = i
  · subst h
    rw [if_pos rfl, Nat.testBit_two_pow_self]
    cases x.testBit k <;> rfl
  · rw [if_neg h, Nat.testBit_two_pow_of_ne (fun z => h z.symm)]
    cases x.testBit k <;> rfl
theorem ps_low {wo : Nat → Nat → Bool} : ∀ (q i x k : Nat), k < i → (psF wo q i x).testBit k = x.testBit k
  | 0, _, _, _, _ => rfl
  | q + 1, i, x, k, h => by
    rw [psF, ps_low q (i + 1) _ k (by omega)]
    split
    · rw [xor_bit, if_neg (by omega)]
    · rfl
theorem ps_cg {wo : Nat → Nat → Bool} : ∀ (q i x : Nat), (psF wo q i x = x ↔ cgF wo q i x = false)
  | 0, _, _ => ⟨fun _ => rfl, fun _ => rfl⟩
  | q + 1, i, x => by
    rw [psF, cgF]
    by_cases h : wo x i = true
    · rw [h]
      refine ⟨fun z => ?_, fun z => by cases z⟩
      exfalso
      have e := ps_low (wo := wo) q (i + 1) (x ^^^ 2 ^ i) i (by omega)
      rw [if_pos rfl] at z
      rw [z, xor_bit, if_pos rfl] at e
      cases h2 : x.testBit i <;> rw [h2] at e <;> cases e
    · have h : wo x i = false := by cases h2 : wo x i; rfl; exact absurd h2 h
      rw [h]
      exact ps_cg q (i + 1) x
theorem ps_lt {wo : Nat → Nat → Bool} {e : Nat} : ∀ (q i x : Nat), i + q ≤ e → x < 2 ^ e → psF wo q i x < 2 ^ e
  | 0, _, _, _, h => h
  | q + 1, i, x, hi, h => by
    rw [psF]
    refine ps_lt q (i + 1) _ (by omega) ?_
    split
    · exact Nat.xor_lt_two_pow h (Nat.pow_lt_pow_right (by decide) (by omega))
    · exact h
theorem cg_rest {wo : Nat → Nat → Bool} : ∀ (q i x : Nat), (∀ k, i ≤ k → k < i + q → wo x k = false) → cgF wo q i x = false
  | 0, _, _, _ => rfl
  | q + 1, i, x, h => by
    rw [cgF, h i (by omega) (by omega)]
    exact cg_rest q (i + 1) x (fun k k1 k2 => h k (by omega) (by omega))
theorem st_rest {wo : Nat → Nat → Bool} {e x : Nat} (h : ∀ i, i < e → wo x i = false) (r : Nat) : stF wo e (r + 1) x = nI x := by
  rw [stF, if_pos ((ps_cg e 0 x).mpr (cg_rest e 0 x (fun k _ k2 => h k (by omega))))]
/-- the fewest, and of these the least -/
def isMn (S : Nat → Prop) (n b : Nat) : Prop := b < n ∧ S b ∧ ∀ c, c < n → S c → bcN b < bcN c ∨ (bcN b = bcN c ∧ b ≤ c)
theorem isMn_one {S : Nat → Prop} {n a b : Nat} (h1 : isMn S n a) (h2 : isMn S n b) : a = b := by
  have x := h1.2.2 b h2.1 h2.2.1
  have y := h2.2.2 a h1.1 h1.2.1
  omega
/-- what learnWants leaves -/
def lwS (σ : zSt) (e : Nat) (gv : Nat → Nat → Int32) : Prop := e ≤ 10 ∧ σ 3 3 = nI e ∧ ∀ i, i < e → ∀ o, o < e → σ (39 + i) o = gv i o
theorem row_k : ∀ i, i < 10 → zk (39 + i) = (13, 10) := by decide +kernel
set_option maxHeartbeats 4000000 in
set_option maxRecDepth 100000 in
theorem c_wants (e x i : Nat) (gv : Nat → Nat → Int32) (σ : zSt) (hl : lwS σ e gv) (hx : x < 2 ^ e) (hi : i < e) : Con mX8_wantsOtherwise 1 [.ref 37, .int (nI i), .int (nI x)] σ (fun r τ => r = some (.int (bI (woB gv x i = true))) ∧ τ = σ) := by
  have h10 : x < 1024 := Nat.lt_of_lt_of_le hx (show 2 ^ e ≤ 2 ^ 10 from Nat.pow_le_pow_right (by decide) hl.1)
  have he10 := hl.1
  have hbit := bit_ok x h10 i (by omega)
  have hbe := bc_e e he10 x hx
  have hb1 := (hbe.2 i hi).1
  have hb0 := (hbe.2 i hi).2
  refine Con.of (lv := [.ref 37, .int (nI i), .int (nI x), .long 0, .long 0, .long 0]) mk_X8_wantsOtherwise rfl (Nat.le_of_ble_eq_true rfl) rfl (fun X F E => ?_)
  by_cases hA : x / 2 ^ i % 2 = 1
  · have hb1 := hb1 hA
    refine g_iload_n (nx := 1) 2 F dX8_wantsOtherwise_0 rfl rfl rfl ?_
    refine g_iload_n (nx := 2) 1 F dX8_wantsOtherwise_1 rfl rfl rfl ?_
    refine g_ishr (nx := 3) F dX8_wantsOtherwise_2 rfl ?_
    refine g_iconst (nx := 4) (1) F dX8_wantsOtherwise_3 rfl rfl ?_
    refine g_iand (nx := 5) F dX8_wantsOtherwise_4 rfl ?_
    refine g_iconst (nx := 6) (1) F dX8_wantsOtherwise_5 rfl rfl ?_
    rw [hbit]
    refine g_icmp_ne (nx := 9) 13 F dX8_wantsOtherwise_6 rfl (by decide) (fun c_6 => absurd c_6 (by exact fun zq => zq ((bt_1 _).mpr hA))) (fun c_6 => ?_)
    refine g_iconst (nx := 10) (1) F dX8_wantsOtherwise_9 rfl rfl ?_
    refine g_goto 14 F dX8_wantsOtherwise_10 (by decide) ?_
    refine g_istore_n (nx := 15) 3 F dX8_wantsOtherwise_14 rfl rfl (by decide) ?_
    try dsimp only [List.set]
    refine g_iload_n (nx := 16) 2 F dX8_wantsOtherwise_15 rfl rfl rfl ?_
    refine g_callS (nx := 19) 1 0 [.int (nI x)] F dX8_wantsOtherwise_16 rfl ml_RX8_72 mo_J6_bitCount_0f7a4 rfl rfl (Nat.le_of_ble_eq_true rfl) (by first | decide | omega) (j_bitCount x _ h10) (fun r_16 τ_16 q_16 => ?_)
    obtain ⟨rfl, et_16⟩ := q_16
    have et_16 := et_16.symm
    subst et_16
    dsimp only [Option.toList, List.append, List.cons_append, List.nil_append]
    refine g_iload_n (nx := 20) 3 F dX8_wantsOtherwise_19 rfl rfl rfl ?_
    refine g_if_eq (nx := 23) 27 F dX8_wantsOtherwise_20 rfl (by decide) (fun c_20 => absurd c_20 (by decide)) (fun c_20 => ?_)
    refine g_iconst (nx := 24) (1) F dX8_wantsOtherwise_23 rfl rfl ?_
    refine g_goto 28 F dX8_wantsOtherwise_24 (by decide) ?_
    skip
    refine g_isub (nx := 29) F dX8_wantsOtherwise_28 rfl ?_
    refine g_top (nI (bcN x - 1)) (by rw [show bcN x = bcN x - 1 + 1 by omega, nI_pred]; rfl) ?_
    refine g_istore (nx := 31) F dX8_wantsOtherwise_29 rfl (by decide) ?_
    try dsimp only [List.set]
    refine g_aload_n (nx := 32) 0 F dX8_wantsOtherwise_31 rfl rfl rfl ?_
    refine g_getR (nx := 35) F dX8_wantsOtherwise_32 rfl fl_RX8_20 rfl (by decide) (by decide) rfl ?_
    refine g_iload_n (nx := 36) 1 F dX8_wantsOtherwise_35 rfl rfl rfl ?_
    refine g_aaldGN (nx := 37) (i) F dX8_wantsOtherwise_36 rfl rfl (by omega) ?_
    skip
    refine g_iload (nx := 39) F dX8_wantsOtherwise_37 rfl rfl ?_
    refine g_ialdN (nx := 40) (bcN x - 1) (gv i (bcN x - 1)) F dX8_wantsOtherwise_39 rfl (row_k i (by omega)) (by omega) (hl.2.2 i hi _ (by omega)) ?_
    refine g_istore (nx := 42) F dX8_wantsOtherwise_40 rfl (by decide) ?_
    try dsimp only [List.set]
    refine g_iload_n (nx := 43) 3 F dX8_wantsOtherwise_42 rfl rfl rfl ?_
    refine g_if_eq (nx := 46) 59 F dX8_wantsOtherwise_43 rfl (by decide) (fun c_43 => absurd c_43 (by decide)) (fun c_43 => ?_)
    refine g_iload (nx := 48) F dX8_wantsOtherwise_46 rfl rfl ?_
    refine g_if_ge (nx := 51) 55 F dX8_wantsOtherwise_48 rfl (by decide) (fun c_48 => ?_) (fun c_48 => ?_)
    · refine g_iconst (nx := 56) (0) F dX8_wantsOtherwise_55 rfl rfl ?_
      refine g_goto 69 F dX8_wantsOtherwise_56 (by decide) ?_
      refine g_zret F E dX8_wantsOtherwise_69 (by first | rfl | assumption) ?_
      refine ⟨congrArg (fun z => some (Value.int z)) (Eq.symm ?_), rfl⟩
      unfold woB
      rw [if_pos hA]
      first
        | exact bI_f (fun z => absurd (of_decide_eq_true z) (not_lt_I.mpr c_48))
        | exact bI_t (decide_eq_true (not_le_I.mp c_48))
    · refine g_iconst (nx := 52) (1) F dX8_wantsOtherwise_51 rfl rfl ?_
      refine g_goto 69 F dX8_wantsOtherwise_52 (by decide) ?_
      refine g_zret F E dX8_wantsOtherwise_69 (by first | rfl | assumption) ?_
      refine ⟨congrArg (fun z => some (Value.int z)) (Eq.symm ?_), rfl⟩
      unfold woB
      rw [if_pos hA]
      first
        | exact bI_f (fun z => absurd (of_decide_eq_true z) (not_lt_I.mpr c_48))
        | exact bI_t (decide_eq_true (not_le_I.mp c_48))
  · have hb0 := hb0 (by omega)
    refine g_iload_n (nx := 1) 2 F dX8_wantsOtherwise_0 rfl rfl rfl ?_
    refine g_iload_n (nx := 2) 1 F dX8_wantsOtherwise_1 rfl rfl rfl ?_
    refine g_ishr (nx := 3) F dX8_wantsOtherwise_2 rfl ?_
    refine g_iconst (nx := 4) (1) F dX8_wantsOtherwise_3 rfl rfl ?_
    refine g_iand (nx := 5) F dX8_wantsOtherwise_4 rfl ?_
    refine g_iconst (nx := 6) (1) F dX8_wantsOtherwise_5 rfl rfl ?_
    rw [hbit]
    refine g_icmp_ne (nx := 9) 13 F dX8_wantsOtherwise_6 rfl (by decide) (fun c_6 => ?_) (fun c_6 => absurd c_6 (by exact fun zq => hA ((bt_1 _).mp zq)))
    refine g_iconst (nx := 14) (0) F dX8_wantsOtherwise_13 rfl rfl ?_
    refine g_istore_n (nx := 15) 3 F dX8_wantsOtherwise_14 rfl rfl (by decide) ?_
    try dsimp only [List.set]
    refine g_iload_n (nx := 16) 2 F dX8_wantsOtherwise_15 rfl rfl rfl ?_
    refine g_callS (nx := 19) 1 0 [.int (nI x)] F dX8_wantsOtherwise_16 rfl ml_RX8_72 mo_J6_bitCount_0f7a4 rfl rfl (Nat.le_of_ble_eq_true rfl) (by first | decide | omega) (j_bitCount x _ h10) (fun r_16 τ_16 q_16 => ?_)
    obtain ⟨rfl, et_16⟩ := q_16
    have et_16 := et_16.symm
    subst et_16
    dsimp only [Option.toList, List.append, List.cons_append, List.nil_append]
    refine g_iload_n (nx := 20) 3 F dX8_wantsOtherwise_19 rfl rfl rfl ?_
    refine g_if_eq (nx := 23) 27 F dX8_wantsOtherwise_20 rfl (by decide) (fun c_20 => ?_) (fun c_20 => absurd c_20 (by exact fun zq => zq rfl))
    refine g_iconst (nx := 28) (0) F dX8_wantsOtherwise_27 rfl rfl ?_
    skip
    refine g_isub (nx := 29) F dX8_wantsOtherwise_28 rfl ?_
    refine g_top (nI (bcN x)) (Int32.sub_zero _) ?_
    refine g_istore (nx := 31) F dX8_wantsOtherwise_29 rfl (by decide) ?_
    try dsimp only [List.set]
    refine g_aload_n (nx := 32) 0 F dX8_wantsOtherwise_31 rfl rfl rfl ?_
    refine g_getR (nx := 35) F dX8_wantsOtherwise_32 rfl fl_RX8_20 rfl (by decide) (by decide) rfl ?_
    refine g_iload_n (nx := 36) 1 F dX8_wantsOtherwise_35 rfl rfl rfl ?_
    refine g_aaldGN (nx := 37) (i) F dX8_wantsOtherwise_36 rfl rfl (by omega) ?_
    skip
    refine g_iload (nx := 39) F dX8_wantsOtherwise_37 rfl rfl ?_
    refine g_ialdN (nx := 40) (bcN x) (gv i (bcN x)) F dX8_wantsOtherwise_39 rfl (row_k i (by omega)) (by omega) (hl.2.2 i hi _ (by omega)) ?_
    refine g_istore (nx := 42) F dX8_wantsOtherwise_40 rfl (by decide) ?_
    try dsimp only [List.set]
    refine g_iload_n (nx := 43) 3 F dX8_wantsOtherwise_42 rfl rfl rfl ?_
    refine g_if_eq (nx := 46) 59 F dX8_wantsOtherwise_43 rfl (by decide) (fun c_43 => ?_) (fun c_43 => absurd c_43 (by exact fun zq => zq rfl))
    refine g_iload (nx := 61) F dX8_wantsOtherwise_59 rfl rfl ?_
    refine g_if_le (nx := 64) 68 F dX8_wantsOtherwise_61 rfl (by decide) (fun c_61 => ?_) (fun c_61 => ?_)
    · refine g_iconst (nx := 69) (0) F dX8_wantsOtherwise_68 rfl rfl ?_
      refine g_zret F E dX8_wantsOtherwise_69 (by first | rfl | assumption) ?_
      refine ⟨congrArg (fun z => some (Value.int z)) (Eq.symm ?_), rfl⟩
      unfold woB
      rw [if_neg hA]
      first
        | exact bI_f (fun z => absurd (of_decide_eq_true z) (not_lt_I.mpr c_61))
        | exact bI_t (decide_eq_true (not_le_I.mp c_61))
    · refine g_iconst (nx := 65) (1) F dX8_wantsOtherwise_64 rfl rfl ?_
      refine g_goto 69 F dX8_wantsOtherwise_65 (by decide) ?_
      refine g_zret F E dX8_wantsOtherwise_69 (by first | rfl | assumption) ?_
      refine ⟨congrArg (fun z => some (Value.int z)) (Eq.symm ?_), rfl⟩
      unfold woB
      rw [if_neg hA]
      first
        | exact bI_f (fun z => absurd (of_decide_eq_true z) (not_lt_I.mpr c_61))
        | exact bI_t (decide_eq_true (not_le_I.mp c_61))
set_option maxHeartbeats 4000000 in
set_option maxRecDepth 100000 in
theorem c_isResting (e x : Nat) (gv : Nat → Nat → Int32) (σ : zSt) (hl : lwS σ e gv) (hx : x < 2 ^ e) : Con mX8_isResting 2 [.ref 37, .int (nI x)] σ (fun r τ => r = some (.int (bI (∀ i, i < e → woB gv x i = false))) ∧ τ = σ) := by
  refine Con.of (lv := [.ref 37, .int (nI x), .long 0]) mk_X8_isResting rfl (Nat.le_of_ble_eq_true rfl) rfl (fun X F E => ?_)
  have he10 := hl.1
  have L : ∀ (q i : Nat), i + q = e → (∀ k, k < i → woB gv x k = false) → Gs X 2 [.ref 37, .int (nI x), .int (nI i)] [] σ := by
    intro q
    induction q with
    | zero =>
      intro i hi hk
      have hi : i = e := hi
      subst hi
      refine g_iload_n (nx := 3) 2 F dX8_isResting_2 rfl rfl rfl ?_
      refine g_aload_n (nx := 4) 0 F dX8_isResting_3 rfl rfl rfl ?_
      refine g_getR (nx := 7) F dX8_isResting_4 rfl fl_RX8_31 rfl (by decide) (by decide) rfl ?_
      refine g_getV (nx := 10) (nI i) F dX8_isResting_7 rfl fl_RX8_43 rfl (by decide) (by decide) rfl rfl (hl.2.1) ?_
      refine g_icmp_ge (nx := 13) 30 F dX8_isResting_10 rfl (by decide) (fun c_10 => ?_) (fun c_10 => absurd c_10 (by exact fun zq => zq (nI_le (Nat.le_refl i) (by omega))))
      refine g_iconst (nx := 31) (1) F dX8_isResting_30 rfl rfl ?_
      refine g_zret F E dX8_isResting_31 (by first | rfl | assumption) ?_
      exact ⟨congrArg (fun z => some (Value.int z)) (bI_t hk).symm, rfl⟩
    | succ q ih =>
      intro i hi hk
      refine g_iload_n (nx := 3) 2 F dX8_isResting_2 rfl rfl rfl ?_
      refine g_aload_n (nx := 4) 0 F dX8_isResting_3 rfl rfl rfl ?_
      refine g_getR (nx := 7) F dX8_isResting_4 rfl fl_RX8_31 rfl (by decide) (by decide) rfl ?_
      refine g_getV (nx := 10) (nI e) F dX8_isResting_7 rfl fl_RX8_43 rfl (by decide) (by decide) rfl rfl (hl.2.1) ?_
      refine g_icmp_ge (nx := 13) 30 F dX8_isResting_10 rfl (by decide) (fun c_10 => absurd c_10 (by exact nI_ge (by omega) (by omega))) (fun c_10 => ?_)
      refine g_aload_n (nx := 14) 0 F dX8_isResting_13 rfl rfl rfl ?_
      refine g_iload_n (nx := 15) 2 F dX8_isResting_14 rfl rfl rfl ?_
      refine g_iload_n (nx := 16) 1 F dX8_isResting_15 rfl rfl rfl ?_
      refine g_callV (nx := 19) 2 1 [.int (nI i), .int (nI x)] F dX8_isResting_16 rfl ml_RX8_78 mo_X8_wantsOtherwise rfl rfl rfl rfl (Nat.le_of_ble_eq_true rfl) (by first | decide | omega) (c_wants e x i gv _ hl hx (by omega)) (fun r_16 τ_16 q_16 => ?_)
      obtain ⟨rfl, et_16⟩ := q_16
      have et_16 := et_16.symm
      subst et_16
      dsimp only [Option.toList, List.append, List.cons_append, List.nil_append]
      refine g_if_eq (nx := 22) 24 F dX8_isResting_19 rfl (by decide) (fun c_19 => ?_) (fun c_19 => ?_)
      · refine g_iinc (nx := 27) (1) F dX8_isResting_24 rfl rfl (by decide) (by decide) ?_
        try dsimp only [List.set]
        refine g_goto 2 F dX8_isResting_27 (by decide) ?_
        rw [nI_1]
        refine ih (i + 1) (by omega) (fun k hk2 => ?_)
        by_cases ez : k = i
        · subst ez; exact Bool.eq_false_iff.mpr (bI_0.mp c_19)
        · exact hk k (by omega)
      · refine g_iconst (nx := 23) (0) F dX8_isResting_22 rfl rfl ?_
        refine g_zret F E dX8_isResting_23 (by first | rfl | assumption) ?_
        exact ⟨congrArg (fun z => some (Value.int z)) (bI_f (fun z => absurd (bI_n0.mp c_19) (by rw [z i (by omega)]; decide))).symm, rfl⟩
  refine g_iconst (nx := 1) (0) F dX8_isResting_0 rfl rfl ?_
  refine g_istore_n (nx := 2) 2 F dX8_isResting_1 rfl rfl (by decide) ?_
  try dsimp only [List.set]
  exact L e 0 (by omega) (fun k hk => absurd hk (Nat.not_lt_zero k))
def rsN (wo : Nat → Nat → Bool) (e : Nat) : Nat → Nat
  | 0 => 0
  | n + 1 => rsN wo e n + if ∀ i, i < e → wo n i = false then 1 else 0
theorem rsN_le (wo : Nat → Nat → Bool) (e : Nat) : ∀ n, rsN wo e n ≤ n
  | 0 => Nat.le_refl _
  | n + 1 => by have := rsN_le wo e n; rw [rsN]; split <;> omega
/-- the rest at a place, NONE if there is none -/
def rsP (wo : Nat → Nat → Bool) (e : Nat) (w : Int32) : Nat → Nat → Int32
  | 0, _ => -1
  | q + 1, x => if (∀ i, i < e → wo x i = false) ∧ w = nI (rsN wo e x) then nI x else rsP wo e w q (x + 1)
theorem pow_e {e : Nat} (h : e ≤ 10) : 2 ^ e ≤ 1024 := show 2 ^ e ≤ 2 ^ 10 from Nat.pow_le_pow_right (by decide) h
set_option maxHeartbeats 4000000 in
set_option maxRecDepth 100000 in
theorem c_howMany (e : Nat) (gv : Nat → Nat → Int32) (σ : zSt) (hl : lwS σ e gv) : Con mX8_howMany 3 [.ref 37] σ (fun r τ => r = some (.int (nI (rsN (woB gv) e (2 ^ e)))) ∧ τ = σ) := by
  refine Con.of (lv := [.ref 37, .long 0, .long 0]) mk_X8_howMany rfl (Nat.le_of_ble_eq_true rfl) rfl (fun X F E => ?_)
  have he10 := pow_e hl.1
  have L : ∀ (q x : Nat), x + q = 2 ^ e → Gs X 4 [.ref 37, .int (nI (rsN (woB gv) e x)), .int (nI x)] [] σ := by
    intro q
    induction q with
    | zero =>
      intro x hx
      have hx : x = 2 ^ e := hx
      refine g_iload_n (nx := 5) 2 F dX8_howMany_4 rfl rfl rfl ?_
      refine g_iconst (nx := 6) (1) F dX8_howMany_5 rfl rfl ?_
      refine g_aload_n (nx := 7) 0 F dX8_howMany_6 rfl rfl rfl ?_
      refine g_getR (nx := 10) F dX8_howMany_7 rfl fl_RX8_31 rfl (by decide) (by decide) rfl ?_
      refine g_getV (nx := 13) (nI e) F dX8_howMany_10 rfl fl_RX8_43 rfl (by decide) (by decide) rfl rfl (hl.2.1) ?_
      refine g_ishl (nx := 14) F dX8_howMany_13 rfl ?_
      refine g_top (nI (2 ^ e)) (shl_e e hl.1) ?_
      refine g_icmp_ge (nx := 17) 34 F dX8_howMany_14 rfl (by decide) (fun c_14 => ?_) (fun c_14 => absurd c_14 (by exact fun zq => zq (nI_le (by omega) (by omega))))
      refine g_iload_n (nx := 35) 1 F dX8_howMany_34 rfl rfl rfl ?_
      refine g_iret F E dX8_howMany_35 ?_
      exact ⟨by rw [hx], rfl⟩
    | succ q ih =>
      intro x hx
      have ih := ih (x + 1) (by omega)
      rw [rsN] at ih
      refine g_iload_n (nx := 5) 2 F dX8_howMany_4 rfl rfl rfl ?_
      refine g_iconst (nx := 6) (1) F dX8_howMany_5 rfl rfl ?_
      refine g_aload_n (nx := 7) 0 F dX8_howMany_6 rfl rfl rfl ?_
      refine g_getR (nx := 10) F dX8_howMany_7 rfl fl_RX8_31 rfl (by decide) (by decide) rfl ?_
      refine g_getV (nx := 13) (nI e) F dX8_howMany_10 rfl fl_RX8_43 rfl (by decide) (by decide) rfl rfl (hl.2.1) ?_
      refine g_ishl (nx := 14) F dX8_howMany_13 rfl ?_
      refine g_top (nI (2 ^ e)) (shl_e e hl.1) ?_
      refine g_icmp_ge (nx := 17) 34 F dX8_howMany_14 rfl (by decide) (fun c_14 => absurd c_14 (by exact nI_ge (by omega) (by omega))) (fun c_14 => ?_)
      refine g_aload_n (nx := 18) 0 F dX8_howMany_17 rfl rfl rfl ?_
      refine g_iload_n (nx := 19) 2 F dX8_howMany_18 rfl rfl rfl ?_
      refine g_callV (nx := 22) 1 2 [.int (nI x)] F dX8_howMany_19 rfl ml_RX8_82 mo_X8_isResting rfl rfl rfl rfl (Nat.le_of_ble_eq_true rfl) (by first | decide | omega) (c_isResting e x gv _ hl (by omega)) (fun r_19 τ_19 q_19 => ?_)
      obtain ⟨rfl, et_19⟩ := q_19
      have et_19 := et_19.symm
      subst et_19
      dsimp only [Option.toList, List.append, List.cons_append, List.nil_append]
      refine g_if_eq (nx := 25) 28 F dX8_howMany_22 rfl (by decide) (fun c_22 => ?_) (fun c_22 => ?_)
      · refine g_iinc (nx := 31) (1) F dX8_howMany_28 rfl rfl (by decide) (by decide) ?_
        try dsimp only [List.set]
        refine g_goto 4 F dX8_howMany_31 (by decide) ?_
        first
          | (have hq := bI_0.mp c_22; rw [if_neg hq] at ih; rw [nI_1]; exact ih)
          | (have hq := bI_n0.mp c_22; rw [if_pos hq] at ih; rw [nI_1, nI_1]; exact ih)
      · refine g_iinc (nx := 28) (1) F dX8_howMany_25 rfl rfl (by decide) (by decide) ?_
        try dsimp only [List.set]
        refine g_iinc (nx := 31) (1) F dX8_howMany_28 rfl rfl (by decide) (by decide) ?_
        try dsimp only [List.set]
        refine g_goto 4 F dX8_howMany_31 (by decide) ?_
        first
          | (have hq := bI_0.mp c_22; rw [if_neg hq] at ih; rw [nI_1]; exact ih)
          | (have hq := bI_n0.mp c_22; rw [if_pos hq] at ih; rw [nI_1, nI_1]; exact ih)
  refine g_iconst (nx := 1) (0) F dX8_howMany_0 rfl rfl ?_
  refine g_istore_n (nx := 2) 1 F dX8_howMany_1 rfl rfl (by decide) ?_
  try dsimp only [List.set]
  refine g_iconst (nx := 3) (0) F dX8_howMany_2 rfl rfl ?_
  refine g_istore_n (nx := 4) 2 F dX8_howMany_3 rfl rfl (by decide) ?_
  try dsimp only [List.set]
  exact L (2 ^ e) 0 (by omega)
set_option maxHeartbeats 4000000 in
set_option maxRecDepth 100000 in
theorem c_atPlaceR (e : Nat) (w : Int32) (gv : Nat → Nat → Int32) (σ : zSt) (hl : lwS σ e gv) : Con mX8_atPlace 3 [.ref 37, .int w] σ (fun r τ => r = some (.int (rsP (woB gv) e w (2 ^ e) 0)) ∧ τ = σ) := by
  refine Con.of (lv := [.ref 37, .int w, .long 0, .long 0]) mk_X8_atPlace rfl (Nat.le_of_ble_eq_true rfl) rfl (fun X F E => ?_)
  have he10 := pow_e hl.1
  have L : ∀ (q x : Nat), x + q = 2 ^ e → rsP (woB gv) e w q x = rsP (woB gv) e w (2 ^ e) 0 → Gs X 4 [.ref 37, .int w, .int (w - nI (rsN (woB gv) e x)), .int (nI x)] [] σ := by
    intro q
    induction q with
    | zero =>
      intro x hx hA
      have hx : x = 2 ^ e := hx
      refine g_iload_n (nx := 5) 3 F dX8_atPlace_4 rfl rfl rfl ?_
      refine g_iconst (nx := 6) (1) F dX8_atPlace_5 rfl rfl ?_
      refine g_aload_n (nx := 7) 0 F dX8_atPlace_6 rfl rfl rfl ?_
      refine g_getR (nx := 10) F dX8_atPlace_7 rfl fl_RX8_31 rfl (by decide) (by decide) rfl ?_
      refine g_getV (nx := 13) (nI e) F dX8_atPlace_10 rfl fl_RX8_43 rfl (by decide) (by decide) rfl rfl (hl.2.1) ?_
      refine g_ishl (nx := 14) F dX8_atPlace_13 rfl ?_
      refine g_top (nI (2 ^ e)) (shl_e e hl.1) ?_
      refine g_icmp_ge (nx := 17) 40 F dX8_atPlace_14 rfl (by decide) (fun c_14 => ?_) (fun c_14 => absurd c_14 (by exact fun zq => zq (nI_le (by omega) (by omega))))
      refine g_iconst (nx := 41) (-1) F dX8_atPlace_40 rfl rfl ?_
      refine g_iret F E dX8_atPlace_41 ?_
      exact ⟨by rw [← hA]; rfl, rfl⟩
    | succ q ih =>
      intro x hx hA
      have ih := ih (x + 1) (by omega)
      have hw0 : w - nI (rsN (woB gv) e x) = 0 ↔ w = nI (rsN (woB gv) e x) := ⟨fun z => by grind, fun z => by grind⟩
      rw [rsP] at hA
      rw [rsN] at ih
      refine g_iload_n (nx := 5) 3 F dX8_atPlace_4 rfl rfl rfl ?_
      refine g_iconst (nx := 6) (1) F dX8_atPlace_5 rfl rfl ?_
      refine g_aload_n (nx := 7) 0 F dX8_atPlace_6 rfl rfl rfl ?_
      refine g_getR (nx := 10) F dX8_atPlace_7 rfl fl_RX8_31 rfl (by decide) (by decide) rfl ?_
      refine g_getV (nx := 13) (nI e) F dX8_atPlace_10 rfl fl_RX8_43 rfl (by decide) (by decide) rfl rfl (hl.2.1) ?_
      refine g_ishl (nx := 14) F dX8_atPlace_13 rfl ?_
      refine g_top (nI (2 ^ e)) (shl_e e hl.1) ?_
      refine g_icmp_ge (nx := 17) 40 F dX8_atPlace_14 rfl (by decide) (fun c_14 => absurd c_14 (by exact nI_ge (by omega) (by omega))) (fun c_14 => ?_)
      refine g_aload_n (nx := 18) 0 F dX8_atPlace_17 rfl rfl rfl ?_
      refine g_iload_n (nx := 19) 3 F dX8_atPlace_18 rfl rfl rfl ?_
      refine g_callV (nx := 22) 1 2 [.int (nI x)] F dX8_atPlace_19 rfl ml_RX8_82 mo_X8_isResting rfl rfl rfl rfl (Nat.le_of_ble_eq_true rfl) (by first | decide | omega) (c_isResting e x gv _ hl (by omega)) (fun r_19 τ_19 q_19 => ?_)
      obtain ⟨rfl, et_19⟩ := q_19
      have et_19 := et_19.symm
      subst et_19
      dsimp only [Option.toList, List.append, List.cons_append, List.nil_append]
      refine g_if_eq (nx := 25) 34 F dX8_atPlace_22 rfl (by decide) (fun c_22 => ?_) (fun c_22 => ?_)
      · refine g_iinc (nx := 37) (1) F dX8_atPlace_34 rfl rfl (by decide) (by decide) ?_
        try dsimp only [List.set]
        refine g_goto 4 F dX8_atPlace_37 (by decide) ?_
        rw [nI_1]
        first
          | (have hq0 := bI_0.mp c_22; have hq : ¬ ((∀ i, i < e → woB gv x i = false) ∧ w = nI (rsN (woB gv) e x)) := fun z => hq0 z.1; rw [if_neg hq] at hA; rw [if_neg hq0] at ih; exact ih hA)
          | (have hq0 := bI_n0.mp c_22; have hq : ¬ ((∀ i, i < e → woB gv x i = false) ∧ w = nI (rsN (woB gv) e x)) := fun z => c_26 (hw0.mpr z.2); rw [if_neg hq] at hA; rw [if_pos hq0] at ih; rw [show w - nI (rsN (woB gv) e x) + -1 = w - nI (rsN (woB gv) e x + 1) by rw [← nI_1]; grind]; exact ih hA)
      · refine g_iload_n (nx := 26) 2 F dX8_atPlace_25 rfl rfl rfl ?_
        refine g_if_ne (nx := 29) 31 F dX8_atPlace_26 rfl (by decide) (fun c_26 => ?_) (fun c_26 => ?_)
        · refine g_iinc (nx := 34) (-1) F dX8_atPlace_31 rfl rfl (by decide) (by decide) ?_
          try dsimp only [List.set]
          refine g_iinc (nx := 37) (1) F dX8_atPlace_34 rfl rfl (by decide) (by decide) ?_
          try dsimp only [List.set]
          refine g_goto 4 F dX8_atPlace_37 (by decide) ?_
          rw [nI_1]
          first
            | (have hq0 := bI_0.mp c_22; have hq : ¬ ((∀ i, i < e → woB gv x i = false) ∧ w = nI (rsN (woB gv) e x)) := fun z => hq0 z.1; rw [if_neg hq] at hA; rw [if_neg hq0] at ih; exact ih hA)
            | (have hq0 := bI_n0.mp c_22; have hq : ¬ ((∀ i, i < e → woB gv x i = false) ∧ w = nI (rsN (woB gv) e x)) := fun z => c_26 (hw0.mpr z.2); rw [if_neg hq] at hA; rw [if_pos hq0] at ih; rw [show w - nI (rsN (woB gv) e x) + -1 = w - nI (rsN (woB gv) e x + 1) by rw [← nI_1]; grind]; exact ih hA)
        · refine g_iload_n (nx := 30) 3 F dX8_atPlace_29 rfl rfl rfl ?_
          refine g_iret F E dX8_atPlace_30 ?_
          have hq : (∀ i, i < e → woB gv x i = false) ∧ w = nI (rsN (woB gv) e x) := ⟨bI_n0.mp c_22, hw0.mp c_26⟩
          rw [if_pos hq] at hA
          exact ⟨by rw [← hA], rfl⟩
  refine g_iload_n (nx := 1) 1 F dX8_atPlace_0 rfl rfl rfl ?_
  refine g_istore_n (nx := 2) 2 F dX8_atPlace_1 rfl rfl (by decide) ?_
  try dsimp only [List.set]
  refine g_iconst (nx := 3) (0) F dX8_atPlace_2 rfl rfl ?_
  refine g_istore_n (nx := 4) 3 F dX8_atPlace_3 rfl rfl (by decide) ?_
  try dsimp only [List.set]
  have := L (2 ^ e) 0 (by omega) rfl
  rw [show nI (rsN (woB gv) e 0) = 0 from rfl, Int32.sub_zero] at this
  exact this
/-- where one round leads from a set: not asked yet, or right -/
def afS (σ : zSt) (e : Nat) (gv : Nat → Nat → Int32) : Prop := ∀ x, x < 2 ^ e → σ 195 x = -1 ∨ σ 195 x = nI (psF (woB gv) e 0 x)
def lrS (σ : zSt) (e : Nat) (gv : Nat → Nat → Int32) : Prop := (∀ i, i < e → ∀ o, o < e → σ (39 + i) o = gv i o) ∧ afS σ e gv
def fA (σ τ : zSt) : Prop := ∀ a, a ≠ 195 → τ a = σ a
theorem fA_rf (σ : zSt) : fA σ σ := fun _ _ => rfl
theorem fA_tr {σ τ ρ : zSt} (h : fA σ τ) (g : fA τ ρ) : fA σ ρ := fun a ha => (g a ha).trans (h a ha)
theorem lwS_fA {σ τ : zSt} {e : Nat} {gv : Nat → Nat → Int32} (h : fA σ τ) (hl : lwS σ e gv) : lwS τ e gv := by
  have he := hl.1
  exact ⟨he, by rw [h 3 (by decide)]; exact hl.2.1, fun i hi o ho => by rw [h (39 + i) (by omega)]; exact hl.2.2 i hi o ho⟩
theorem nI_nm1 {n : Nat} (h : n < 2000) : ¬ nI n = -1 := fun z => by
  have h2 := congrArg Int32.toInt z
  rw [nI_toInt (by omega)] at h2
  exact absurd h2 (by simp only [Int32.reduceToInt]; omega)
set_option maxHeartbeats 4000000 in
set_option maxRecDepth 100000 in
theorem c_behind (e x : Nat) (gv : Nat → Nat → Int32) (σ : zSt) (hl : lwS σ e gv) (ha : afS σ e gv) (hx : x < 2 ^ e) : Con mX8_behindRound 2 [.ref 37, .int (nI x)] σ (fun r τ => r = some (.int (nI (psF (woB gv) e 0 x))) ∧ fA σ τ ∧ afS τ e gv) := by
  refine Con.of (lv := [.ref 37, .int (nI x), .long 0, .long 0]) mk_X8_behindRound rfl (Nat.le_of_ble_eq_true rfl) rfl (fun X F E => ?_)
  have he10 := hl.1
  have hp10 := pow_e hl.1
  have hps := ps_lt (wo := woB gv) (e := e) e 0 x (by omega) hx
  have M : ∀ (q i y : Nat), i + q = e → y < 2 ^ e → psF (woB gv) q i y = psF (woB gv) e 0 x → Gs X 14 [.ref 37, .int (nI x), .int (nI y), .int (nI i)] [] σ := by
    intro q
    induction q with
    | zero =>
      intro i y hi hy hB
      have hi : i = e := hi
      have hB : y = _ := hB
      refine g_iload_n (nx := 15) 3 F dX8_behindRound_14 rfl rfl rfl ?_
      refine g_aload_n (nx := 16) 0 F dX8_behindRound_15 rfl rfl rfl ?_
      refine g_getR (nx := 19) F dX8_behindRound_16 rfl fl_RX8_31 rfl (by decide) (by decide) rfl ?_
      refine g_getV (nx := 22) (nI e) F dX8_behindRound_19 rfl fl_RX8_43 rfl (by decide) (by decide) rfl rfl (hl.2.1) ?_
      refine g_icmp_ge (nx := 25) 46 F dX8_behindRound_22 rfl (by decide) (fun c_22 => ?_) (fun c_22 => absurd c_22 (by exact fun zq => zq (nI_le (by omega) (by omega))))
      refine g_aload_n (nx := 47) 0 F dX8_behindRound_46 rfl rfl rfl ?_
      refine g_getR (nx := 50) F dX8_behindRound_47 rfl fl_RX8_23 rfl (by decide) (by decide) rfl ?_
      refine g_iload_n (nx := 51) 1 F dX8_behindRound_50 rfl rfl rfl ?_
      refine g_iload_n (nx := 52) 2 F dX8_behindRound_51 rfl rfl rfl ?_
      refine g_iastN (nx := 53) (x) F dX8_behindRound_52 rfl rfl (by omega) ?_
      refine g_aload_n (nx := 54) 0 F dX8_behindRound_53 rfl rfl rfl ?_
      refine g_getR (nx := 57) F dX8_behindRound_54 rfl fl_RX8_23 rfl (by decide) (by decide) rfl ?_
      refine g_iload_n (nx := 58) 1 F dX8_behindRound_57 rfl rfl rfl ?_
      refine g_ialdN (nx := 59) (x) (nI y) F dX8_behindRound_58 rfl rfl (by omega) (zu_same _ _ _ _) ?_
      refine g_iret F E dX8_behindRound_59 ?_
      refine ⟨by rw [hB], fun a ha => zu_ne _ ha _ _, fun z hz => ?_⟩
      by_cases ez : z = x
      · rw [ez, zu_same, hB]
        exact Or.inr rfl
      · rw [zu_off _ _ _ _ _ ez]
        exact ha z hz
    | succ q ih =>
      intro i y hi hy hB
      rw [psF] at hB
      refine g_iload_n (nx := 15) 3 F dX8_behindRound_14 rfl rfl rfl ?_
      refine g_aload_n (nx := 16) 0 F dX8_behindRound_15 rfl rfl rfl ?_
      refine g_getR (nx := 19) F dX8_behindRound_16 rfl fl_RX8_31 rfl (by decide) (by decide) rfl ?_
      refine g_getV (nx := 22) (nI e) F dX8_behindRound_19 rfl fl_RX8_43 rfl (by decide) (by decide) rfl rfl (hl.2.1) ?_
      refine g_icmp_ge (nx := 25) 46 F dX8_behindRound_22 rfl (by decide) (fun c_22 => absurd c_22 (by exact nI_ge (by omega) (by omega))) (fun c_22 => ?_)
      refine g_aload_n (nx := 26) 0 F dX8_behindRound_25 rfl rfl rfl ?_
      refine g_iload_n (nx := 27) 3 F dX8_behindRound_26 rfl rfl rfl ?_
      refine g_iload_n (nx := 28) 2 F dX8_behindRound_27 rfl rfl rfl ?_
      refine g_callV (nx := 31) 2 1 [.int (nI i), .int (nI y)] F dX8_behindRound_28 rfl ml_RX8_78 mo_X8_wantsOtherwise rfl rfl rfl rfl (Nat.le_of_ble_eq_true rfl) (by first | decide | omega) (c_wants e y i gv _ hl hy (by omega)) (fun r_28 τ_28 q_28 => ?_)
      obtain ⟨rfl, et_28⟩ := q_28
      have et_28 := et_28.symm
      subst et_28
      dsimp only [Option.toList, List.append, List.cons_append, List.nil_append]
      refine g_if_eq (nx := 34) 40 F dX8_behindRound_31 rfl (by decide) (fun c_31 => ?_) (fun c_31 => ?_)
      · refine g_iinc (nx := 43) (1) F dX8_behindRound_40 rfl rfl (by decide) (by decide) ?_
        try dsimp only [List.set]
        refine g_goto 14 F dX8_behindRound_43 (by decide) ?_
        rw [nI_1]
        first
          | (have hq := bI_0.mp c_31; rw [if_neg hq] at hB; exact ih (i + 1) y (by omega) hy hB)
          | (have hq := bI_n0.mp c_31; rw [if_pos hq] at hB; exact ih (i + 1) (y ^^^ 2 ^ i) (by omega) (Nat.xor_lt_two_pow hy (Nat.pow_lt_pow_right (by decide) (by omega))) hB)
      · refine g_iload_n (nx := 35) 2 F dX8_behindRound_34 rfl rfl rfl ?_
        refine g_iconst (nx := 36) (1) F dX8_behindRound_35 rfl rfl ?_
        refine g_iload_n (nx := 37) 3 F dX8_behindRound_36 rfl rfl rfl ?_
        refine g_ishl (nx := 38) F dX8_behindRound_37 rfl ?_
        refine g_ixor (nx := 39) F dX8_behindRound_38 rfl ?_
        rw [sh_ok i (by omega), nI_xor]
        refine g_istore_n (nx := 40) 2 F dX8_behindRound_39 rfl rfl (by decide) ?_
        try dsimp only [List.set]
        refine g_iinc (nx := 43) (1) F dX8_behindRound_40 rfl rfl (by decide) (by decide) ?_
        try dsimp only [List.set]
        refine g_goto 14 F dX8_behindRound_43 (by decide) ?_
        rw [nI_1]
        first
          | (have hq := bI_0.mp c_31; rw [if_neg hq] at hB; exact ih (i + 1) y (by omega) hy hB)
          | (have hq := bI_n0.mp c_31; rw [if_pos hq] at hB; exact ih (i + 1) (y ^^^ 2 ^ i) (by omega) (Nat.xor_lt_two_pow hy (Nat.pow_lt_pow_right (by decide) (by omega))) hB)
  rcases ha x hx with h1 | h1
  · refine g_aload_n (nx := 1) 0 F dX8_behindRound_0 rfl rfl rfl ?_
    refine g_getR (nx := 4) F dX8_behindRound_1 rfl fl_RX8_23 rfl (by decide) (by decide) rfl ?_
    refine g_iload_n (nx := 5) 1 F dX8_behindRound_4 rfl rfl rfl ?_
    refine g_ialdN (nx := 6) (x) (-1) F dX8_behindRound_5 rfl rfl (by omega) (h1) ?_
    refine g_iconst (nx := 7) (-1) F dX8_behindRound_6 rfl rfl ?_
    refine g_icmp_ne (nx := 10) 53 F dX8_behindRound_7 rfl (by decide) (fun c_7 => absurd c_7 (by exact fun zq => zq rfl)) (fun c_7 => ?_)
    refine g_iload_n (nx := 11) 1 F dX8_behindRound_10 rfl rfl rfl ?_
    refine g_istore_n (nx := 12) 2 F dX8_behindRound_11 rfl rfl (by decide) ?_
    try dsimp only [List.set]
    refine g_iconst (nx := 13) (0) F dX8_behindRound_12 rfl rfl ?_
    refine g_istore_n (nx := 14) 3 F dX8_behindRound_13 rfl rfl (by decide) ?_
    try dsimp only [List.set]
    exact M e 0 x (by omega) hx rfl
  · refine g_aload_n (nx := 1) 0 F dX8_behindRound_0 rfl rfl rfl ?_
    refine g_getR (nx := 4) F dX8_behindRound_1 rfl fl_RX8_23 rfl (by decide) (by decide) rfl ?_
    refine g_iload_n (nx := 5) 1 F dX8_behindRound_4 rfl rfl rfl ?_
    refine g_ialdN (nx := 6) (x) (nI (psF (woB gv) e 0 x)) F dX8_behindRound_5 rfl rfl (by omega) (h1) ?_
    refine g_iconst (nx := 7) (-1) F dX8_behindRound_6 rfl rfl ?_
    refine g_icmp_ne (nx := 10) 53 F dX8_behindRound_7 rfl (by decide) (fun c_7 => ?_) (fun c_7 => absurd c_7 (by exact nI_nm1 (by omega)))
    refine g_aload_n (nx := 54) 0 F dX8_behindRound_53 rfl rfl rfl ?_
    refine g_getR (nx := 57) F dX8_behindRound_54 rfl fl_RX8_23 rfl (by decide) (by decide) rfl ?_
    refine g_iload_n (nx := 58) 1 F dX8_behindRound_57 rfl rfl rfl ?_
    refine g_ialdN (nx := 59) (x) (nI (psF (woB gv) e 0 x)) F dX8_behindRound_58 rfl rfl (by omega) (h1) ?_
    refine g_iret F E dX8_behindRound_59 ?_
    exact ⟨rfl, fA_rf σ, ha⟩
set_option maxHeartbeats 4000000 in
set_option maxRecDepth 100000 in
theorem c_settleR (e x0 : Nat) (gv : Nat → Nat → Int32) (σ : zSt) (hl : lwS σ e gv) (ha0 : afS σ e gv) (hx0 : x0 < 2 ^ e) : Con mX8_settle 3 [.ref 37, .int (nI x0)] σ (fun r τ => r = some (.int (stF (woB gv) e 100 x0)) ∧ fA σ τ ∧ afS τ e gv) := by
  refine Con.of (lv := [.ref 37, .int (nI x0), .long 0, .long 0, .long 0]) mk_X8_settle rfl (Nat.le_of_ble_eq_true rfl) rfl (fun X F E => ?_)
  have he10 := hl.1
  have hp10 := pow_e hl.1
  have L : ∀ (r k x : Nat) (z4 : Value) (τ : zSt), k + r = 100 → x < 2 ^ e → stF (woB gv) e r x = stF (woB gv) e 100 x0 → fA σ τ → afS τ e gv → Gs X 4 [.ref 37, .int (nI x0), .int (nI x), .int (nI k), z4] [] τ := by
    intro r
    induction r with
    | zero =>
      intro k x z4 τ hk hx hA hfa haf
      have hk : k = 100 := hk
      subst hk
      refine g_iload_n (nx := 5) 3 F dX8_settle_4 rfl rfl rfl ?_
      refine g_bipush (nx := 7) (100) F dX8_settle_5 rfl (by decide) ?_
      refine g_icmp_ge (nx := 10) 34 F dX8_settle_7 rfl (by decide) (fun c_7 => ?_) (fun c_7 => absurd c_7 (by decide))
      refine g_bipush (nx := 36) (-2) F dX8_settle_34 rfl (by decide) ?_
      refine g_iret F E dX8_settle_36 ?_
      exact ⟨by rw [← hA]; rfl, hfa, haf⟩
    | succ r ih =>
      intro k x z4 τ hk hx hA hfa haf
      rw [stF] at hA
      have hps := ps_lt (wo := woB gv) (e := e) e 0 x (by omega) hx
      refine g_iload_n (nx := 5) 3 F dX8_settle_4 rfl rfl rfl ?_
      refine g_bipush (nx := 7) (100) F dX8_settle_5 rfl (by decide) ?_
      refine g_icmp_ge (nx := 10) 34 F dX8_settle_7 rfl (by decide) (fun c_7 => absurd c_7 (by exact nI_ge (b := 100) (by omega) (by omega))) (fun c_7 => ?_)
      refine g_aload_n (nx := 11) 0 F dX8_settle_10 rfl rfl rfl ?_
      refine g_iload_n (nx := 12) 2 F dX8_settle_11 rfl rfl rfl ?_
      refine g_callV (nx := 15) 1 2 [.int (nI x)] F dX8_settle_12 rfl ml_RX8_86 mo_X8_behindRound rfl rfl rfl rfl (Nat.le_of_ble_eq_true rfl) (by first | decide | omega) (c_behind e x gv _ (lwS_fA hfa hl) haf hx) (fun r_12 τ_12 q_12 => ?_)
      obtain ⟨rfl, hf_12, ha_12⟩ := q_12
      dsimp only [Option.toList, List.append, List.cons_append, List.nil_append]
      refine g_istore (nx := 17) F dX8_settle_15 rfl (by decide) ?_
      try dsimp only [List.set]
      refine g_iload (nx := 19) F dX8_settle_17 rfl rfl ?_
      refine g_iload_n (nx := 20) 2 F dX8_settle_19 rfl rfl rfl ?_
      refine g_icmp_ne (nx := 23) 25 F dX8_settle_20 rfl (by decide) (fun c_20 => ?_) (fun c_20 => ?_)
      · refine g_iload (nx := 27) F dX8_settle_25 rfl rfl ?_
        refine g_istore_n (nx := 28) 2 F dX8_settle_27 rfl rfl (by decide) ?_
        try dsimp only [List.set]
        refine g_iinc (nx := 31) (1) F dX8_settle_28 rfl rfl (by decide) (by decide) ?_
        try dsimp only [List.set]
        refine g_goto 4 F dX8_settle_31 (by decide) ?_
        have hq : ¬ psF (woB gv) e 0 x = x := fun z => c_20 (by rw [z])
        rw [if_neg hq] at hA
        rw [nI_1]
        exact ih (k + 1) _ _ _ (by omega) hps hA (fA_tr hfa hf_12) ha_12
      · refine g_iload_n (nx := 24) 2 F dX8_settle_23 rfl rfl rfl ?_
        refine g_iret F E dX8_settle_24 ?_
        have hq := (nI_eq (by omega) (by omega)).mp c_20
        rw [if_pos hq] at hA
        exact ⟨by rw [← hA], fA_tr hfa hf_12, ha_12⟩
  refine g_iload_n (nx := 1) 1 F dX8_settle_0 rfl rfl rfl ?_
  refine g_istore_n (nx := 2) 2 F dX8_settle_1 rfl rfl (by decide) ?_
  try dsimp only [List.set]
  refine g_iconst (nx := 3) (0) F dX8_settle_2 rfl rfl ?_
  refine g_istore_n (nx := 4) 3 F dX8_settle_3 rfl rfl (by decide) ?_
  try dsimp only [List.set]
  exact L 100 0 x0 _ σ (by omega) hx0 rfl (fA_rf σ) ha0
set_option maxHeartbeats 4000000 in
set_option maxRecDepth 100000 in
theorem c_fewest (e a b : Nat) (gv : Nat → Nat → Int32) (σ : zSt) (hl : lwS σ e gv) (ha0 : afS σ e gv) (ha : a < 2 ^ e) (hb : b < 2 ^ e) (hrest : ∀ i, i < e → woB gv b i = false) : Con mX8_fewestToChange 4 [.ref 37, .int (nI a), .int (nI b)] σ (fun r τ => (∃ d, r = some (.int (nI d)) ∧ isMn (fun c => stF (woB gv) e 100 (a ^^^ c) = nI b) (2 ^ e) d) ∧ fA σ τ ∧ afS τ e gv) := by
  refine Con.of (lv := [.ref 37, .int (nI a), .int (nI b), .long 0, .long 0, .long 0, .long 0, .long 0]) mk_X8_fewestToChange rfl (Nat.le_of_ble_eq_true rfl) rfl (fun X F E => ?_)
  have hp10 := pow_e hl.1
  have L : ∀ (q c best : Nat) (z6 z7 : Value) (τ : zSt), c + q = 2 ^ e → best < 2 ^ e → (fun c => stF (woB gv) e 100 (a ^^^ c) = nI b) best → (∀ d, d < c → (fun c => stF (woB gv) e 100 (a ^^^ c) = nI b) d → bcN best < bcN d ∨ (bcN best = bcN d ∧ best ≤ d)) → fA σ τ → afS τ e gv → Gs X 13 [.ref 37, .int (nI a), .int (nI b), .int (nI best), .int (nI (bcN best)), .int (nI c), z6, z7] [] τ := by
    intro q
    induction q with
    | zero =>
      intro c best z6 z7 τ hc hb hS hm hfa haf
      have hc : c = 2 ^ e := hc
      refine g_iload (nx := 15) F dX8_fewestToChange_13 rfl rfl ?_
      refine g_iconst (nx := 16) (1) F dX8_fewestToChange_15 rfl rfl ?_
      refine g_aload_n (nx := 17) 0 F dX8_fewestToChange_16 rfl rfl rfl ?_
      refine g_getR (nx := 20) F dX8_fewestToChange_17 rfl fl_RX8_31 rfl (by decide) (by decide) rfl ?_
      refine g_getV (nx := 23) (nI e) F dX8_fewestToChange_20 rfl fl_RX8_43 rfl (by decide) (by decide) rfl rfl ((congrFun (hfa 3 (by decide)) 3).trans hl.2.1) ?_
      refine g_ishl (nx := 24) F dX8_fewestToChange_23 rfl ?_
      refine g_top (nI (2 ^ e)) (shl_e e hl.1) ?_
      refine g_icmp_ge (nx := 27) 91 F dX8_fewestToChange_24 rfl (by decide) (fun c_24 => ?_) (fun c_24 => absurd c_24 (by exact fun zq => zq (nI_le (by omega) (by omega))))
      refine g_iload_n (nx := 92) 3 F dX8_fewestToChange_91 rfl rfl rfl ?_
      refine g_iret F E dX8_fewestToChange_92 ?_
      exact ⟨⟨best, rfl, hb, hS, fun d hd => hm d (by omega)⟩, hfa, haf⟩
    | succ q ih =>
      intro c best z6 z7 τ hc hb hS hm hfa haf
      have hc2 : c < 2 ^ e := by omega
      have hbb := bcN_le best (by omega)
      have hbc := bcN_le c (by omega)
      have hcc := nI_ltI (a := bcN c) (b := bcN best) (by omega) (by omega)
      have hce := nI_eq (a := bcN c) (b := bcN best) (by omega) (by omega)
      have hcl := nI_ltI (a := c) (b := best) (by omega) (by omega)
      have hS2 : (stF (woB gv) e 100 (a ^^^ c) = nI b) ↔ (fun c => stF (woB gv) e 100 (a ^^^ c) = nI b) c := Iff.rfl
      have kp : ((fun c => stF (woB gv) e 100 (a ^^^ c) = nI b) c → bcN best < bcN c ∨ (bcN best = bcN c ∧ best ≤ c)) → ∀ d, d < c + 1 → (fun c => stF (woB gv) e 100 (a ^^^ c) = nI b) d → bcN best < bcN d ∨ (bcN best = bcN d ∧ best ≤ d) := fun z d hd hSd => Classical.byCases (fun ez : d = c => by subst ez; exact z hSd) (fun ez => hm d (by omega) hSd)
      have tk : (bcN c < bcN best ∨ (bcN c = bcN best ∧ c < best)) → ∀ d, d < c + 1 → (fun c => stF (woB gv) e 100 (a ^^^ c) = nI b) d → bcN c < bcN d ∨ (bcN c = bcN d ∧ c ≤ d) := fun z d hd hSd => Classical.byCases (fun ez : d = c => by subst ez; omega) (fun ez => by have := hm d (by omega) hSd; omega)
      refine g_iload (nx := 15) F dX8_fewestToChange_13 rfl rfl ?_
      refine g_iconst (nx := 16) (1) F dX8_fewestToChange_15 rfl rfl ?_
      refine g_aload_n (nx := 17) 0 F dX8_fewestToChange_16 rfl rfl rfl ?_
      refine g_getR (nx := 20) F dX8_fewestToChange_17 rfl fl_RX8_31 rfl (by decide) (by decide) rfl ?_
      refine g_getV (nx := 23) (nI e) F dX8_fewestToChange_20 rfl fl_RX8_43 rfl (by decide) (by decide) rfl rfl ((congrFun (hfa 3 (by decide)) 3).trans hl.2.1) ?_
      refine g_ishl (nx := 24) F dX8_fewestToChange_23 rfl ?_
      refine g_top (nI (2 ^ e)) (shl_e e hl.1) ?_
      refine g_icmp_ge (nx := 27) 91 F dX8_fewestToChange_24 rfl (by decide) (fun c_24 => absurd c_24 (by exact nI_ge (by omega) (by omega))) (fun c_24 => ?_)
      refine g_iload (nx := 29) F dX8_fewestToChange_27 rfl rfl ?_
      refine g_callS (nx := 32) 1 0 [.int (nI c)] F dX8_fewestToChange_29 rfl ml_RX8_72 mo_J6_bitCount_0f7a4 rfl rfl (Nat.le_of_ble_eq_true rfl) (by first | decide | omega) (j_bitCount c _ (by omega)) (fun r_29 τ_29 q_29 => ?_)
      obtain ⟨rfl, et_29⟩ := q_29
      have et_29 := et_29.symm
      subst et_29
      dsimp only [Option.toList, List.append, List.cons_append, List.nil_append]
      refine g_istore (nx := 34) F dX8_fewestToChange_32 rfl (by decide) ?_
      try dsimp only [List.set]
      refine g_iload (nx := 36) F dX8_fewestToChange_34 rfl rfl ?_
      refine g_iload (nx := 38) F dX8_fewestToChange_36 rfl rfl ?_
      refine g_icmp_lt (nx := 41) 54 F dX8_fewestToChange_38 rfl (by decide) (fun c_38 => ?_) (fun c_38 => ?_)
      · refine g_iconst (nx := 55) (1) F dX8_fewestToChange_54 rfl rfl ?_
        refine g_goto 59 F dX8_fewestToChange_55 (by decide) ?_
        refine g_istore (nx := 61) F dX8_fewestToChange_59 rfl (by decide) ?_
        try dsimp only [List.set]
        refine g_iload (nx := 63) F dX8_fewestToChange_61 rfl rfl ?_
        refine g_if_eq (nx := 66) 85 F dX8_fewestToChange_63 rfl (by decide) (fun c_63 => ?_) (fun c_63 => ?_)
        · refine g_iinc (nx := 88) (1) F dX8_fewestToChange_85 rfl rfl (by decide) (by decide) ?_
          try dsimp only [List.set]
          refine g_goto 13 F dX8_fewestToChange_88 (by decide) ?_
          rw [nI_1]
          first
            | exact absurd rfl c_63
            | exact absurd (show (1 : Int32) = 0 from c_63) (by decide)
            | (have h1 := hcc.mp c_38; first | exact ih (c + 1) c _ _ _ (by omega) hc2 c_75 (tk (Or.inl h1)) (fA_tr hfa hf_71) ha_71 | exact ih (c + 1) best _ _ _ (by omega) hb hS (kp (fun z => absurd z c_75)) (fA_tr hfa hf_71) ha_71)
            | (have h1 := hce.mp c_45; have h2 := hcl.mp (not_le_I.mp c_51); first | exact ih (c + 1) c _ _ _ (by omega) hc2 c_75 (tk (Or.inr ⟨h1, h2⟩)) (fA_tr hfa hf_71) ha_71 | exact ih (c + 1) best _ _ _ (by omega) hb hS (kp (fun z => absurd z c_75)) (fA_tr hfa hf_71) ha_71)
            | (have h0 : ¬ bcN c < bcN best := fun z => c_38 (hcc.mpr z); have h1 := hce.mp c_45; have h2 : ¬ c < best := fun z => absurd c_51 (not_le_I.mpr (hcl.mpr z)); exact ih (c + 1) best _ _ _ (by omega) hb hS (kp (fun _ => by omega)) hfa haf)
            | (have h0 : ¬ bcN c < bcN best := fun z => c_38 (hcc.mpr z); have h1 : ¬ bcN c = bcN best := fun z => c_45 (hce.mpr z); exact ih (c + 1) best _ _ _ (by omega) hb hS (kp (fun _ => by omega)) hfa haf)
        · refine g_aload_n (nx := 67) 0 F dX8_fewestToChange_66 rfl rfl rfl ?_
          refine g_iload_n (nx := 68) 1 F dX8_fewestToChange_67 rfl rfl rfl ?_
          refine g_iload (nx := 70) F dX8_fewestToChange_68 rfl rfl ?_
          refine g_ixor (nx := 71) F dX8_fewestToChange_70 rfl ?_
          rw [nI_xor]
          refine g_callV (nx := 74) 1 3 [.int (nI (a ^^^ c))] F dX8_fewestToChange_71 rfl ml_RX8_89 mo_X8_settle rfl rfl rfl rfl (Nat.le_of_ble_eq_true rfl) (by first | decide | omega) (c_settleR e (a ^^^ c) gv _ (lwS_fA hfa hl) haf (Nat.xor_lt_two_pow ha hc2)) (fun r_71 τ_71 q_71 => ?_)
          obtain ⟨rfl, hf_71, ha_71⟩ := q_71
          dsimp only [Option.toList, List.append, List.cons_append, List.nil_append]
          refine g_iload_n (nx := 75) 2 F dX8_fewestToChange_74 rfl rfl rfl ?_
          refine g_icmp_ne (nx := 78) 85 F dX8_fewestToChange_75 rfl (by decide) (fun c_75 => ?_) (fun c_75 => ?_)
          · refine g_iinc (nx := 88) (1) F dX8_fewestToChange_85 rfl rfl (by decide) (by decide) ?_
            try dsimp only [List.set]
            refine g_goto 13 F dX8_fewestToChange_88 (by decide) ?_
            rw [nI_1]
            first
              | exact absurd rfl c_63
              | exact absurd (show (1 : Int32) = 0 from c_63) (by decide)
              | (have h1 := hcc.mp c_38; first | exact ih (c + 1) c _ _ _ (by omega) hc2 c_75 (tk (Or.inl h1)) (fA_tr hfa hf_71) ha_71 | exact ih (c + 1) best _ _ _ (by omega) hb hS (kp (fun z => absurd z c_75)) (fA_tr hfa hf_71) ha_71)
              | (have h1 := hce.mp c_45; have h2 := hcl.mp (not_le_I.mp c_51); first | exact ih (c + 1) c _ _ _ (by omega) hc2 c_75 (tk (Or.inr ⟨h1, h2⟩)) (fA_tr hfa hf_71) ha_71 | exact ih (c + 1) best _ _ _ (by omega) hb hS (kp (fun z => absurd z c_75)) (fA_tr hfa hf_71) ha_71)
              | (have h0 : ¬ bcN c < bcN best := fun z => c_38 (hcc.mpr z); have h1 := hce.mp c_45; have h2 : ¬ c < best := fun z => absurd c_51 (not_le_I.mpr (hcl.mpr z)); exact ih (c + 1) best _ _ _ (by omega) hb hS (kp (fun _ => by omega)) hfa haf)
              | (have h0 : ¬ bcN c < bcN best := fun z => c_38 (hcc.mpr z); have h1 : ¬ bcN c = bcN best := fun z => c_45 (hce.mpr z); exact ih (c + 1) best _ _ _ (by omega) hb hS (kp (fun _ => by omega)) hfa haf)
          · refine g_iload (nx := 80) F dX8_fewestToChange_78 rfl rfl ?_
            refine g_istore_n (nx := 81) 3 F dX8_fewestToChange_80 rfl rfl (by decide) ?_
            try dsimp only [List.set]
            refine g_iload (nx := 83) F dX8_fewestToChange_81 rfl rfl ?_
            refine g_istore (nx := 85) F dX8_fewestToChange_83 rfl (by decide) ?_
            try dsimp only [List.set]
            refine g_iinc (nx := 88) (1) F dX8_fewestToChange_85 rfl rfl (by decide) (by decide) ?_
            try dsimp only [List.set]
            refine g_goto 13 F dX8_fewestToChange_88 (by decide) ?_
            rw [nI_1]
            first
              | exact absurd rfl c_63
              | exact absurd (show (1 : Int32) = 0 from c_63) (by decide)
              | (have h1 := hcc.mp c_38; first | exact ih (c + 1) c _ _ _ (by omega) hc2 c_75 (tk (Or.inl h1)) (fA_tr hfa hf_71) ha_71 | exact ih (c + 1) best _ _ _ (by omega) hb hS (kp (fun z => absurd z c_75)) (fA_tr hfa hf_71) ha_71)
              | (have h1 := hce.mp c_45; have h2 := hcl.mp (not_le_I.mp c_51); first | exact ih (c + 1) c _ _ _ (by omega) hc2 c_75 (tk (Or.inr ⟨h1, h2⟩)) (fA_tr hfa hf_71) ha_71 | exact ih (c + 1) best _ _ _ (by omega) hb hS (kp (fun z => absurd z c_75)) (fA_tr hfa hf_71) ha_71)
              | (have h0 : ¬ bcN c < bcN best := fun z => c_38 (hcc.mpr z); have h1 := hce.mp c_45; have h2 : ¬ c < best := fun z => absurd c_51 (not_le_I.mpr (hcl.mpr z)); exact ih (c + 1) best _ _ _ (by omega) hb hS (kp (fun _ => by omega)) hfa haf)
              | (have h0 : ¬ bcN c < bcN best := fun z => c_38 (hcc.mpr z); have h1 : ¬ bcN c = bcN best := fun z => c_45 (hce.mpr z); exact ih (c + 1) best _ _ _ (by omega) hb hS (kp (fun _ => by omega)) hfa haf)
      · refine g_iload (nx := 43) F dX8_fewestToChange_41 rfl rfl ?_
        refine g_iload (nx := 45) F dX8_fewestToChange_43 rfl rfl ?_
        refine g_icmp_ne (nx := 48) 58 F dX8_fewestToChange_45 rfl (by decide) (fun c_45 => ?_) (fun c_45 => ?_)
        · refine g_iconst (nx := 59) (0) F dX8_fewestToChange_58 rfl rfl ?_
          refine g_istore (nx := 61) F dX8_fewestToChange_59 rfl (by decide) ?_
          try dsimp only [List.set]
          refine g_iload (nx := 63) F dX8_fewestToChange_61 rfl rfl ?_
          refine g_if_eq (nx := 66) 85 F dX8_fewestToChange_63 rfl (by decide) (fun c_63 => ?_) (fun c_63 => ?_)
          · refine g_iinc (nx := 88) (1) F dX8_fewestToChange_85 rfl rfl (by decide) (by decide) ?_
            try dsimp only [List.set]
            refine g_goto 13 F dX8_fewestToChange_88 (by decide) ?_
            rw [nI_1]
            first
              | exact absurd rfl c_63
              | exact absurd (show (1 : Int32) = 0 from c_63) (by decide)
              | (have h1 := hcc.mp c_38; first | exact ih (c + 1) c _ _ _ (by omega) hc2 c_75 (tk (Or.inl h1)) (fA_tr hfa hf_71) ha_71 | exact ih (c + 1) best _ _ _ (by omega) hb hS (kp (fun z => absurd z c_75)) (fA_tr hfa hf_71) ha_71)
              | (have h1 := hce.mp c_45; have h2 := hcl.mp (not_le_I.mp c_51); first | exact ih (c + 1) c _ _ _ (by omega) hc2 c_75 (tk (Or.inr ⟨h1, h2⟩)) (fA_tr hfa hf_71) ha_71 | exact ih (c + 1) best _ _ _ (by omega) hb hS (kp (fun z => absurd z c_75)) (fA_tr hfa hf_71) ha_71)
              | (have h0 : ¬ bcN c < bcN best := fun z => c_38 (hcc.mpr z); have h1 := hce.mp c_45; have h2 : ¬ c < best := fun z => absurd c_51 (not_le_I.mpr (hcl.mpr z)); exact ih (c + 1) best _ _ _ (by omega) hb hS (kp (fun _ => by omega)) hfa haf)
              | (have h0 : ¬ bcN c < bcN best := fun z => c_38 (hcc.mpr z); have h1 : ¬ bcN c = bcN best := fun z => c_45 (hce.mpr z); exact ih (c + 1) best _ _ _ (by omega) hb hS (kp (fun _ => by omega)) hfa haf)
          · refine g_aload_n (nx := 67) 0 F dX8_fewestToChange_66 rfl rfl rfl ?_
            refine g_iload_n (nx := 68) 1 F dX8_fewestToChange_67 rfl rfl rfl ?_
            refine g_iload (nx := 70) F dX8_fewestToChange_68 rfl rfl ?_
            refine g_ixor (nx := 71) F dX8_fewestToChange_70 rfl ?_
            rw [nI_xor]
            refine g_callV (nx := 74) 1 3 [.int (nI (a ^^^ c))] F dX8_fewestToChange_71 rfl ml_RX8_89 mo_X8_settle rfl rfl rfl rfl (Nat.le_of_ble_eq_true rfl) (by first | decide | omega) (c_settleR e (a ^^^ c) gv _ (lwS_fA hfa hl) haf (Nat.xor_lt_two_pow ha hc2)) (fun r_71 τ_71 q_71 => ?_)
            obtain ⟨rfl, hf_71, ha_71⟩ := q_71
            dsimp only [Option.toList, List.append, List.cons_append, List.nil_append]
            refine g_iload_n (nx := 75) 2 F dX8_fewestToChange_74 rfl rfl rfl ?_
            refine g_icmp_ne (nx := 78) 85 F dX8_fewestToChange_75 rfl (by decide) (fun c_75 => ?_) (fun c_75 => ?_)
            · refine g_iinc (nx := 88) (1) F dX8_fewestToChange_85 rfl rfl (by decide) (by decide) ?_
              try dsimp only [List.set]
              refine g_goto 13 F dX8_fewestToChange_88 (by decide) ?_
              rw [nI_1]
              first
                | exact absurd rfl c_63
                | exact absurd (show (1 : Int32) = 0 from c_63) (by decide)
                | (have h1 := hcc.mp c_38; first | exact ih (c + 1) c _ _ _ (by omega) hc2 c_75 (tk (Or.inl h1)) (fA_tr hfa hf_71) ha_71 | exact ih (c + 1) best _ _ _ (by omega) hb hS (kp (fun z => absurd z c_75)) (fA_tr hfa hf_71) ha_71)
                | (have h1 := hce.mp c_45; have h2 := hcl.mp (not_le_I.mp c_51); first | exact ih (c + 1) c _ _ _ (by omega) hc2 c_75 (tk (Or.inr ⟨h1, h2⟩)) (fA_tr hfa hf_71) ha_71 | exact ih (c + 1) best _ _ _ (by omega) hb hS (kp (fun z => absurd z c_75)) (fA_tr hfa hf_71) ha_71)
                | (have h0 : ¬ bcN c < bcN best := fun z => c_38 (hcc.mpr z); have h1 := hce.mp c_45; have h2 : ¬ c < best := fun z => absurd c_51 (not_le_I.mpr (hcl.mpr z)); exact ih (c + 1) best _ _ _ (by omega) hb hS (kp (fun _ => by omega)) hfa haf)
                | (have h0 : ¬ bcN c < bcN best := fun z => c_38 (hcc.mpr z); have h1 : ¬ bcN c = bcN best := fun z => c_45 (hce.mpr z); exact ih (c + 1) best _ _ _ (by omega) hb hS (kp (fun _ => by omega)) hfa haf)
            · refine g_iload (nx := 80) F dX8_fewestToChange_78 rfl rfl ?_
              refine g_istore_n (nx := 81) 3 F dX8_fewestToChange_80 rfl rfl (by decide) ?_
              try dsimp only [List.set]
              refine g_iload (nx := 83) F dX8_fewestToChange_81 rfl rfl ?_
              refine g_istore (nx := 85) F dX8_fewestToChange_83 rfl (by decide) ?_
              try dsimp only [List.set]
              refine g_iinc (nx := 88) (1) F dX8_fewestToChange_85 rfl rfl (by decide) (by decide) ?_
              try dsimp only [List.set]
              refine g_goto 13 F dX8_fewestToChange_88 (by decide) ?_
              rw [nI_1]
              first
                | exact absurd rfl c_63
                | exact absurd (show (1 : Int32) = 0 from c_63) (by decide)
                | (have h1 := hcc.mp c_38; first | exact ih (c + 1) c _ _ _ (by omega) hc2 c_75 (tk (Or.inl h1)) (fA_tr hfa hf_71) ha_71 | exact ih (c + 1) best _ _ _ (by omega) hb hS (kp (fun z => absurd z c_75)) (fA_tr hfa hf_71) ha_71)
                | (have h1 := hce.mp c_45; have h2 := hcl.mp (not_le_I.mp c_51); first | exact ih (c + 1) c _ _ _ (by omega) hc2 c_75 (tk (Or.inr ⟨h1, h2⟩)) (fA_tr hfa hf_71) ha_71 | exact ih (c + 1) best _ _ _ (by omega) hb hS (kp (fun z => absurd z c_75)) (fA_tr hfa hf_71) ha_71)
                | (have h0 : ¬ bcN c < bcN best := fun z => c_38 (hcc.mpr z); have h1 := hce.mp c_45; have h2 : ¬ c < best := fun z => absurd c_51 (not_le_I.mpr (hcl.mpr z)); exact ih (c + 1) best _ _ _ (by omega) hb hS (kp (fun _ => by omega)) hfa haf)
                | (have h0 : ¬ bcN c < bcN best := fun z => c_38 (hcc.mpr z); have h1 : ¬ bcN c = bcN best := fun z => c_45 (hce.mpr z); exact ih (c + 1) best _ _ _ (by omega) hb hS (kp (fun _ => by omega)) hfa haf)
        · refine g_iload (nx := 50) F dX8_fewestToChange_48 rfl rfl ?_
          refine g_iload_n (nx := 51) 3 F dX8_fewestToChange_50 rfl rfl rfl ?_
          refine g_icmp_ge (nx := 54) 58 F dX8_fewestToChange_51 rfl (by decide) (fun c_51 => ?_) (fun c_51 => ?_)
          · refine g_iconst (nx := 59) (0) F dX8_fewestToChange_58 rfl rfl ?_
            refine g_istore (nx := 61) F dX8_fewestToChange_59 rfl (by decide) ?_
            try dsimp only [List.set]
            refine g_iload (nx := 63) F dX8_fewestToChange_61 rfl rfl ?_
            refine g_if_eq (nx := 66) 85 F dX8_fewestToChange_63 rfl (by decide) (fun c_63 => ?_) (fun c_63 => ?_)
            · refine g_iinc (nx := 88) (1) F dX8_fewestToChange_85 rfl rfl (by decide) (by decide) ?_
              try dsimp only [List.set]
              refine g_goto 13 F dX8_fewestToChange_88 (by decide) ?_
              rw [nI_1]
              first
                | exact absurd rfl c_63
                | exact absurd (show (1 : Int32) = 0 from c_63) (by decide)
                | (have h1 := hcc.mp c_38; first | exact ih (c + 1) c _ _ _ (by omega) hc2 c_75 (tk (Or.inl h1)) (fA_tr hfa hf_71) ha_71 | exact ih (c + 1) best _ _ _ (by omega) hb hS (kp (fun z => absurd z c_75)) (fA_tr hfa hf_71) ha_71)
                | (have h1 := hce.mp c_45; have h2 := hcl.mp (not_le_I.mp c_51); first | exact ih (c + 1) c _ _ _ (by omega) hc2 c_75 (tk (Or.inr ⟨h1, h2⟩)) (fA_tr hfa hf_71) ha_71 | exact ih (c + 1) best _ _ _ (by omega) hb hS (kp (fun z => absurd z c_75)) (fA_tr hfa hf_71) ha_71)
                | (have h0 : ¬ bcN c < bcN best := fun z => c_38 (hcc.mpr z); have h1 := hce.mp c_45; have h2 : ¬ c < best := fun z => absurd c_51 (not_le_I.mpr (hcl.mpr z)); exact ih (c + 1) best _ _ _ (by omega) hb hS (kp (fun _ => by omega)) hfa haf)
                | (have h0 : ¬ bcN c < bcN best := fun z => c_38 (hcc.mpr z); have h1 : ¬ bcN c = bcN best := fun z => c_45 (hce.mpr z); exact ih (c + 1) best _ _ _ (by omega) hb hS (kp (fun _ => by omega)) hfa haf)
            · refine g_aload_n (nx := 67) 0 F dX8_fewestToChange_66 rfl rfl rfl ?_
              refine g_iload_n (nx := 68) 1 F dX8_fewestToChange_67 rfl rfl rfl ?_
              refine g_iload (nx := 70) F dX8_fewestToChange_68 rfl rfl ?_
              refine g_ixor (nx := 71) F dX8_fewestToChange_70 rfl ?_
              rw [nI_xor]
              refine g_callV (nx := 74) 1 3 [.int (nI (a ^^^ c))] F dX8_fewestToChange_71 rfl ml_RX8_89 mo_X8_settle rfl rfl rfl rfl (Nat.le_of_ble_eq_true rfl) (by first | decide | omega) (c_settleR e (a ^^^ c) gv _ (lwS_fA hfa hl) haf (Nat.xor_lt_two_pow ha hc2)) (fun r_71 τ_71 q_71 => ?_)
              obtain ⟨rfl, hf_71, ha_71⟩ := q_71
              dsimp only [Option.toList, List.append, List.cons_append, List.nil_append]
              refine g_iload_n (nx := 75) 2 F dX8_fewestToChange_74 rfl rfl rfl ?_
              refine g_icmp_ne (nx := 78) 85 F dX8_fewestToChange_75 rfl (by decide) (fun c_75 => ?_) (fun c_75 => ?_)
              · refine g_iinc (nx := 88) (1) F dX8_fewestToChange_85 rfl rfl (by decide) (by decide) ?_
                try dsimp only [List.set]
                refine g_goto 13 F dX8_fewestToChange_88 (by decide) ?_
                rw [nI_1]
                first
                  | exact absurd rfl c_63
                  | exact absurd (show (1 : Int32) = 0 from c_63) (by decide)
                  | (have h1 := hcc.mp c_38; first | exact ih (c + 1) c _ _ _ (by omega) hc2 c_75 (tk (Or.inl h1)) (fA_tr hfa hf_71) ha_71 | exact ih (c + 1) best _ _ _ (by omega) hb hS (kp (fun z => absurd z c_75)) (fA_tr hfa hf_71) ha_71)
                  | (have h1 := hce.mp c_45; have h2 := hcl.mp (not_le_I.mp c_51); first | exact ih (c + 1) c _ _ _ (by omega) hc2 c_75 (tk (Or.inr ⟨h1, h2⟩)) (fA_tr hfa hf_71) ha_71 | exact ih (c + 1) best _ _ _ (by omega) hb hS (kp (fun z => absurd z c_75)) (fA_tr hfa hf_71) ha_71)
                  | (have h0 : ¬ bcN c < bcN best := fun z => c_38 (hcc.mpr z); have h1 := hce.mp c_45; have h2 : ¬ c < best := fun z => absurd c_51 (not_le_I.mpr (hcl.mpr z)); exact ih (c + 1) best _ _ _ (by omega) hb hS (kp (fun _ => by omega)) hfa haf)
                  | (have h0 : ¬ bcN c < bcN best := fun z => c_38 (hcc.mpr z); have h1 : ¬ bcN c = bcN best := fun z => c_45 (hce.mpr z); exact ih (c + 1) best _ _ _ (by omega) hb hS (kp (fun _ => by omega)) hfa haf)
              · refine g_iload (nx := 80) F dX8_fewestToChange_78 rfl rfl ?_
                refine g_istore_n (nx := 81) 3 F dX8_fewestToChange_80 rfl rfl (by decide) ?_
                try dsimp only [List.set]
                refine g_iload (nx := 83) F dX8_fewestToChange_81 rfl rfl ?_
                refine g_istore (nx := 85) F dX8_fewestToChange_83 rfl (by decide) ?_
                try dsimp only [List.set]
                refine g_iinc (nx := 88) (1) F dX8_fewestToChange_85 rfl rfl (by decide) (by decide) ?_
                try dsimp only [List.set]
                refine g_goto 13 F dX8_fewestToChange_88 (by decide) ?_
                rw [nI_1]
                first
                  | exact absurd rfl c_63
                  | exact absurd (show (1 : Int32) = 0 from c_63) (by decide)
                  | (have h1 := hcc.mp c_38; first | exact ih (c + 1) c _ _ _ (by omega) hc2 c_75 (tk (Or.inl h1)) (fA_tr hfa hf_71) ha_71 | exact ih (c + 1) best _ _ _ (by omega) hb hS (kp (fun z => absurd z c_75)) (fA_tr hfa hf_71) ha_71)
                  | (have h1 := hce.mp c_45; have h2 := hcl.mp (not_le_I.mp c_51); first | exact ih (c + 1) c _ _ _ (by omega) hc2 c_75 (tk (Or.inr ⟨h1, h2⟩)) (fA_tr hfa hf_71) ha_71 | exact ih (c + 1) best _ _ _ (by omega) hb hS (kp (fun z => absurd z c_75)) (fA_tr hfa hf_71) ha_71)
                  | (have h0 : ¬ bcN c < bcN best := fun z => c_38 (hcc.mpr z); have h1 := hce.mp c_45; have h2 : ¬ c < best := fun z => absurd c_51 (not_le_I.mpr (hcl.mpr z)); exact ih (c + 1) best _ _ _ (by omega) hb hS (kp (fun _ => by omega)) hfa haf)
                  | (have h0 : ¬ bcN c < bcN best := fun z => c_38 (hcc.mpr z); have h1 : ¬ bcN c = bcN best := fun z => c_45 (hce.mpr z); exact ih (c + 1) best _ _ _ (by omega) hb hS (kp (fun _ => by omega)) hfa haf)
          · refine g_iconst (nx := 55) (1) F dX8_fewestToChange_54 rfl rfl ?_
            refine g_goto 59 F dX8_fewestToChange_55 (by decide) ?_
            refine g_istore (nx := 61) F dX8_fewestToChange_59 rfl (by decide) ?_
            try dsimp only [List.set]
            refine g_iload (nx := 63) F dX8_fewestToChange_61 rfl rfl ?_
            refine g_if_eq (nx := 66) 85 F dX8_fewestToChange_63 rfl (by decide) (fun c_63 => ?_) (fun c_63 => ?_)
            · refine g_iinc (nx := 88) (1) F dX8_fewestToChange_85 rfl rfl (by decide) (by decide) ?_
              try dsimp only [List.set]
              refine g_goto 13 F dX8_fewestToChange_88 (by decide) ?_
              rw [nI_1]
              first
                | exact absurd rfl c_63
                | exact absurd (show (1 : Int32) = 0 from c_63) (by decide)
                | (have h1 := hcc.mp c_38; first | exact ih (c + 1) c _ _ _ (by omega) hc2 c_75 (tk (Or.inl h1)) (fA_tr hfa hf_71) ha_71 | exact ih (c + 1) best _ _ _ (by omega) hb hS (kp (fun z => absurd z c_75)) (fA_tr hfa hf_71) ha_71)
                | (have h1 := hce.mp c_45; have h2 := hcl.mp (not_le_I.mp c_51); first | exact ih (c + 1) c _ _ _ (by omega) hc2 c_75 (tk (Or.inr ⟨h1, h2⟩)) (fA_tr hfa hf_71) ha_71 | exact ih (c + 1) best _ _ _ (by omega) hb hS (kp (fun z => absurd z c_75)) (fA_tr hfa hf_71) ha_71)
                | (have h0 : ¬ bcN c < bcN best := fun z => c_38 (hcc.mpr z); have h1 := hce.mp c_45; have h2 : ¬ c < best := fun z => absurd c_51 (not_le_I.mpr (hcl.mpr z)); exact ih (c + 1) best _ _ _ (by omega) hb hS (kp (fun _ => by omega)) hfa haf)
                | (have h0 : ¬ bcN c < bcN best := fun z => c_38 (hcc.mpr z); have h1 : ¬ bcN c = bcN best := fun z => c_45 (hce.mpr z); exact ih (c + 1) best _ _ _ (by omega) hb hS (kp (fun _ => by omega)) hfa haf)
            · refine g_aload_n (nx := 67) 0 F dX8_fewestToChange_66 rfl rfl rfl ?_
              refine g_iload_n (nx := 68) 1 F dX8_fewestToChange_67 rfl rfl rfl ?_
              refine g_iload (nx := 70) F dX8_fewestToChange_68 rfl rfl ?_
              refine g_ixor (nx := 71) F dX8_fewestToChange_70 rfl ?_
              rw [nI_xor]
              refine g_callV (nx := 74) 1 3 [.int (nI (a ^^^ c))] F dX8_fewestToChange_71 rfl ml_RX8_89 mo_X8_settle rfl rfl rfl rfl (Nat.le_of_ble_eq_true rfl) (by first | decide | omega) (c_settleR e (a ^^^ c) gv _ (lwS_fA hfa hl) haf (Nat.xor_lt_two_pow ha hc2)) (fun r_71 τ_71 q_71 => ?_)
              obtain ⟨rfl, hf_71, ha_71⟩ := q_71
              dsimp only [Option.toList, List.append, List.cons_append, List.nil_append]
              refine g_iload_n (nx := 75) 2 F dX8_fewestToChange_74 rfl rfl rfl ?_
              refine g_icmp_ne (nx := 78) 85 F dX8_fewestToChange_75 rfl (by decide) (fun c_75 => ?_) (fun c_75 => ?_)
              · refine g_iinc (nx := 88) (1) F dX8_fewestToChange_85 rfl rfl (by decide) (by decide) ?_
                try dsimp only [List.set]
                refine g_goto 13 F dX8_fewestToChange_88 (by decide) ?_
                rw [nI_1]
                first
                  | exact absurd rfl c_63
                  | exact absurd (show (1 : Int32) = 0 from c_63) (by decide)
                  | (have h1 := hcc.mp c_38; first | exact ih (c + 1) c _ _ _ (by omega) hc2 c_75 (tk (Or.inl h1)) (fA_tr hfa hf_71) ha_71 | exact ih (c + 1) best _ _ _ (by omega) hb hS (kp (fun z => absurd z c_75)) (fA_tr hfa hf_71) ha_71)
                  | (have h1 := hce.mp c_45; have h2 := hcl.mp (not_le_I.mp c_51); first | exact ih (c + 1) c _ _ _ (by omega) hc2 c_75 (tk (Or.inr ⟨h1, h2⟩)) (fA_tr hfa hf_71) ha_71 | exact ih (c + 1) best _ _ _ (by omega) hb hS (kp (fun z => absurd z c_75)) (fA_tr hfa hf_71) ha_71)
                  | (have h0 : ¬ bcN c < bcN best := fun z => c_38 (hcc.mpr z); have h1 := hce.mp c_45; have h2 : ¬ c < best := fun z => absurd c_51 (not_le_I.mpr (hcl.mpr z)); exact ih (c + 1) best _ _ _ (by omega) hb hS (kp (fun _ => by omega)) hfa haf)
                  | (have h0 : ¬ bcN c < bcN best := fun z => c_38 (hcc.mpr z); have h1 : ¬ bcN c = bcN best := fun z => c_45 (hce.mpr z); exact ih (c + 1) best _ _ _ (by omega) hb hS (kp (fun _ => by omega)) hfa haf)
              · refine g_iload (nx := 80) F dX8_fewestToChange_78 rfl rfl ?_
                refine g_istore_n (nx := 81) 3 F dX8_fewestToChange_80 rfl rfl (by decide) ?_
                try dsimp only [List.set]
                refine g_iload (nx := 83) F dX8_fewestToChange_81 rfl rfl ?_
                refine g_istore (nx := 85) F dX8_fewestToChange_83 rfl (by decide) ?_
                try dsimp only [List.set]
                refine g_iinc (nx := 88) (1) F dX8_fewestToChange_85 rfl rfl (by decide) (by decide) ?_
                try dsimp only [List.set]
                refine g_goto 13 F dX8_fewestToChange_88 (by decide) ?_
                rw [nI_1]
                first
                  | exact absurd rfl c_63
                  | exact absurd (show (1 : Int32) = 0 from c_63) (by decide)
                  | (have h1 := hcc.mp c_38; first | exact ih (c + 1) c _ _ _ (by omega) hc2 c_75 (tk (Or.inl h1)) (fA_tr hfa hf_71) ha_71 | exact ih (c + 1) best _ _ _ (by omega) hb hS (kp (fun z => absurd z c_75)) (fA_tr hfa hf_71) ha_71)
                  | (have h1 := hce.mp c_45; have h2 := hcl.mp (not_le_I.mp c_51); first | exact ih (c + 1) c _ _ _ (by omega) hc2 c_75 (tk (Or.inr ⟨h1, h2⟩)) (fA_tr hfa hf_71) ha_71 | exact ih (c + 1) best _ _ _ (by omega) hb hS (kp (fun z => absurd z c_75)) (fA_tr hfa hf_71) ha_71)
                  | (have h0 : ¬ bcN c < bcN best := fun z => c_38 (hcc.mpr z); have h1 := hce.mp c_45; have h2 : ¬ c < best := fun z => absurd c_51 (not_le_I.mpr (hcl.mpr z)); exact ih (c + 1) best _ _ _ (by omega) hb hS (kp (fun _ => by omega)) hfa haf)
                  | (have h0 : ¬ bcN c < bcN best := fun z => c_38 (hcc.mpr z); have h1 : ¬ bcN c = bcN best := fun z => c_45 (hce.mpr z); exact ih (c + 1) best _ _ _ (by omega) hb hS (kp (fun _ => by omega)) hfa haf)
  refine g_iload_n (nx := 1) 1 F dX8_fewestToChange_0 rfl rfl rfl ?_
  refine g_iload_n (nx := 2) 2 F dX8_fewestToChange_1 rfl rfl rfl ?_
  refine g_ixor (nx := 3) F dX8_fewestToChange_2 rfl ?_
  rw [nI_xor]
  refine g_istore_n (nx := 4) 3 F dX8_fewestToChange_3 rfl rfl (by decide) ?_
  try dsimp only [List.set]
  refine g_iload_n (nx := 5) 3 F dX8_fewestToChange_4 rfl rfl rfl ?_
  refine g_callS (nx := 8) 1 0 [.int (nI (a ^^^ b))] F dX8_fewestToChange_5 rfl ml_RX8_72 mo_J6_bitCount_0f7a4 rfl rfl (Nat.le_of_ble_eq_true rfl) (by first | decide | omega) (j_bitCount (a ^^^ b) _ (by have := Nat.xor_lt_two_pow ha hb; omega)) (fun r_5 τ_5 q_5 => ?_)
  obtain ⟨rfl, et_5⟩ := q_5
  have et_5 := et_5.symm
  subst et_5
  dsimp only [Option.toList, List.append, List.cons_append, List.nil_append]
  refine g_istore (nx := 10) F dX8_fewestToChange_8 rfl (by decide) ?_
  try dsimp only [List.set]
  refine g_iconst (nx := 11) (0) F dX8_fewestToChange_10 rfl rfl ?_
  refine g_istore (nx := 13) F dX8_fewestToChange_11 rfl (by decide) ?_
  try dsimp only [List.set]
  exact L (2 ^ e) 0 (a ^^^ b) _ _ σ (by omega) (Nat.xor_lt_two_pow ha hb) (by show stF (woB gv) e 100 (a ^^^ (a ^^^ b)) = nI b; rw [← Nat.xor_assoc, Nat.xor_self, Nat.zero_xor]; exact st_rest hrest 99) (fun d hd => absurd hd (Nat.not_lt_zero d)) (fA_rf σ) ha0
