set_option maxHeartbeats 4000000 in
set_option maxRecDepth 100000 in
theorem j_isLatin1 (k : Nat) (σ : zSt) (hk : k < 6) : Con mJ0_isLatin1_aae02 0 [.ref (1000 + k)] σ (fun r τ => r = some (.int (1)) ∧ τ = σ) := by
  refine Con.of (lv := [.ref (1000 + k)]) mk_J0_isLatin1_aae02 rfl (Nat.le_of_ble_eq_true rfl) rfl (fun X F E => ?_)
  refine g_Scomp (nx := 3) F dJ0_isLatin1_aae02_0 rfl sf_38 ?_
  refine g_if_eq (nx := 6) 17 F dJ0_isLatin1_aae02_3 rfl (by decide) (fun c_3 => absurd c_3 (by decide)) (fun c_3 => ?_)
  refine g_aload_n (nx := 7) 0 F dJ0_isLatin1_aae02_6 rfl rfl rfl ?_
  refine g_Scoder (nx := 10) F dJ0_isLatin1_aae02_7 rfl hk sf_15 ?_
  refine g_if_ne (nx := 13) 17 F dJ0_isLatin1_aae02_10 rfl (by decide) (fun c_10 => absurd c_10 (by exact fun zq => zq rfl)) (fun c_10 => ?_)
  refine g_iconst (nx := 14) (1) F dJ0_isLatin1_aae02_13 rfl rfl ?_
  refine g_goto 18 F dJ0_isLatin1_aae02_14 (by decide) ?_
  refine g_zret F E dJ0_isLatin1_aae02_18 (by first | rfl | assumption) ?_
  exact ⟨rfl, rfl⟩
set_option maxHeartbeats 4000000 in
set_option maxRecDepth 100000 in
theorem j_coder (k : Nat) (σ : zSt) (hk : k < 6) : Con mJ0_coder_7d493 0 [.ref (1000 + k)] σ (fun r τ => r = some (.int (0)) ∧ τ = σ) := by
  refine Con.of (lv := [.ref (1000 + k)]) mk_J0_coder_7d493 rfl (Nat.le_of_ble_eq_true rfl) rfl (fun X F E => ?_)
  refine g_Scomp (nx := 3) F dJ0_coder_7d493_0 rfl sf_38 ?_
  refine g_if_eq (nx := 6) 13 F dJ0_coder_7d493_3 rfl (by decide) (fun c_3 => absurd c_3 (by decide)) (fun c_3 => ?_)
  refine g_aload_n (nx := 7) 0 F dJ0_coder_7d493_6 rfl rfl rfl ?_
  refine g_Scoder (nx := 10) F dJ0_coder_7d493_7 rfl hk sf_15 ?_
  refine g_goto 14 F dJ0_coder_7d493_10 (by decide) ?_
  refine g_zret F E dJ0_coder_7d493_14 (by first | rfl | assumption) ?_
  exact ⟨rfl, rfl⟩
set_option maxHeartbeats 4000000 in
set_option maxRecDepth 100000 in
theorem j_length (k : Nat) (σ : zSt) (hk : k < 6) : Con mJ0_length_8abf5 1 [.ref (1000 + k)] σ (fun r τ => r = some (.int (nI (zsl.getD k 0))) ∧ τ = σ) := by
  refine Con.of (lv := [.ref (1000 + k)]) mk_J0_length_8abf5 rfl (Nat.le_of_ble_eq_true rfl) rfl (fun X F E => ?_)
  refine g_aload_n (nx := 1) 0 F dJ0_length_8abf5_0 rfl rfl rfl ?_
  refine g_Sval (nx := 4) F dJ0_length_8abf5_1 rfl hk sf_9 ?_
  refine g_Slen (nx := 5) F dJ0_length_8abf5_4 rfl hk ?_
  refine g_aload_n (nx := 6) 0 F dJ0_length_8abf5_5 rfl rfl rfl ?_
  refine g_callSt (nx := 9) 0 0 [] F dJ0_length_8abf5_6 rfl ml_RJ0_335 mo_J0_coder_7d493 hk rfl rfl rfl (Nat.le_of_ble_eq_true rfl) (by first | decide | omega) (j_coder k _ hk) (fun r_6 τ_6 q_6 => ?_)
  obtain ⟨rfl, et_6⟩ := q_6
  have et_6 := et_6.symm
  subst et_6
  dsimp only [Option.toList, List.append, List.cons_append, List.nil_append]
  refine g_ishr (nx := 10) F dJ0_length_8abf5_9 rfl ?_
  refine g_iret F E dJ0_length_8abf5_10 ?_
  exact ⟨congrArg (fun z => some (Value.int z)) ((show ∀ k, k < 6 → nI (zsl.getD k 0) >>> (0 &&& 31) = nI (zsl.getD k 0) by decide) k hk), rfl⟩
set_option maxHeartbeats 4000000 in
set_option maxRecDepth 100000 in
theorem j_ck3n (i n : Nat) (σ : zSt) (h : i < n) (hn : n < 1000) : Con mJ3_checkIndex_8e157 0 [.int (nI i), .int (nI n), .null] σ (fun r τ => r = some (.int (nI i)) ∧ τ = σ) := by
  refine Con.of (lv := [.int (nI i), .int (nI n), .null]) mk_J3_checkIndex_8e157 rfl (Nat.le_of_ble_eq_true rfl) rfl (fun X F E => ?_)
  refine g_iload_n (nx := 1) 0 F dJ3_checkIndex_8e157_0 rfl rfl rfl ?_
  refine g_if_lt (nx := 4) 9 F dJ3_checkIndex_8e157_1 rfl (by decide) (fun c_1 => absurd c_1 (by exact nI_pos (by omega))) (fun c_1 => ?_)
  refine g_iload_n (nx := 5) 0 F dJ3_checkIndex_8e157_4 rfl rfl rfl ?_
  refine g_iload_n (nx := 6) 1 F dJ3_checkIndex_8e157_5 rfl rfl rfl ?_
  refine g_icmp_lt (nx := 9) 16 F dJ3_checkIndex_8e157_6 rfl (by decide) (fun c_6 => ?_) (fun c_6 => absurd c_6 (by exact fun zq => zq (nI_lt (by omega) (by omega))))
  refine g_iload_n (nx := 17) 0 F dJ3_checkIndex_8e157_16 rfl rfl rfl ?_
  refine g_iret F E dJ3_checkIndex_8e157_17 ?_
  exact ⟨rfl, rfl⟩
set_option maxHeartbeats 4000000 in
set_option maxRecDepth 100000 in
theorem j_ck3r (i n : Nat) (σ : zSt) (h : i < n) (hn : n < 1000) : Con mJ3_checkIndex_8e157 0 [.int (nI i), .int (nI n), .ref 3000] σ (fun r τ => r = some (.int (nI i)) ∧ τ = σ) := by
  refine Con.of (lv := [.int (nI i), .int (nI n), .ref 3000]) mk_J3_checkIndex_8e157 rfl (Nat.le_of_ble_eq_true rfl) rfl (fun X F E => ?_)
  refine g_iload_n (nx := 1) 0 F dJ3_checkIndex_8e157_0 rfl rfl rfl ?_
  refine g_if_lt (nx := 4) 9 F dJ3_checkIndex_8e157_1 rfl (by decide) (fun c_1 => absurd c_1 (by exact nI_pos (by omega))) (fun c_1 => ?_)
  refine g_iload_n (nx := 5) 0 F dJ3_checkIndex_8e157_4 rfl rfl rfl ?_
  refine g_iload_n (nx := 6) 1 F dJ3_checkIndex_8e157_5 rfl rfl rfl ?_
  refine g_icmp_lt (nx := 9) 16 F dJ3_checkIndex_8e157_6 rfl (by decide) (fun c_6 => ?_) (fun c_6 => absurd c_6 (by exact fun zq => zq (nI_lt (by omega) (by omega))))
  refine g_iload_n (nx := 17) 0 F dJ3_checkIndex_8e157_16 rfl rfl rfl ?_
  refine g_iret F E dJ3_checkIndex_8e157_17 ?_
  exact ⟨rfl, rfl⟩
set_option maxHeartbeats 4000000 in
set_option maxRecDepth 100000 in
theorem j_ck (i n : Nat) (σ : zSt) (h : i < n) (hn : n < 1000) : Con mJ0_checkIndex_df160 1 [.int (nI i), .int (nI n)] σ (fun r τ => r = none ∧ τ = σ) := by
  refine Con.of (lv := [.int (nI i), .int (nI n)]) mk_J0_checkIndex_df160 rfl (Nat.le_of_ble_eq_true rfl) rfl (fun X F E => ?_)
  refine g_iload_n (nx := 1) 0 F dJ0_checkIndex_df160_0 rfl rfl rfl ?_
  refine g_iload_n (nx := 2) 1 F dJ0_checkIndex_df160_1 rfl rfl rfl ?_
  refine g_Sioo (nx := 5) F dJ0_checkIndex_df160_2 rfl sf_1053 (fun v hv => ?_)
  rcases hv with rfl | rfl
  · refine g_callS (nx := 8) 3 0 [.int (nI i), .int (nI n), .null] F dJ0_checkIndex_df160_5 rfl ml_RJ0_1059 mo_J3_checkIndex_8e157 rfl rfl (Nat.le_of_ble_eq_true rfl) (by first | decide | omega) (j_ck3n i n _ h hn) (fun r_5 τ_5 q_5 => ?_)
    obtain ⟨rfl, et_5⟩ := q_5
    have et_5 := et_5.symm
    subst et_5
    dsimp only [Option.toList, List.append, List.cons_append, List.nil_append]
    refine g_pop (nx := 9) F dJ0_checkIndex_df160_8 rfl rfl ?_
    refine g_vret F E dJ0_checkIndex_df160_9 ?_
    exact ⟨rfl, rfl⟩
  · refine g_callS (nx := 8) 3 0 [.int (nI i), .int (nI n), .ref 3000] F dJ0_checkIndex_df160_5 rfl ml_RJ0_1059 mo_J3_checkIndex_8e157 rfl rfl (Nat.le_of_ble_eq_true rfl) (by first | decide | omega) (j_ck3r i n _ h hn) (fun r_5 τ_5 q_5 => ?_)
    obtain ⟨rfl, et_5⟩ := q_5
    have et_5 := et_5.symm
    subst et_5
    dsimp only [Option.toList, List.append, List.cons_append, List.nil_append]
    refine g_pop (nx := 9) F dJ0_checkIndex_df160_8 rfl rfl ?_
    refine g_vret F E dJ0_checkIndex_df160_9 ?_
    exact ⟨rfl, rfl⟩
def chS (k i : Nat) : Int32 := (zsb.getD k []).getD i 0
theorem zsl_lt : ∀ k, k < 6 → zsl.getD k 0 ≤ 12 := by decide
theorem chS_ok : ∀ k, k < 6 → ∀ i, i < 12 → ((chS k i &&& 255).toUInt32 % 65536).toInt32 = chS k i ∧ narrow .char (.int (chS k i)) = .int (chS k i) := by decide
theorem i2c_ok : ∀ c, c < 256 → ((nI c).toUInt32 % 65536).toInt32 = nI c := by decide +kernel
set_option maxHeartbeats 4000000 in
set_option maxRecDepth 100000 in
theorem j_charAt1 (k i : Nat) (σ : zSt) (hk : k < 6) (hi : i < zsl.getD k 0) : Con mJ1_charAt_3b067 2 [.ref (2000 + k), .int (nI i)] σ (fun r τ => r = some (.int (chS k i)) ∧ τ = σ) := by
  have h12 := zsl_lt k hk
  refine Con.of (lv := [.ref (2000 + k), .int (nI i)]) mk_J1_charAt_3b067 rfl (Nat.le_of_ble_eq_true rfl) rfl (fun X F E => ?_)
  refine g_iload_n (nx := 1) 1 F dJ1_charAt_3b067_0 rfl rfl rfl ?_
  refine g_aload_n (nx := 2) 0 F dJ1_charAt_3b067_1 rfl rfl rfl ?_
  refine g_Slen (nx := 3) F dJ1_charAt_3b067_2 rfl hk ?_
  refine g_callS (nx := 6) 2 1 [.int (nI i), .int (nI (zsl.getD k 0))] F dJ1_charAt_3b067_3 rfl ml_RJ1_9 mo_J0_checkIndex_df160 rfl rfl (Nat.le_of_ble_eq_true rfl) (by first | decide | omega) (j_ck i (zsl.getD k 0) _ hi (by omega)) (fun r_3 τ_3 q_3 => ?_)
  obtain ⟨rfl, et_3⟩ := q_3
  have et_3 := et_3.symm
  subst et_3
  dsimp only [Option.toList, List.append, List.cons_append, List.nil_append]
  refine g_aload_n (nx := 7) 0 F dJ1_charAt_3b067_6 rfl rfl rfl ?_
  refine g_iload_n (nx := 8) 1 F dJ1_charAt_3b067_7 rfl rfl rfl ?_
  refine g_Sbald (nx := 9) F dJ1_charAt_3b067_8 rfl hk (vp_in_nI hi (by omega)) ?_
  rw [nI_clamp (by omega)]
  refine g_sipush (nx := 12) (255) F dJ1_charAt_3b067_9 rfl (by decide) ?_
  refine g_iand (nx := 13) F dJ1_charAt_3b067_12 rfl ?_
  refine g_i2c (nx := 14) F dJ1_charAt_3b067_13 rfl ?_
  refine g_top (chS k i) (chS_ok k hk i (by omega)).1 ?_
  refine g_zret F E dJ1_charAt_3b067_14 ((chS_ok k hk i (by omega)).2) ?_
  exact ⟨rfl, rfl⟩
set_option maxHeartbeats 4000000 in
set_option maxRecDepth 100000 in
theorem j_charAt (k i : Nat) (σ : zSt) (hk : k < 6) (hi : i < zsl.getD k 0) : Con mJ0_charAt_5068e 3 [.ref (1000 + k), .int (nI i)] σ (fun r τ => r = some (.int (chS k i)) ∧ τ = σ) := by
  have h12 := zsl_lt k hk
  refine Con.of (lv := [.ref (1000 + k), .int (nI i)]) mk_J0_charAt_5068e rfl (Nat.le_of_ble_eq_true rfl) rfl (fun X F E => ?_)
  refine g_aload_n (nx := 1) 0 F dJ0_charAt_5068e_0 rfl rfl rfl ?_
  refine g_callSt (nx := 4) 0 0 [] F dJ0_charAt_5068e_1 rfl ml_RJ0_492 mo_J0_isLatin1_aae02 hk rfl rfl rfl (Nat.le_of_ble_eq_true rfl) (by first | decide | omega) (j_isLatin1 k _ hk) (fun r_1 τ_1 q_1 => ?_)
  obtain ⟨rfl, et_1⟩ := q_1
  have et_1 := et_1.symm
  subst et_1
  dsimp only [Option.toList, List.append, List.cons_append, List.nil_append]
  refine g_if_eq (nx := 7) 16 F dJ0_charAt_5068e_4 rfl (by decide) (fun c_4 => absurd c_4 (by decide)) (fun c_4 => ?_)
  refine g_aload_n (nx := 8) 0 F dJ0_charAt_5068e_7 rfl rfl rfl ?_
  refine g_Sval (nx := 11) F dJ0_charAt_5068e_8 rfl hk sf_9 ?_
  refine g_iload_n (nx := 12) 1 F dJ0_charAt_5068e_11 rfl rfl rfl ?_
  refine g_callS (nx := 15) 2 2 [.ref (2000 + k), .int (nI i)] F dJ0_charAt_5068e_12 rfl ml_RJ0_495 mo_J1_charAt_3b067 rfl rfl (Nat.le_of_ble_eq_true rfl) (by first | decide | omega) (j_charAt1 k i _ hk hi) (fun r_12 τ_12 q_12 => ?_)
  obtain ⟨rfl, et_12⟩ := q_12
  have et_12 := et_12.symm
  subst et_12
  dsimp only [Option.toList, List.append, List.cons_append, List.nil_append]
  refine g_zret F E dJ0_charAt_5068e_15 ((chS_ok k hk i (by omega)).2) ?_
  exact ⟨rfl, rfl⟩
def ixF (f : Nat → Int32) (b : Int32) : Nat → Nat → Int32
  | 0, _ => -1
  | q + 1, i => if f i = b then nI i else ixF f b q (i + 1)
def ixS (k : Nat) (c : Int32) : Int32 := ixF (chS k) c.toInt8.toInt32 (zsl.getD k 0) 0
set_option maxHeartbeats 4000000 in
set_option maxRecDepth 100000 in
theorem j_canEncode (c : Nat) (σ : zSt) (hc : c < 256) : Con mJ1_canEncode_9a6ad 0 [.int (nI c)] σ (fun r τ => r = some (.int (1)) ∧ τ = σ) := by
  refine Con.of (lv := [.int (nI c)]) mk_J1_canEncode_9a6ad rfl (Nat.le_of_ble_eq_true rfl) rfl (fun X F E => ?_)
  refine g_iload_n (nx := 1) 0 F dJ1_canEncode_9a6ad_0 rfl rfl rfl ?_
  refine g_if_lt (nx := 4) 15 F dJ1_canEncode_9a6ad_1 rfl (by decide) (fun c_1 => absurd c_1 (by exact nI_pos (by omega))) (fun c_1 => ?_)
  refine g_iload_n (nx := 5) 0 F dJ1_canEncode_9a6ad_4 rfl rfl rfl ?_
  refine g_sipush (nx := 8) (255) F dJ1_canEncode_9a6ad_5 rfl (by decide) ?_
  refine g_icmp_gt (nx := 11) 15 F dJ1_canEncode_9a6ad_8 rfl (by decide) (fun c_8 => absurd c_8 (by exact nI_nlt (a := 255) (b := c) (by omega) (by omega))) (fun c_8 => ?_)
  refine g_iconst (nx := 12) (1) F dJ1_canEncode_9a6ad_11 rfl rfl ?_
  refine g_goto 16 F dJ1_canEncode_9a6ad_12 (by decide) ?_
  refine g_zret F E dJ1_canEncode_9a6ad_16 (by first | rfl | assumption) ?_
  exact ⟨rfl, rfl⟩
set_option maxHeartbeats 4000000 in
set_option maxRecDepth 100000 in
theorem j_ixChar (k c : Nat) (σ : zSt) (hk : k < 6) (hc : c < 256) : Con mJ1_indexOfChar_4cfef 0 [.ref (2000 + k), .int (nI c), .int 0, .int (nI (zsl.getD k 0))] σ (fun r τ => r = some (.int (ixS k (nI c))) ∧ τ = σ) := by
  refine Con.of (lv := [.ref (2000 + k), .int (nI c), .int 0, .int (nI (zsl.getD k 0)), .long 0, .long 0]) mk_J1_indexOfChar_4cfef rfl (Nat.le_of_ble_eq_true rfl) rfl (fun X F E => ?_)
  have h12 := zsl_lt k hk
  have L : ∀ (q i : Nat), i + q = zsl.getD k 0 → ixF (chS k) (nI c).toInt8.toInt32 q i = ixS k (nI c) → Gs X 7 [.ref (2000 + k), .int (nI c), .int 0, .int (nI (zsl.getD k 0)), .int (nI c).toInt8.toInt32, .int (nI i)] [] σ := by
    intro q
    induction q with
    | zero =>
      intro i hi hA
      have hi : i = zsl.getD k 0 := hi
      subst hi
      refine g_iload (nx := 9) F dJ1_indexOfChar_4cfef_7 rfl rfl ?_
      refine g_iload_n (nx := 10) 3 F dJ1_indexOfChar_4cfef_9 rfl rfl rfl ?_
      refine g_icmp_ge (nx := 13) 31 F dJ1_indexOfChar_4cfef_10 rfl (by decide) (fun c_10 => ?_) (fun c_10 => absurd c_10 (by exact fun zq => zq (nI_le (Nat.le_refl _) (by omega))))
      refine g_iconst (nx := 32) (-1) F dJ1_indexOfChar_4cfef_31 rfl rfl ?_
      refine g_iret F E dJ1_indexOfChar_4cfef_32 ?_
      exact ⟨by rw [← hA]; rfl, rfl⟩
    | succ q ih =>
      intro i hi hA
      rw [ixF] at hA
      refine g_iload (nx := 9) F dJ1_indexOfChar_4cfef_7 rfl rfl ?_
      refine g_iload_n (nx := 10) 3 F dJ1_indexOfChar_4cfef_9 rfl rfl rfl ?_
      refine g_icmp_ge (nx := 13) 31 F dJ1_indexOfChar_4cfef_10 rfl (by decide) (fun c_10 => absurd c_10 (by exact nI_ge (by omega) (by omega))) (fun c_10 => ?_)
      refine g_aload_n (nx := 14) 0 F dJ1_indexOfChar_4cfef_13 rfl rfl rfl ?_
      refine g_iload (nx := 16) F dJ1_indexOfChar_4cfef_14 rfl rfl ?_
      refine g_Sbald (nx := 17) F dJ1_indexOfChar_4cfef_16 rfl hk (vp_in_nI (by omega) (by omega)) ?_
      rw [nI_clamp (by omega)]
      refine g_top (chS k i) rfl ?_
      refine g_iload (nx := 19) F dJ1_indexOfChar_4cfef_17 rfl rfl ?_
      refine g_icmp_ne (nx := 22) 25 F dJ1_indexOfChar_4cfef_19 rfl (by decide) (fun c_19 => ?_) (fun c_19 => ?_)
      · refine g_iinc (nx := 28) (1) F dJ1_indexOfChar_4cfef_25 rfl rfl (by decide) (by decide) ?_
        try dsimp only [List.set]
        refine g_goto 7 F dJ1_indexOfChar_4cfef_28 (by decide) ?_
        rw [nI_1]
        rw [if_neg c_19] at hA
        exact ih (i + 1) (by omega) hA
      · refine g_iload (nx := 24) F dJ1_indexOfChar_4cfef_22 rfl rfl ?_
        refine g_iret F E dJ1_indexOfChar_4cfef_24 ?_
        rw [if_pos c_19] at hA
        exact ⟨by rw [← hA], rfl⟩
  refine g_iload_n (nx := 1) 1 F dJ1_indexOfChar_4cfef_0 rfl rfl rfl ?_
  refine g_i2b (nx := 2) F dJ1_indexOfChar_4cfef_1 rfl ?_
  refine g_istore (nx := 4) F dJ1_indexOfChar_4cfef_2 rfl (by decide) ?_
  try dsimp only [List.set]
  refine g_iload_n (nx := 5) 2 F dJ1_indexOfChar_4cfef_4 rfl rfl rfl ?_
  refine g_istore (nx := 7) F dJ1_indexOfChar_4cfef_5 rfl (by decide) ?_
  try dsimp only [List.set]
  exact L (zsl.getD k 0) 0 (by omega) rfl
set_option maxHeartbeats 4000000 in
set_option maxRecDepth 100000 in
theorem j_ix1 (k c : Nat) (σ : zSt) (hk : k < 6) (hc : c < 256) : Con mJ1_indexOf_4cfef 1 [.ref (2000 + k), .int (nI c), .int 0, .int (nI (zsl.getD k 0))] σ (fun r τ => r = some (.int (ixS k (nI c))) ∧ τ = σ) := by
  have h12 := zsl_lt k hk
  have hz : 0 < zsl.getD k 0 := (show ∀ k, k < 6 → 0 < zsl.getD k 0 by decide) k hk
  refine Con.of (lv := [.ref (2000 + k), .int (nI c), .int 0, .int (nI (zsl.getD k 0))]) mk_J1_indexOf_4cfef rfl (Nat.le_of_ble_eq_true rfl) rfl (fun X F E => ?_)
  refine g_iload_n (nx := 1) 1 F dJ1_indexOf_4cfef_0 rfl rfl rfl ?_
  refine g_callS (nx := 4) 1 0 [.int (nI c)] F dJ1_indexOf_4cfef_1 rfl ml_RJ1_88 mo_J1_canEncode_9a6ad rfl rfl (Nat.le_of_ble_eq_true rfl) (by first | decide | omega) (j_canEncode c _ hc) (fun r_1 τ_1 q_1 => ?_)
  obtain ⟨rfl, et_1⟩ := q_1
  have et_1 := et_1.symm
  subst et_1
  dsimp only [Option.toList, List.append, List.cons_append, List.nil_append]
  refine g_if_ne (nx := 7) 9 F dJ1_indexOf_4cfef_4 rfl (by decide) (fun c_4 => ?_) (fun c_4 => absurd c_4 (by decide))
  refine g_iload_n (nx := 10) 2 F dJ1_indexOf_4cfef_9 rfl rfl rfl ?_
  refine g_iconst (nx := 11) (0) F dJ1_indexOf_4cfef_10 rfl rfl ?_
  refine g_mmax (nx := 14) F dJ1_indexOf_4cfef_11 rfl mm_SL1_92 (by omega) (Nat.le_of_ble_eq_true rfl) ?_
  refine g_top 0 rfl ?_
  refine g_istore_n (nx := 15) 2 F dJ1_indexOf_4cfef_14 rfl rfl (by decide) ?_
  try dsimp only [List.set]
  refine g_iload_n (nx := 16) 3 F dJ1_indexOf_4cfef_15 rfl rfl rfl ?_
  refine g_aload_n (nx := 17) 0 F dJ1_indexOf_4cfef_16 rfl rfl rfl ?_
  refine g_Slen (nx := 18) F dJ1_indexOf_4cfef_17 rfl hk ?_
  refine g_mmin (nx := 21) F dJ1_indexOf_4cfef_18 rfl mm_SL1_38 (by omega) (Nat.le_of_ble_eq_true rfl) ?_
  refine g_top (nI (zsl.getD k 0)) (by split <;> rfl) ?_
  refine g_istore_n (nx := 22) 3 F dJ1_indexOf_4cfef_21 rfl rfl (by decide) ?_
  try dsimp only [List.set]
  refine g_iload_n (nx := 23) 2 F dJ1_indexOf_4cfef_22 rfl rfl rfl ?_
  refine g_iload_n (nx := 24) 3 F dJ1_indexOf_4cfef_23 rfl rfl rfl ?_
  refine g_icmp_lt (nx := 27) 29 F dJ1_indexOf_4cfef_24 rfl (by decide) (fun c_24 => ?_) (fun c_24 => absurd c_24 (by exact fun zq => zq (nI_lt (a := 0) hz (by omega))))
  refine g_aload_n (nx := 30) 0 F dJ1_indexOf_4cfef_29 rfl rfl rfl ?_
  refine g_iload_n (nx := 31) 1 F dJ1_indexOf_4cfef_30 rfl rfl rfl ?_
  refine g_iload_n (nx := 32) 2 F dJ1_indexOf_4cfef_31 rfl rfl rfl ?_
  refine g_iload_n (nx := 33) 3 F dJ1_indexOf_4cfef_32 rfl rfl rfl ?_
  refine g_callS (nx := 36) 4 0 [.ref (2000 + k), .int (nI c), .int 0, .int (nI (zsl.getD k 0))] F dJ1_indexOf_4cfef_33 rfl ml_RJ1_95 mo_J1_indexOfChar_4cfef rfl rfl (Nat.le_of_ble_eq_true rfl) (by first | decide | omega) (j_ixChar k c _ hk hc) (fun r_33 τ_33 q_33 => ?_)
  obtain ⟨rfl, et_33⟩ := q_33
  have et_33 := et_33.symm
  subst et_33
  dsimp only [Option.toList, List.append, List.cons_append, List.nil_append]
  refine g_iret F E dJ1_indexOf_4cfef_36 ?_
  exact ⟨rfl, rfl⟩
set_option maxHeartbeats 4000000 in
set_option maxRecDepth 100000 in
theorem j_ix2 (k c : Nat) (σ : zSt) (hk : k < 6) (hc : c < 256) : Con mJ0_indexOf_7cf53 2 [.ref (1000 + k), .int (nI c), .int 0] σ (fun r τ => r = some (.int (ixS k (nI c))) ∧ τ = σ) := by
  refine Con.of (lv := [.ref (1000 + k), .int (nI c), .int 0]) mk_J0_indexOf_7cf53 rfl (Nat.le_of_ble_eq_true rfl) rfl (fun X F E => ?_)
  refine g_aload_n (nx := 1) 0 F dJ0_indexOf_7cf53_0 rfl rfl rfl ?_
  refine g_callSt (nx := 4) 0 0 [] F dJ0_indexOf_7cf53_1 rfl ml_RJ0_492 mo_J0_isLatin1_aae02 hk rfl rfl rfl (Nat.le_of_ble_eq_true rfl) (by first | decide | omega) (j_isLatin1 k _ hk) (fun r_1 τ_1 q_1 => ?_)
  obtain ⟨rfl, et_1⟩ := q_1
  have et_1 := et_1.symm
  subst et_1
  dsimp only [Option.toList, List.append, List.cons_append, List.nil_append]
  refine g_if_eq (nx := 7) 23 F dJ0_indexOf_7cf53_4 rfl (by decide) (fun c_4 => absurd c_4 (by decide)) (fun c_4 => ?_)
  refine g_aload_n (nx := 8) 0 F dJ0_indexOf_7cf53_7 rfl rfl rfl ?_
  refine g_Sval (nx := 11) F dJ0_indexOf_7cf53_8 rfl hk sf_9 ?_
  refine g_iload_n (nx := 12) 1 F dJ0_indexOf_7cf53_11 rfl rfl rfl ?_
  refine g_iload_n (nx := 13) 2 F dJ0_indexOf_7cf53_12 rfl rfl rfl ?_
  refine g_aload_n (nx := 14) 0 F dJ0_indexOf_7cf53_13 rfl rfl rfl ?_
  refine g_callSt (nx := 17) 0 1 [] F dJ0_indexOf_7cf53_14 rfl ml_RJ0_505 mo_J0_length_8abf5 hk rfl rfl rfl (Nat.le_of_ble_eq_true rfl) (by first | decide | omega) (j_length k _ hk) (fun r_14 τ_14 q_14 => ?_)
  obtain ⟨rfl, et_14⟩ := q_14
  have et_14 := et_14.symm
  subst et_14
  dsimp only [Option.toList, List.append, List.cons_append, List.nil_append]
  refine g_callS (nx := 20) 4 1 [.ref (2000 + k), .int (nI c), .int 0, .int (nI (zsl.getD k 0))] F dJ0_indexOf_7cf53_17 rfl ml_RJ0_637 mo_J1_indexOf_4cfef rfl rfl (Nat.le_of_ble_eq_true rfl) (by first | decide | omega) (j_ix1 k c _ hk hc) (fun r_17 τ_17 q_17 => ?_)
  obtain ⟨rfl, et_17⟩ := q_17
  have et_17 := et_17.symm
  subst et_17
  dsimp only [Option.toList, List.append, List.cons_append, List.nil_append]
  refine g_goto 36 F dJ0_indexOf_7cf53_20 (by decide) ?_
  refine g_iret F E dJ0_indexOf_7cf53_36 ?_
  exact ⟨rfl, rfl⟩
set_option maxHeartbeats 4000000 in
set_option maxRecDepth 100000 in
theorem j_indexOf (k c : Nat) (σ : zSt) (hk : k < 6) (hc : c < 256) : Con mJ0_indexOf_0f7a4 3 [.ref (1000 + k), .int (nI c)] σ (fun r τ => r = some (.int (ixS k (nI c))) ∧ τ = σ) := by
  refine Con.of (lv := [.ref (1000 + k), .int (nI c)]) mk_J0_indexOf_0f7a4 rfl (Nat.le_of_ble_eq_true rfl) rfl (fun X F E => ?_)
  refine g_aload_n (nx := 1) 0 F dJ0_indexOf_0f7a4_0 rfl rfl rfl ?_
  refine g_iload_n (nx := 2) 1 F dJ0_indexOf_0f7a4_1 rfl rfl rfl ?_
  refine g_iconst (nx := 3) (0) F dJ0_indexOf_0f7a4_2 rfl rfl ?_
  refine g_callSt (nx := 6) 2 2 [.int (nI c), .int 0] F dJ0_indexOf_0f7a4_3 rfl ml_RJ0_633 mo_J0_indexOf_7cf53 hk rfl rfl rfl (Nat.le_of_ble_eq_true rfl) (by first | decide | omega) (j_ix2 k c _ hk hc) (fun r_3 τ_3 q_3 => ?_)
  obtain ⟨rfl, et_3⟩ := q_3
  have et_3 := et_3.symm
  subst et_3
  dsimp only [Option.toList, List.append, List.cons_append, List.nil_append]
  refine g_iret F E dJ0_indexOf_0f7a4_6 ?_
  exact ⟨rfl, rfl⟩
