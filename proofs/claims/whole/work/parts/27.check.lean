/-! how many are in a set -/
def bcN (n : Nat) : Nat := (List.range 10).foldl (fun s k => s + n / 2 ^ k % 2) 0
def bsE (x : Int32) : Int32 := 0 + (x >>> ((0 : Int32) &&& 31) &&& 1) + (x >>> ((1 : Int32) &&& 31) &&& 1) + (x >>> ((2 : Int32) &&& 31) &&& 1) + (x >>> ((3 : Int32) &&& 31) &&& 1) + (x >>> ((4 : Int32) &&& 31) &&& 1) + (x >>> ((5 : Int32) &&& 31) &&& 1) + (x >>> ((6 : Int32) &&& 31) &&& 1) + (x >>> ((7 : Int32) &&& 31) &&& 1) + (x >>> ((8 : Int32) &&& 31) &&& 1) + (x >>> ((9 : Int32) &&& 31) &&& 1)
def us (x : Int32) (k : Int32) : Int32 := (x.toUInt32 >>> (k.toUInt32 &&& Int32.toUInt32 31)).toInt32
def bcE (x : Int32) : Int32 := let a := x - (us x 1 &&& 1431655765); let b := (a &&& 858993459) + (us a 2 &&& 858993459); let c := (b + us b 4) &&& 252645135; let d := c + us c 8; let e := d + us d 16; e &&& 63
theorem bsE_ok : ∀ n, n < 1024 → bsE (nI n) = nI (bcN n) := by decide +kernel
theorem bcE_ok : ∀ n, n < 1024 → bcE (nI n) = nI (bcN n) := by decide +kernel
theorem bcN_le : ∀ n, n < 1024 → bcN n ≤ 10 := by decide +kernel
set_option maxHeartbeats 4000000 in
set_option maxRecDepth 100000 in
theorem k_bits (n : Nat) (σ : zSt) (h : n < 1024) : Con mX12_bits 0 [.int (nI n)] σ (fun r τ => r = some (.int (nI (bcN n))) ∧ τ = σ) := by
  refine Con.of (lv := [.int (nI n), .long 0, .long 0]) mk_X12_bits rfl (Nat.le_of_ble_eq_true rfl) rfl (fun X F E => ?_)
  refine g_iconst (nx := 1) (0) F dX12_bits_0 rfl rfl ?_
  refine g_istore_n (nx := 2) 1 F dX12_bits_1 rfl rfl (by decide) ?_
  try dsimp only [List.set]
  refine g_iconst (nx := 3) (0) F dX12_bits_2 rfl rfl ?_
  refine g_istore_n (nx := 4) 2 F dX12_bits_3 rfl rfl (by decide) ?_
  try dsimp only [List.set]
  
  refine g_iload_n (nx := 5) 2 F dX12_bits_4 rfl rfl rfl ?_
  refine g_bipush (nx := 7) (10) F dX12_bits_5 rfl (by decide) ?_
  refine g_icmp_ge (nx := 10) 24 F dX12_bits_7 rfl (by decide) (fun c_7 => absurd c_7 (by decide)) (fun c_7 => ?_)
  refine g_iload_n (nx := 11) 1 F dX12_bits_10 rfl rfl rfl ?_
  refine g_iload_n (nx := 12) 0 F dX12_bits_11 rfl rfl rfl ?_
  refine g_iload_n (nx := 13) 2 F dX12_bits_12 rfl rfl rfl ?_
  refine g_ishr (nx := 14) F dX12_bits_13 rfl ?_
  refine g_iconst (nx := 15) (1) F dX12_bits_14 rfl rfl ?_
  refine g_iand (nx := 16) F dX12_bits_15 rfl ?_
  refine g_iadd (nx := 17) F dX12_bits_16 rfl ?_
  refine g_istore_n (nx := 18) 1 F dX12_bits_17 rfl rfl (by decide) ?_
  try dsimp only [List.set]
  refine g_iinc (nx := 21) (1) F dX12_bits_18 rfl rfl (by decide) (by decide) ?_
  try dsimp only [List.set]
  rw [show (0 : Int32) + 1 = 1 from rfl]
  refine g_goto 4 F dX12_bits_21 (by decide) ?_
  
  refine g_iload_n (nx := 5) 2 F dX12_bits_4 rfl rfl rfl ?_
  refine g_bipush (nx := 7) (10) F dX12_bits_5 rfl (by decide) ?_
  refine g_icmp_ge (nx := 10) 24 F dX12_bits_7 rfl (by decide) (fun c_7 => absurd c_7 (by decide)) (fun c_7 => ?_)
  refine g_iload_n (nx := 11) 1 F dX12_bits_10 rfl rfl rfl ?_
  refine g_iload_n (nx := 12) 0 F dX12_bits_11 rfl rfl rfl ?_
  refine g_iload_n (nx := 13) 2 F dX12_bits_12 rfl rfl rfl ?_
  refine g_ishr (nx := 14) F dX12_bits_13 rfl ?_
  refine g_iconst (nx := 15) (1) F dX12_bits_14 rfl rfl ?_
  refine g_iand (nx := 16) F dX12_bits_15 rfl ?_
  refine g_iadd (nx := 17) F dX12_bits_16 rfl ?_
  refine g_istore_n (nx := 18) 1 F dX12_bits_17 rfl rfl (by decide) ?_
  try dsimp only [List.set]
  refine g_iinc (nx := 21) (1) F dX12_bits_18 rfl rfl (by decide) (by decide) ?_
  try dsimp only [List.set]
  rw [show (1 : Int32) + 1 = 2 from rfl]
  refine g_goto 4 F dX12_bits_21 (by decide) ?_
  
  refine g_iload_n (nx := 5) 2 F dX12_bits_4 rfl rfl rfl ?_
  refine g_bipush (nx := 7) (10) F dX12_bits_5 rfl (by decide) ?_
  refine g_icmp_ge (nx := 10) 24 F dX12_bits_7 rfl (by decide) (fun c_7 => absurd c_7 (by decide)) (fun c_7 => ?_)
  refine g_iload_n (nx := 11) 1 F dX12_bits_10 rfl rfl rfl ?_
  refine g_iload_n (nx := 12) 0 F dX12_bits_11 rfl rfl rfl ?_
  refine g_iload_n (nx := 13) 2 F dX12_bits_12 rfl rfl rfl ?_
  refine g_ishr (nx := 14) F dX12_bits_13 rfl ?_
  refine g_iconst (nx := 15) (1) F dX12_bits_14 rfl rfl ?_
  refine g_iand (nx := 16) F dX12_bits_15 rfl ?_
  refine g_iadd (nx := 17) F dX12_bits_16 rfl ?_
  refine g_istore_n (nx := 18) 1 F dX12_bits_17 rfl rfl (by decide) ?_
  try dsimp only [List.set]
  refine g_iinc (nx := 21) (1) F dX12_bits_18 rfl rfl (by decide) (by decide) ?_
  try dsimp only [List.set]
  rw [show (2 : Int32) + 1 = 3 from rfl]
  refine g_goto 4 F dX12_bits_21 (by decide) ?_
  
  refine g_iload_n (nx := 5) 2 F dX12_bits_4 rfl rfl rfl ?_
  refine g_bipush (nx := 7) (10) F dX12_bits_5 rfl (by decide) ?_
  refine g_icmp_ge (nx := 10) 24 F dX12_bits_7 rfl (by decide) (fun c_7 => absurd c_7 (by decide)) (fun c_7 => ?_)
  refine g_iload_n (nx := 11) 1 F dX12_bits_10 rfl rfl rfl ?_
  refine g_iload_n (nx := 12) 0 F dX12_bits_11 rfl rfl rfl ?_
  refine g_iload_n (nx := 13) 2 F dX12_bits_12 rfl rfl rfl ?_
  refine g_ishr (nx := 14) F dX12_bits_13 rfl ?_
  refine g_iconst (nx := 15) (1) F dX12_bits_14 rfl rfl ?_
  refine g_iand (nx := 16) F dX12_bits_15 rfl ?_
  refine g_iadd (nx := 17) F dX12_bits_16 rfl ?_
  refine g_istore_n (nx := 18) 1 F dX12_bits_17 rfl rfl (by decide) ?_
  try dsimp only [List.set]
  refine g_iinc (nx := 21) (1) F dX12_bits_18 rfl rfl (by decide) (by decide) ?_
  try dsimp only [List.set]
  rw [show (3 : Int32) + 1 = 4 from rfl]
  refine g_goto 4 F dX12_bits_21 (by decide) ?_
  
  refine g_iload_n (nx := 5) 2 F dX12_bits_4 rfl rfl rfl ?_
  refine g_bipush (nx := 7) (10) F dX12_bits_5 rfl (by decide) ?_
  refine g_icmp_ge (nx := 10) 24 F dX12_bits_7 rfl (by decide) (fun c_7 => absurd c_7 (by decide)) (fun c_7 => ?_)
  refine g_iload_n (nx := 11) 1 F dX12_bits_10 rfl rfl rfl ?_
  refine g_iload_n (nx := 12) 0 F dX12_bits_11 rfl rfl rfl ?_
  refine g_iload_n (nx := 13) 2 F dX12_bits_12 rfl rfl rfl ?_
  refine g_ishr (nx := 14) F dX12_bits_13 rfl ?_
  refine g_iconst (nx := 15) (1) F dX12_bits_14 rfl rfl ?_
  refine g_iand (nx := 16) F dX12_bits_15 rfl ?_
  refine g_iadd (nx := 17) F dX12_bits_16 rfl ?_
  refine g_istore_n (nx := 18) 1 F dX12_bits_17 rfl rfl (by decide) ?_
  try dsimp only [List.set]
  refine g_iinc (nx := 21) (1) F dX12_bits_18 rfl rfl (by decide) (by decide) ?_
  try dsimp only [List.set]
  rw [show (4 : Int32) + 1 = 5 from rfl]
  refine g_goto 4 F dX12_bits_21 (by decide) ?_
  
  refine g_iload_n (nx := 5) 2 F dX12_bits_4 rfl rfl rfl ?_
  refine g_bipush (nx := 7) (10) F dX12_bits_5 rfl (by decide) ?_
  refine g_icmp_ge (nx := 10) 24 F dX12_bits_7 rfl (by decide) (fun c_7 => absurd c_7 (by decide)) (fun c_7 => ?_)
  refine g_iload_n (nx := 11) 1 F dX12_bits_10 rfl rfl rfl ?_
  refine g_iload_n (nx := 12) 0 F dX12_bits_11 rfl rfl rfl ?_
  refine g_iload_n (nx := 13) 2 F dX12_bits_12 rfl rfl rfl ?_
  refine g_ishr (nx := 14) F dX12_bits_13 rfl ?_
  refine g_iconst (nx := 15) (1) F dX12_bits_14 rfl rfl ?_
  refine g_iand (nx := 16) F dX12_bits_15 rfl ?_
  refine g_iadd (nx := 17) F dX12_bits_16 rfl ?_
  refine g_istore_n (nx := 18) 1 F dX12_bits_17 rfl rfl (by decide) ?_
  try dsimp only [List.set]
  refine g_iinc (nx := 21) (1) F dX12_bits_18 rfl rfl (by decide) (by decide) ?_
  try dsimp only [List.set]
  rw [show (5 : Int32) + 1 = 6 from rfl]
  refine g_goto 4 F dX12_bits_21 (by decide) ?_
  
  refine g_iload_n (nx := 5) 2 F dX12_bits_4 rfl rfl rfl ?_
  refine g_bipush (nx := 7) (10) F dX12_bits_5 rfl (by decide) ?_
  refine g_icmp_ge (nx := 10) 24 F dX12_bits_7 rfl (by decide) (fun c_7 => absurd c_7 (by decide)) (fun c_7 => ?_)
  refine g_iload_n (nx := 11) 1 F dX12_bits_10 rfl rfl rfl ?_
  refine g_iload_n (nx := 12) 0 F dX12_bits_11 rfl rfl rfl ?_
  refine g_iload_n (nx := 13) 2 F dX12_bits_12 rfl rfl rfl ?_
  refine g_ishr (nx := 14) F dX12_bits_13 rfl ?_
  refine g_iconst (nx := 15) (1) F dX12_bits_14 rfl rfl ?_
  refine g_iand (nx := 16) F dX12_bits_15 rfl ?_
  refine g_iadd (nx := 17) F dX12_bits_16 rfl ?_
  refine g_istore_n (nx := 18) 1 F dX12_bits_17 rfl rfl (by decide) ?_
  try dsimp only [List.set]
  refine g_iinc (nx := 21) (1) F dX12_bits_18 rfl rfl (by decide) (by decide) ?_
  try dsimp only [List.set]
  rw [show (6 : Int32) + 1 = 7 from rfl]
  refine g_goto 4 F dX12_bits_21 (by decide) ?_
  
  refine g_iload_n (nx := 5) 2 F dX12_bits_4 rfl rfl rfl ?_
  refine g_bipush (nx := 7) (10) F dX12_bits_5 rfl (by decide) ?_
  refine g_icmp_ge (nx := 10) 24 F dX12_bits_7 rfl (by decide) (fun c_7 => absurd c_7 (by decide)) (fun c_7 => ?_)
  refine g_iload_n (nx := 11) 1 F dX12_bits_10 rfl rfl rfl ?_
  refine g_iload_n (nx := 12) 0 F dX12_bits_11 rfl rfl rfl ?_
  refine g_iload_n (nx := 13) 2 F dX12_bits_12 rfl rfl rfl ?_
  refine g_ishr (nx := 14) F dX12_bits_13 rfl ?_
  refine g_iconst (nx := 15) (1) F dX12_bits_14 rfl rfl ?_
  refine g_iand (nx := 16) F dX12_bits_15 rfl ?_
  refine g_iadd (nx := 17) F dX12_bits_16 rfl ?_
  refine g_istore_n (nx := 18) 1 F dX12_bits_17 rfl rfl (by decide) ?_
  try dsimp only [List.set]
  refine g_iinc (nx := 21) (1) F dX12_bits_18 rfl rfl (by decide) (by decide) ?_
  try dsimp only [List.set]
  rw [show (7 : Int32) + 1 = 8 from rfl]
  refine g_goto 4 F dX12_bits_21 (by decide) ?_
  
  refine g_iload_n (nx := 5) 2 F dX12_bits_4 rfl rfl rfl ?_
  refine g_bipush (nx := 7) (10) F dX12_bits_5 rfl (by decide) ?_
  refine g_icmp_ge (nx := 10) 24 F dX12_bits_7 rfl (by decide) (fun c_7 => absurd c_7 (by decide)) (fun c_7 => ?_)
  refine g_iload_n (nx := 11) 1 F dX12_bits_10 rfl rfl rfl ?_
  refine g_iload_n (nx := 12) 0 F dX12_bits_11 rfl rfl rfl ?_
  refine g_iload_n (nx := 13) 2 F dX12_bits_12 rfl rfl rfl ?_
  refine g_ishr (nx := 14) F dX12_bits_13 rfl ?_
  refine g_iconst (nx := 15) (1) F dX12_bits_14 rfl rfl ?_
  refine g_iand (nx := 16) F dX12_bits_15 rfl ?_
  refine g_iadd (nx := 17) F dX12_bits_16 rfl ?_
  refine g_istore_n (nx := 18) 1 F dX12_bits_17 rfl rfl (by decide) ?_
  try dsimp only [List.set]
  refine g_iinc (nx := 21) (1) F dX12_bits_18 rfl rfl (by decide) (by decide) ?_
  try dsimp only [List.set]
  rw [show (8 : Int32) + 1 = 9 from rfl]
  refine g_goto 4 F dX12_bits_21 (by decide) ?_
  
  refine g_iload_n (nx := 5) 2 F dX12_bits_4 rfl rfl rfl ?_
  refine g_bipush (nx := 7) (10) F dX12_bits_5 rfl (by decide) ?_
  refine g_icmp_ge (nx := 10) 24 F dX12_bits_7 rfl (by decide) (fun c_7 => absurd c_7 (by decide)) (fun c_7 => ?_)
  refine g_iload_n (nx := 11) 1 F dX12_bits_10 rfl rfl rfl ?_
  refine g_iload_n (nx := 12) 0 F dX12_bits_11 rfl rfl rfl ?_
  refine g_iload_n (nx := 13) 2 F dX12_bits_12 rfl rfl rfl ?_
  refine g_ishr (nx := 14) F dX12_bits_13 rfl ?_
  refine g_iconst (nx := 15) (1) F dX12_bits_14 rfl rfl ?_
  refine g_iand (nx := 16) F dX12_bits_15 rfl ?_
  refine g_iadd (nx := 17) F dX12_bits_16 rfl ?_
  refine g_istore_n (nx := 18) 1 F dX12_bits_17 rfl rfl (by decide) ?_
  try dsimp only [List.set]
  refine g_iinc (nx := 21) (1) F dX12_bits_18 rfl rfl (by decide) (by decide) ?_
  try dsimp only [List.set]
  rw [show (9 : Int32) + 1 = 10 from rfl]
  refine g_goto 4 F dX12_bits_21 (by decide) ?_
  
  refine g_iload_n (nx := 5) 2 F dX12_bits_4 rfl rfl rfl ?_
  refine g_bipush (nx := 7) (10) F dX12_bits_5 rfl (by decide) ?_
  refine g_icmp_ge (nx := 10) 24 F dX12_bits_7 rfl (by decide) (fun c_7 => ?_) (fun c_7 => absurd c_7 (by decide))
  refine g_iload_n (nx := 25) 1 F dX12_bits_24 rfl rfl rfl ?_
  refine g_iret F E dX12_bits_25 ?_
  exact ⟨congrArg (fun z => some (Value.int z)) (bsE_ok n h), rfl⟩
set_option maxHeartbeats 4000000 in
set_option maxRecDepth 100000 in
theorem j_bitCount (n : Nat) (σ : zSt) (h : n < 1024) : Con mJ6_bitCount_0f7a4 0 [.int (nI n)] σ (fun r τ => r = some (.int (nI (bcN n))) ∧ τ = σ) := by
  refine Con.of (lv := [.int (nI n)]) mk_J6_bitCount_0f7a4 rfl (Nat.le_of_ble_eq_true rfl) rfl (fun X F E => ?_)
  refine g_iload_n (nx := 1) 0 F dJ6_bitCount_0f7a4_0 rfl rfl rfl ?_
  refine g_iload_n (nx := 2) 0 F dJ6_bitCount_0f7a4_1 rfl rfl rfl ?_
  refine g_iconst (nx := 3) (1) F dJ6_bitCount_0f7a4_2 rfl rfl ?_
  refine g_iushr (nx := 4) F dJ6_bitCount_0f7a4_3 rfl ?_
  refine g_ldcw (nx := 7) (1431655765) F dJ6_bitCount_0f7a4_4 rfl co_RJ6_265 ?_
  refine g_iand (nx := 8) F dJ6_bitCount_0f7a4_7 rfl ?_
  refine g_isub (nx := 9) F dJ6_bitCount_0f7a4_8 rfl ?_
  refine g_istore_n (nx := 10) 0 F dJ6_bitCount_0f7a4_9 rfl rfl (by decide) ?_
  try dsimp only [List.set]
  refine g_iload_n (nx := 11) 0 F dJ6_bitCount_0f7a4_10 rfl rfl rfl ?_
  refine g_ldcw (nx := 14) (858993459) F dJ6_bitCount_0f7a4_11 rfl co_RJ6_266 ?_
  refine g_iand (nx := 15) F dJ6_bitCount_0f7a4_14 rfl ?_
  refine g_iload_n (nx := 16) 0 F dJ6_bitCount_0f7a4_15 rfl rfl rfl ?_
  refine g_iconst (nx := 17) (2) F dJ6_bitCount_0f7a4_16 rfl rfl ?_
  refine g_iushr (nx := 18) F dJ6_bitCount_0f7a4_17 rfl ?_
  refine g_ldcw (nx := 21) (858993459) F dJ6_bitCount_0f7a4_18 rfl co_RJ6_266 ?_
  refine g_iand (nx := 22) F dJ6_bitCount_0f7a4_21 rfl ?_
  refine g_iadd (nx := 23) F dJ6_bitCount_0f7a4_22 rfl ?_
  refine g_istore_n (nx := 24) 0 F dJ6_bitCount_0f7a4_23 rfl rfl (by decide) ?_
  try dsimp only [List.set]
  refine g_iload_n (nx := 25) 0 F dJ6_bitCount_0f7a4_24 rfl rfl rfl ?_
  refine g_iload_n (nx := 26) 0 F dJ6_bitCount_0f7a4_25 rfl rfl rfl ?_
  refine g_iconst (nx := 27) (4) F dJ6_bitCount_0f7a4_26 rfl rfl ?_
  refine g_iushr (nx := 28) F dJ6_bitCount_0f7a4_27 rfl ?_
  refine g_iadd (nx := 29) F dJ6_bitCount_0f7a4_28 rfl ?_
  refine g_ldcw (nx := 32) (252645135) F dJ6_bitCount_0f7a4_29 rfl co_RJ6_267 ?_
  refine g_iand (nx := 33) F dJ6_bitCount_0f7a4_32 rfl ?_
  refine g_istore_n (nx := 34) 0 F dJ6_bitCount_0f7a4_33 rfl rfl (by decide) ?_
  try dsimp only [List.set]
  refine g_iload_n (nx := 35) 0 F dJ6_bitCount_0f7a4_34 rfl rfl rfl ?_
  refine g_iload_n (nx := 36) 0 F dJ6_bitCount_0f7a4_35 rfl rfl rfl ?_
  refine g_bipush (nx := 38) (8) F dJ6_bitCount_0f7a4_36 rfl (by decide) ?_
  refine g_iushr (nx := 39) F dJ6_bitCount_0f7a4_38 rfl ?_
  refine g_iadd (nx := 40) F dJ6_bitCount_0f7a4_39 rfl ?_
  refine g_istore_n (nx := 41) 0 F dJ6_bitCount_0f7a4_40 rfl rfl (by decide) ?_
  try dsimp only [List.set]
  refine g_iload_n (nx := 42) 0 F dJ6_bitCount_0f7a4_41 rfl rfl rfl ?_
  refine g_iload_n (nx := 43) 0 F dJ6_bitCount_0f7a4_42 rfl rfl rfl ?_
  refine g_bipush (nx := 45) (16) F dJ6_bitCount_0f7a4_43 rfl (by decide) ?_
  refine g_iushr (nx := 46) F dJ6_bitCount_0f7a4_45 rfl ?_
  refine g_iadd (nx := 47) F dJ6_bitCount_0f7a4_46 rfl ?_
  refine g_istore_n (nx := 48) 0 F dJ6_bitCount_0f7a4_47 rfl rfl (by decide) ?_
  try dsimp only [List.set]
  refine g_iload_n (nx := 49) 0 F dJ6_bitCount_0f7a4_48 rfl rfl rfl ?_
  refine g_bipush (nx := 51) (63) F dJ6_bitCount_0f7a4_49 rfl (by decide) ?_
  refine g_iand (nx := 52) F dJ6_bitCount_0f7a4_51 rfl ?_
  refine g_iret F E dJ6_bitCount_0f7a4_52 ?_
  exact ⟨congrArg (fun z => some (Value.int z)) (bcE_ok n h), rfl⟩
/-! numbers of the tape -/
def tnF (f : Nat → Int32) (p : Nat) : Int32 := ((((0 : Int32) <<< ((8 : Int32) &&& 31) ||| (f (4 * p) &&& 255)) <<< ((8 : Int32) &&& 31) ||| (f (4 * p + 1) &&& 255)) <<< ((8 : Int32) &&& 31) ||| (f (4 * p + 2) &&& 255)) <<< ((8 : Int32) &&& 31) ||| (f (4 * p + 3) &&& 255)
theorem t4 (p : Nat) (k : Nat) : (4 : Int32) * nI p + nI k = nI (4 * p + k) := by rw [show (4 : Int32) = nI 4 from rfl, pk_mul, nI_add]
theorem t40 (p : Nat) : (4 : Int32) * nI p = nI (4 * p) := by rw [show (4 : Int32) = nI 4 from rfl, pk_mul]
theorem t30 (p : Nat) : (3 : Int32) * nI p = nI (3 * p) := by rw [show (3 : Int32) = nI 3 from rfl, pk_mul]
theorem t3 (p : Nat) (k : Nat) : (3 : Int32) * nI p + nI k = nI (3 * p + k) := by rw [t30, nI_add]
set_option maxHeartbeats 4000000 in
set_option maxRecDepth 100000 in
theorem c_byteAt (p : Nat) (σ : zSt) (h : p < 200) : Con mX9_byteAt 0 [.ref 1, .int (nI p)] σ (fun r τ => r = some (.int (σ 2 p &&& 255)) ∧ τ = σ) := by
  refine Con.of (lv := [.ref 1, .int (nI p)]) mk_X9_byteAt rfl (Nat.le_of_ble_eq_true rfl) rfl (fun X F E => ?_)
  refine g_iload_n (nx := 1) 1 F dX9_byteAt_0 rfl rfl rfl ?_
  refine g_if_lt (nx := 4) 26 F dX9_byteAt_1 rfl (by decide) (fun c_1 => absurd c_1 (by exact nI_pos (by omega))) (fun c_1 => ?_)
  refine g_iload_n (nx := 5) 1 F dX9_byteAt_4 rfl rfl rfl ?_
  refine g_aload_n (nx := 6) 0 F dX9_byteAt_5 rfl rfl rfl ?_
  refine g_getR (nx := 9) F dX9_byteAt_6 rfl fl_RX9_9 rfl (by decide) (by decide) rfl ?_
  refine g_alen (nx := 10) F dX9_byteAt_9 rfl rfl (Or.inl rfl) ?_
  refine g_icmp_ge (nx := 13) 26 F dX9_byteAt_10 rfl (by decide) (fun c_10 => absurd c_10 (by exact nI_ge (a := p) (b := 200) (by omega) (by omega))) (fun c_10 => ?_)
  refine g_aload_n (nx := 14) 0 F dX9_byteAt_13 rfl rfl rfl ?_
  refine g_getR (nx := 17) F dX9_byteAt_14 rfl fl_RX9_9 rfl (by decide) (by decide) rfl ?_
  refine g_iload_n (nx := 18) 1 F dX9_byteAt_17 rfl rfl rfl ?_
  refine g_baldN (nx := 19) (p) (_) F dX9_byteAt_18 rfl rfl (h) (rfl) ?_
  refine g_sipush (nx := 22) (255) F dX9_byteAt_19 rfl (by decide) ?_
  refine g_iand (nx := 23) F dX9_byteAt_22 rfl ?_
  refine g_goto 27 F dX9_byteAt_23 (by decide) ?_
  refine g_iret F E dX9_byteAt_27 ?_
  exact ⟨rfl, rfl⟩
set_option maxHeartbeats 4000000 in
set_option maxRecDepth 100000 in
theorem c_numberAt (p : Nat) (σ : zSt) (h : p < 50) : Con mX9_numberAt 1 [.ref 1, .int (nI p)] σ (fun r τ => r = some (.int (tnF (σ 2) p)) ∧ τ = σ) := by
  refine Con.of (lv := [.ref 1, .int (nI p), .long 0, .long 0]) mk_X9_numberAt rfl (Nat.le_of_ble_eq_true rfl) rfl (fun X F E => ?_)
  refine g_iconst (nx := 1) (0) F dX9_numberAt_0 rfl rfl ?_
  refine g_istore_n (nx := 2) 2 F dX9_numberAt_1 rfl rfl (by decide) ?_
  try dsimp only [List.set]
  refine g_iconst (nx := 3) (0) F dX9_numberAt_2 rfl rfl ?_
  refine g_istore_n (nx := 4) 3 F dX9_numberAt_3 rfl rfl (by decide) ?_
  try dsimp only [List.set]
  
  refine g_iload_n (nx := 5) 3 F dX9_numberAt_4 rfl rfl rfl ?_
  refine g_iconst (nx := 6) (4) F dX9_numberAt_5 rfl rfl ?_
  refine g_icmp_ge (nx := 9) 30 F dX9_numberAt_6 rfl (by decide) (fun c_6 => absurd c_6 (by decide)) (fun c_6 => ?_)
  refine g_iload_n (nx := 10) 2 F dX9_numberAt_9 rfl rfl rfl ?_
  refine g_bipush (nx := 12) (8) F dX9_numberAt_10 rfl (by decide) ?_
  refine g_ishl (nx := 13) F dX9_numberAt_12 rfl ?_
  refine g_aload_n (nx := 14) 0 F dX9_numberAt_13 rfl rfl rfl ?_
  refine g_iconst (nx := 15) (4) F dX9_numberAt_14 rfl rfl ?_
  refine g_iload_n (nx := 16) 1 F dX9_numberAt_15 rfl rfl rfl ?_
  refine g_imul (nx := 17) F dX9_numberAt_16 rfl ?_
  refine g_iload_n (nx := 18) 3 F dX9_numberAt_17 rfl rfl rfl ?_
  refine g_iadd (nx := 19) F dX9_numberAt_18 rfl ?_
  rw [show (0 : Int32) = nI 0 from rfl, t4]
  refine g_callV (nx := 22) 1 0 [.int (nI (4 * p + 0))] F dX9_numberAt_19 rfl ml_RX9_17 mo_X9_byteAt rfl rfl rfl rfl (Nat.le_of_ble_eq_true rfl) (by first | decide | omega) (c_byteAt (4 * p + 0) _ (by omega)) (fun r_19 τ_19 q_19 => ?_)
  obtain ⟨rfl, et_19⟩ := q_19
  have et_19 := et_19.symm
  subst et_19
  dsimp only [Option.toList, List.append, List.cons_append, List.nil_append]
  refine g_ior (nx := 23) F dX9_numberAt_22 rfl ?_
  refine g_istore_n (nx := 24) 2 F dX9_numberAt_23 rfl rfl (by decide) ?_
  try dsimp only [List.set]
  refine g_iinc (nx := 27) (1) F dX9_numberAt_24 rfl rfl (by decide) (by decide) ?_
  try dsimp only [List.set]
  rw [show nI 0 + 1 = 1 from rfl]
  refine g_goto 4 F dX9_numberAt_27 (by decide) ?_
  
  refine g_iload_n (nx := 5) 3 F dX9_numberAt_4 rfl rfl rfl ?_
  refine g_iconst (nx := 6) (4) F dX9_numberAt_5 rfl rfl ?_
  refine g_icmp_ge (nx := 9) 30 F dX9_numberAt_6 rfl (by decide) (fun c_6 => absurd c_6 (by decide)) (fun c_6 => ?_)
  refine g_iload_n (nx := 10) 2 F dX9_numberAt_9 rfl rfl rfl ?_
  refine g_bipush (nx := 12) (8) F dX9_numberAt_10 rfl (by decide) ?_
  refine g_ishl (nx := 13) F dX9_numberAt_12 rfl ?_
  refine g_aload_n (nx := 14) 0 F dX9_numberAt_13 rfl rfl rfl ?_
  refine g_iconst (nx := 15) (4) F dX9_numberAt_14 rfl rfl ?_
  refine g_iload_n (nx := 16) 1 F dX9_numberAt_15 rfl rfl rfl ?_
  refine g_imul (nx := 17) F dX9_numberAt_16 rfl ?_
  refine g_iload_n (nx := 18) 3 F dX9_numberAt_17 rfl rfl rfl ?_
  refine g_iadd (nx := 19) F dX9_numberAt_18 rfl ?_
  rw [show (1 : Int32) = nI 1 from rfl, t4]
  refine g_callV (nx := 22) 1 0 [.int (nI (4 * p + 1))] F dX9_numberAt_19 rfl ml_RX9_17 mo_X9_byteAt rfl rfl rfl rfl (Nat.le_of_ble_eq_true rfl) (by first | decide | omega) (c_byteAt (4 * p + 1) _ (by omega)) (fun r_19 τ_19 q_19 => ?_)
  obtain ⟨rfl, et_19⟩ := q_19
  have et_19 := et_19.symm
  subst et_19
  dsimp only [Option.toList, List.append, List.cons_append, List.nil_append]
  refine g_ior (nx := 23) F dX9_numberAt_22 rfl ?_
  refine g_istore_n (nx := 24) 2 F dX9_numberAt_23 rfl rfl (by decide) ?_
  try dsimp only [List.set]
  refine g_iinc (nx := 27) (1) F dX9_numberAt_24 rfl rfl (by decide) (by decide) ?_
  try dsimp only [List.set]
  rw [show nI 1 + 1 = 2 from rfl]
  refine g_goto 4 F dX9_numberAt_27 (by decide) ?_
  
  refine g_iload_n (nx := 5) 3 F dX9_numberAt_4 rfl rfl rfl ?_
  refine g_iconst (nx := 6) (4) F dX9_numberAt_5 rfl rfl ?_
  refine g_icmp_ge (nx := 9) 30 F dX9_numberAt_6 rfl (by decide) (fun c_6 => absurd c_6 (by decide)) (fun c_6 => ?_)
  refine g_iload_n (nx := 10) 2 F dX9_numberAt_9 rfl rfl rfl ?_
  refine g_bipush (nx := 12) (8) F dX9_numberAt_10 rfl (by decide) ?_
  refine g_ishl (nx := 13) F dX9_numberAt_12 rfl ?_
  refine g_aload_n (nx := 14) 0 F dX9_numberAt_13 rfl rfl rfl ?_
  refine g_iconst (nx := 15) (4) F dX9_numberAt_14 rfl rfl ?_
  refine g_iload_n (nx := 16) 1 F dX9_numberAt_15 rfl rfl rfl ?_
  refine g_imul (nx := 17) F dX9_numberAt_16 rfl ?_
  refine g_iload_n (nx := 18) 3 F dX9_numberAt_17 rfl rfl rfl ?_
  refine g_iadd (nx := 19) F dX9_numberAt_18 rfl ?_
  rw [show (2 : Int32) = nI 2 from rfl, t4]
  refine g_callV (nx := 22) 1 0 [.int (nI (4 * p + 2))] F dX9_numberAt_19 rfl ml_RX9_17 mo_X9_byteAt rfl rfl rfl rfl (Nat.le_of_ble_eq_true rfl) (by first | decide | omega) (c_byteAt (4 * p + 2) _ (by omega)) (fun r_19 τ_19 q_19 => ?_)
  obtain ⟨rfl, et_19⟩ := q_19
  have et_19 := et_19.symm
  subst et_19
  dsimp only [Option.toList, List.append, List.cons_append, List.nil_append]
  refine g_ior (nx := 23) F dX9_numberAt_22 rfl ?_
  refine g_istore_n (nx := 24) 2 F dX9_numberAt_23 rfl rfl (by decide) ?_
  try dsimp only [List.set]
  refine g_iinc (nx := 27) (1) F dX9_numberAt_24 rfl rfl (by decide) (by decide) ?_
  try dsimp only [List.set]
  rw [show nI 2 + 1 = 3 from rfl]
  refine g_goto 4 F dX9_numberAt_27 (by decide) ?_
  
  refine g_iload_n (nx := 5) 3 F dX9_numberAt_4 rfl rfl rfl ?_
  refine g_iconst (nx := 6) (4) F dX9_numberAt_5 rfl rfl ?_
  refine g_icmp_ge (nx := 9) 30 F dX9_numberAt_6 rfl (by decide) (fun c_6 => absurd c_6 (by decide)) (fun c_6 => ?_)
  refine g_iload_n (nx := 10) 2 F dX9_numberAt_9 rfl rfl rfl ?_
  refine g_bipush (nx := 12) (8) F dX9_numberAt_10 rfl (by decide) ?_
  refine g_ishl (nx := 13) F dX9_numberAt_12 rfl ?_
  refine g_aload_n (nx := 14) 0 F dX9_numberAt_13 rfl rfl rfl ?_
  refine g_iconst (nx := 15) (4) F dX9_numberAt_14 rfl rfl ?_
  refine g_iload_n (nx := 16) 1 F dX9_numberAt_15 rfl rfl rfl ?_
  refine g_imul (nx := 17) F dX9_numberAt_16 rfl ?_
  refine g_iload_n (nx := 18) 3 F dX9_numberAt_17 rfl rfl rfl ?_
  refine g_iadd (nx := 19) F dX9_numberAt_18 rfl ?_
  rw [show (3 : Int32) = nI 3 from rfl, t4]
  refine g_callV (nx := 22) 1 0 [.int (nI (4 * p + 3))] F dX9_numberAt_19 rfl ml_RX9_17 mo_X9_byteAt rfl rfl rfl rfl (Nat.le_of_ble_eq_true rfl) (by first | decide | omega) (c_byteAt (4 * p + 3) _ (by omega)) (fun r_19 τ_19 q_19 => ?_)
  obtain ⟨rfl, et_19⟩ := q_19
  have et_19 := et_19.symm
  subst et_19
  dsimp only [Option.toList, List.append, List.cons_append, List.nil_append]
  refine g_ior (nx := 23) F dX9_numberAt_22 rfl ?_
  refine g_istore_n (nx := 24) 2 F dX9_numberAt_23 rfl rfl (by decide) ?_
  try dsimp only [List.set]
  refine g_iinc (nx := 27) (1) F dX9_numberAt_24 rfl rfl (by decide) (by decide) ?_
  try dsimp only [List.set]
  rw [show nI 3 + 1 = 4 from rfl]
  refine g_goto 4 F dX9_numberAt_27 (by decide) ?_
  
  refine g_iload_n (nx := 5) 3 F dX9_numberAt_4 rfl rfl rfl ?_
  refine g_iconst (nx := 6) (4) F dX9_numberAt_5 rfl rfl ?_
  refine g_icmp_ge (nx := 9) 30 F dX9_numberAt_6 rfl (by decide) (fun c_6 => ?_) (fun c_6 => absurd c_6 (by decide))
  refine g_iload_n (nx := 31) 2 F dX9_numberAt_30 rfl rfl rfl ?_
  refine g_iret F E dX9_numberAt_31 ?_
  exact ⟨rfl, rfl⟩
set_option maxHeartbeats 4000000 in
set_option maxRecDepth 100000 in
theorem k_tapeNumber (p : Nat) (σ : zSt) (h : p < 50) : Con mX12_tapeNumber 0 [.ref 145, .int (nI p)] σ (fun r τ => r = some (.int (tnF (σ 162) p)) ∧ τ = σ) := by
  refine Con.of (lv := [.ref 145, .int (nI p), .long 0, .long 0]) mk_X12_tapeNumber rfl (Nat.le_of_ble_eq_true rfl) rfl (fun X F E => ?_)
  refine g_iconst (nx := 1) (0) F dX12_tapeNumber_0 rfl rfl ?_
  refine g_istore_n (nx := 2) 2 F dX12_tapeNumber_1 rfl rfl (by decide) ?_
  try dsimp only [List.set]
  refine g_iconst (nx := 3) (4) F dX12_tapeNumber_2 rfl rfl ?_
  refine g_iload_n (nx := 4) 1 F dX12_tapeNumber_3 rfl rfl rfl ?_
  refine g_imul (nx := 5) F dX12_tapeNumber_4 rfl ?_
  rw [t40]
  refine g_istore_n (nx := 6) 3 F dX12_tapeNumber_5 rfl rfl (by decide) ?_
  try dsimp only [List.set]
  
  refine g_iload_n (nx := 7) 3 F dX12_tapeNumber_6 rfl rfl rfl ?_
  refine g_iconst (nx := 8) (4) F dX12_tapeNumber_7 rfl rfl ?_
  refine g_iload_n (nx := 9) 1 F dX12_tapeNumber_8 rfl rfl rfl ?_
  refine g_imul (nx := 10) F dX12_tapeNumber_9 rfl ?_
  refine g_iconst (nx := 11) (4) F dX12_tapeNumber_10 rfl rfl ?_
  refine g_iadd (nx := 12) F dX12_tapeNumber_11 rfl ?_
  refine g_icmp_ge (nx := 15) 37 F dX12_tapeNumber_12 rfl (by decide) (fun c_12 => absurd c_12 (by rw [t40, show (4 : Int32) = nI 4 from rfl, nI_add]; exact nI_ge (by omega) (by omega))) (fun c_12 => ?_)
  refine g_iload_n (nx := 16) 2 F dX12_tapeNumber_15 rfl rfl rfl ?_
  refine g_bipush (nx := 18) (8) F dX12_tapeNumber_16 rfl (by decide) ?_
  refine g_ishl (nx := 19) F dX12_tapeNumber_18 rfl ?_
  refine g_aload_n (nx := 20) 0 F dX12_tapeNumber_19 rfl rfl rfl ?_
  refine g_getR (nx := 23) F dX12_tapeNumber_20 rfl fl_RX12_58 rfl (by decide) (by decide) rfl ?_
  refine g_iload_n (nx := 24) 3 F dX12_tapeNumber_23 rfl rfl rfl ?_
  refine g_baldN (nx := 25) (4 * p + 0) (_) F dX12_tapeNumber_24 rfl rfl (by omega) (rfl) ?_
  refine g_sipush (nx := 28) (255) F dX12_tapeNumber_25 rfl (by decide) ?_
  refine g_iand (nx := 29) F dX12_tapeNumber_28 rfl ?_
  refine g_ior (nx := 30) F dX12_tapeNumber_29 rfl ?_
  refine g_istore_n (nx := 31) 2 F dX12_tapeNumber_30 rfl rfl (by decide) ?_
  try dsimp only [List.set]
  refine g_iinc (nx := 34) (1) F dX12_tapeNumber_31 rfl rfl (by decide) (by decide) ?_
  try dsimp only [List.set]
  rw [nI_1]
  refine g_goto 6 F dX12_tapeNumber_34 (by decide) ?_
  
  refine g_iload_n (nx := 7) 3 F dX12_tapeNumber_6 rfl rfl rfl ?_
  refine g_iconst (nx := 8) (4) F dX12_tapeNumber_7 rfl rfl ?_
  refine g_iload_n (nx := 9) 1 F dX12_tapeNumber_8 rfl rfl rfl ?_
  refine g_imul (nx := 10) F dX12_tapeNumber_9 rfl ?_
  refine g_iconst (nx := 11) (4) F dX12_tapeNumber_10 rfl rfl ?_
  refine g_iadd (nx := 12) F dX12_tapeNumber_11 rfl ?_
  refine g_icmp_ge (nx := 15) 37 F dX12_tapeNumber_12 rfl (by decide) (fun c_12 => absurd c_12 (by rw [t40, show (4 : Int32) = nI 4 from rfl, nI_add]; exact nI_ge (by omega) (by omega))) (fun c_12 => ?_)
  refine g_iload_n (nx := 16) 2 F dX12_tapeNumber_15 rfl rfl rfl ?_
  refine g_bipush (nx := 18) (8) F dX12_tapeNumber_16 rfl (by decide) ?_
  refine g_ishl (nx := 19) F dX12_tapeNumber_18 rfl ?_
  refine g_aload_n (nx := 20) 0 F dX12_tapeNumber_19 rfl rfl rfl ?_
  refine g_getR (nx := 23) F dX12_tapeNumber_20 rfl fl_RX12_58 rfl (by decide) (by decide) rfl ?_
  refine g_iload_n (nx := 24) 3 F dX12_tapeNumber_23 rfl rfl rfl ?_
  refine g_baldN (nx := 25) (4 * p + 1) (_) F dX12_tapeNumber_24 rfl rfl (by omega) (rfl) ?_
  refine g_sipush (nx := 28) (255) F dX12_tapeNumber_25 rfl (by decide) ?_
  refine g_iand (nx := 29) F dX12_tapeNumber_28 rfl ?_
  refine g_ior (nx := 30) F dX12_tapeNumber_29 rfl ?_
  refine g_istore_n (nx := 31) 2 F dX12_tapeNumber_30 rfl rfl (by decide) ?_
  try dsimp only [List.set]
  refine g_iinc (nx := 34) (1) F dX12_tapeNumber_31 rfl rfl (by decide) (by decide) ?_
  try dsimp only [List.set]
  rw [nI_1]
  refine g_goto 6 F dX12_tapeNumber_34 (by decide) ?_
  
  refine g_iload_n (nx := 7) 3 F dX12_tapeNumber_6 rfl rfl rfl ?_
  refine g_iconst (nx := 8) (4) F dX12_tapeNumber_7 rfl rfl ?_
  refine g_iload_n (nx := 9) 1 F dX12_tapeNumber_8 rfl rfl rfl ?_
  refine g_imul (nx := 10) F dX12_tapeNumber_9 rfl ?_
  refine g_iconst (nx := 11) (4) F dX12_tapeNumber_10 rfl rfl ?_
  refine g_iadd (nx := 12) F dX12_tapeNumber_11 rfl ?_
  refine g_icmp_ge (nx := 15) 37 F dX12_tapeNumber_12 rfl (by decide) (fun c_12 => absurd c_12 (by rw [t40, show (4 : Int32) = nI 4 from rfl, nI_add]; exact nI_ge (by omega) (by omega))) (fun c_12 => ?_)
  refine g_iload_n (nx := 16) 2 F dX12_tapeNumber_15 rfl rfl rfl ?_
  refine g_bipush (nx := 18) (8) F dX12_tapeNumber_16 rfl (by decide) ?_
  refine g_ishl (nx := 19) F dX12_tapeNumber_18 rfl ?_
  refine g_aload_n (nx := 20) 0 F dX12_tapeNumber_19 rfl rfl rfl ?_
  refine g_getR (nx := 23) F dX12_tapeNumber_20 rfl fl_RX12_58 rfl (by decide) (by decide) rfl ?_
  refine g_iload_n (nx := 24) 3 F dX12_tapeNumber_23 rfl rfl rfl ?_
  refine g_baldN (nx := 25) (4 * p + 2) (_) F dX12_tapeNumber_24 rfl rfl (by omega) (rfl) ?_
  refine g_sipush (nx := 28) (255) F dX12_tapeNumber_25 rfl (by decide) ?_
  refine g_iand (nx := 29) F dX12_tapeNumber_28 rfl ?_
  refine g_ior (nx := 30) F dX12_tapeNumber_29 rfl ?_
  refine g_istore_n (nx := 31) 2 F dX12_tapeNumber_30 rfl rfl (by decide) ?_
  try dsimp only [List.set]
  refine g_iinc (nx := 34) (1) F dX12_tapeNumber_31 rfl rfl (by decide) (by decide) ?_
  try dsimp only [List.set]
  rw [nI_1]
  refine g_goto 6 F dX12_tapeNumber_34 (by decide) ?_
  
  refine g_iload_n (nx := 7) 3 F dX12_tapeNumber_6 rfl rfl rfl ?_
  refine g_iconst (nx := 8) (4) F dX12_tapeNumber_7 rfl rfl ?_
  refine g_iload_n (nx := 9) 1 F dX12_tapeNumber_8 rfl rfl rfl ?_
  refine g_imul (nx := 10) F dX12_tapeNumber_9 rfl ?_
  refine g_iconst (nx := 11) (4) F dX12_tapeNumber_10 rfl rfl ?_
  refine g_iadd (nx := 12) F dX12_tapeNumber_11 rfl ?_
  refine g_icmp_ge (nx := 15) 37 F dX12_tapeNumber_12 rfl (by decide) (fun c_12 => absurd c_12 (by rw [t40, show (4 : Int32) = nI 4 from rfl, nI_add]; exact nI_ge (by omega) (by omega))) (fun c_12 => ?_)
  refine g_iload_n (nx := 16) 2 F dX12_tapeNumber_15 rfl rfl rfl ?_
  refine g_bipush (nx := 18) (8) F dX12_tapeNumber_16 rfl (by decide) ?_
  refine g_ishl (nx := 19) F dX12_tapeNumber_18 rfl ?_
  refine g_aload_n (nx := 20) 0 F dX12_tapeNumber_19 rfl rfl rfl ?_
  refine g_getR (nx := 23) F dX12_tapeNumber_20 rfl fl_RX12_58 rfl (by decide) (by decide) rfl ?_
  refine g_iload_n (nx := 24) 3 F dX12_tapeNumber_23 rfl rfl rfl ?_
  refine g_baldN (nx := 25) (4 * p + 3) (_) F dX12_tapeNumber_24 rfl rfl (by omega) (rfl) ?_
  refine g_sipush (nx := 28) (255) F dX12_tapeNumber_25 rfl (by decide) ?_
  refine g_iand (nx := 29) F dX12_tapeNumber_28 rfl ?_
  refine g_ior (nx := 30) F dX12_tapeNumber_29 rfl ?_
  refine g_istore_n (nx := 31) 2 F dX12_tapeNumber_30 rfl rfl (by decide) ?_
  try dsimp only [List.set]
  refine g_iinc (nx := 34) (1) F dX12_tapeNumber_31 rfl rfl (by decide) (by decide) ?_
  try dsimp only [List.set]
  rw [nI_1]
  refine g_goto 6 F dX12_tapeNumber_34 (by decide) ?_
  
  refine g_iload_n (nx := 7) 3 F dX12_tapeNumber_6 rfl rfl rfl ?_
  refine g_iconst (nx := 8) (4) F dX12_tapeNumber_7 rfl rfl ?_
  refine g_iload_n (nx := 9) 1 F dX12_tapeNumber_8 rfl rfl rfl ?_
  refine g_imul (nx := 10) F dX12_tapeNumber_9 rfl ?_
  refine g_iconst (nx := 11) (4) F dX12_tapeNumber_10 rfl rfl ?_
  refine g_iadd (nx := 12) F dX12_tapeNumber_11 rfl ?_
  refine g_icmp_ge (nx := 15) 37 F dX12_tapeNumber_12 rfl (by decide) (fun c_12 => ?_) (fun c_12 => absurd c_12 (by rw [t40, show (4 : Int32) = nI 4 from rfl, nI_add]; exact fun q => q (nI_le (by omega) (by omega))))
  refine g_iload_n (nx := 38) 2 F dX12_tapeNumber_37 rfl rfl rfl ?_
  refine g_iret F E dX12_tapeNumber_38 ?_
  exact ⟨rfl, rfl⟩
/-! CHECK -/
def ckL (f st co : Nat → Int32) (files n : Nat) : Nat → Nat → Int32
  | 0, _ => if n < files then nI (3 * n) else -1
  | q + 1, j => if files ≤ j ∨ tnF f (3 * j) ≠ nI j then nI (3 * j) else if tnF f (3 * j + 1) ≠ st j then nI (3 * j + 1) else if tnF f (3 * j + 2) ≠ co j then nI (3 * j + 2) else ckL f st co files n q (j + 1)
set_option maxHeartbeats 4000000 in
set_option maxRecDepth 100000 in
theorem c_firstWrong (f n : Nat) (σ : zSt) (hf : σ 17 8 = nI f) (h : f ≤ 40) (hn : n ≤ 16) : Con mX6_firstWrong 2 [.ref 17, .ref 1, .int (nI n)] σ (fun r τ => r = some (.int (ckL (σ 2) (σ 18) (σ 19) f n n 0)) ∧ τ = σ) := by
  refine Con.of (lv := [.ref 17, .ref 1, .int (nI n), .long 0]) mk_X6_firstWrong rfl (Nat.le_of_ble_eq_true rfl) rfl (fun X F E => ?_)
  have L : ∀ (q j : Nat), j + q = n → ckL (σ 2) (σ 18) (σ 19) f n q j = ckL (σ 2) (σ 18) (σ 19) f n n 0 → Gs X 2 [.ref 17, .ref 1, .int (nI n), .int (nI j)] [] σ := by
    intro q
    induction q with
    | zero =>
      intro j hj hA
      have hj : j = n := hj
      subst hj
      refine g_iload_n (nx := 3) 3 F dX6_firstWrong_2 rfl rfl rfl ?_
      refine g_iload_n (nx := 4) 2 F dX6_firstWrong_3 rfl rfl rfl ?_
      refine g_icmp_ge (nx := 7) 84 F dX6_firstWrong_4 rfl (by decide) (fun c_4 => ?_) (fun c_4 => absurd c_4 (by exact fun zq => zq (nI_le (a := j) (b := j) (by omega) (by omega))))
      refine g_iload_n (nx := 85) 2 F dX6_firstWrong_84 rfl rfl rfl ?_
      refine g_aload_n (nx := 86) 0 F dX6_firstWrong_85 rfl rfl rfl ?_
      refine g_getV (nx := 89) (nI f) F dX6_firstWrong_86 rfl fl_RX6_51 rfl (by decide) (by decide) rfl rfl (hf) ?_
      refine g_icmp_ge (nx := 92) 98 F dX6_firstWrong_89 rfl (by decide) (fun c_89 => ?_) (fun c_89 => ?_)
      · refine g_iconst (nx := 99) (-1) F dX6_firstWrong_98 rfl rfl ?_
        refine g_iret F E dX6_firstWrong_99 ?_
        refine ⟨congrArg (fun z => some (Value.int z)) ?_, rfl⟩
        rw [← hA]
        rw [ckL]
        first | (rw [if_neg (by intro z; exact absurd (nI_lt z (by omega)) (by rw [not_lt_I]; assumption))]) | (rw [if_pos (by rcases Nat.lt_or_ge j f with z | z; exact z; exact absurd (nI_le z (by omega)) (by assumption)), t30])
      · refine g_iconst (nx := 93) (3) F dX6_firstWrong_92 rfl rfl ?_
        refine g_iload_n (nx := 94) 2 F dX6_firstWrong_93 rfl rfl rfl ?_
        refine g_imul (nx := 95) F dX6_firstWrong_94 rfl ?_
        refine g_goto 99 F dX6_firstWrong_95 (by decide) ?_
        refine g_iret F E dX6_firstWrong_99 ?_
        refine ⟨congrArg (fun z => some (Value.int z)) ?_, rfl⟩
        rw [← hA]
        rw [ckL]
        first | (rw [if_neg (by intro z; exact absurd (nI_lt z (by omega)) (by rw [not_lt_I]; assumption))]) | (rw [if_pos (by rcases Nat.lt_or_ge j f with z | z; exact z; exact absurd (nI_le z (by omega)) (by assumption)), t30])
    | succ q ih =>
      intro j hj hA
      rw [ckL] at hA
      refine g_iload_n (nx := 3) 3 F dX6_firstWrong_2 rfl rfl rfl ?_
      refine g_iload_n (nx := 4) 2 F dX6_firstWrong_3 rfl rfl rfl ?_
      refine g_icmp_ge (nx := 7) 84 F dX6_firstWrong_4 rfl (by decide) (fun c_4 => absurd c_4 (by exact nI_ge (a := j) (b := n) (by omega) (by omega))) (fun c_4 => ?_)
      refine g_iload_n (nx := 8) 3 F dX6_firstWrong_7 rfl rfl rfl ?_
      refine g_aload_n (nx := 9) 0 F dX6_firstWrong_8 rfl rfl rfl ?_
      refine g_getV (nx := 12) (nI f) F dX6_firstWrong_9 rfl fl_RX6_51 rfl (by decide) (by decide) rfl rfl (hf) ?_
      refine g_icmp_ge (nx := 15) 26 F dX6_firstWrong_12 rfl (by decide) (fun c_12 => ?_) (fun c_12 => ?_)
      · refine g_iconst (nx := 27) (3) F dX6_firstWrong_26 rfl rfl ?_
        refine g_iload_n (nx := 28) 3 F dX6_firstWrong_27 rfl rfl rfl ?_
        refine g_imul (nx := 29) F dX6_firstWrong_28 rfl ?_
        refine g_iret F E dX6_firstWrong_29 ?_
        refine ⟨congrArg (fun z => some (Value.int z)) ?_, rfl⟩
        rw [← hA]
        rw [t30, if_pos (by first | exact Or.inl (by rcases Nat.lt_or_ge j f with z | z; exact absurd c_12 (nI_ge z (by omega)); exact z) | exact Or.inr c_23)]
      · have hjf : j < f := by rcases Nat.lt_or_ge j f with z | z; exact z; exact absurd (nI_le z (by omega)) c_12
        refine g_aload_n (nx := 16) 1 F dX6_firstWrong_15 rfl rfl rfl ?_
        refine g_iconst (nx := 17) (3) F dX6_firstWrong_16 rfl rfl ?_
        refine g_iload_n (nx := 18) 3 F dX6_firstWrong_17 rfl rfl rfl ?_
        refine g_imul (nx := 19) F dX6_firstWrong_18 rfl ?_
        rw [t30]
        refine g_callV (nx := 22) 1 1 [.int (nI (3 * j))] F dX6_firstWrong_19 rfl ml_RX6_182 mo_X9_numberAt rfl rfl rfl rfl (Nat.le_of_ble_eq_true rfl) (by first | decide | omega) (c_numberAt (3 * j) _ (by omega)) (fun r_19 τ_19 q_19 => ?_)
        obtain ⟨rfl, et_19⟩ := q_19
        have et_19 := et_19.symm
        subst et_19
        dsimp only [Option.toList, List.append, List.cons_append, List.nil_append]
        refine g_iload_n (nx := 23) 3 F dX6_firstWrong_22 rfl rfl rfl ?_
        refine g_icmp_eq (nx := 26) 30 F dX6_firstWrong_23 rfl (by decide) (fun c_23 => ?_) (fun c_23 => ?_)
        · refine g_aload_n (nx := 31) 1 F dX6_firstWrong_30 rfl rfl rfl ?_
          refine g_iconst (nx := 32) (3) F dX6_firstWrong_31 rfl rfl ?_
          refine g_iload_n (nx := 33) 3 F dX6_firstWrong_32 rfl rfl rfl ?_
          refine g_imul (nx := 34) F dX6_firstWrong_33 rfl ?_
          refine g_iconst (nx := 35) (1) F dX6_firstWrong_34 rfl rfl ?_
          refine g_iadd (nx := 36) F dX6_firstWrong_35 rfl ?_
          rw [show (1 : Int32) = nI 1 from rfl, t3]
          refine g_callV (nx := 39) 1 1 [.int (nI (3 * j + 1))] F dX6_firstWrong_36 rfl ml_RX6_182 mo_X9_numberAt rfl rfl rfl rfl (Nat.le_of_ble_eq_true rfl) (by first | decide | omega) (c_numberAt (3 * j + 1) _ (by omega)) (fun r_36 τ_36 q_36 => ?_)
          obtain ⟨rfl, et_36⟩ := q_36
          have et_36 := et_36.symm
          subst et_36
          dsimp only [Option.toList, List.append, List.cons_append, List.nil_append]
          refine g_aload_n (nx := 40) 0 F dX6_firstWrong_39 rfl rfl rfl ?_
          refine g_getR (nx := 43) F dX6_firstWrong_40 rfl fl_RX6_9 rfl (by decide) (by decide) rfl ?_
          refine g_iload_n (nx := 44) 3 F dX6_firstWrong_43 rfl rfl rfl ?_
          refine g_ialdN (nx := 45) (j) (_) F dX6_firstWrong_44 rfl rfl (by omega) (rfl) ?_
          refine g_icmp_eq (nx := 48) 54 F dX6_firstWrong_45 rfl (by decide) (fun c_45 => ?_) (fun c_45 => ?_)
          · refine g_aload_n (nx := 55) 1 F dX6_firstWrong_54 rfl rfl rfl ?_
            refine g_iconst (nx := 56) (3) F dX6_firstWrong_55 rfl rfl ?_
            refine g_iload_n (nx := 57) 3 F dX6_firstWrong_56 rfl rfl rfl ?_
            refine g_imul (nx := 58) F dX6_firstWrong_57 rfl ?_
            refine g_iconst (nx := 59) (2) F dX6_firstWrong_58 rfl rfl ?_
            refine g_iadd (nx := 60) F dX6_firstWrong_59 rfl ?_
            rw [show (2 : Int32) = nI 2 from rfl, t3]
            refine g_callV (nx := 63) 1 1 [.int (nI (3 * j + 2))] F dX6_firstWrong_60 rfl ml_RX6_182 mo_X9_numberAt rfl rfl rfl rfl (Nat.le_of_ble_eq_true rfl) (by first | decide | omega) (c_numberAt (3 * j + 2) _ (by omega)) (fun r_60 τ_60 q_60 => ?_)
            obtain ⟨rfl, et_60⟩ := q_60
            have et_60 := et_60.symm
            subst et_60
            dsimp only [Option.toList, List.append, List.cons_append, List.nil_append]
            refine g_aload_n (nx := 64) 0 F dX6_firstWrong_63 rfl rfl rfl ?_
            refine g_getR (nx := 67) F dX6_firstWrong_64 rfl fl_RX6_15 rfl (by decide) (by decide) rfl ?_
            refine g_iload_n (nx := 68) 3 F dX6_firstWrong_67 rfl rfl rfl ?_
            refine g_ialdN (nx := 69) (j) (_) F dX6_firstWrong_68 rfl rfl (by omega) (rfl) ?_
            refine g_icmp_eq (nx := 72) 78 F dX6_firstWrong_69 rfl (by decide) (fun c_69 => ?_) (fun c_69 => ?_)
            · refine g_iinc (nx := 81) (1) F dX6_firstWrong_78 rfl rfl (by decide) (by decide) ?_
              try dsimp only [List.set]
              refine g_goto 2 F dX6_firstWrong_81 (by decide) ?_
              rw [nI_1]
              refine ih (j + 1) (by omega) ?_
              rw [← hA, if_neg (by intro z; rcases z with z | z; omega; exact z c_23), if_neg (by intro z; exact z c_45), if_neg (by intro z; exact z c_69)]
            · refine g_iconst (nx := 73) (3) F dX6_firstWrong_72 rfl rfl ?_
              refine g_iload_n (nx := 74) 3 F dX6_firstWrong_73 rfl rfl rfl ?_
              refine g_imul (nx := 75) F dX6_firstWrong_74 rfl ?_
              refine g_iconst (nx := 76) (2) F dX6_firstWrong_75 rfl rfl ?_
              refine g_iadd (nx := 77) F dX6_firstWrong_76 rfl ?_
              refine g_iret F E dX6_firstWrong_77 ?_
              refine ⟨congrArg (fun z => some (Value.int z)) ?_, rfl⟩
              rw [← hA]
              rw [if_neg (by intro z; rcases z with z | z; omega; exact z c_23), if_neg (by intro z; exact z c_45), if_pos c_69, show (2 : Int32) = nI 2 from rfl, t3]
          · refine g_iconst (nx := 49) (3) F dX6_firstWrong_48 rfl rfl ?_
            refine g_iload_n (nx := 50) 3 F dX6_firstWrong_49 rfl rfl rfl ?_
            refine g_imul (nx := 51) F dX6_firstWrong_50 rfl ?_
            refine g_iconst (nx := 52) (1) F dX6_firstWrong_51 rfl rfl ?_
            refine g_iadd (nx := 53) F dX6_firstWrong_52 rfl ?_
            refine g_iret F E dX6_firstWrong_53 ?_
            refine ⟨congrArg (fun z => some (Value.int z)) ?_, rfl⟩
            rw [← hA]
            rw [if_neg (by intro z; rcases z with z | z; omega; exact z c_23), if_pos c_45, show (1 : Int32) = nI 1 from rfl, t3]
        · refine g_iconst (nx := 27) (3) F dX6_firstWrong_26 rfl rfl ?_
          refine g_iload_n (nx := 28) 3 F dX6_firstWrong_27 rfl rfl rfl ?_
          refine g_imul (nx := 29) F dX6_firstWrong_28 rfl ?_
          refine g_iret F E dX6_firstWrong_29 ?_
          refine ⟨congrArg (fun z => some (Value.int z)) ?_, rfl⟩
          rw [← hA]
          rw [t30, if_pos (by first | exact Or.inl (by rcases Nat.lt_or_ge j f with z | z; exact absurd c_12 (nI_ge z (by omega)); exact z) | exact Or.inr c_23)]
  refine g_iconst (nx := 1) (0) F dX6_firstWrong_0 rfl rfl ?_
  refine g_istore_n (nx := 2) 3 F dX6_firstWrong_1 rfl rfl (by decide) ?_
  try dsimp only [List.set]
  exact L n 0 (by omega) rfl
set_option maxHeartbeats 4000000 in
set_option maxRecDepth 100000 in
theorem c_check (f u : Nat) (n : Int32) (σ : zSt) (hf : σ 17 8 = nI f) (hu : σ 1 1 = nI u) (h : f ≤ 40) (h2 : u ≤ 200) : Con mX11_check 3 [.ref 0, .int n] σ (fun r τ => ((0 ≤ n.toInt ∧ n.toInt ≤ (u / 12 : Nat)) ∧ r = some (.int (ckL (σ 2) (σ 18) (σ 19) f n.toInt.toNat n.toInt.toNat 0)) ∧ τ = zu σ 1 1 0) ∨ (¬ (0 ≤ n.toInt ∧ n.toInt ≤ (u / 12 : Nat)) ∧ r = some (.int (-2)) ∧ τ = σ)) := by
  refine Con.of (lv := [.ref 0, .int n, .long 0]) mk_X11_check rfl (Nat.le_of_ble_eq_true rfl) rfl (fun X F E => ?_)
  by_cases hA : 0 ≤ n.toInt ∧ n.toInt ≤ (u / 12 : Nat)
  · obtain ⟨N, hN, eN⟩ := nI_rng (n := 16) (x := n) (by omega) (by omega)
    subst eN
    have eN : (nI N).toInt = N := nI_toInt (by omega)
    refine g_iload_n (nx := 1) 1 F dX11_check_0 rfl rfl rfl ?_
    refine g_if_lt (nx := 4) 18 F dX11_check_1 rfl (by decide) (fun c_1 => absurd c_1 (by exact nI_pos (by omega))) (fun c_1 => ?_)
    refine g_iload_n (nx := 5) 1 F dX11_check_4 rfl rfl rfl ?_
    refine g_aload_n (nx := 6) 0 F dX11_check_5 rfl rfl rfl ?_
    refine g_getR (nx := 9) F dX11_check_6 rfl fl_RX11_10 rfl (by decide) (by decide) rfl ?_
    refine g_getV (nx := 12) (nI u) F dX11_check_9 rfl fl_RX11_119 rfl (by decide) (by decide) rfl rfl (hu) ?_
    refine g_bipush (nx := 14) (12) F dX11_check_12 rfl (by decide) ?_
    refine g_idiv (nx := 15) F dX11_check_14 rfl (by decide) ?_
    refine g_icmp_le (nx := 18) 21 F dX11_check_15 rfl (by decide) (fun c_15 => ?_) (fun c_15 => absurd c_15 (by rw [show (12 : Int32) = nI 12 from rfl, pk_div (by omega) (by omega) (by omega)]; exact fun q => q (nI_le (by omega) (by omega))))
    refine g_aload_n (nx := 22) 0 F dX11_check_21 rfl rfl rfl ?_
    refine g_getR (nx := 25) F dX11_check_22 rfl fl_RX11_44 rfl (by decide) (by decide) rfl ?_
    refine g_aload_n (nx := 26) 0 F dX11_check_25 rfl rfl rfl ?_
    refine g_getR (nx := 29) F dX11_check_26 rfl fl_RX11_10 rfl (by decide) (by decide) rfl ?_
    refine g_iload_n (nx := 30) 1 F dX11_check_29 rfl rfl rfl ?_
    refine g_callV (nx := 33) 2 2 [.ref 1, .int (nI N)] F dX11_check_30 rfl ml_RX11_331 mo_X6_firstWrong rfl rfl rfl rfl (Nat.le_of_ble_eq_true rfl) (by first | decide | omega) (c_firstWrong f N _ hf h (by omega)) (fun r_30 τ_30 q_30 => ?_)
    obtain ⟨rfl, et_30⟩ := q_30
    have et_30 := et_30.symm
    subst et_30
    dsimp only [Option.toList, List.append, List.cons_append, List.nil_append]
    refine g_istore_n (nx := 34) 2 F dX11_check_33 rfl rfl (by decide) ?_
    try dsimp only [List.set]
    refine g_aload_n (nx := 35) 0 F dX11_check_34 rfl rfl rfl ?_
    refine g_getR (nx := 38) F dX11_check_35 rfl fl_RX11_10 rfl (by decide) (by decide) rfl ?_
    refine g_iconst (nx := 39) (0) F dX11_check_38 rfl rfl ?_
    refine g_putI (nx := 42) F dX11_check_39 rfl fl_RX11_119 fi_8_1 rfl (by decide) (by decide) rfl rfl ?_
    refine g_iload_n (nx := 43) 2 F dX11_check_42 rfl rfl rfl ?_
    refine g_iret F E dX11_check_43 ?_
    exact Or.inl ⟨hA, by rw [nI_tn (by omega)], rfl⟩
  · refine g_iload_n (nx := 1) 1 F dX11_check_0 rfl rfl rfl ?_
    refine g_if_lt (nx := 4) 18 F dX11_check_1 rfl (by decide) (fun c_1 => ?_) (fun c_1 => ?_)
    · refine g_bipush (nx := 20) (-2) F dX11_check_18 rfl (by decide) ?_
      refine g_iret F E dX11_check_20 ?_
      exact Or.inr ⟨hA, rfl, rfl⟩
    · refine g_iload_n (nx := 5) 1 F dX11_check_4 rfl rfl rfl ?_
      refine g_aload_n (nx := 6) 0 F dX11_check_5 rfl rfl rfl ?_
      refine g_getR (nx := 9) F dX11_check_6 rfl fl_RX11_10 rfl (by decide) (by decide) rfl ?_
      refine g_getV (nx := 12) (nI u) F dX11_check_9 rfl fl_RX11_119 rfl (by decide) (by decide) rfl rfl (hu) ?_
      refine g_bipush (nx := 14) (12) F dX11_check_12 rfl (by decide) ?_
      refine g_idiv (nx := 15) F dX11_check_14 rfl (by decide) ?_
      refine g_icmp_le (nx := 18) 21 F dX11_check_15 rfl (by decide) (fun c_15 => ?_) (fun c_15 => ?_)
      · exfalso
        clear F E
        have e1 := nI_toInt (n := u / 12) (by omega)
        rw [show (12 : Int32) = nI 12 from rfl, pk_div (by omega) (by omega) (by omega)] at c_15
        simp only [fa_lt, fa_le, Int32.toInt_zero] at *
        omega
      · refine g_bipush (nx := 20) (-2) F dX11_check_18 rfl (by decide) ?_
        refine g_iret F E dX11_check_20 ?_
        exact Or.inr ⟨hA, rfl, rfl⟩
set_option maxHeartbeats 4000000 in
set_option maxRecDepth 100000 in
theorem k_check (f u : Nat) (n : Int32) (σ : zSt) (hf : σ 145 3 = nI f) (hu : σ 145 24 = nI u) (h : f ≤ 40) (h2 : u ≤ 200) : Con mX12_check 1 [.ref 145, .int n] σ (fun r τ => ((0 ≤ n.toInt ∧ n.toInt ≤ (u / 12 : Nat)) ∧ r = some (.int (ckL (σ 162) (σ 156) (σ 157) f n.toInt.toNat n.toInt.toNat 0)) ∧ τ = zu σ 145 24 0) ∨ (¬ (0 ≤ n.toInt ∧ n.toInt ≤ (u / 12 : Nat)) ∧ r = some (.int (-2)) ∧ τ = σ)) := by
  refine Con.of (lv := [.ref 145, .int n, .long 0]) mk_X12_check rfl (Nat.le_of_ble_eq_true rfl) rfl (fun X F E => ?_)
  by_cases hA0 : 0 ≤ n.toInt ∧ n.toInt ≤ (u / 12 : Nat)
  · obtain ⟨N, hN, eN⟩ := nI_rng (n := 16) (x := n) (by omega) (by omega)
    subst eN
    have eN : (nI N).toInt = N := nI_toInt (by omega)
    have L : ∀ (q j : Nat), j + q = f → j ≤ N → ckL (σ 162) (σ 156) (σ 157) f N (N - j) j = ckL (σ 162) (σ 156) (σ 157) f N N 0 → Gs X 25 [.ref 145, .int (nI N), .int (nI j)] [] (zu σ 145 24 0) := by
      intro q
      induction q with
      | zero =>
        intro j hj hjN hA
        have hj : j = f := hj
        subst hj
        refine g_iload_n (nx := 26) 2 F dX12_check_25 rfl rfl rfl ?_
        refine g_aload_n (nx := 27) 0 F dX12_check_26 rfl rfl rfl ?_
        refine g_getV (nx := 30) (nI j) F dX12_check_27 rfl fl_RX12_171 rfl (by decide) (by decide) rfl rfl (hf) ?_
        refine g_icmp_ge (nx := 33) 107 F dX12_check_30 rfl (by decide) (fun c_30 => ?_) (fun c_30 => absurd c_30 (by exact fun zq => zq (nI_le (a := j) (b := j) (by omega) (by omega))))
        refine g_aload_n (nx := 108) 0 F dX12_check_107 rfl rfl rfl ?_
        refine g_getV (nx := 111) (nI j) F dX12_check_108 rfl fl_RX12_171 rfl (by decide) (by decide) rfl rfl (hf) ?_
        refine g_iload_n (nx := 112) 1 F dX12_check_111 rfl rfl rfl ?_
        refine g_icmp_ge (nx := 115) 124 F dX12_check_112 rfl (by decide) (fun c_112 => ?_) (fun c_112 => ?_)
        · refine g_iconst (nx := 125) (-1) F dX12_check_124 rfl rfl ?_
          refine g_iret F E dX12_check_125 ?_
          refine Or.inl ⟨hA0, congrArg (fun z => some (Value.int z)) ?_, rfl⟩
          rw [nI_tn (by omega), ← hA]
          rcases Nat.lt_or_ge j N with z | z
          · obtain ⟨k, hk⟩ : ∃ k, N - j = k + 1 := ⟨N - j - 1, by omega⟩
            rw [hk, ckL, if_pos (Or.inl (Nat.le_refl j))]
            first | rw [t30] | exact absurd c_112 (nI_ge z (by omega))
          · rw [show N - j = 0 by omega, ckL, if_neg (by omega)]
            try exact absurd (nI_le z (by omega)) c_112
        · refine g_iconst (nx := 116) (3) F dX12_check_115 rfl rfl ?_
          refine g_aload_n (nx := 117) 0 F dX12_check_116 rfl rfl rfl ?_
          refine g_getV (nx := 120) (nI j) F dX12_check_117 rfl fl_RX12_171 rfl (by decide) (by decide) rfl rfl (hf) ?_
          refine g_imul (nx := 121) F dX12_check_120 rfl ?_
          refine g_goto 125 F dX12_check_121 (by decide) ?_
          refine g_iret F E dX12_check_125 ?_
          refine Or.inl ⟨hA0, congrArg (fun z => some (Value.int z)) ?_, rfl⟩
          rw [nI_tn (by omega), ← hA]
          rcases Nat.lt_or_ge j N with z | z
          · obtain ⟨k, hk⟩ : ∃ k, N - j = k + 1 := ⟨N - j - 1, by omega⟩
            rw [hk, ckL, if_pos (Or.inl (Nat.le_refl j))]
            first | rw [t30] | exact absurd c_112 (nI_ge z (by omega))
          · rw [show N - j = 0 by omega, ckL, if_neg (by omega)]
            try exact absurd (nI_le z (by omega)) c_112
      | succ q ih =>
        intro j hj hjN hA
        have hjf : j < f := by omega
        rcases Nat.lt_or_ge j N with z | z
        · obtain ⟨k, hk⟩ : ∃ k, N - j = k + 1 := ⟨N - j - 1, by omega⟩
          rw [hk, ckL] at hA
          refine g_iload_n (nx := 26) 2 F dX12_check_25 rfl rfl rfl ?_
          refine g_aload_n (nx := 27) 0 F dX12_check_26 rfl rfl rfl ?_
          refine g_getV (nx := 30) (nI f) F dX12_check_27 rfl fl_RX12_171 rfl (by decide) (by decide) rfl rfl (hf) ?_
          refine g_icmp_ge (nx := 33) 107 F dX12_check_30 rfl (by decide) (fun c_30 => absurd c_30 (by exact nI_ge (a := j) (b := f) (by omega) (by omega))) (fun c_30 => ?_)
          refine g_iload_n (nx := 34) 2 F dX12_check_33 rfl rfl rfl ?_
          refine g_iload_n (nx := 35) 1 F dX12_check_34 rfl rfl rfl ?_
          refine g_icmp_eq (nx := 38) 49 F dX12_check_35 rfl (by decide) (fun c_35 => absurd c_35 (by exact fun q => absurd ((nI_eq (by omega) (by omega)).mp q) (by omega))) (fun c_35 => ?_)
          refine g_aload_n (nx := 39) 0 F dX12_check_38 rfl rfl rfl ?_
          refine g_iconst (nx := 40) (3) F dX12_check_39 rfl rfl ?_
          refine g_iload_n (nx := 41) 2 F dX12_check_40 rfl rfl rfl ?_
          refine g_imul (nx := 42) F dX12_check_41 rfl ?_
          rw [t30]
          refine g_callV (nx := 45) 1 0 [.int (nI (3 * j))] F dX12_check_42 rfl ml_RX12_419 mo_X12_tapeNumber rfl rfl rfl rfl (Nat.le_of_ble_eq_true rfl) (by first | decide | omega) (k_tapeNumber (3 * j) _ (by omega)) (fun r_42 τ_42 q_42 => ?_)
          obtain ⟨rfl, et_42⟩ := q_42
          have et_42 := et_42.symm
          subst et_42
          dsimp only [Option.toList, List.append, List.cons_append, List.nil_append]
          refine g_iload_n (nx := 46) 2 F dX12_check_45 rfl rfl rfl ?_
          refine g_icmp_eq (nx := 49) 53 F dX12_check_46 rfl (by decide) (fun c_46 => ?_) (fun c_46 => ?_)
          · refine g_aload_n (nx := 54) 0 F dX12_check_53 rfl rfl rfl ?_
            refine g_iconst (nx := 55) (3) F dX12_check_54 rfl rfl ?_
            refine g_iload_n (nx := 56) 2 F dX12_check_55 rfl rfl rfl ?_
            refine g_imul (nx := 57) F dX12_check_56 rfl ?_
            refine g_iconst (nx := 58) (1) F dX12_check_57 rfl rfl ?_
            refine g_iadd (nx := 59) F dX12_check_58 rfl ?_
            rw [show (1 : Int32) = nI 1 from rfl, t3]
            refine g_callV (nx := 62) 1 0 [.int (nI (3 * j + 1))] F dX12_check_59 rfl ml_RX12_419 mo_X12_tapeNumber rfl rfl rfl rfl (Nat.le_of_ble_eq_true rfl) (by first | decide | omega) (k_tapeNumber (3 * j + 1) _ (by omega)) (fun r_59 τ_59 q_59 => ?_)
            obtain ⟨rfl, et_59⟩ := q_59
            have et_59 := et_59.symm
            subst et_59
            dsimp only [Option.toList, List.append, List.cons_append, List.nil_append]
            refine g_aload_n (nx := 63) 0 F dX12_check_62 rfl rfl rfl ?_
            refine g_getR (nx := 66) F dX12_check_63 rfl fl_RX12_40 rfl (by decide) (by decide) rfl ?_
            refine g_iload_n (nx := 67) 2 F dX12_check_66 rfl rfl rfl ?_
            refine g_ialdN (nx := 68) (j) (_) F dX12_check_67 rfl rfl (by omega) (rfl) ?_
            refine g_icmp_eq (nx := 71) 77 F dX12_check_68 rfl (by decide) (fun c_68 => ?_) (fun c_68 => ?_)
            · refine g_aload_n (nx := 78) 0 F dX12_check_77 rfl rfl rfl ?_
              refine g_iconst (nx := 79) (3) F dX12_check_78 rfl rfl ?_
              refine g_iload_n (nx := 80) 2 F dX12_check_79 rfl rfl rfl ?_
              refine g_imul (nx := 81) F dX12_check_80 rfl ?_
              refine g_iconst (nx := 82) (2) F dX12_check_81 rfl rfl ?_
              refine g_iadd (nx := 83) F dX12_check_82 rfl ?_
              rw [show (2 : Int32) = nI 2 from rfl, t3]
              refine g_callV (nx := 86) 1 0 [.int (nI (3 * j + 2))] F dX12_check_83 rfl ml_RX12_419 mo_X12_tapeNumber rfl rfl rfl rfl (Nat.le_of_ble_eq_true rfl) (by first | decide | omega) (k_tapeNumber (3 * j + 2) _ (by omega)) (fun r_83 τ_83 q_83 => ?_)
              obtain ⟨rfl, et_83⟩ := q_83
              have et_83 := et_83.symm
              subst et_83
              dsimp only [Option.toList, List.append, List.cons_append, List.nil_append]
              refine g_aload_n (nx := 87) 0 F dX12_check_86 rfl rfl rfl ?_
              refine g_getR (nx := 90) F dX12_check_87 rfl fl_RX12_43 rfl (by decide) (by decide) rfl ?_
              refine g_iload_n (nx := 91) 2 F dX12_check_90 rfl rfl rfl ?_
              refine g_ialdN (nx := 92) (j) (_) F dX12_check_91 rfl rfl (by omega) (rfl) ?_
              refine g_icmp_eq (nx := 95) 101 F dX12_check_92 rfl (by decide) (fun c_92 => ?_) (fun c_92 => ?_)
              · refine g_iinc (nx := 104) (1) F dX12_check_101 rfl rfl (by decide) (by decide) ?_
                try dsimp only [List.set]
                refine g_goto 25 F dX12_check_104 (by decide) ?_
                rw [nI_1]
                refine ih (j + 1) (by omega) (by omega) ?_
                rw [show N - (j + 1) = k by omega, ← hA, if_neg (by intro z; rcases z with z | z; omega; exact z c_46), if_neg (by intro z; exact z c_68), if_neg (by intro z; exact z c_92)]
              · refine g_iconst (nx := 96) (3) F dX12_check_95 rfl rfl ?_
                refine g_iload_n (nx := 97) 2 F dX12_check_96 rfl rfl rfl ?_
                refine g_imul (nx := 98) F dX12_check_97 rfl ?_
                refine g_iconst (nx := 99) (2) F dX12_check_98 rfl rfl ?_
                refine g_iadd (nx := 100) F dX12_check_99 rfl ?_
                refine g_iret F E dX12_check_100 ?_
                refine Or.inl ⟨hA0, congrArg (fun z => some (Value.int z)) ?_, rfl⟩
                rw [nI_tn (by omega), ← hA, if_neg (by intro z; rcases z with z | z; omega; exact z c_46), if_neg (by intro z; exact z c_68), if_pos (show tnF (σ 162) (3 * j + 2) ≠ σ 157 j from c_92), show (2 : Int32) = nI 2 from rfl, t3]
            · refine g_iconst (nx := 72) (3) F dX12_check_71 rfl rfl ?_
              refine g_iload_n (nx := 73) 2 F dX12_check_72 rfl rfl rfl ?_
              refine g_imul (nx := 74) F dX12_check_73 rfl ?_
              refine g_iconst (nx := 75) (1) F dX12_check_74 rfl rfl ?_
              refine g_iadd (nx := 76) F dX12_check_75 rfl ?_
              refine g_iret F E dX12_check_76 ?_
              refine Or.inl ⟨hA0, congrArg (fun z => some (Value.int z)) ?_, rfl⟩
              rw [nI_tn (by omega), ← hA, if_neg (by intro z; rcases z with z | z; omega; exact z c_46), if_pos (show tnF (σ 162) (3 * j + 1) ≠ σ 156 j from c_68), show (1 : Int32) = nI 1 from rfl, t3]
          · refine g_iconst (nx := 50) (3) F dX12_check_49 rfl rfl ?_
            refine g_iload_n (nx := 51) 2 F dX12_check_50 rfl rfl rfl ?_
            refine g_imul (nx := 52) F dX12_check_51 rfl ?_
            refine g_iret F E dX12_check_52 ?_
            refine Or.inl ⟨hA0, congrArg (fun z => some (Value.int z)) ?_, rfl⟩
            rw [nI_tn (by omega), ← hA, t30, if_pos (Or.inr (show tnF (σ 162) (3 * j) ≠ nI j from c_46))]
        · have hjN2 : j = N := by omega
          subst hjN2
          rw [Nat.sub_self, ckL, if_pos hjf] at hA
          refine g_iload_n (nx := 26) 2 F dX12_check_25 rfl rfl rfl ?_
          refine g_aload_n (nx := 27) 0 F dX12_check_26 rfl rfl rfl ?_
          refine g_getV (nx := 30) (nI f) F dX12_check_27 rfl fl_RX12_171 rfl (by decide) (by decide) rfl rfl (hf) ?_
          refine g_icmp_ge (nx := 33) 107 F dX12_check_30 rfl (by decide) (fun c_30 => absurd c_30 (by exact nI_ge (a := j) (b := f) (by omega) (by omega))) (fun c_30 => ?_)
          refine g_iload_n (nx := 34) 2 F dX12_check_33 rfl rfl rfl ?_
          refine g_iload_n (nx := 35) 1 F dX12_check_34 rfl rfl rfl ?_
          refine g_icmp_eq (nx := 38) 49 F dX12_check_35 rfl (by decide) (fun c_35 => ?_) (fun c_35 => absurd c_35 (by exact fun q => q rfl))
          refine g_iconst (nx := 50) (3) F dX12_check_49 rfl rfl ?_
          refine g_iload_n (nx := 51) 2 F dX12_check_50 rfl rfl rfl ?_
          refine g_imul (nx := 52) F dX12_check_51 rfl ?_
          refine g_iret F E dX12_check_52 ?_
          refine Or.inl ⟨hA0, congrArg (fun z => some (Value.int z)) ?_, rfl⟩
          rw [nI_tn (by omega), ← hA, t30]
    refine g_iload_n (nx := 1) 1 F dX12_check_0 rfl rfl rfl ?_
    refine g_if_lt (nx := 4) 15 F dX12_check_1 rfl (by decide) (fun c_1 => absurd c_1 (by exact nI_pos (by omega))) (fun c_1 => ?_)
    refine g_iload_n (nx := 5) 1 F dX12_check_4 rfl rfl rfl ?_
    refine g_aload_n (nx := 6) 0 F dX12_check_5 rfl rfl rfl ?_
    refine g_getV (nx := 9) (nI u) F dX12_check_6 rfl fl_RX12_186 rfl (by decide) (by decide) rfl rfl (hu) ?_
    refine g_bipush (nx := 11) (12) F dX12_check_9 rfl (by decide) ?_
    refine g_idiv (nx := 12) F dX12_check_11 rfl (by decide) ?_
    refine g_icmp_le (nx := 15) 18 F dX12_check_12 rfl (by decide) (fun c_12 => ?_) (fun c_12 => absurd c_12 (by rw [show (12 : Int32) = nI 12 from rfl, pk_div (by omega) (by omega) (by omega)]; exact fun q => q (nI_le (by omega) (by omega))))
    refine g_aload_n (nx := 19) 0 F dX12_check_18 rfl rfl rfl ?_
    refine g_iconst (nx := 20) (0) F dX12_check_19 rfl rfl ?_
    refine g_putI (nx := 23) F dX12_check_20 rfl fl_RX12_186 fi_11_24 rfl (by decide) (by decide) rfl rfl ?_
    refine g_iconst (nx := 24) (0) F dX12_check_23 rfl rfl ?_
    refine g_istore_n (nx := 25) 2 F dX12_check_24 rfl rfl (by decide) ?_
    try dsimp only [List.set]
    exact L f 0 (by omega) (by omega) rfl
  · refine g_iload_n (nx := 1) 1 F dX12_check_0 rfl rfl rfl ?_
    refine g_if_lt (nx := 4) 15 F dX12_check_1 rfl (by decide) (fun c_1 => ?_) (fun c_1 => ?_)
    · refine g_bipush (nx := 17) (-2) F dX12_check_15 rfl (by decide) ?_
      refine g_iret F E dX12_check_17 ?_
      exact Or.inr ⟨hA0, rfl, rfl⟩
    · refine g_iload_n (nx := 5) 1 F dX12_check_4 rfl rfl rfl ?_
      refine g_aload_n (nx := 6) 0 F dX12_check_5 rfl rfl rfl ?_
      refine g_getV (nx := 9) (nI u) F dX12_check_6 rfl fl_RX12_186 rfl (by decide) (by decide) rfl rfl (hu) ?_
      refine g_bipush (nx := 11) (12) F dX12_check_9 rfl (by decide) ?_
      refine g_idiv (nx := 12) F dX12_check_11 rfl (by decide) ?_
      refine g_icmp_le (nx := 15) 18 F dX12_check_12 rfl (by decide) (fun c_12 => ?_) (fun c_12 => ?_)
      · exfalso
        clear F E
        have e1 := nI_toInt (n := u / 12) (by omega)
        rw [show (12 : Int32) = nI 12 from rfl, pk_div (by omega) (by omega) (by omega)] at c_12
        simp only [fa_lt, fa_le, Int32.toInt_zero] at *
        omega
      · refine g_bipush (nx := 17) (-2) F dX12_check_15 rfl (by decide) ?_
        refine g_iret F E dX12_check_17 ?_
        exact Or.inr ⟨hA0, rfl, rfl⟩
