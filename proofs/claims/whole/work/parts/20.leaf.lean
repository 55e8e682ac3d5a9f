set_option maxHeartbeats 4000000 in
set_option maxRecDepth 100000 in
theorem k_in (v lo hi : Int32) (σ : zSt) : Con mX12_in 0 [.int v, .int lo, .int hi] σ (fun r τ => r = some (.int (bI (lo.toInt ≤ v.toInt ∧ v.toInt ≤ hi.toInt))) ∧ τ = σ) := by
  refine Con.of mk_X12_in rfl (Nat.le_of_ble_eq_true rfl) rfl (fun X F E => ?_)
  refine g_iload_n (nx := 1) 0 F dX12_in_0 rfl rfl rfl ?_
  refine g_iload_n (nx := 2) 1 F dX12_in_1 rfl rfl rfl ?_
  refine g_icmp_lt (nx := 5) 14 F dX12_in_2 rfl (by decide) (fun c_2 => ?_) (fun c_2 => ?_)
  · refine g_iconst (nx := 15) (0) F dX12_in_14 rfl rfl ?_
    refine g_zret F E dX12_in_15 (by first | rfl | assumption) ?_
    clear F E
    refine ⟨congrArg (fun z => some (Value.int z)) (Eq.symm ?_), rfl⟩
    simp only [fa_lt, fa_le, Int32.toInt_zero] at *
    first | exact bI_f (by omega) | exact bI_t (by omega)
  · refine g_iload_n (nx := 6) 0 F dX12_in_5 rfl rfl rfl ?_
    refine g_iload_n (nx := 7) 2 F dX12_in_6 rfl rfl rfl ?_
    refine g_icmp_gt (nx := 10) 14 F dX12_in_7 rfl (by decide) (fun c_7 => ?_) (fun c_7 => ?_)
    · refine g_iconst (nx := 15) (0) F dX12_in_14 rfl rfl ?_
      refine g_zret F E dX12_in_15 (by first | rfl | assumption) ?_
      clear F E
      refine ⟨congrArg (fun z => some (Value.int z)) (Eq.symm ?_), rfl⟩
      simp only [fa_lt, fa_le, Int32.toInt_zero] at *
      first | exact bI_f (by omega) | exact bI_t (by omega)
    · refine g_iconst (nx := 11) (1) F dX12_in_10 rfl rfl ?_
      refine g_goto 15 F dX12_in_11 (by decide) ?_
      refine g_zret F E dX12_in_15 (by first | rfl | assumption) ?_
      clear F E
      refine ⟨congrArg (fun z => some (Value.int z)) (Eq.symm ?_), rfl⟩
      simp only [fa_lt, fa_le, Int32.toInt_zero] at *
      first | exact bI_f (by omega) | exact bI_t (by omega)
set_option maxHeartbeats 4000000 in
set_option maxRecDepth 100000 in
theorem c_isOutside (v most : Int32) (σ : zSt) : Con mX11_isOutside 0 [.int v, .int most] σ (fun r τ => r = some (.int (bI (v.toInt < 0 ∨ most.toInt < v.toInt))) ∧ τ = σ) := by
  refine Con.of mk_X11_isOutside rfl (Nat.le_of_ble_eq_true rfl) rfl (fun X F E => ?_)
  refine g_iload_n (nx := 1) 0 F dX11_isOutside_0 rfl rfl rfl ?_
  refine g_if_lt (nx := 4) 9 F dX11_isOutside_1 rfl (by decide) (fun c_1 => ?_) (fun c_1 => ?_)
  · refine g_iconst (nx := 10) (1) F dX11_isOutside_9 rfl rfl ?_
    refine g_goto 14 F dX11_isOutside_10 (by decide) ?_
    refine g_zret F E dX11_isOutside_14 (by first | rfl | assumption) ?_
    clear F E
    refine ⟨congrArg (fun z => some (Value.int z)) (Eq.symm ?_), rfl⟩
    simp only [fa_lt, fa_le, Int32.toInt_zero] at *
    first | exact bI_f (by omega) | exact bI_t (by omega)
  · refine g_iload_n (nx := 5) 0 F dX11_isOutside_4 rfl rfl rfl ?_
    refine g_iload_n (nx := 6) 1 F dX11_isOutside_5 rfl rfl rfl ?_
    refine g_icmp_le (nx := 9) 13 F dX11_isOutside_6 rfl (by decide) (fun c_6 => ?_) (fun c_6 => ?_)
    · refine g_iconst (nx := 14) (0) F dX11_isOutside_13 rfl rfl ?_
      refine g_zret F E dX11_isOutside_14 (by first | rfl | assumption) ?_
      clear F E
      refine ⟨congrArg (fun z => some (Value.int z)) (Eq.symm ?_), rfl⟩
      simp only [fa_lt, fa_le, Int32.toInt_zero] at *
      first | exact bI_f (by omega) | exact bI_t (by omega)
    · refine g_iconst (nx := 10) (1) F dX11_isOutside_9 rfl rfl ?_
      refine g_goto 14 F dX11_isOutside_10 (by decide) ?_
      refine g_zret F E dX11_isOutside_14 (by first | rfl | assumption) ?_
      clear F E
      refine ⟨congrArg (fun z => some (Value.int z)) (Eq.symm ?_), rfl⟩
      simp only [fa_lt, fa_le, Int32.toInt_zero] at *
      first | exact bI_f (by omega) | exact bI_t (by omega)
set_option maxHeartbeats 4000000 in
set_option maxRecDepth 100000 in
theorem k_isClerk (i : Int32) (σ : zSt) : Con mX12_isClerk 0 [.ref 145, .int i] σ (fun r τ => r = some (.int (bI (0 ≤ i.toInt ∧ i.toInt < (σ 145 1).toInt))) ∧ τ = σ) := by
  refine Con.of mk_X12_isClerk rfl (Nat.le_of_ble_eq_true rfl) rfl (fun X F E => ?_)
  refine g_iload_n (nx := 1) 1 F dX12_isClerk_0 rfl rfl rfl ?_
  refine g_if_lt (nx := 4) 16 F dX12_isClerk_1 rfl (by decide) (fun c_1 => ?_) (fun c_1 => ?_)
  · refine g_iconst (nx := 17) (0) F dX12_isClerk_16 rfl rfl ?_
    refine g_zret F E dX12_isClerk_17 (by first | rfl | assumption) ?_
    clear F E
    refine ⟨congrArg (fun z => some (Value.int z)) (Eq.symm ?_), rfl⟩
    simp only [fa_lt, fa_le, Int32.toInt_zero] at *
    first | exact bI_f (by omega) | exact bI_t (by omega)
  · refine g_iload_n (nx := 5) 1 F dX12_isClerk_4 rfl rfl rfl ?_
    refine g_aload_n (nx := 6) 0 F dX12_isClerk_5 rfl rfl rfl ?_
    refine g_getI (nx := 9) F dX12_isClerk_6 rfl fl_RX12_165 rfl (by decide) (by decide) rfl rfl ?_
    refine g_icmp_ge (nx := 12) 16 F dX12_isClerk_9 rfl (by decide) (fun c_9 => ?_) (fun c_9 => ?_)
    · refine g_iconst (nx := 17) (0) F dX12_isClerk_16 rfl rfl ?_
      refine g_zret F E dX12_isClerk_17 (by first | rfl | assumption) ?_
      clear F E
      refine ⟨congrArg (fun z => some (Value.int z)) (Eq.symm ?_), rfl⟩
      simp only [fa_lt, fa_le, Int32.toInt_zero] at *
      first | exact bI_f (by omega) | exact bI_t (by omega)
    · refine g_iconst (nx := 13) (1) F dX12_isClerk_12 rfl rfl ?_
      refine g_goto 17 F dX12_isClerk_13 (by decide) ?_
      refine g_zret F E dX12_isClerk_17 (by first | rfl | assumption) ?_
      clear F E
      refine ⟨congrArg (fun z => some (Value.int z)) (Eq.symm ?_), rfl⟩
      simp only [fa_lt, fa_le, Int32.toInt_zero] at *
      first | exact bI_f (by omega) | exact bI_t (by omega)
set_option maxHeartbeats 4000000 in
set_option maxRecDepth 100000 in
theorem k_isStep (i : Int32) (σ : zSt) : Con mX12_isStep 0 [.ref 145, .int i] σ (fun r τ => r = some (.int (bI (0 ≤ i.toInt ∧ i.toInt < (σ 145 2).toInt))) ∧ τ = σ) := by
  refine Con.of mk_X12_isStep rfl (Nat.le_of_ble_eq_true rfl) rfl (fun X F E => ?_)
  refine g_iload_n (nx := 1) 1 F dX12_isStep_0 rfl rfl rfl ?_
  refine g_if_lt (nx := 4) 16 F dX12_isStep_1 rfl (by decide) (fun c_1 => ?_) (fun c_1 => ?_)
  · refine g_iconst (nx := 17) (0) F dX12_isStep_16 rfl rfl ?_
    refine g_zret F E dX12_isStep_17 (by first | rfl | assumption) ?_
    clear F E
    refine ⟨congrArg (fun z => some (Value.int z)) (Eq.symm ?_), rfl⟩
    simp only [fa_lt, fa_le, Int32.toInt_zero] at *
    first | exact bI_f (by omega) | exact bI_t (by omega)
  · refine g_iload_n (nx := 5) 1 F dX12_isStep_4 rfl rfl rfl ?_
    refine g_aload_n (nx := 6) 0 F dX12_isStep_5 rfl rfl rfl ?_
    refine g_getI (nx := 9) F dX12_isStep_6 rfl fl_RX12_168 rfl (by decide) (by decide) rfl rfl ?_
    refine g_icmp_ge (nx := 12) 16 F dX12_isStep_9 rfl (by decide) (fun c_9 => ?_) (fun c_9 => ?_)
    · refine g_iconst (nx := 17) (0) F dX12_isStep_16 rfl rfl ?_
      refine g_zret F E dX12_isStep_17 (by first | rfl | assumption) ?_
      clear F E
      refine ⟨congrArg (fun z => some (Value.int z)) (Eq.symm ?_), rfl⟩
      simp only [fa_lt, fa_le, Int32.toInt_zero] at *
      first | exact bI_f (by omega) | exact bI_t (by omega)
    · refine g_iconst (nx := 13) (1) F dX12_isStep_12 rfl rfl ?_
      refine g_goto 17 F dX12_isStep_13 (by decide) ?_
      refine g_zret F E dX12_isStep_17 (by first | rfl | assumption) ?_
      clear F E
      refine ⟨congrArg (fun z => some (Value.int z)) (Eq.symm ?_), rfl⟩
      simp only [fa_lt, fa_le, Int32.toInt_zero] at *
      first | exact bI_f (by omega) | exact bI_t (by omega)
set_option maxHeartbeats 4000000 in
set_option maxRecDepth 100000 in
theorem k_isFile (i : Int32) (σ : zSt) : Con mX12_isFile 0 [.ref 145, .int i] σ (fun r τ => r = some (.int (bI (0 ≤ i.toInt ∧ i.toInt < (σ 145 3).toInt))) ∧ τ = σ) := by
  refine Con.of mk_X12_isFile rfl (Nat.le_of_ble_eq_true rfl) rfl (fun X F E => ?_)
  refine g_iload_n (nx := 1) 1 F dX12_isFile_0 rfl rfl rfl ?_
  refine g_if_lt (nx := 4) 16 F dX12_isFile_1 rfl (by decide) (fun c_1 => ?_) (fun c_1 => ?_)
  · refine g_iconst (nx := 17) (0) F dX12_isFile_16 rfl rfl ?_
    refine g_zret F E dX12_isFile_17 (by first | rfl | assumption) ?_
    clear F E
    refine ⟨congrArg (fun z => some (Value.int z)) (Eq.symm ?_), rfl⟩
    simp only [fa_lt, fa_le, Int32.toInt_zero] at *
    first | exact bI_f (by omega) | exact bI_t (by omega)
  · refine g_iload_n (nx := 5) 1 F dX12_isFile_4 rfl rfl rfl ?_
    refine g_aload_n (nx := 6) 0 F dX12_isFile_5 rfl rfl rfl ?_
    refine g_getI (nx := 9) F dX12_isFile_6 rfl fl_RX12_171 rfl (by decide) (by decide) rfl rfl ?_
    refine g_icmp_ge (nx := 12) 16 F dX12_isFile_9 rfl (by decide) (fun c_9 => ?_) (fun c_9 => ?_)
    · refine g_iconst (nx := 17) (0) F dX12_isFile_16 rfl rfl ?_
      refine g_zret F E dX12_isFile_17 (by first | rfl | assumption) ?_
      clear F E
      refine ⟨congrArg (fun z => some (Value.int z)) (Eq.symm ?_), rfl⟩
      simp only [fa_lt, fa_le, Int32.toInt_zero] at *
      first | exact bI_f (by omega) | exact bI_t (by omega)
    · refine g_iconst (nx := 13) (1) F dX12_isFile_12 rfl rfl ?_
      refine g_goto 17 F dX12_isFile_13 (by decide) ?_
      refine g_zret F E dX12_isFile_17 (by first | rfl | assumption) ?_
      clear F E
      refine ⟨congrArg (fun z => some (Value.int z)) (Eq.symm ?_), rfl⟩
      simp only [fa_lt, fa_le, Int32.toInt_zero] at *
      first | exact bI_f (by omega) | exact bI_t (by omega)
set_option maxHeartbeats 4000000 in
set_option maxRecDepth 100000 in
theorem c_isClerk (i : Int32) (σ : zSt) : Con mX2_isClerk 0 [.ref 3, .int i] σ (fun r τ => r = some (.int (bI (0 ≤ i.toInt ∧ i.toInt < (σ 3 3).toInt))) ∧ τ = σ) := by
  refine Con.of mk_X2_isClerk rfl (Nat.le_of_ble_eq_true rfl) rfl (fun X F E => ?_)
  refine g_iload_n (nx := 1) 1 F dX2_isClerk_0 rfl rfl rfl ?_
  refine g_if_lt (nx := 4) 16 F dX2_isClerk_1 rfl (by decide) (fun c_1 => ?_) (fun c_1 => ?_)
  · refine g_iconst (nx := 17) (0) F dX2_isClerk_16 rfl rfl ?_
    refine g_zret F E dX2_isClerk_17 (by first | rfl | assumption) ?_
    clear F E
    refine ⟨congrArg (fun z => some (Value.int z)) (Eq.symm ?_), rfl⟩
    simp only [fa_lt, fa_le, Int32.toInt_zero] at *
    first | exact bI_f (by omega) | exact bI_t (by omega)
  · refine g_iload_n (nx := 5) 1 F dX2_isClerk_4 rfl rfl rfl ?_
    refine g_aload_n (nx := 6) 0 F dX2_isClerk_5 rfl rfl rfl ?_
    refine g_getI (nx := 9) F dX2_isClerk_6 rfl fl_RX2_54 rfl (by decide) (by decide) rfl rfl ?_
    refine g_icmp_ge (nx := 12) 16 F dX2_isClerk_9 rfl (by decide) (fun c_9 => ?_) (fun c_9 => ?_)
    · refine g_iconst (nx := 17) (0) F dX2_isClerk_16 rfl rfl ?_
      refine g_zret F E dX2_isClerk_17 (by first | rfl | assumption) ?_
      clear F E
      refine ⟨congrArg (fun z => some (Value.int z)) (Eq.symm ?_), rfl⟩
      simp only [fa_lt, fa_le, Int32.toInt_zero] at *
      first | exact bI_f (by omega) | exact bI_t (by omega)
    · refine g_iconst (nx := 13) (1) F dX2_isClerk_12 rfl rfl ?_
      refine g_goto 17 F dX2_isClerk_13 (by decide) ?_
      refine g_zret F E dX2_isClerk_17 (by first | rfl | assumption) ?_
      clear F E
      refine ⟨congrArg (fun z => some (Value.int z)) (Eq.symm ?_), rfl⟩
      simp only [fa_lt, fa_le, Int32.toInt_zero] at *
      first | exact bI_f (by omega) | exact bI_t (by omega)
set_option maxHeartbeats 4000000 in
set_option maxRecDepth 100000 in
theorem c_isStep (i : Int32) (σ : zSt) : Con mX2_isStep 0 [.ref 3, .int i] σ (fun r τ => r = some (.int (bI (0 ≤ i.toInt ∧ i.toInt < (σ 3 6).toInt))) ∧ τ = σ) := by
  refine Con.of mk_X2_isStep rfl (Nat.le_of_ble_eq_true rfl) rfl (fun X F E => ?_)
  refine g_iload_n (nx := 1) 1 F dX2_isStep_0 rfl rfl rfl ?_
  refine g_if_lt (nx := 4) 16 F dX2_isStep_1 rfl (by decide) (fun c_1 => ?_) (fun c_1 => ?_)
  · refine g_iconst (nx := 17) (0) F dX2_isStep_16 rfl rfl ?_
    refine g_zret F E dX2_isStep_17 (by first | rfl | assumption) ?_
    clear F E
    refine ⟨congrArg (fun z => some (Value.int z)) (Eq.symm ?_), rfl⟩
    simp only [fa_lt, fa_le, Int32.toInt_zero] at *
    first | exact bI_f (by omega) | exact bI_t (by omega)
  · refine g_iload_n (nx := 5) 1 F dX2_isStep_4 rfl rfl rfl ?_
    refine g_aload_n (nx := 6) 0 F dX2_isStep_5 rfl rfl rfl ?_
    refine g_getI (nx := 9) F dX2_isStep_6 rfl fl_RX2_57 rfl (by decide) (by decide) rfl rfl ?_
    refine g_icmp_ge (nx := 12) 16 F dX2_isStep_9 rfl (by decide) (fun c_9 => ?_) (fun c_9 => ?_)
    · refine g_iconst (nx := 17) (0) F dX2_isStep_16 rfl rfl ?_
      refine g_zret F E dX2_isStep_17 (by first | rfl | assumption) ?_
      clear F E
      refine ⟨congrArg (fun z => some (Value.int z)) (Eq.symm ?_), rfl⟩
      simp only [fa_lt, fa_le, Int32.toInt_zero] at *
      first | exact bI_f (by omega) | exact bI_t (by omega)
    · refine g_iconst (nx := 13) (1) F dX2_isStep_12 rfl rfl ?_
      refine g_goto 17 F dX2_isStep_13 (by decide) ?_
      refine g_zret F E dX2_isStep_17 (by first | rfl | assumption) ?_
      clear F E
      refine ⟨congrArg (fun z => some (Value.int z)) (Eq.symm ?_), rfl⟩
      simp only [fa_lt, fa_le, Int32.toInt_zero] at *
      first | exact bI_f (by omega) | exact bI_t (by omega)
set_option maxHeartbeats 4000000 in
set_option maxRecDepth 100000 in
theorem c_isFile (i : Int32) (σ : zSt) : Con mX2_isFile 0 [.ref 3, .int i] σ (fun r τ => r = some (.int (bI (0 ≤ i.toInt ∧ i.toInt < (σ 3 11).toInt))) ∧ τ = σ) := by
  refine Con.of mk_X2_isFile rfl (Nat.le_of_ble_eq_true rfl) rfl (fun X F E => ?_)
  refine g_iload_n (nx := 1) 1 F dX2_isFile_0 rfl rfl rfl ?_
  refine g_if_lt (nx := 4) 16 F dX2_isFile_1 rfl (by decide) (fun c_1 => ?_) (fun c_1 => ?_)
  · refine g_iconst (nx := 17) (0) F dX2_isFile_16 rfl rfl ?_
    refine g_zret F E dX2_isFile_17 (by first | rfl | assumption) ?_
    clear F E
    refine ⟨congrArg (fun z => some (Value.int z)) (Eq.symm ?_), rfl⟩
    simp only [fa_lt, fa_le, Int32.toInt_zero] at *
    first | exact bI_f (by omega) | exact bI_t (by omega)
  · refine g_iload_n (nx := 5) 1 F dX2_isFile_4 rfl rfl rfl ?_
    refine g_aload_n (nx := 6) 0 F dX2_isFile_5 rfl rfl rfl ?_
    refine g_getI (nx := 9) F dX2_isFile_6 rfl fl_RX2_60 rfl (by decide) (by decide) rfl rfl ?_
    refine g_icmp_ge (nx := 12) 16 F dX2_isFile_9 rfl (by decide) (fun c_9 => ?_) (fun c_9 => ?_)
    · refine g_iconst (nx := 17) (0) F dX2_isFile_16 rfl rfl ?_
      refine g_zret F E dX2_isFile_17 (by first | rfl | assumption) ?_
      clear F E
      refine ⟨congrArg (fun z => some (Value.int z)) (Eq.symm ?_), rfl⟩
      simp only [fa_lt, fa_le, Int32.toInt_zero] at *
      first | exact bI_f (by omega) | exact bI_t (by omega)
    · refine g_iconst (nx := 13) (1) F dX2_isFile_12 rfl rfl ?_
      refine g_goto 17 F dX2_isFile_13 (by decide) ?_
      refine g_zret F E dX2_isFile_17 (by first | rfl | assumption) ?_
      clear F E
      refine ⟨congrArg (fun z => some (Value.int z)) (Eq.symm ?_), rfl⟩
      simp only [fa_lt, fa_le, Int32.toInt_zero] at *
      first | exact bI_f (by omega) | exact bI_t (by omega)
set_option maxHeartbeats 4000000 in
set_option maxRecDepth 100000 in
theorem k_isSet (x : Int32) (σ : zSt) : Con mX12_isSet 0 [.ref 145, .int x] σ (fun r τ => r = some (.int (bI (0 ≤ x.toInt ∧ x.toInt < ((1 : Int32) <<< (σ 145 1 &&& 31)).toInt))) ∧ τ = σ) := by
  refine Con.of mk_X12_isSet rfl (Nat.le_of_ble_eq_true rfl) rfl (fun X F E => ?_)
  refine g_iload_n (nx := 1) 1 F dX12_isSet_0 rfl rfl rfl ?_
  refine g_if_lt (nx := 4) 18 F dX12_isSet_1 rfl (by decide) (fun c_1 => ?_) (fun c_1 => ?_)
  · refine g_iconst (nx := 19) (0) F dX12_isSet_18 rfl rfl ?_
    refine g_zret F E dX12_isSet_19 (by first | rfl | assumption) ?_
    clear F E
    refine ⟨congrArg (fun z => some (Value.int z)) (Eq.symm ?_), rfl⟩
    simp only [fa_lt, fa_le, Int32.toInt_zero] at *
    first | exact bI_f (by omega) | exact bI_t (by omega)
  · refine g_iload_n (nx := 5) 1 F dX12_isSet_4 rfl rfl rfl ?_
    refine g_iconst (nx := 6) (1) F dX12_isSet_5 rfl rfl ?_
    refine g_aload_n (nx := 7) 0 F dX12_isSet_6 rfl rfl rfl ?_
    refine g_getI (nx := 10) F dX12_isSet_7 rfl fl_RX12_165 rfl (by decide) (by decide) rfl rfl ?_
    refine g_ishl (nx := 11) F dX12_isSet_10 rfl ?_
    refine g_icmp_ge (nx := 14) 18 F dX12_isSet_11 rfl (by decide) (fun c_11 => ?_) (fun c_11 => ?_)
    · refine g_iconst (nx := 19) (0) F dX12_isSet_18 rfl rfl ?_
      refine g_zret F E dX12_isSet_19 (by first | rfl | assumption) ?_
      clear F E
      refine ⟨congrArg (fun z => some (Value.int z)) (Eq.symm ?_), rfl⟩
      simp only [fa_lt, fa_le, Int32.toInt_zero] at *
      first | exact bI_f (by omega) | exact bI_t (by omega)
    · refine g_iconst (nx := 15) (1) F dX12_isSet_14 rfl rfl ?_
      refine g_goto 19 F dX12_isSet_15 (by decide) ?_
      refine g_zret F E dX12_isSet_19 (by first | rfl | assumption) ?_
      clear F E
      refine ⟨congrArg (fun z => some (Value.int z)) (Eq.symm ?_), rfl⟩
      simp only [fa_lt, fa_le, Int32.toInt_zero] at *
      first | exact bI_f (by omega) | exact bI_t (by omega)
set_option maxHeartbeats 4000000 in
set_option maxRecDepth 100000 in
theorem c_isSet (x : Int32) (σ : zSt) : Con mX2_isSet 0 [.ref 3, .int x] σ (fun r τ => r = some (.int (bI (0 ≤ x.toInt ∧ x.toInt < ((1 : Int32) <<< (σ 3 3 &&& 31)).toInt))) ∧ τ = σ) := by
  refine Con.of mk_X2_isSet rfl (Nat.le_of_ble_eq_true rfl) rfl (fun X F E => ?_)
  refine g_iload_n (nx := 1) 1 F dX2_isSet_0 rfl rfl rfl ?_
  refine g_if_lt (nx := 4) 18 F dX2_isSet_1 rfl (by decide) (fun c_1 => ?_) (fun c_1 => ?_)
  · refine g_iconst (nx := 19) (0) F dX2_isSet_18 rfl rfl ?_
    refine g_zret F E dX2_isSet_19 (by first | rfl | assumption) ?_
    clear F E
    refine ⟨congrArg (fun z => some (Value.int z)) (Eq.symm ?_), rfl⟩
    simp only [fa_lt, fa_le, Int32.toInt_zero] at *
    first | exact bI_f (by omega) | exact bI_t (by omega)
  · refine g_iload_n (nx := 5) 1 F dX2_isSet_4 rfl rfl rfl ?_
    refine g_iconst (nx := 6) (1) F dX2_isSet_5 rfl rfl ?_
    refine g_aload_n (nx := 7) 0 F dX2_isSet_6 rfl rfl rfl ?_
    refine g_getI (nx := 10) F dX2_isSet_7 rfl fl_RX2_54 rfl (by decide) (by decide) rfl rfl ?_
    refine g_ishl (nx := 11) F dX2_isSet_10 rfl ?_
    refine g_icmp_ge (nx := 14) 18 F dX2_isSet_11 rfl (by decide) (fun c_11 => ?_) (fun c_11 => ?_)
    · refine g_iconst (nx := 19) (0) F dX2_isSet_18 rfl rfl ?_
      refine g_zret F E dX2_isSet_19 (by first | rfl | assumption) ?_
      clear F E
      refine ⟨congrArg (fun z => some (Value.int z)) (Eq.symm ?_), rfl⟩
      simp only [fa_lt, fa_le, Int32.toInt_zero] at *
      first | exact bI_f (by omega) | exact bI_t (by omega)
    · refine g_iconst (nx := 15) (1) F dX2_isSet_14 rfl rfl ?_
      refine g_goto 19 F dX2_isSet_15 (by decide) ?_
      refine g_zret F E dX2_isSet_19 (by first | rfl | assumption) ?_
      clear F E
      refine ⟨congrArg (fun z => some (Value.int z)) (Eq.symm ?_), rfl⟩
      simp only [fa_lt, fa_le, Int32.toInt_zero] at *
      first | exact bI_f (by omega) | exact bI_t (by omega)
