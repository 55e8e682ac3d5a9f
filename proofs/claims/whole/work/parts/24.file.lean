set_option maxHeartbeats 4000000 in
set_option maxRecDepth 100000 in
theorem c_addFile (f : Nat) (x y z w : Int32) (σ : zSt) (hf : σ 3 11 = nI f) (h : f < 40) : Con mX2_addFile 0 [.ref 3, .int x, .int y, .int z, .int w] σ (fun r τ => r = some (.int (nI f)) ∧ τ = zu (zu (zu (zu (zu σ 9 f x) 10 f y) 11 f z) 12 f w) 3 11 (nI (f + 1))) := by
  refine Con.of (lv := [.ref 3, .int x, .int y, .int z, .int w]) mk_X2_addFile rfl (Nat.le_of_ble_eq_true rfl) rfl (fun X F E => ?_)
  refine g_aload_n (nx := 1) 0 F dX2_addFile_0 rfl rfl rfl ?_
  refine g_getV (nx := 4) (nI f) F dX2_addFile_1 rfl fl_RX2_60 rfl (by decide) (by decide) rfl rfl (hf) ?_
  refine g_bipush (nx := 6) (40) F dX2_addFile_4 rfl (by decide) ?_
  refine g_icmp_lt (nx := 9) 11 F dX2_addFile_6 rfl (by decide) (fun c_6 => ?_) (fun c_6 => absurd c_6 (by exact fun zq => zq (nI_lt (a := f) (b := 40) (by omega) (by omega))))
  refine g_aload_n (nx := 12) 0 F dX2_addFile_11 rfl rfl rfl ?_
  refine g_getR (nx := 15) F dX2_addFile_12 rfl fl_RX2_30 rfl (by decide) (by decide) rfl ?_
  refine g_aload_n (nx := 16) 0 F dX2_addFile_15 rfl rfl rfl ?_
  refine g_getV (nx := 19) (nI f) F dX2_addFile_16 rfl fl_RX2_60 rfl (by decide) (by decide) rfl rfl (hf) ?_
  refine g_iload_n (nx := 20) 1 F dX2_addFile_19 rfl rfl rfl ?_
  refine g_iastN (nx := 21) (f) F dX2_addFile_20 rfl rfl (by omega) ?_
  refine g_aload_n (nx := 22) 0 F dX2_addFile_21 rfl rfl rfl ?_
  refine g_getR (nx := 25) F dX2_addFile_22 rfl fl_RX2_33 rfl (by decide) (by decide) rfl ?_
  refine g_aload_n (nx := 26) 0 F dX2_addFile_25 rfl rfl rfl ?_
  refine g_getV (nx := 29) (nI f) F dX2_addFile_26 rfl fl_RX2_60 rfl (by decide) (by decide) rfl rfl (hf) ?_
  refine g_iload_n (nx := 30) 2 F dX2_addFile_29 rfl rfl rfl ?_
  refine g_iastN (nx := 31) (f) F dX2_addFile_30 rfl rfl (by omega) ?_
  refine g_aload_n (nx := 32) 0 F dX2_addFile_31 rfl rfl rfl ?_
  refine g_getR (nx := 35) F dX2_addFile_32 rfl fl_RX2_36 rfl (by decide) (by decide) rfl ?_
  refine g_aload_n (nx := 36) 0 F dX2_addFile_35 rfl rfl rfl ?_
  refine g_getV (nx := 39) (nI f) F dX2_addFile_36 rfl fl_RX2_60 rfl (by decide) (by decide) rfl rfl (hf) ?_
  refine g_iload_n (nx := 40) 3 F dX2_addFile_39 rfl rfl rfl ?_
  refine g_iastN (nx := 41) (f) F dX2_addFile_40 rfl rfl (by omega) ?_
  refine g_aload_n (nx := 42) 0 F dX2_addFile_41 rfl rfl rfl ?_
  refine g_getR (nx := 45) F dX2_addFile_42 rfl fl_RX2_39 rfl (by decide) (by decide) rfl ?_
  refine g_aload_n (nx := 46) 0 F dX2_addFile_45 rfl rfl rfl ?_
  refine g_getV (nx := 49) (nI f) F dX2_addFile_46 rfl fl_RX2_60 rfl (by decide) (by decide) rfl rfl (hf) ?_
  refine g_iload (nx := 51) F dX2_addFile_49 rfl rfl ?_
  refine g_iastN (nx := 52) (f) F dX2_addFile_51 rfl rfl (by omega) ?_
  refine g_aload_n (nx := 53) 0 F dX2_addFile_52 rfl rfl rfl ?_
  refine g_dup (nx := 54) F dX2_addFile_53 rfl rfl ?_
  refine g_getV (nx := 57) (nI f) F dX2_addFile_54 rfl fl_RX2_60 rfl (by decide) (by decide) rfl rfl (hf) ?_
  refine g_iconst (nx := 58) (1) F dX2_addFile_57 rfl rfl ?_
  refine g_iadd (nx := 59) F dX2_addFile_58 rfl ?_
  rw [nI_1]
  refine g_putI (nx := 62) F dX2_addFile_59 rfl fl_RX2_60 fi_2_11 rfl (by decide) (by decide) rfl rfl ?_
  refine g_aload_n (nx := 63) 0 F dX2_addFile_62 rfl rfl rfl ?_
  refine g_getV (nx := 66) (nI (f + 1)) F dX2_addFile_63 rfl fl_RX2_60 rfl (by decide) (by decide) rfl rfl (rfl) ?_
  refine g_iconst (nx := 67) (1) F dX2_addFile_66 rfl rfl ?_
  refine g_isub (nx := 68) F dX2_addFile_67 rfl ?_
  refine g_iret F E dX2_addFile_68 ?_
  exact ⟨by rw [nI_pred], rfl⟩
set_option maxHeartbeats 4000000 in
set_option maxRecDepth 100000 in
theorem c_addFileN (f : Nat) (x y z w : Int32) (σ : zSt) (hf : σ 3 11 = nI f) (h : f = 40) : Con mX2_addFile 0 [.ref 3, .int x, .int y, .int z, .int w] σ (fun r τ => r = some (.int (-1)) ∧ τ = σ) := by
  refine Con.of (lv := [.ref 3, .int x, .int y, .int z, .int w]) mk_X2_addFile rfl (Nat.le_of_ble_eq_true rfl) rfl (fun X F E => ?_)
  refine g_aload_n (nx := 1) 0 F dX2_addFile_0 rfl rfl rfl ?_
  refine g_getV (nx := 4) (nI f) F dX2_addFile_1 rfl fl_RX2_60 rfl (by decide) (by decide) rfl rfl (hf) ?_
  refine g_bipush (nx := 6) (40) F dX2_addFile_4 rfl (by decide) ?_
  refine g_icmp_lt (nx := 9) 11 F dX2_addFile_6 rfl (by decide) (fun c_6 => absurd c_6 (by exact nI_nlt (a := f) (b := 40) (by omega) (by omega))) (fun c_6 => ?_)
  refine g_iconst (nx := 10) (-1) F dX2_addFile_9 rfl rfl ?_
  refine g_iret F E dX2_addFile_10 ?_
  exact ⟨rfl, rfl⟩
set_option maxHeartbeats 4000000 in
set_option maxRecDepth 100000 in
theorem c_admit_17 (f : Nat) (n : Int32) (σ : zSt) (hn : σ 26 0 = n) (h : f < 40) : Con mX6_admit 0 [.ref 17, .int (nI f)] σ (fun r τ => r = none ∧ τ = zu (zu (zu (zu (zu (zu (zu (zu σ 18 f 0) 19 f (σ 10 f)) 20 f 0) 21 f 0) 22 f 0) 23 f ((-1))) 26 0 (n + 1)) 17 8 (nI (f + 1))) := by
  refine Con.of (lv := [.ref 17, .int (nI f)]) mk_X6_admit rfl (Nat.le_of_ble_eq_true rfl) rfl (fun X F E => ?_)
  refine g_iload_n (nx := 1) 1 F dX6_admit_0 rfl rfl rfl ?_
  refine g_if_lt (nx := 4) 10 F dX6_admit_1 rfl (by decide) (fun c_1 => absurd c_1 (by exact nI_pos (by omega))) (fun c_1 => ?_)
  refine g_iload_n (nx := 5) 1 F dX6_admit_4 rfl rfl rfl ?_
  refine g_bipush (nx := 7) (40) F dX6_admit_5 rfl (by decide) ?_
  refine g_icmp_lt (nx := 10) 11 F dX6_admit_7 rfl (by decide) (fun c_7 => ?_) (fun c_7 => absurd c_7 (by exact fun zq => zq (nI_lt (a := f) (b := 40) (by omega) (by omega))))
  refine g_aload_n (nx := 12) 0 F dX6_admit_11 rfl rfl rfl ?_
  refine g_getR (nx := 15) F dX6_admit_12 rfl fl_RX6_9 rfl (by decide) (by decide) rfl ?_
  refine g_iload_n (nx := 16) 1 F dX6_admit_15 rfl rfl rfl ?_
  refine g_iconst (nx := 17) (0) F dX6_admit_16 rfl rfl ?_
  refine g_iastN (nx := 18) (f) F dX6_admit_17 rfl rfl (by omega) ?_
  refine g_aload_n (nx := 19) 0 F dX6_admit_18 rfl rfl rfl ?_
  refine g_getR (nx := 22) F dX6_admit_19 rfl fl_RX6_15 rfl (by decide) (by decide) rfl ?_
  refine g_iload_n (nx := 23) 1 F dX6_admit_22 rfl rfl rfl ?_
  refine g_aload_n (nx := 24) 0 F dX6_admit_23 rfl rfl rfl ?_
  refine g_getR (nx := 27) F dX6_admit_24 rfl fl_RX6_43 rfl (by decide) (by decide) rfl ?_
  refine g_getR (nx := 30) F dX6_admit_27 rfl fl_RX6_71 rfl (by decide) (by decide) rfl ?_
  refine g_iload_n (nx := 31) 1 F dX6_admit_30 rfl rfl rfl ?_
  refine g_ialdN (nx := 32) (f) (σ 10 f) F dX6_admit_31 rfl rfl (by omega) (rfl) ?_
  refine g_iastN (nx := 33) (f) F dX6_admit_32 rfl rfl (by omega) ?_
  refine g_aload_n (nx := 34) 0 F dX6_admit_33 rfl rfl rfl ?_
  refine g_getR (nx := 37) F dX6_admit_34 rfl fl_RX6_18 rfl (by decide) (by decide) rfl ?_
  refine g_iload_n (nx := 38) 1 F dX6_admit_37 rfl rfl rfl ?_
  refine g_iconst (nx := 39) (0) F dX6_admit_38 rfl rfl ?_
  refine g_iastN (nx := 40) (f) F dX6_admit_39 rfl rfl (by omega) ?_
  refine g_aload_n (nx := 41) 0 F dX6_admit_40 rfl rfl rfl ?_
  refine g_getR (nx := 44) F dX6_admit_41 rfl fl_RX6_21 rfl (by decide) (by decide) rfl ?_
  refine g_iload_n (nx := 45) 1 F dX6_admit_44 rfl rfl rfl ?_
  refine g_iconst (nx := 46) (0) F dX6_admit_45 rfl rfl ?_
  refine g_iastN (nx := 47) (f) F dX6_admit_46 rfl rfl (by omega) ?_
  refine g_aload_n (nx := 48) 0 F dX6_admit_47 rfl rfl rfl ?_
  refine g_getR (nx := 51) F dX6_admit_48 rfl fl_RX6_24 rfl (by decide) (by decide) rfl ?_
  refine g_iload_n (nx := 52) 1 F dX6_admit_51 rfl rfl rfl ?_
  refine g_iconst (nx := 53) (0) F dX6_admit_52 rfl rfl ?_
  refine g_iastN (nx := 54) (f) F dX6_admit_53 rfl rfl (by omega) ?_
  refine g_aload_n (nx := 55) 0 F dX6_admit_54 rfl rfl rfl ?_
  refine g_getR (nx := 58) F dX6_admit_55 rfl fl_RX6_27 rfl (by decide) (by decide) rfl ?_
  refine g_iload_n (nx := 59) 1 F dX6_admit_58 rfl rfl rfl ?_
  refine g_iconst (nx := 60) (-1) F dX6_admit_59 rfl rfl ?_
  refine g_iastN (nx := 61) (f) F dX6_admit_60 rfl rfl (by omega) ?_
  refine g_aload_n (nx := 62) 0 F dX6_admit_61 rfl rfl rfl ?_
  refine g_getR (nx := 65) F dX6_admit_62 rfl fl_RX6_36 rfl (by decide) (by decide) rfl ?_
  refine g_iconst (nx := 66) (0) F dX6_admit_65 rfl rfl ?_
  refine g_dup2 (nx := 67) F dX6_admit_66 rfl rfl rfl ?_
  show Gs X 67 _ (.int (nI 0) :: .ref _ :: .int (nI 0) :: .ref _ :: []) _
  refine g_ialdN (nx := 68) (0) (n) F dX6_admit_67 rfl rfl (by omega) (hn) ?_
  refine g_iconst (nx := 69) (1) F dX6_admit_68 rfl rfl ?_
  refine g_iadd (nx := 70) F dX6_admit_69 rfl ?_
  refine g_iastN (nx := 71) (0) F dX6_admit_70 rfl rfl (by omega) ?_
  refine g_aload_n (nx := 72) 0 F dX6_admit_71 rfl rfl rfl ?_
  refine g_iload_n (nx := 73) 1 F dX6_admit_72 rfl rfl rfl ?_
  refine g_iconst (nx := 74) (1) F dX6_admit_73 rfl rfl ?_
  refine g_iadd (nx := 75) F dX6_admit_74 rfl ?_
  rw [nI_1]
  refine g_putI (nx := 78) F dX6_admit_75 rfl fl_RX6_51 fi_5_8 rfl (by decide) (by decide) rfl rfl ?_
  refine g_vret F E dX6_admit_78 ?_
  exact ⟨rfl, rfl⟩
set_option maxHeartbeats 4000000 in
set_option maxRecDepth 100000 in
theorem c_admit_27 (f : Nat) (n : Int32) (σ : zSt) (hn : σ 36 0 = n) (h : f < 40) : Con mX6_admit 0 [.ref 27, .int (nI f)] σ (fun r τ => r = none ∧ τ = zu (zu (zu (zu (zu (zu (zu (zu σ 28 f 0) 29 f (σ 10 f)) 30 f 0) 31 f 0) 32 f 0) 33 f ((-1))) 36 0 (n + 1)) 27 8 (nI (f + 1))) := by
  refine Con.of (lv := [.ref 27, .int (nI f)]) mk_X6_admit rfl (Nat.le_of_ble_eq_true rfl) rfl (fun X F E => ?_)
  refine g_iload_n (nx := 1) 1 F dX6_admit_0 rfl rfl rfl ?_
  refine g_if_lt (nx := 4) 10 F dX6_admit_1 rfl (by decide) (fun c_1 => absurd c_1 (by exact nI_pos (by omega))) (fun c_1 => ?_)
  refine g_iload_n (nx := 5) 1 F dX6_admit_4 rfl rfl rfl ?_
  refine g_bipush (nx := 7) (40) F dX6_admit_5 rfl (by decide) ?_
  refine g_icmp_lt (nx := 10) 11 F dX6_admit_7 rfl (by decide) (fun c_7 => ?_) (fun c_7 => absurd c_7 (by exact fun zq => zq (nI_lt (a := f) (b := 40) (by omega) (by omega))))
  refine g_aload_n (nx := 12) 0 F dX6_admit_11 rfl rfl rfl ?_
  refine g_getR (nx := 15) F dX6_admit_12 rfl fl_RX6_9 rfl (by decide) (by decide) rfl ?_
  refine g_iload_n (nx := 16) 1 F dX6_admit_15 rfl rfl rfl ?_
  refine g_iconst (nx := 17) (0) F dX6_admit_16 rfl rfl ?_
  refine g_iastN (nx := 18) (f) F dX6_admit_17 rfl rfl (by omega) ?_
  refine g_aload_n (nx := 19) 0 F dX6_admit_18 rfl rfl rfl ?_
  refine g_getR (nx := 22) F dX6_admit_19 rfl fl_RX6_15 rfl (by decide) (by decide) rfl ?_
  refine g_iload_n (nx := 23) 1 F dX6_admit_22 rfl rfl rfl ?_
  refine g_aload_n (nx := 24) 0 F dX6_admit_23 rfl rfl rfl ?_
  refine g_getR (nx := 27) F dX6_admit_24 rfl fl_RX6_43 rfl (by decide) (by decide) rfl ?_
  refine g_getR (nx := 30) F dX6_admit_27 rfl fl_RX6_71 rfl (by decide) (by decide) rfl ?_
  refine g_iload_n (nx := 31) 1 F dX6_admit_30 rfl rfl rfl ?_
  refine g_ialdN (nx := 32) (f) (σ 10 f) F dX6_admit_31 rfl rfl (by omega) (rfl) ?_
  refine g_iastN (nx := 33) (f) F dX6_admit_32 rfl rfl (by omega) ?_
  refine g_aload_n (nx := 34) 0 F dX6_admit_33 rfl rfl rfl ?_
  refine g_getR (nx := 37) F dX6_admit_34 rfl fl_RX6_18 rfl (by decide) (by decide) rfl ?_
  refine g_iload_n (nx := 38) 1 F dX6_admit_37 rfl rfl rfl ?_
  refine g_iconst (nx := 39) (0) F dX6_admit_38 rfl rfl ?_
  refine g_iastN (nx := 40) (f) F dX6_admit_39 rfl rfl (by omega) ?_
  refine g_aload_n (nx := 41) 0 F dX6_admit_40 rfl rfl rfl ?_
  refine g_getR (nx := 44) F dX6_admit_41 rfl fl_RX6_21 rfl (by decide) (by decide) rfl ?_
  refine g_iload_n (nx := 45) 1 F dX6_admit_44 rfl rfl rfl ?_
  refine g_iconst (nx := 46) (0) F dX6_admit_45 rfl rfl ?_
  refine g_iastN (nx := 47) (f) F dX6_admit_46 rfl rfl (by omega) ?_
  refine g_aload_n (nx := 48) 0 F dX6_admit_47 rfl rfl rfl ?_
  refine g_getR (nx := 51) F dX6_admit_48 rfl fl_RX6_24 rfl (by decide) (by decide) rfl ?_
  refine g_iload_n (nx := 52) 1 F dX6_admit_51 rfl rfl rfl ?_
  refine g_iconst (nx := 53) (0) F dX6_admit_52 rfl rfl ?_
  refine g_iastN (nx := 54) (f) F dX6_admit_53 rfl rfl (by omega) ?_
  refine g_aload_n (nx := 55) 0 F dX6_admit_54 rfl rfl rfl ?_
  refine g_getR (nx := 58) F dX6_admit_55 rfl fl_RX6_27 rfl (by decide) (by decide) rfl ?_
  refine g_iload_n (nx := 59) 1 F dX6_admit_58 rfl rfl rfl ?_
  refine g_iconst (nx := 60) (-1) F dX6_admit_59 rfl rfl ?_
  refine g_iastN (nx := 61) (f) F dX6_admit_60 rfl rfl (by omega) ?_
  refine g_aload_n (nx := 62) 0 F dX6_admit_61 rfl rfl rfl ?_
  refine g_getR (nx := 65) F dX6_admit_62 rfl fl_RX6_36 rfl (by decide) (by decide) rfl ?_
  refine g_iconst (nx := 66) (0) F dX6_admit_65 rfl rfl ?_
  refine g_dup2 (nx := 67) F dX6_admit_66 rfl rfl rfl ?_
  show Gs X 67 _ (.int (nI 0) :: .ref _ :: .int (nI 0) :: .ref _ :: []) _
  refine g_ialdN (nx := 68) (0) (n) F dX6_admit_67 rfl rfl (by omega) (hn) ?_
  refine g_iconst (nx := 69) (1) F dX6_admit_68 rfl rfl ?_
  refine g_iadd (nx := 70) F dX6_admit_69 rfl ?_
  refine g_iastN (nx := 71) (0) F dX6_admit_70 rfl rfl (by omega) ?_
  refine g_aload_n (nx := 72) 0 F dX6_admit_71 rfl rfl rfl ?_
  refine g_iload_n (nx := 73) 1 F dX6_admit_72 rfl rfl rfl ?_
  refine g_iconst (nx := 74) (1) F dX6_admit_73 rfl rfl ?_
  refine g_iadd (nx := 75) F dX6_admit_74 rfl ?_
  rw [nI_1]
  refine g_putI (nx := 78) F dX6_admit_75 rfl fl_RX6_51 fi_5_8 rfl (by decide) (by decide) rfl rfl ?_
  refine g_vret F E dX6_admit_78 ?_
  exact ⟨rfl, rfl⟩
set_option maxHeartbeats 4000000 in
set_option maxRecDepth 100000 in
theorem c_ad_N  (σ : zSt) : Con mX6_admit 0 [.ref 17, .int (-1)] σ (fun r τ => r = none ∧ τ = σ) := by
  refine Con.of (lv := [.ref 17, .int (-1)]) mk_X6_admit rfl (Nat.le_of_ble_eq_true rfl) rfl (fun X F E => ?_)
  refine g_iload_n (nx := 1) 1 F dX6_admit_0 rfl rfl rfl ?_
  refine g_if_lt (nx := 4) 10 F dX6_admit_1 rfl (by decide) (fun c_1 => ?_) (fun c_1 => absurd c_1 (by decide))
  refine g_vret F E dX6_admit_10 ?_
  exact ⟨rfl, rfl⟩
set_option maxHeartbeats 4000000 in
set_option maxRecDepth 100000 in
theorem c_file (s f y0 : Nat) (n x y z : Int32) (σ : zSt) (hs : σ 3 6 = nI s) (hf : σ 3 11 = nI f) (hy : σ 17 12 = nI y0) (hn : σ 26 0 = n) (h : s ≤ 8) (h2 : f ≤ 40) : Con mX11_file 1 [.ref 0, .int x, .int y, .int z] σ (fun r τ => ((isin x 1 ∧ isin y 10000 ∧ isin z 200 ∧ f < 40 ∧ s ≠ 0) ∧ r = some (.int (nI f)) ∧ τ = zu (zu (zu (zu (zu (zu (zu (zu (zu (zu (zu (zu (zu σ 9 f x) 10 f y) 11 f z) 12 f (nI y0)) 3 11 (nI (f + 1))) 18 f 0) 19 f y) 20 f 0) 21 f 0) 22 f 0) 23 f ((-1))) 26 0 (n + 1)) 17 8 (nI (f + 1))) ∨ (¬ (isin x 1 ∧ isin y 10000 ∧ isin z 200 ∧ f < 40 ∧ s ≠ 0) ∧ r = some (.int (-1)) ∧ τ = σ)) := by
  refine Con.of (lv := [.ref 0, .int x, .int y, .int z, .long 0]) mk_X11_file rfl (Nat.le_of_ble_eq_true rfl) rfl (fun X F E => ?_)
  by_cases hA : isin x 1 ∧ isin y 10000 ∧ isin z 200 ∧ f < 40 ∧ s ≠ 0
  · refine g_iload_n (nx := 1) 1 F dX11_file_0 rfl rfl rfl ?_
    refine g_iconst (nx := 2) (1) F dX11_file_1 rfl rfl ?_
    refine g_callS (nx := 5) 2 0 [.int x, .int 1] F dX11_file_2 rfl ml_RX11_79 mo_X11_isOutside rfl rfl (Nat.le_of_ble_eq_true rfl) (by first | decide | omega) (c_isOutside x 1 _) (fun r_2 τ_2 q_2 => ?_)
    obtain ⟨rfl, et_2⟩ := q_2
    have et_2 := et_2.symm
    subst et_2
    dsimp only [Option.toList, List.append, List.cons_append, List.nil_append]
    refine g_if_ne (nx := 8) 38 F dX11_file_5 rfl (by decide) (fun c_5 => absurd c_5 (by exact fun q => q (bI_f (by simp only [Int32.reduceToInt]; omega)))) (fun c_5 => ?_)
    refine g_iload_n (nx := 9) 2 F dX11_file_8 rfl rfl rfl ?_
    refine g_sipush (nx := 12) (10000) F dX11_file_9 rfl (by decide) ?_
    refine g_callS (nx := 15) 2 0 [.int y, .int 10000] F dX11_file_12 rfl ml_RX11_79 mo_X11_isOutside rfl rfl (Nat.le_of_ble_eq_true rfl) (by first | decide | omega) (c_isOutside y 10000 _) (fun r_12 τ_12 q_12 => ?_)
    obtain ⟨rfl, et_12⟩ := q_12
    have et_12 := et_12.symm
    subst et_12
    dsimp only [Option.toList, List.append, List.cons_append, List.nil_append]
    refine g_if_ne (nx := 18) 38 F dX11_file_15 rfl (by decide) (fun c_15 => absurd c_15 (by exact fun q => q (bI_f (by simp only [Int32.reduceToInt]; omega)))) (fun c_15 => ?_)
    refine g_iload_n (nx := 19) 3 F dX11_file_18 rfl rfl rfl ?_
    refine g_sipush (nx := 22) (200) F dX11_file_19 rfl (by decide) ?_
    refine g_callS (nx := 25) 2 0 [.int z, .int 200] F dX11_file_22 rfl ml_RX11_79 mo_X11_isOutside rfl rfl (Nat.le_of_ble_eq_true rfl) (by first | decide | omega) (c_isOutside z 200 _) (fun r_22 τ_22 q_22 => ?_)
    obtain ⟨rfl, et_22⟩ := q_22
    have et_22 := et_22.symm
    subst et_22
    dsimp only [Option.toList, List.append, List.cons_append, List.nil_append]
    refine g_if_ne (nx := 28) 38 F dX11_file_25 rfl (by decide) (fun c_25 => absurd c_25 (by exact fun q => q (bI_f (by simp only [Int32.reduceToInt]; omega)))) (fun c_25 => ?_)
    refine g_aload_n (nx := 29) 0 F dX11_file_28 rfl rfl rfl ?_
    refine g_getR (nx := 32) F dX11_file_29 rfl fl_RX11_19 rfl (by decide) (by decide) rfl ?_
    refine g_getV (nx := 35) (nI s) F dX11_file_32 rfl fl_RX11_105 rfl (by decide) (by decide) rfl rfl (hs) ?_
    refine g_if_ne (nx := 38) 40 F dX11_file_35 rfl (by decide) (fun c_35 => ?_) (fun c_35 => absurd c_35 (by exact fun q => nI_ne0 (n := s) (by omega) (by omega) q))
    refine g_aload_n (nx := 41) 0 F dX11_file_40 rfl rfl rfl ?_
    refine g_getR (nx := 44) F dX11_file_41 rfl fl_RX11_19 rfl (by decide) (by decide) rfl ?_
    refine g_iload_n (nx := 45) 1 F dX11_file_44 rfl rfl rfl ?_
    refine g_iload_n (nx := 46) 2 F dX11_file_45 rfl rfl rfl ?_
    refine g_iload_n (nx := 47) 3 F dX11_file_46 rfl rfl rfl ?_
    refine g_aload_n (nx := 48) 0 F dX11_file_47 rfl rfl rfl ?_
    refine g_getR (nx := 51) F dX11_file_48 rfl fl_RX11_44 rfl (by decide) (by decide) rfl ?_
    refine g_getV (nx := 54) (nI y0) F dX11_file_51 rfl fl_RX11_108 rfl (by decide) (by decide) rfl rfl (hy) ?_
    refine g_callV (nx := 57) 4 0 [.int x, .int y, .int z, .int (nI y0)] F dX11_file_54 rfl ml_RX11_111 mo_X2_addFile rfl rfl rfl rfl (Nat.le_of_ble_eq_true rfl) (by first | decide | omega) (c_addFile f x y z (nI y0) _ hf hA.2.2.2.1) (fun r_54 τ_54 q_54 => ?_)
    obtain ⟨rfl, et_54⟩ := q_54
    have et_54 := et_54.symm
    subst et_54
    dsimp only [Option.toList, List.append, List.cons_append, List.nil_append]
    refine g_istore (nx := 59) F dX11_file_57 rfl (by decide) ?_
    try dsimp only [List.set]
    refine g_aload_n (nx := 60) 0 F dX11_file_59 rfl rfl rfl ?_
    refine g_getR (nx := 63) F dX11_file_60 rfl fl_RX11_44 rfl (by decide) (by decide) rfl ?_
    refine g_iload (nx := 65) F dX11_file_63 rfl rfl ?_
    refine g_callV (nx := 68) 1 0 [.int (nI f)] F dX11_file_65 rfl ml_RX11_115 mo_X6_admit rfl rfl rfl rfl (Nat.le_of_ble_eq_true rfl) (by first | decide | omega) (c_admit_17 f n _ hn hA.2.2.2.1) (fun r_65 τ_65 q_65 => ?_)
    obtain ⟨rfl, et_65⟩ := q_65
    have et_65 := et_65.symm
    subst et_65
    dsimp only [Option.toList, List.append, List.cons_append, List.nil_append]
    refine g_iload (nx := 70) F dX11_file_68 rfl rfl ?_
    refine g_iret F E dX11_file_70 ?_
    exact Or.inl ⟨hA, rfl, by rw [zur _ (by decide), zur _ (by decide), zur _ (by decide), zu_same]⟩
  · refine g_iload_n (nx := 1) 1 F dX11_file_0 rfl rfl rfl ?_
    refine g_iconst (nx := 2) (1) F dX11_file_1 rfl rfl ?_
    refine g_callS (nx := 5) 2 0 [.int x, .int 1] F dX11_file_2 rfl ml_RX11_79 mo_X11_isOutside rfl rfl (Nat.le_of_ble_eq_true rfl) (by first | decide | omega) (c_isOutside x 1 _) (fun r_2 τ_2 q_2 => ?_)
    obtain ⟨rfl, et_2⟩ := q_2
    have et_2 := et_2.symm
    subst et_2
    dsimp only [Option.toList, List.append, List.cons_append, List.nil_append]
    refine g_if_ne (nx := 8) 38 F dX11_file_5 rfl (by decide) (fun c_5 => ?_) (fun c_5 => ?_)
    · refine g_iconst (nx := 39) (-1) F dX11_file_38 rfl rfl ?_
      refine g_iret F E dX11_file_39 ?_
      exact Or.inr ⟨hA, rfl, rfl⟩
    · refine g_iload_n (nx := 9) 2 F dX11_file_8 rfl rfl rfl ?_
      refine g_sipush (nx := 12) (10000) F dX11_file_9 rfl (by decide) ?_
      refine g_callS (nx := 15) 2 0 [.int y, .int 10000] F dX11_file_12 rfl ml_RX11_79 mo_X11_isOutside rfl rfl (Nat.le_of_ble_eq_true rfl) (by first | decide | omega) (c_isOutside y 10000 _) (fun r_12 τ_12 q_12 => ?_)
      obtain ⟨rfl, et_12⟩ := q_12
      have et_12 := et_12.symm
      subst et_12
      dsimp only [Option.toList, List.append, List.cons_append, List.nil_append]
      refine g_if_ne (nx := 18) 38 F dX11_file_15 rfl (by decide) (fun c_15 => ?_) (fun c_15 => ?_)
      · refine g_iconst (nx := 39) (-1) F dX11_file_38 rfl rfl ?_
        refine g_iret F E dX11_file_39 ?_
        exact Or.inr ⟨hA, rfl, rfl⟩
      · refine g_iload_n (nx := 19) 3 F dX11_file_18 rfl rfl rfl ?_
        refine g_sipush (nx := 22) (200) F dX11_file_19 rfl (by decide) ?_
        refine g_callS (nx := 25) 2 0 [.int z, .int 200] F dX11_file_22 rfl ml_RX11_79 mo_X11_isOutside rfl rfl (Nat.le_of_ble_eq_true rfl) (by first | decide | omega) (c_isOutside z 200 _) (fun r_22 τ_22 q_22 => ?_)
        obtain ⟨rfl, et_22⟩ := q_22
        have et_22 := et_22.symm
        subst et_22
        dsimp only [Option.toList, List.append, List.cons_append, List.nil_append]
        refine g_if_ne (nx := 28) 38 F dX11_file_25 rfl (by decide) (fun c_25 => ?_) (fun c_25 => ?_)
        · refine g_iconst (nx := 39) (-1) F dX11_file_38 rfl rfl ?_
          refine g_iret F E dX11_file_39 ?_
          exact Or.inr ⟨hA, rfl, rfl⟩
        · refine g_aload_n (nx := 29) 0 F dX11_file_28 rfl rfl rfl ?_
          refine g_getR (nx := 32) F dX11_file_29 rfl fl_RX11_19 rfl (by decide) (by decide) rfl ?_
          refine g_getV (nx := 35) (nI s) F dX11_file_32 rfl fl_RX11_105 rfl (by decide) (by decide) rfl rfl (hs) ?_
          refine g_if_ne (nx := 38) 40 F dX11_file_35 rfl (by decide) (fun c_35 => ?_) (fun c_35 => ?_)
          · have hfull : f = 40 := by
              clear F E
              have e_f : (nI f).toInt = f := nI_toInt (by omega)
              have e_s : (nI s).toInt = s := nI_toInt (by omega)
              simp only [isin, bI_0, bI_n0, ne_eq, Decidable.not_not] at *
              (try simp only [fa_eq, fa_lt, fa_le, Int32.reduceToInt, Int32.toInt_zero] at *)
              omega
            refine g_aload_n (nx := 41) 0 F dX11_file_40 rfl rfl rfl ?_
            refine g_getR (nx := 44) F dX11_file_41 rfl fl_RX11_19 rfl (by decide) (by decide) rfl ?_
            refine g_iload_n (nx := 45) 1 F dX11_file_44 rfl rfl rfl ?_
            refine g_iload_n (nx := 46) 2 F dX11_file_45 rfl rfl rfl ?_
            refine g_iload_n (nx := 47) 3 F dX11_file_46 rfl rfl rfl ?_
            refine g_aload_n (nx := 48) 0 F dX11_file_47 rfl rfl rfl ?_
            refine g_getR (nx := 51) F dX11_file_48 rfl fl_RX11_44 rfl (by decide) (by decide) rfl ?_
            refine g_getV (nx := 54) (nI y0) F dX11_file_51 rfl fl_RX11_108 rfl (by decide) (by decide) rfl rfl (hy) ?_
            refine g_callV (nx := 57) 4 0 [.int x, .int y, .int z, .int (nI y0)] F dX11_file_54 rfl ml_RX11_111 mo_X2_addFile rfl rfl rfl rfl (Nat.le_of_ble_eq_true rfl) (by first | decide | omega) (c_addFileN f x y z (nI y0) _ hf hfull) (fun r_54 τ_54 q_54 => ?_)
            obtain ⟨rfl, et_54⟩ := q_54
            have et_54 := et_54.symm
            subst et_54
            dsimp only [Option.toList, List.append, List.cons_append, List.nil_append]
            refine g_istore (nx := 59) F dX11_file_57 rfl (by decide) ?_
            try dsimp only [List.set]
            refine g_aload_n (nx := 60) 0 F dX11_file_59 rfl rfl rfl ?_
            refine g_getR (nx := 63) F dX11_file_60 rfl fl_RX11_44 rfl (by decide) (by decide) rfl ?_
            refine g_iload (nx := 65) F dX11_file_63 rfl rfl ?_
            refine g_callV (nx := 68) 1 0 [.int (-1)] F dX11_file_65 rfl ml_RX11_115 mo_X6_admit rfl rfl rfl rfl (Nat.le_of_ble_eq_true rfl) (by first | decide | omega) (c_ad_N _) (fun r_65 τ_65 q_65 => ?_)
            obtain ⟨rfl, et_65⟩ := q_65
            have et_65 := et_65.symm
            subst et_65
            dsimp only [Option.toList, List.append, List.cons_append, List.nil_append]
            refine g_iload (nx := 70) F dX11_file_68 rfl rfl ?_
            refine g_iret F E dX11_file_70 ?_
            exact Or.inr ⟨hA, rfl, rfl⟩
          · refine g_iconst (nx := 39) (-1) F dX11_file_38 rfl rfl ?_
            refine g_iret F E dX11_file_39 ?_
            exact Or.inr ⟨hA, rfl, rfl⟩
set_option maxHeartbeats 4000000 in
set_option maxRecDepth 100000 in
theorem k_file (s f y0 : Nat) (x y z : Int32) (σ : zSt) (hs : σ 145 2 = nI s) (hf : σ 145 3 = nI f) (hy : σ 145 0 = nI y0) (h : s ≤ 8) (h2 : f ≤ 40) : Con mX12_file 1 [.ref 145, .int x, .int y, .int z] σ (fun r τ => ((isin x 1 ∧ isin y 10000 ∧ isin z 200 ∧ f < 40 ∧ s ≠ 0) ∧ r = some (.int (nI f)) ∧ τ = zu (zu (zu (zu (zu (zu (zu (zu (zu (zu (zu σ 152 f x) 153 f y) 154 f z) 155 f (nI y0)) 156 f 0) 157 f y) 158 f 0) 159 f 0) 160 f 0) 161 f ((-1))) 145 3 (nI (f + 1))) ∨ (¬ (isin x 1 ∧ isin y 10000 ∧ isin z 200 ∧ f < 40 ∧ s ≠ 0) ∧ r = some (.int (-1)) ∧ τ = σ)) := by
  refine Con.of (lv := [.ref 145, .int x, .int y, .int z]) mk_X12_file rfl (Nat.le_of_ble_eq_true rfl) rfl (fun X F E => ?_)
  by_cases hA : isin x 1 ∧ isin y 10000 ∧ isin z 200 ∧ f < 40 ∧ s ≠ 0
  · refine g_iload_n (nx := 1) 1 F dX12_file_0 rfl rfl rfl ?_
    refine g_iconst (nx := 2) (0) F dX12_file_1 rfl rfl ?_
    refine g_iconst (nx := 3) (1) F dX12_file_2 rfl rfl ?_
    refine g_callS (nx := 6) 3 0 [.int x, .int 0, .int 1] F dX12_file_3 rfl ml_RX12_174 mo_X12_in rfl rfl (Nat.le_of_ble_eq_true rfl) (by first | decide | omega) (k_in x 0 1 _) (fun r_3 τ_3 q_3 => ?_)
    obtain ⟨rfl, et_3⟩ := q_3
    have et_3 := et_3.symm
    subst et_3
    dsimp only [Option.toList, List.append, List.cons_append, List.nil_append]
    refine g_if_eq (nx := 9) 47 F dX12_file_6 rfl (by decide) (fun c_6 => absurd c_6 (by exact bI_n0.mpr (by simp only [Int32.reduceToInt]; omega))) (fun c_6 => ?_)
    refine g_iload_n (nx := 10) 2 F dX12_file_9 rfl rfl rfl ?_
    refine g_iconst (nx := 11) (0) F dX12_file_10 rfl rfl ?_
    refine g_sipush (nx := 14) (10000) F dX12_file_11 rfl (by decide) ?_
    refine g_callS (nx := 17) 3 0 [.int y, .int 0, .int 10000] F dX12_file_14 rfl ml_RX12_174 mo_X12_in rfl rfl (Nat.le_of_ble_eq_true rfl) (by first | decide | omega) (k_in y 0 10000 _) (fun r_14 τ_14 q_14 => ?_)
    obtain ⟨rfl, et_14⟩ := q_14
    have et_14 := et_14.symm
    subst et_14
    dsimp only [Option.toList, List.append, List.cons_append, List.nil_append]
    refine g_if_eq (nx := 20) 47 F dX12_file_17 rfl (by decide) (fun c_17 => absurd c_17 (by exact bI_n0.mpr (by simp only [Int32.reduceToInt]; omega))) (fun c_17 => ?_)
    refine g_iload_n (nx := 21) 3 F dX12_file_20 rfl rfl rfl ?_
    refine g_iconst (nx := 22) (0) F dX12_file_21 rfl rfl ?_
    refine g_sipush (nx := 25) (200) F dX12_file_22 rfl (by decide) ?_
    refine g_callS (nx := 28) 3 0 [.int z, .int 0, .int 200] F dX12_file_25 rfl ml_RX12_174 mo_X12_in rfl rfl (Nat.le_of_ble_eq_true rfl) (by first | decide | omega) (k_in z 0 200 _) (fun r_25 τ_25 q_25 => ?_)
    obtain ⟨rfl, et_25⟩ := q_25
    have et_25 := et_25.symm
    subst et_25
    dsimp only [Option.toList, List.append, List.cons_append, List.nil_append]
    refine g_if_eq (nx := 31) 47 F dX12_file_28 rfl (by decide) (fun c_28 => absurd c_28 (by exact bI_n0.mpr (by simp only [Int32.reduceToInt]; omega))) (fun c_28 => ?_)
    refine g_aload_n (nx := 32) 0 F dX12_file_31 rfl rfl rfl ?_
    refine g_getV (nx := 35) (nI f) F dX12_file_32 rfl fl_RX12_171 rfl (by decide) (by decide) rfl rfl (hf) ?_
    refine g_bipush (nx := 37) (40) F dX12_file_35 rfl (by decide) ?_
    refine g_icmp_eq (nx := 40) 47 F dX12_file_37 rfl (by decide) (fun c_37 => absurd c_37 (by exact fun zq => absurd ((nI_eq (a := f) (b := 40) (by omega) (by omega)).mp zq) (by omega))) (fun c_37 => ?_)
    refine g_aload_n (nx := 41) 0 F dX12_file_40 rfl rfl rfl ?_
    refine g_getV (nx := 44) (nI s) F dX12_file_41 rfl fl_RX12_168 rfl (by decide) (by decide) rfl rfl (hs) ?_
    refine g_if_ne (nx := 47) 49 F dX12_file_44 rfl (by decide) (fun c_44 => ?_) (fun c_44 => absurd c_44 (by exact fun q => nI_ne0 (n := s) (by omega) (by omega) q))
    refine g_aload_n (nx := 50) 0 F dX12_file_49 rfl rfl rfl ?_
    refine g_getR (nx := 53) F dX12_file_50 rfl fl_RX12_28 rfl (by decide) (by decide) rfl ?_
    refine g_aload_n (nx := 54) 0 F dX12_file_53 rfl rfl rfl ?_
    refine g_getV (nx := 57) (nI f) F dX12_file_54 rfl fl_RX12_171 rfl (by decide) (by decide) rfl rfl (hf) ?_
    refine g_iload_n (nx := 58) 1 F dX12_file_57 rfl rfl rfl ?_
    refine g_iastN (nx := 59) (f) F dX12_file_58 rfl rfl (by omega) ?_
    refine g_aload_n (nx := 60) 0 F dX12_file_59 rfl rfl rfl ?_
    refine g_getR (nx := 63) F dX12_file_60 rfl fl_RX12_31 rfl (by decide) (by decide) rfl ?_
    refine g_aload_n (nx := 64) 0 F dX12_file_63 rfl rfl rfl ?_
    refine g_getV (nx := 67) (nI f) F dX12_file_64 rfl fl_RX12_171 rfl (by decide) (by decide) rfl rfl (hf) ?_
    refine g_iload_n (nx := 68) 2 F dX12_file_67 rfl rfl rfl ?_
    refine g_iastN (nx := 69) (f) F dX12_file_68 rfl rfl (by omega) ?_
    refine g_aload_n (nx := 70) 0 F dX12_file_69 rfl rfl rfl ?_
    refine g_getR (nx := 73) F dX12_file_70 rfl fl_RX12_34 rfl (by decide) (by decide) rfl ?_
    refine g_aload_n (nx := 74) 0 F dX12_file_73 rfl rfl rfl ?_
    refine g_getV (nx := 77) (nI f) F dX12_file_74 rfl fl_RX12_171 rfl (by decide) (by decide) rfl rfl (hf) ?_
    refine g_iload_n (nx := 78) 3 F dX12_file_77 rfl rfl rfl ?_
    refine g_iastN (nx := 79) (f) F dX12_file_78 rfl rfl (by omega) ?_
    refine g_aload_n (nx := 80) 0 F dX12_file_79 rfl rfl rfl ?_
    refine g_getR (nx := 83) F dX12_file_80 rfl fl_RX12_37 rfl (by decide) (by decide) rfl ?_
    refine g_aload_n (nx := 84) 0 F dX12_file_83 rfl rfl rfl ?_
    refine g_getV (nx := 87) (nI f) F dX12_file_84 rfl fl_RX12_171 rfl (by decide) (by decide) rfl rfl (hf) ?_
    refine g_aload_n (nx := 88) 0 F dX12_file_87 rfl rfl rfl ?_
    refine g_getV (nx := 91) (nI y0) F dX12_file_88 rfl fl_RX12_183 rfl (by decide) (by decide) rfl rfl (hy) ?_
    refine g_iastN (nx := 92) (f) F dX12_file_91 rfl rfl (by omega) ?_
    refine g_aload_n (nx := 93) 0 F dX12_file_92 rfl rfl rfl ?_
    refine g_getR (nx := 96) F dX12_file_93 rfl fl_RX12_40 rfl (by decide) (by decide) rfl ?_
    refine g_aload_n (nx := 97) 0 F dX12_file_96 rfl rfl rfl ?_
    refine g_getV (nx := 100) (nI f) F dX12_file_97 rfl fl_RX12_171 rfl (by decide) (by decide) rfl rfl (hf) ?_
    refine g_iconst (nx := 101) (0) F dX12_file_100 rfl rfl ?_
    refine g_iastN (nx := 102) (f) F dX12_file_101 rfl rfl (by omega) ?_
    refine g_aload_n (nx := 103) 0 F dX12_file_102 rfl rfl rfl ?_
    refine g_getR (nx := 106) F dX12_file_103 rfl fl_RX12_43 rfl (by decide) (by decide) rfl ?_
    refine g_aload_n (nx := 107) 0 F dX12_file_106 rfl rfl rfl ?_
    refine g_getV (nx := 110) (nI f) F dX12_file_107 rfl fl_RX12_171 rfl (by decide) (by decide) rfl rfl (hf) ?_
    refine g_iload_n (nx := 111) 2 F dX12_file_110 rfl rfl rfl ?_
    refine g_iastN (nx := 112) (f) F dX12_file_111 rfl rfl (by omega) ?_
    refine g_aload_n (nx := 113) 0 F dX12_file_112 rfl rfl rfl ?_
    refine g_getR (nx := 116) F dX12_file_113 rfl fl_RX12_46 rfl (by decide) (by decide) rfl ?_
    refine g_aload_n (nx := 117) 0 F dX12_file_116 rfl rfl rfl ?_
    refine g_getV (nx := 120) (nI f) F dX12_file_117 rfl fl_RX12_171 rfl (by decide) (by decide) rfl rfl (hf) ?_
    refine g_iconst (nx := 121) (0) F dX12_file_120 rfl rfl ?_
    refine g_iastN (nx := 122) (f) F dX12_file_121 rfl rfl (by omega) ?_
    refine g_aload_n (nx := 123) 0 F dX12_file_122 rfl rfl rfl ?_
    refine g_getR (nx := 126) F dX12_file_123 rfl fl_RX12_49 rfl (by decide) (by decide) rfl ?_
    refine g_aload_n (nx := 127) 0 F dX12_file_126 rfl rfl rfl ?_
    refine g_getV (nx := 130) (nI f) F dX12_file_127 rfl fl_RX12_171 rfl (by decide) (by decide) rfl rfl (hf) ?_
    refine g_iconst (nx := 131) (0) F dX12_file_130 rfl rfl ?_
    refine g_iastN (nx := 132) (f) F dX12_file_131 rfl rfl (by omega) ?_
    refine g_aload_n (nx := 133) 0 F dX12_file_132 rfl rfl rfl ?_
    refine g_getR (nx := 136) F dX12_file_133 rfl fl_RX12_52 rfl (by decide) (by decide) rfl ?_
    refine g_aload_n (nx := 137) 0 F dX12_file_136 rfl rfl rfl ?_
    refine g_getV (nx := 140) (nI f) F dX12_file_137 rfl fl_RX12_171 rfl (by decide) (by decide) rfl rfl (hf) ?_
    refine g_iconst (nx := 141) (0) F dX12_file_140 rfl rfl ?_
    refine g_iastN (nx := 142) (f) F dX12_file_141 rfl rfl (by omega) ?_
    refine g_aload_n (nx := 143) 0 F dX12_file_142 rfl rfl rfl ?_
    refine g_getR (nx := 146) F dX12_file_143 rfl fl_RX12_55 rfl (by decide) (by decide) rfl ?_
    refine g_aload_n (nx := 147) 0 F dX12_file_146 rfl rfl rfl ?_
    refine g_getV (nx := 150) (nI f) F dX12_file_147 rfl fl_RX12_171 rfl (by decide) (by decide) rfl rfl (hf) ?_
    refine g_iconst (nx := 151) (-1) F dX12_file_150 rfl rfl ?_
    refine g_iastN (nx := 152) (f) F dX12_file_151 rfl rfl (by omega) ?_
    refine g_aload_n (nx := 153) 0 F dX12_file_152 rfl rfl rfl ?_
    refine g_aload_n (nx := 154) 0 F dX12_file_153 rfl rfl rfl ?_
    refine g_getV (nx := 157) (nI f) F dX12_file_154 rfl fl_RX12_171 rfl (by decide) (by decide) rfl rfl (hf) ?_
    refine g_iconst (nx := 158) (1) F dX12_file_157 rfl rfl ?_
    refine g_iadd (nx := 159) F dX12_file_158 rfl ?_
    rw [nI_1]
    refine g_putI (nx := 162) F dX12_file_159 rfl fl_RX12_171 fi_11_3 rfl (by decide) (by decide) rfl rfl ?_
    refine g_aload_n (nx := 163) 0 F dX12_file_162 rfl rfl rfl ?_
    refine g_getV (nx := 166) (nI (f + 1)) F dX12_file_163 rfl fl_RX12_171 rfl (by decide) (by decide) rfl rfl (rfl) ?_
    refine g_iconst (nx := 167) (1) F dX12_file_166 rfl rfl ?_
    refine g_isub (nx := 168) F dX12_file_167 rfl ?_
    refine g_iret F E dX12_file_168 ?_
    exact Or.inl ⟨hA, by rw [nI_pred], rfl⟩
  · refine g_iload_n (nx := 1) 1 F dX12_file_0 rfl rfl rfl ?_
    refine g_iconst (nx := 2) (0) F dX12_file_1 rfl rfl ?_
    refine g_iconst (nx := 3) (1) F dX12_file_2 rfl rfl ?_
    refine g_callS (nx := 6) 3 0 [.int x, .int 0, .int 1] F dX12_file_3 rfl ml_RX12_174 mo_X12_in rfl rfl (Nat.le_of_ble_eq_true rfl) (by first | decide | omega) (k_in x 0 1 _) (fun r_3 τ_3 q_3 => ?_)
    obtain ⟨rfl, et_3⟩ := q_3
    have et_3 := et_3.symm
    subst et_3
    dsimp only [Option.toList, List.append, List.cons_append, List.nil_append]
    refine g_if_eq (nx := 9) 47 F dX12_file_6 rfl (by decide) (fun c_6 => ?_) (fun c_6 => ?_)
    · refine g_iconst (nx := 48) (-1) F dX12_file_47 rfl rfl ?_
      refine g_iret F E dX12_file_48 ?_
      exact Or.inr ⟨hA, rfl, rfl⟩
    · refine g_iload_n (nx := 10) 2 F dX12_file_9 rfl rfl rfl ?_
      refine g_iconst (nx := 11) (0) F dX12_file_10 rfl rfl ?_
      refine g_sipush (nx := 14) (10000) F dX12_file_11 rfl (by decide) ?_
      refine g_callS (nx := 17) 3 0 [.int y, .int 0, .int 10000] F dX12_file_14 rfl ml_RX12_174 mo_X12_in rfl rfl (Nat.le_of_ble_eq_true rfl) (by first | decide | omega) (k_in y 0 10000 _) (fun r_14 τ_14 q_14 => ?_)
      obtain ⟨rfl, et_14⟩ := q_14
      have et_14 := et_14.symm
      subst et_14
      dsimp only [Option.toList, List.append, List.cons_append, List.nil_append]
      refine g_if_eq (nx := 20) 47 F dX12_file_17 rfl (by decide) (fun c_17 => ?_) (fun c_17 => ?_)
      · refine g_iconst (nx := 48) (-1) F dX12_file_47 rfl rfl ?_
        refine g_iret F E dX12_file_48 ?_
        exact Or.inr ⟨hA, rfl, rfl⟩
      · refine g_iload_n (nx := 21) 3 F dX12_file_20 rfl rfl rfl ?_
        refine g_iconst (nx := 22) (0) F dX12_file_21 rfl rfl ?_
        refine g_sipush (nx := 25) (200) F dX12_file_22 rfl (by decide) ?_
        refine g_callS (nx := 28) 3 0 [.int z, .int 0, .int 200] F dX12_file_25 rfl ml_RX12_174 mo_X12_in rfl rfl (Nat.le_of_ble_eq_true rfl) (by first | decide | omega) (k_in z 0 200 _) (fun r_25 τ_25 q_25 => ?_)
        obtain ⟨rfl, et_25⟩ := q_25
        have et_25 := et_25.symm
        subst et_25
        dsimp only [Option.toList, List.append, List.cons_append, List.nil_append]
        refine g_if_eq (nx := 31) 47 F dX12_file_28 rfl (by decide) (fun c_28 => ?_) (fun c_28 => ?_)
        · refine g_iconst (nx := 48) (-1) F dX12_file_47 rfl rfl ?_
          refine g_iret F E dX12_file_48 ?_
          exact Or.inr ⟨hA, rfl, rfl⟩
        · refine g_aload_n (nx := 32) 0 F dX12_file_31 rfl rfl rfl ?_
          refine g_getV (nx := 35) (nI f) F dX12_file_32 rfl fl_RX12_171 rfl (by decide) (by decide) rfl rfl (hf) ?_
          refine g_bipush (nx := 37) (40) F dX12_file_35 rfl (by decide) ?_
          refine g_icmp_eq (nx := 40) 47 F dX12_file_37 rfl (by decide) (fun c_37 => ?_) (fun c_37 => ?_)
          · refine g_iconst (nx := 48) (-1) F dX12_file_47 rfl rfl ?_
            refine g_iret F E dX12_file_48 ?_
            exact Or.inr ⟨hA, rfl, rfl⟩
          · refine g_aload_n (nx := 41) 0 F dX12_file_40 rfl rfl rfl ?_
            refine g_getV (nx := 44) (nI s) F dX12_file_41 rfl fl_RX12_168 rfl (by decide) (by decide) rfl rfl (hs) ?_
            refine g_if_ne (nx := 47) 49 F dX12_file_44 rfl (by decide) (fun c_44 => ?_) (fun c_44 => ?_)
            · exfalso
              clear F E
              have e_f : (nI f).toInt = f := nI_toInt (by omega)
              have e_s : (nI s).toInt = s := nI_toInt (by omega)
              simp only [isin, bI_0, bI_n0, ne_eq, Decidable.not_not] at *
              (try simp only [fa_eq, fa_lt, fa_le, Int32.reduceToInt, Int32.toInt_zero] at *)
              omega
            · refine g_iconst (nx := 48) (-1) F dX12_file_47 rfl rfl ?_
              refine g_iret F E dX12_file_48 ?_
              exact Or.inr ⟨hA, rfl, rfl⟩
/-- a byte comes behind the tape: the tape's bytes at ar, its length in field fd of ob -/
def feB (ob fd ar : Nat) (σ : zSt) (u : Nat) (x : Int32) : zSt := zu (zu σ ar u x.toInt8.toInt32) ob fd (nI (u + 1))
def feW (ob fd ar : Nat) (σ : zSt) (u : Nat) (v : Int32) : zSt := feB ob fd ar (feB ob fd ar (feB ob fd ar (feB ob fd ar σ u (v >>> (24 &&& 31))) (u + 1) (v >>> (16 &&& 31))) (u + 2) (v >>> (8 &&& 31))) (u + 3) (v >>> (0 &&& 31))
theorem feB_u (ob fd ar : Nat) (σ : zSt) (u : Nat) (x : Int32) : feB ob fd ar σ u x ob fd = nI (u + 1) := zu_same _ _ _ _
theorem feW_u (ob fd ar : Nat) (σ : zSt) (u : Nat) (v : Int32) : feW ob fd ar σ u v ob fd = nI (u + 4) := zu_same _ _ _ _
theorem i8_twice (x : Int32) : x.toInt8.toInt32.toInt8.toInt32 = x.toInt8.toInt32 := by rw [Int8.toInt8_toInt32]
set_option maxHeartbeats 4000000 in
set_option maxRecDepth 100000 in
theorem c_add (u : Nat) (v : Int32) (σ : zSt) (hu : σ 1 1 = nI u) (h : u + 4 ≤ 200) : Con mX9_add 0 [.ref 1, .int v] σ (fun r τ => r = none ∧ τ = feW 1 1 2 σ u v) := by
  refine Con.of (lv := [.ref 1, .int v, .long 0]) mk_X9_add rfl (Nat.le_of_ble_eq_true rfl) rfl (fun X F E => ?_)
  refine g_bipush (nx := 2) (24) F dX9_add_0 rfl (by decide) ?_
  refine g_istore_n (nx := 3) 2 F dX9_add_2 rfl rfl (by decide) ?_
  try dsimp only [List.set]
  
  refine g_iload_n (nx := 4) 2 F dX9_add_3 rfl rfl rfl ?_
  refine g_if_lt (nx := 7) 48 F dX9_add_4 rfl (by decide) (fun c_4 => absurd c_4 (by decide)) (fun c_4 => ?_)
  refine g_aload_n (nx := 8) 0 F dX9_add_7 rfl rfl rfl ?_
  refine g_getV (nx := 11) (nI (u)) F dX9_add_8 rfl fl_RX9_13 rfl (by decide) (by decide) rfl rfl (hu) ?_
  refine g_aload_n (nx := 12) 0 F dX9_add_11 rfl rfl rfl ?_
  refine g_getR (nx := 15) F dX9_add_12 rfl fl_RX9_9 rfl (by decide) (by decide) rfl ?_
  refine g_alen (nx := 16) F dX9_add_15 rfl rfl (Or.inl rfl) ?_
  refine g_icmp_ge (nx := 19) 48 F dX9_add_16 rfl (by decide) (fun c_16 => absurd c_16 (by exact nI_ge (a := u) (b := 200) (by omega) (by omega))) (fun c_16 => ?_)
  refine g_aload_n (nx := 20) 0 F dX9_add_19 rfl rfl rfl ?_
  refine g_getR (nx := 23) F dX9_add_20 rfl fl_RX9_9 rfl (by decide) (by decide) rfl ?_
  refine g_aload_n (nx := 24) 0 F dX9_add_23 rfl rfl rfl ?_
  refine g_getV (nx := 27) (nI (u)) F dX9_add_24 rfl fl_RX9_13 rfl (by decide) (by decide) rfl rfl (hu) ?_
  refine g_iload_n (nx := 28) 1 F dX9_add_27 rfl rfl rfl ?_
  refine g_iload_n (nx := 29) 2 F dX9_add_28 rfl rfl rfl ?_
  refine g_ishr (nx := 30) F dX9_add_29 rfl ?_
  refine g_i2b (nx := 31) F dX9_add_30 rfl ?_
  show Gs X 31 _ (.int _ :: .int (nI (u)) :: .ref 2 :: []) _
  refine g_bastN (nx := 32) (u) F dX9_add_31 rfl rfl (by omega) ?_
  refine g_aload_n (nx := 33) 0 F dX9_add_32 rfl rfl rfl ?_
  refine g_dup (nx := 34) F dX9_add_33 rfl rfl ?_
  refine g_getV (nx := 37) (nI (u)) F dX9_add_34 rfl fl_RX9_13 rfl (by decide) (by decide) rfl rfl (hu) ?_
  refine g_iconst (nx := 38) (1) F dX9_add_37 rfl rfl ?_
  refine g_iadd (nx := 39) F dX9_add_38 rfl ?_
  rw [nI_1]
  refine g_putI (nx := 42) F dX9_add_39 rfl fl_RX9_13 fi_8_1 rfl (by decide) (by decide) rfl rfl ?_
  refine g_iinc (nx := 45) (-8) F dX9_add_42 rfl rfl (by decide) (by decide) ?_
  try dsimp only [List.set]
  rw [show (24 : Int32) + -8 = 16 from rfl]
  refine g_goto 3 F dX9_add_45 (by decide) ?_
  
  refine g_st (feB 1 1 2 _ (u) (v >>> (24 &&& 31))) (by unfold feB; rw [i8_twice] <;> rfl) ?_
  refine g_iload_n (nx := 4) 2 F dX9_add_3 rfl rfl rfl ?_
  refine g_if_lt (nx := 7) 48 F dX9_add_4 rfl (by decide) (fun c_4 => absurd c_4 (by decide)) (fun c_4 => ?_)
  refine g_aload_n (nx := 8) 0 F dX9_add_7 rfl rfl rfl ?_
  refine g_getV (nx := 11) (nI (u + 1)) F dX9_add_8 rfl fl_RX9_13 rfl (by decide) (by decide) rfl rfl (rfl) ?_
  refine g_aload_n (nx := 12) 0 F dX9_add_11 rfl rfl rfl ?_
  refine g_getR (nx := 15) F dX9_add_12 rfl fl_RX9_9 rfl (by decide) (by decide) rfl ?_
  refine g_alen (nx := 16) F dX9_add_15 rfl rfl (Or.inl rfl) ?_
  refine g_icmp_ge (nx := 19) 48 F dX9_add_16 rfl (by decide) (fun c_16 => absurd c_16 (by exact nI_ge (a := u + 1) (b := 200) (by omega) (by omega))) (fun c_16 => ?_)
  refine g_aload_n (nx := 20) 0 F dX9_add_19 rfl rfl rfl ?_
  refine g_getR (nx := 23) F dX9_add_20 rfl fl_RX9_9 rfl (by decide) (by decide) rfl ?_
  refine g_aload_n (nx := 24) 0 F dX9_add_23 rfl rfl rfl ?_
  refine g_getV (nx := 27) (nI (u + 1)) F dX9_add_24 rfl fl_RX9_13 rfl (by decide) (by decide) rfl rfl (rfl) ?_
  refine g_iload_n (nx := 28) 1 F dX9_add_27 rfl rfl rfl ?_
  refine g_iload_n (nx := 29) 2 F dX9_add_28 rfl rfl rfl ?_
  refine g_ishr (nx := 30) F dX9_add_29 rfl ?_
  refine g_i2b (nx := 31) F dX9_add_30 rfl ?_
  show Gs X 31 _ (.int _ :: .int (nI (u + 1)) :: .ref 2 :: []) _
  refine g_bastN (nx := 32) (u + 1) F dX9_add_31 rfl rfl (by omega) ?_
  refine g_aload_n (nx := 33) 0 F dX9_add_32 rfl rfl rfl ?_
  refine g_dup (nx := 34) F dX9_add_33 rfl rfl ?_
  refine g_getV (nx := 37) (nI (u + 1)) F dX9_add_34 rfl fl_RX9_13 rfl (by decide) (by decide) rfl rfl (rfl) ?_
  refine g_iconst (nx := 38) (1) F dX9_add_37 rfl rfl ?_
  refine g_iadd (nx := 39) F dX9_add_38 rfl ?_
  rw [nI_1]
  refine g_putI (nx := 42) F dX9_add_39 rfl fl_RX9_13 fi_8_1 rfl (by decide) (by decide) rfl rfl ?_
  refine g_iinc (nx := 45) (-8) F dX9_add_42 rfl rfl (by decide) (by decide) ?_
  try dsimp only [List.set]
  rw [show (16 : Int32) + -8 = 8 from rfl]
  refine g_goto 3 F dX9_add_45 (by decide) ?_
  
  refine g_st (feB 1 1 2 _ (u + 1) (v >>> (16 &&& 31))) (by unfold feB; rw [i8_twice] <;> rfl) ?_
  refine g_iload_n (nx := 4) 2 F dX9_add_3 rfl rfl rfl ?_
  refine g_if_lt (nx := 7) 48 F dX9_add_4 rfl (by decide) (fun c_4 => absurd c_4 (by decide)) (fun c_4 => ?_)
  refine g_aload_n (nx := 8) 0 F dX9_add_7 rfl rfl rfl ?_
  refine g_getV (nx := 11) (nI (u + 2)) F dX9_add_8 rfl fl_RX9_13 rfl (by decide) (by decide) rfl rfl (rfl) ?_
  refine g_aload_n (nx := 12) 0 F dX9_add_11 rfl rfl rfl ?_
  refine g_getR (nx := 15) F dX9_add_12 rfl fl_RX9_9 rfl (by decide) (by decide) rfl ?_
  refine g_alen (nx := 16) F dX9_add_15 rfl rfl (Or.inl rfl) ?_
  refine g_icmp_ge (nx := 19) 48 F dX9_add_16 rfl (by decide) (fun c_16 => absurd c_16 (by exact nI_ge (a := u + 2) (b := 200) (by omega) (by omega))) (fun c_16 => ?_)
  refine g_aload_n (nx := 20) 0 F dX9_add_19 rfl rfl rfl ?_
  refine g_getR (nx := 23) F dX9_add_20 rfl fl_RX9_9 rfl (by decide) (by decide) rfl ?_
  refine g_aload_n (nx := 24) 0 F dX9_add_23 rfl rfl rfl ?_
  refine g_getV (nx := 27) (nI (u + 2)) F dX9_add_24 rfl fl_RX9_13 rfl (by decide) (by decide) rfl rfl (rfl) ?_
  refine g_iload_n (nx := 28) 1 F dX9_add_27 rfl rfl rfl ?_
  refine g_iload_n (nx := 29) 2 F dX9_add_28 rfl rfl rfl ?_
  refine g_ishr (nx := 30) F dX9_add_29 rfl ?_
  refine g_i2b (nx := 31) F dX9_add_30 rfl ?_
  show Gs X 31 _ (.int _ :: .int (nI (u + 2)) :: .ref 2 :: []) _
  refine g_bastN (nx := 32) (u + 2) F dX9_add_31 rfl rfl (by omega) ?_
  refine g_aload_n (nx := 33) 0 F dX9_add_32 rfl rfl rfl ?_
  refine g_dup (nx := 34) F dX9_add_33 rfl rfl ?_
  refine g_getV (nx := 37) (nI (u + 2)) F dX9_add_34 rfl fl_RX9_13 rfl (by decide) (by decide) rfl rfl (rfl) ?_
  refine g_iconst (nx := 38) (1) F dX9_add_37 rfl rfl ?_
  refine g_iadd (nx := 39) F dX9_add_38 rfl ?_
  rw [nI_1]
  refine g_putI (nx := 42) F dX9_add_39 rfl fl_RX9_13 fi_8_1 rfl (by decide) (by decide) rfl rfl ?_
  refine g_iinc (nx := 45) (-8) F dX9_add_42 rfl rfl (by decide) (by decide) ?_
  try dsimp only [List.set]
  rw [show (8 : Int32) + -8 = 0 from rfl]
  refine g_goto 3 F dX9_add_45 (by decide) ?_
  
  refine g_st (feB 1 1 2 _ (u + 2) (v >>> (8 &&& 31))) (by unfold feB; rw [i8_twice] <;> rfl) ?_
  refine g_iload_n (nx := 4) 2 F dX9_add_3 rfl rfl rfl ?_
  refine g_if_lt (nx := 7) 48 F dX9_add_4 rfl (by decide) (fun c_4 => absurd c_4 (by decide)) (fun c_4 => ?_)
  refine g_aload_n (nx := 8) 0 F dX9_add_7 rfl rfl rfl ?_
  refine g_getV (nx := 11) (nI (u + 3)) F dX9_add_8 rfl fl_RX9_13 rfl (by decide) (by decide) rfl rfl (rfl) ?_
  refine g_aload_n (nx := 12) 0 F dX9_add_11 rfl rfl rfl ?_
  refine g_getR (nx := 15) F dX9_add_12 rfl fl_RX9_9 rfl (by decide) (by decide) rfl ?_
  refine g_alen (nx := 16) F dX9_add_15 rfl rfl (Or.inl rfl) ?_
  refine g_icmp_ge (nx := 19) 48 F dX9_add_16 rfl (by decide) (fun c_16 => absurd c_16 (by exact nI_ge (a := u + 3) (b := 200) (by omega) (by omega))) (fun c_16 => ?_)
  refine g_aload_n (nx := 20) 0 F dX9_add_19 rfl rfl rfl ?_
  refine g_getR (nx := 23) F dX9_add_20 rfl fl_RX9_9 rfl (by decide) (by decide) rfl ?_
  refine g_aload_n (nx := 24) 0 F dX9_add_23 rfl rfl rfl ?_
  refine g_getV (nx := 27) (nI (u + 3)) F dX9_add_24 rfl fl_RX9_13 rfl (by decide) (by decide) rfl rfl (rfl) ?_
  refine g_iload_n (nx := 28) 1 F dX9_add_27 rfl rfl rfl ?_
  refine g_iload_n (nx := 29) 2 F dX9_add_28 rfl rfl rfl ?_
  refine g_ishr (nx := 30) F dX9_add_29 rfl ?_
  refine g_i2b (nx := 31) F dX9_add_30 rfl ?_
  show Gs X 31 _ (.int _ :: .int (nI (u + 3)) :: .ref 2 :: []) _
  refine g_bastN (nx := 32) (u + 3) F dX9_add_31 rfl rfl (by omega) ?_
  refine g_aload_n (nx := 33) 0 F dX9_add_32 rfl rfl rfl ?_
  refine g_dup (nx := 34) F dX9_add_33 rfl rfl ?_
  refine g_getV (nx := 37) (nI (u + 3)) F dX9_add_34 rfl fl_RX9_13 rfl (by decide) (by decide) rfl rfl (rfl) ?_
  refine g_iconst (nx := 38) (1) F dX9_add_37 rfl rfl ?_
  refine g_iadd (nx := 39) F dX9_add_38 rfl ?_
  rw [nI_1]
  refine g_putI (nx := 42) F dX9_add_39 rfl fl_RX9_13 fi_8_1 rfl (by decide) (by decide) rfl rfl ?_
  refine g_iinc (nx := 45) (-8) F dX9_add_42 rfl rfl (by decide) (by decide) ?_
  try dsimp only [List.set]
  rw [show (0 : Int32) + -8 = -8 from rfl]
  refine g_goto 3 F dX9_add_45 (by decide) ?_
  
  refine g_st (feB 1 1 2 _ (u + 3) (v >>> (0 &&& 31))) (by unfold feB; rw [i8_twice] <;> rfl) ?_
  refine g_iload_n (nx := 4) 2 F dX9_add_3 rfl rfl rfl ?_
  refine g_if_lt (nx := 7) 48 F dX9_add_4 rfl (by decide) (fun c_4 => ?_) (fun c_4 => absurd c_4 (by decide))
  refine g_vret F E dX9_add_48 ?_
  exact ⟨rfl, rfl⟩
set_option maxHeartbeats 4000000 in
set_option maxRecDepth 100000 in
theorem k_types (u : Nat) (v : Int32) (σ : zSt) (hu : σ 145 24 = nI u) (h : u + 4 ≤ 200) : Con mX12_types 0 [.ref 145, .int v] σ (fun r τ => r = none ∧ τ = feW 145 24 162 σ u v) := by
  refine Con.of (lv := [.ref 145, .int v, .long 0]) mk_X12_types rfl (Nat.le_of_ble_eq_true rfl) rfl (fun X F E => ?_)
  refine g_iconst (nx := 1) (3) F dX12_types_0 rfl rfl ?_
  refine g_istore_n (nx := 2) 2 F dX12_types_1 rfl rfl (by decide) ?_
  try dsimp only [List.set]
  
  refine g_iload_n (nx := 3) 2 F dX12_types_2 rfl rfl rfl ?_
  refine g_if_lt (nx := 6) 38 F dX12_types_3 rfl (by decide) (fun c_3 => absurd c_3 (by decide)) (fun c_3 => ?_)
  refine g_aload_n (nx := 7) 0 F dX12_types_6 rfl rfl rfl ?_
  refine g_getR (nx := 10) F dX12_types_7 rfl fl_RX12_58 rfl (by decide) (by decide) rfl ?_
  refine g_aload_n (nx := 11) 0 F dX12_types_10 rfl rfl rfl ?_
  refine g_getV (nx := 14) (nI (u)) F dX12_types_11 rfl fl_RX12_186 rfl (by decide) (by decide) rfl rfl (hu) ?_
  refine g_iload_n (nx := 15) 1 F dX12_types_14 rfl rfl rfl ?_
  refine g_bipush (nx := 17) (8) F dX12_types_15 rfl (by decide) ?_
  refine g_iload_n (nx := 18) 2 F dX12_types_17 rfl rfl rfl ?_
  refine g_imul (nx := 19) F dX12_types_18 rfl ?_
  refine g_ishr (nx := 20) F dX12_types_19 rfl ?_
  refine g_i2b (nx := 21) F dX12_types_20 rfl ?_
  refine g_bastN (nx := 22) (u) F dX12_types_21 rfl rfl (by omega) ?_
  refine g_aload_n (nx := 23) 0 F dX12_types_22 rfl rfl rfl ?_
  refine g_aload_n (nx := 24) 0 F dX12_types_23 rfl rfl rfl ?_
  refine g_getV (nx := 27) (nI (u)) F dX12_types_24 rfl fl_RX12_186 rfl (by decide) (by decide) rfl rfl (hu) ?_
  refine g_iconst (nx := 28) (1) F dX12_types_27 rfl rfl ?_
  refine g_iadd (nx := 29) F dX12_types_28 rfl ?_
  rw [nI_1]
  refine g_putI (nx := 32) F dX12_types_29 rfl fl_RX12_186 fi_11_24 rfl (by decide) (by decide) rfl rfl ?_
  refine g_iinc (nx := 35) (-1) F dX12_types_32 rfl rfl (by decide) (by decide) ?_
  try dsimp only [List.set]
  rw [show (3 : Int32) + -1 = 2 from rfl]
  refine g_goto 2 F dX12_types_35 (by decide) ?_
  
  refine g_st (feB 145 24 162 _ (u) (v >>> (24 &&& 31))) (by unfold feB; rw [i8_twice] <;> rfl) ?_
  refine g_iload_n (nx := 3) 2 F dX12_types_2 rfl rfl rfl ?_
  refine g_if_lt (nx := 6) 38 F dX12_types_3 rfl (by decide) (fun c_3 => absurd c_3 (by decide)) (fun c_3 => ?_)
  refine g_aload_n (nx := 7) 0 F dX12_types_6 rfl rfl rfl ?_
  refine g_getR (nx := 10) F dX12_types_7 rfl fl_RX12_58 rfl (by decide) (by decide) rfl ?_
  refine g_aload_n (nx := 11) 0 F dX12_types_10 rfl rfl rfl ?_
  refine g_getV (nx := 14) (nI (u + 1)) F dX12_types_11 rfl fl_RX12_186 rfl (by decide) (by decide) rfl rfl (rfl) ?_
  refine g_iload_n (nx := 15) 1 F dX12_types_14 rfl rfl rfl ?_
  refine g_bipush (nx := 17) (8) F dX12_types_15 rfl (by decide) ?_
  refine g_iload_n (nx := 18) 2 F dX12_types_17 rfl rfl rfl ?_
  refine g_imul (nx := 19) F dX12_types_18 rfl ?_
  refine g_ishr (nx := 20) F dX12_types_19 rfl ?_
  refine g_i2b (nx := 21) F dX12_types_20 rfl ?_
  refine g_bastN (nx := 22) (u + 1) F dX12_types_21 rfl rfl (by omega) ?_
  refine g_aload_n (nx := 23) 0 F dX12_types_22 rfl rfl rfl ?_
  refine g_aload_n (nx := 24) 0 F dX12_types_23 rfl rfl rfl ?_
  refine g_getV (nx := 27) (nI (u + 1)) F dX12_types_24 rfl fl_RX12_186 rfl (by decide) (by decide) rfl rfl (rfl) ?_
  refine g_iconst (nx := 28) (1) F dX12_types_27 rfl rfl ?_
  refine g_iadd (nx := 29) F dX12_types_28 rfl ?_
  rw [nI_1]
  refine g_putI (nx := 32) F dX12_types_29 rfl fl_RX12_186 fi_11_24 rfl (by decide) (by decide) rfl rfl ?_
  refine g_iinc (nx := 35) (-1) F dX12_types_32 rfl rfl (by decide) (by decide) ?_
  try dsimp only [List.set]
  rw [show (2 : Int32) + -1 = 1 from rfl]
  refine g_goto 2 F dX12_types_35 (by decide) ?_
  
  refine g_st (feB 145 24 162 _ (u + 1) (v >>> (16 &&& 31))) (by unfold feB; rw [i8_twice] <;> rfl) ?_
  refine g_iload_n (nx := 3) 2 F dX12_types_2 rfl rfl rfl ?_
  refine g_if_lt (nx := 6) 38 F dX12_types_3 rfl (by decide) (fun c_3 => absurd c_3 (by decide)) (fun c_3 => ?_)
  refine g_aload_n (nx := 7) 0 F dX12_types_6 rfl rfl rfl ?_
  refine g_getR (nx := 10) F dX12_types_7 rfl fl_RX12_58 rfl (by decide) (by decide) rfl ?_
  refine g_aload_n (nx := 11) 0 F dX12_types_10 rfl rfl rfl ?_
  refine g_getV (nx := 14) (nI (u + 2)) F dX12_types_11 rfl fl_RX12_186 rfl (by decide) (by decide) rfl rfl (rfl) ?_
  refine g_iload_n (nx := 15) 1 F dX12_types_14 rfl rfl rfl ?_
  refine g_bipush (nx := 17) (8) F dX12_types_15 rfl (by decide) ?_
  refine g_iload_n (nx := 18) 2 F dX12_types_17 rfl rfl rfl ?_
  refine g_imul (nx := 19) F dX12_types_18 rfl ?_
  refine g_ishr (nx := 20) F dX12_types_19 rfl ?_
  refine g_i2b (nx := 21) F dX12_types_20 rfl ?_
  refine g_bastN (nx := 22) (u + 2) F dX12_types_21 rfl rfl (by omega) ?_
  refine g_aload_n (nx := 23) 0 F dX12_types_22 rfl rfl rfl ?_
  refine g_aload_n (nx := 24) 0 F dX12_types_23 rfl rfl rfl ?_
  refine g_getV (nx := 27) (nI (u + 2)) F dX12_types_24 rfl fl_RX12_186 rfl (by decide) (by decide) rfl rfl (rfl) ?_
  refine g_iconst (nx := 28) (1) F dX12_types_27 rfl rfl ?_
  refine g_iadd (nx := 29) F dX12_types_28 rfl ?_
  rw [nI_1]
  refine g_putI (nx := 32) F dX12_types_29 rfl fl_RX12_186 fi_11_24 rfl (by decide) (by decide) rfl rfl ?_
  refine g_iinc (nx := 35) (-1) F dX12_types_32 rfl rfl (by decide) (by decide) ?_
  try dsimp only [List.set]
  rw [show (1 : Int32) + -1 = 0 from rfl]
  refine g_goto 2 F dX12_types_35 (by decide) ?_
  
  refine g_st (feB 145 24 162 _ (u + 2) (v >>> (8 &&& 31))) (by unfold feB; rw [i8_twice] <;> rfl) ?_
  refine g_iload_n (nx := 3) 2 F dX12_types_2 rfl rfl rfl ?_
  refine g_if_lt (nx := 6) 38 F dX12_types_3 rfl (by decide) (fun c_3 => absurd c_3 (by decide)) (fun c_3 => ?_)
  refine g_aload_n (nx := 7) 0 F dX12_types_6 rfl rfl rfl ?_
  refine g_getR (nx := 10) F dX12_types_7 rfl fl_RX12_58 rfl (by decide) (by decide) rfl ?_
  refine g_aload_n (nx := 11) 0 F dX12_types_10 rfl rfl rfl ?_
  refine g_getV (nx := 14) (nI (u + 3)) F dX12_types_11 rfl fl_RX12_186 rfl (by decide) (by decide) rfl rfl (rfl) ?_
  refine g_iload_n (nx := 15) 1 F dX12_types_14 rfl rfl rfl ?_
  refine g_bipush (nx := 17) (8) F dX12_types_15 rfl (by decide) ?_
  refine g_iload_n (nx := 18) 2 F dX12_types_17 rfl rfl rfl ?_
  refine g_imul (nx := 19) F dX12_types_18 rfl ?_
  refine g_ishr (nx := 20) F dX12_types_19 rfl ?_
  refine g_i2b (nx := 21) F dX12_types_20 rfl ?_
  refine g_bastN (nx := 22) (u + 3) F dX12_types_21 rfl rfl (by omega) ?_
  refine g_aload_n (nx := 23) 0 F dX12_types_22 rfl rfl rfl ?_
  refine g_aload_n (nx := 24) 0 F dX12_types_23 rfl rfl rfl ?_
  refine g_getV (nx := 27) (nI (u + 3)) F dX12_types_24 rfl fl_RX12_186 rfl (by decide) (by decide) rfl rfl (rfl) ?_
  refine g_iconst (nx := 28) (1) F dX12_types_27 rfl rfl ?_
  refine g_iadd (nx := 29) F dX12_types_28 rfl ?_
  rw [nI_1]
  refine g_putI (nx := 32) F dX12_types_29 rfl fl_RX12_186 fi_11_24 rfl (by decide) (by decide) rfl rfl ?_
  refine g_iinc (nx := 35) (-1) F dX12_types_32 rfl rfl (by decide) (by decide) ?_
  try dsimp only [List.set]
  rw [show (0 : Int32) + -1 = -1 from rfl]
  refine g_goto 2 F dX12_types_35 (by decide) ?_
  
  refine g_st (feB 145 24 162 _ (u + 3) (v >>> (0 &&& 31))) (by unfold feB; rw [i8_twice] <;> rfl) ?_
  refine g_iload_n (nx := 3) 2 F dX12_types_2 rfl rfl rfl ?_
  refine g_if_lt (nx := 6) 38 F dX12_types_3 rfl (by decide) (fun c_3 => ?_) (fun c_3 => absurd c_3 (by decide))
  refine g_vret F E dX12_types_38 ?_
  exact ⟨rfl, rfl⟩
def feA (ob fd ar : Nat) (σ : zSt) (u : Nat) (a b c d e : Int32) : zSt := feW ob fd ar (feW ob fd ar (feW ob fd ar (feW ob fd ar (feW ob fd ar σ u a) (u + 4) b) (u + 8) c) (u + 12) d) (u + 16) e
set_option maxHeartbeats 4000000 in
set_option maxRecDepth 100000 in
theorem c_feed (u : Nat) (a b c d e : Int32) (σ : zSt) (hu : σ 1 1 = nI u) (h : u ≤ 200) : Con mX11_feed 1 [.ref 0, .int a, .int b, .int c, .int d, .int e] σ (fun r τ => ((u + 20 ≤ 200) ∧ r = some (.int (nI (u + 20))) ∧ τ = feA 1 1 2 σ u a b c d e) ∨ (¬ (u + 20 ≤ 200) ∧ r = some (.int (-1)) ∧ τ = σ)) := by
  refine Con.of (lv := [.ref 0, .int a, .int b, .int c, .int d, .int e]) mk_X11_feed rfl (Nat.le_of_ble_eq_true rfl) rfl (fun X F E => ?_)
  by_cases hA : u + 20 ≤ 200
  · refine g_aload_n (nx := 1) 0 F dX11_feed_0 rfl rfl rfl ?_
    refine g_getR (nx := 4) F dX11_feed_1 rfl fl_RX11_10 rfl (by decide) (by decide) rfl ?_
    refine g_getV (nx := 7) (nI u) F dX11_feed_4 rfl fl_RX11_119 rfl (by decide) (by decide) rfl rfl (hu) ?_
    refine g_bipush (nx := 9) (20) F dX11_feed_7 rfl (by decide) ?_
    refine g_iadd (nx := 10) F dX11_feed_9 rfl ?_
    rw [show (20 : Int32) = nI 20 from rfl, nI_add]
    refine g_sipush (nx := 13) (200) F dX11_feed_10 rfl (by decide) ?_
    refine g_icmp_le (nx := 16) 18 F dX11_feed_13 rfl (by decide) (fun c_13 => ?_) (fun c_13 => absurd c_13 (by exact fun zq => zq (nI_le (a := u + 20) (b := 200) (by omega) (by omega))))
    refine g_aload_n (nx := 19) 0 F dX11_feed_18 rfl rfl rfl ?_
    refine g_getR (nx := 22) F dX11_feed_19 rfl fl_RX11_10 rfl (by decide) (by decide) rfl ?_
    refine g_iload_n (nx := 23) 1 F dX11_feed_22 rfl rfl rfl ?_
    refine g_callV (nx := 26) 1 0 [.int a] F dX11_feed_23 rfl ml_RX11_122 mo_X9_add rfl rfl rfl rfl (Nat.le_of_ble_eq_true rfl) (by first | decide | omega) (c_add u a _ hu (by omega)) (fun r_23 τ_23 q_23 => ?_)
    obtain ⟨rfl, et_23⟩ := q_23
    have et_23 := et_23.symm
    subst et_23
    dsimp only [Option.toList, List.append, List.cons_append, List.nil_append]
    refine g_aload_n (nx := 27) 0 F dX11_feed_26 rfl rfl rfl ?_
    refine g_getR (nx := 30) F dX11_feed_27 rfl fl_RX11_10 rfl (by decide) (by decide) rfl ?_
    refine g_iload_n (nx := 31) 2 F dX11_feed_30 rfl rfl rfl ?_
    refine g_callV (nx := 34) 1 0 [.int b] F dX11_feed_31 rfl ml_RX11_122 mo_X9_add rfl rfl rfl rfl (Nat.le_of_ble_eq_true rfl) (by first | decide | omega) (c_add (u + 4) b _ (feW_u _ _ _ _ _ _) (by omega)) (fun r_31 τ_31 q_31 => ?_)
    obtain ⟨rfl, et_31⟩ := q_31
    have et_31 := et_31.symm
    subst et_31
    dsimp only [Option.toList, List.append, List.cons_append, List.nil_append]
    refine g_aload_n (nx := 35) 0 F dX11_feed_34 rfl rfl rfl ?_
    refine g_getR (nx := 38) F dX11_feed_35 rfl fl_RX11_10 rfl (by decide) (by decide) rfl ?_
    refine g_iload_n (nx := 39) 3 F dX11_feed_38 rfl rfl rfl ?_
    refine g_callV (nx := 42) 1 0 [.int c] F dX11_feed_39 rfl ml_RX11_122 mo_X9_add rfl rfl rfl rfl (Nat.le_of_ble_eq_true rfl) (by first | decide | omega) (c_add (u + 8) c _ (feW_u _ _ _ _ _ _) (by omega)) (fun r_39 τ_39 q_39 => ?_)
    obtain ⟨rfl, et_39⟩ := q_39
    have et_39 := et_39.symm
    subst et_39
    dsimp only [Option.toList, List.append, List.cons_append, List.nil_append]
    refine g_aload_n (nx := 43) 0 F dX11_feed_42 rfl rfl rfl ?_
    refine g_getR (nx := 46) F dX11_feed_43 rfl fl_RX11_10 rfl (by decide) (by decide) rfl ?_
    refine g_iload (nx := 48) F dX11_feed_46 rfl rfl ?_
    refine g_callV (nx := 51) 1 0 [.int d] F dX11_feed_48 rfl ml_RX11_122 mo_X9_add rfl rfl rfl rfl (Nat.le_of_ble_eq_true rfl) (by first | decide | omega) (c_add (u + 12) d _ (feW_u _ _ _ _ _ _) (by omega)) (fun r_48 τ_48 q_48 => ?_)
    obtain ⟨rfl, et_48⟩ := q_48
    have et_48 := et_48.symm
    subst et_48
    dsimp only [Option.toList, List.append, List.cons_append, List.nil_append]
    refine g_aload_n (nx := 52) 0 F dX11_feed_51 rfl rfl rfl ?_
    refine g_getR (nx := 55) F dX11_feed_52 rfl fl_RX11_10 rfl (by decide) (by decide) rfl ?_
    refine g_iload (nx := 57) F dX11_feed_55 rfl rfl ?_
    refine g_callV (nx := 60) 1 0 [.int e] F dX11_feed_57 rfl ml_RX11_122 mo_X9_add rfl rfl rfl rfl (Nat.le_of_ble_eq_true rfl) (by first | decide | omega) (c_add (u + 16) e _ (feW_u _ _ _ _ _ _) (by omega)) (fun r_57 τ_57 q_57 => ?_)
    obtain ⟨rfl, et_57⟩ := q_57
    have et_57 := et_57.symm
    subst et_57
    dsimp only [Option.toList, List.append, List.cons_append, List.nil_append]
    refine g_aload_n (nx := 61) 0 F dX11_feed_60 rfl rfl rfl ?_
    refine g_getR (nx := 64) F dX11_feed_61 rfl fl_RX11_10 rfl (by decide) (by decide) rfl ?_
    refine g_getV (nx := 67) (nI (u + 20)) F dX11_feed_64 rfl fl_RX11_119 rfl (by decide) (by decide) rfl rfl (feW_u _ _ _ _ _ _) ?_
    refine g_iret F E dX11_feed_67 ?_
    exact Or.inl ⟨hA, rfl, rfl⟩
  · refine g_aload_n (nx := 1) 0 F dX11_feed_0 rfl rfl rfl ?_
    refine g_getR (nx := 4) F dX11_feed_1 rfl fl_RX11_10 rfl (by decide) (by decide) rfl ?_
    refine g_getV (nx := 7) (nI u) F dX11_feed_4 rfl fl_RX11_119 rfl (by decide) (by decide) rfl rfl (hu) ?_
    refine g_bipush (nx := 9) (20) F dX11_feed_7 rfl (by decide) ?_
    refine g_iadd (nx := 10) F dX11_feed_9 rfl ?_
    refine g_sipush (nx := 13) (200) F dX11_feed_10 rfl (by decide) ?_
    refine g_icmp_le (nx := 16) 18 F dX11_feed_13 rfl (by decide) (fun c_13 => ?_) (fun c_13 => ?_)
    · exact absurd c_13 (by rw [show (20 : Int32) = nI 20 from rfl, nI_add]; exact nI_ge (a := 200) (b := u + 20) (by omega) (by omega))
    · refine g_iconst (nx := 17) (-1) F dX11_feed_16 rfl rfl ?_
      refine g_iret F E dX11_feed_17 ?_
      exact Or.inr ⟨hA, rfl, rfl⟩
set_option maxHeartbeats 4000000 in
set_option maxRecDepth 100000 in
theorem k_feed (u : Nat) (a b c d e : Int32) (σ : zSt) (hu : σ 145 24 = nI u) (h : u ≤ 200) : Con mX12_feed 1 [.ref 145, .int a, .int b, .int c, .int d, .int e] σ (fun r τ => ((u + 20 ≤ 200) ∧ r = some (.int (nI (u + 20))) ∧ τ = feA 145 24 162 σ u a b c d e) ∨ (¬ (u + 20 ≤ 200) ∧ r = some (.int (-1)) ∧ τ = σ)) := by
  refine Con.of (lv := [.ref 145, .int a, .int b, .int c, .int d, .int e]) mk_X12_feed rfl (Nat.le_of_ble_eq_true rfl) rfl (fun X F E => ?_)
  by_cases hA : u + 20 ≤ 200
  · refine g_aload_n (nx := 1) 0 F dX12_feed_0 rfl rfl rfl ?_
    refine g_getV (nx := 4) (nI u) F dX12_feed_1 rfl fl_RX12_186 rfl (by decide) (by decide) rfl rfl (hu) ?_
    refine g_bipush (nx := 6) (20) F dX12_feed_4 rfl (by decide) ?_
    refine g_iadd (nx := 7) F dX12_feed_6 rfl ?_
    rw [show (20 : Int32) = nI 20 from rfl, nI_add]
    refine g_sipush (nx := 10) (200) F dX12_feed_7 rfl (by decide) ?_
    refine g_icmp_le (nx := 13) 15 F dX12_feed_10 rfl (by decide) (fun c_10 => ?_) (fun c_10 => absurd c_10 (by exact fun zq => zq (nI_le (a := u + 20) (b := 200) (by omega) (by omega))))
    refine g_aload_n (nx := 16) 0 F dX12_feed_15 rfl rfl rfl ?_
    refine g_iload_n (nx := 17) 1 F dX12_feed_16 rfl rfl rfl ?_
    refine g_callV (nx := 20) 1 0 [.int a] F dX12_feed_17 rfl ml_RX12_189 mo_X12_types rfl rfl rfl rfl (Nat.le_of_ble_eq_true rfl) (by first | decide | omega) (k_types u a _ hu (by omega)) (fun r_17 τ_17 q_17 => ?_)
    obtain ⟨rfl, et_17⟩ := q_17
    have et_17 := et_17.symm
    subst et_17
    dsimp only [Option.toList, List.append, List.cons_append, List.nil_append]
    refine g_aload_n (nx := 21) 0 F dX12_feed_20 rfl rfl rfl ?_
    refine g_iload_n (nx := 22) 2 F dX12_feed_21 rfl rfl rfl ?_
    refine g_callV (nx := 25) 1 0 [.int b] F dX12_feed_22 rfl ml_RX12_189 mo_X12_types rfl rfl rfl rfl (Nat.le_of_ble_eq_true rfl) (by first | decide | omega) (k_types (u + 4) b _ (feW_u _ _ _ _ _ _) (by omega)) (fun r_22 τ_22 q_22 => ?_)
    obtain ⟨rfl, et_22⟩ := q_22
    have et_22 := et_22.symm
    subst et_22
    dsimp only [Option.toList, List.append, List.cons_append, List.nil_append]
    refine g_aload_n (nx := 26) 0 F dX12_feed_25 rfl rfl rfl ?_
    refine g_iload_n (nx := 27) 3 F dX12_feed_26 rfl rfl rfl ?_
    refine g_callV (nx := 30) 1 0 [.int c] F dX12_feed_27 rfl ml_RX12_189 mo_X12_types rfl rfl rfl rfl (Nat.le_of_ble_eq_true rfl) (by first | decide | omega) (k_types (u + 8) c _ (feW_u _ _ _ _ _ _) (by omega)) (fun r_27 τ_27 q_27 => ?_)
    obtain ⟨rfl, et_27⟩ := q_27
    have et_27 := et_27.symm
    subst et_27
    dsimp only [Option.toList, List.append, List.cons_append, List.nil_append]
    refine g_aload_n (nx := 31) 0 F dX12_feed_30 rfl rfl rfl ?_
    refine g_iload (nx := 33) F dX12_feed_31 rfl rfl ?_
    refine g_callV (nx := 36) 1 0 [.int d] F dX12_feed_33 rfl ml_RX12_189 mo_X12_types rfl rfl rfl rfl (Nat.le_of_ble_eq_true rfl) (by first | decide | omega) (k_types (u + 12) d _ (feW_u _ _ _ _ _ _) (by omega)) (fun r_33 τ_33 q_33 => ?_)
    obtain ⟨rfl, et_33⟩ := q_33
    have et_33 := et_33.symm
    subst et_33
    dsimp only [Option.toList, List.append, List.cons_append, List.nil_append]
    refine g_aload_n (nx := 37) 0 F dX12_feed_36 rfl rfl rfl ?_
    refine g_iload (nx := 39) F dX12_feed_37 rfl rfl ?_
    refine g_callV (nx := 42) 1 0 [.int e] F dX12_feed_39 rfl ml_RX12_189 mo_X12_types rfl rfl rfl rfl (Nat.le_of_ble_eq_true rfl) (by first | decide | omega) (k_types (u + 16) e _ (feW_u _ _ _ _ _ _) (by omega)) (fun r_39 τ_39 q_39 => ?_)
    obtain ⟨rfl, et_39⟩ := q_39
    have et_39 := et_39.symm
    subst et_39
    dsimp only [Option.toList, List.append, List.cons_append, List.nil_append]
    refine g_aload_n (nx := 43) 0 F dX12_feed_42 rfl rfl rfl ?_
    refine g_getV (nx := 46) (nI (u + 20)) F dX12_feed_43 rfl fl_RX12_186 rfl (by decide) (by decide) rfl rfl (feW_u _ _ _ _ _ _) ?_
    refine g_iret F E dX12_feed_46 ?_
    exact Or.inl ⟨hA, rfl, rfl⟩
  · refine g_aload_n (nx := 1) 0 F dX12_feed_0 rfl rfl rfl ?_
    refine g_getV (nx := 4) (nI u) F dX12_feed_1 rfl fl_RX12_186 rfl (by decide) (by decide) rfl rfl (hu) ?_
    refine g_bipush (nx := 6) (20) F dX12_feed_4 rfl (by decide) ?_
    refine g_iadd (nx := 7) F dX12_feed_6 rfl ?_
    refine g_sipush (nx := 10) (200) F dX12_feed_7 rfl (by decide) ?_
    refine g_icmp_le (nx := 13) 15 F dX12_feed_10 rfl (by decide) (fun c_10 => ?_) (fun c_10 => ?_)
    · exact absurd c_10 (by rw [show (20 : Int32) = nI 20 from rfl, nI_add]; exact nI_ge (a := 200) (b := u + 20) (by omega) (by omega))
    · refine g_iconst (nx := 14) (-1) F dX12_feed_13 rfl rfl ?_
      refine g_iret F E dX12_feed_14 ?_
      exact Or.inr ⟨hA, rfl, rfl⟩
