/-! TEXTS by their addresses -/
def txl : List Nat := [61, 67, 73, 79, 85, 91, 97, 103, 109, 115, 121, 127, 133, 139]
abbrev isT (t : Nat) : Prop := t ∈ txl
theorem tx_all : ∀ t ∈ txl, zk t = (9, 7) ∧ zk (t + 1) = (13, 160) ∧ zk (t + 2) = (13, 12) ∧ zk (t + 3) = (13, 12) ∧ zk (t + 4) = (13, 12) ∧ zk (t + 5) = (13, 12) ∧ zrf t 0 = some (t + 1) ∧ zrf t 1 = none ∧ zrf t 2 = some (t + 2) ∧ zrf t 3 = some (t + 3) ∧ zrf t 4 = some (t + 4) ∧ zrf t 5 = some (t + 5) ∧ zrf t 6 = none := by decide +kernel
theorem tx_k {t : Nat} (h : isT t) : zk t = (9, 7) := (tx_all t h).1
theorem tx_k1 {t : Nat} (h : isT t) : zk (t + 1) = (13, 160) := (tx_all t h).2.1
theorem tx_k2 {t : Nat} (h : isT t) : zk (t + 2) = (13, 12) := (tx_all t h).2.2.1
theorem tx_k3 {t : Nat} (h : isT t) : zk (t + 3) = (13, 12) := (tx_all t h).2.2.2.1
theorem tx_k4 {t : Nat} (h : isT t) : zk (t + 4) = (13, 12) := (tx_all t h).2.2.2.2.1
theorem tx_k5 {t : Nat} (h : isT t) : zk (t + 5) = (13, 12) := (tx_all t h).2.2.2.2.2.1
theorem tx_0 {t : Nat} (h : isT t) : zrf t 0 = some (t + 1) := (tx_all t h).2.2.2.2.2.2.1
theorem tx_1 {t : Nat} (h : isT t) : zrf t 1 = none := (tx_all t h).2.2.2.2.2.2.2.1
theorem tx_2 {t : Nat} (h : isT t) : zrf t 2 = some (t + 2) := (tx_all t h).2.2.2.2.2.2.2.2.1
theorem tx_3 {t : Nat} (h : isT t) : zrf t 3 = some (t + 3) := (tx_all t h).2.2.2.2.2.2.2.2.2.1
theorem tx_4 {t : Nat} (h : isT t) : zrf t 4 = some (t + 4) := (tx_all t h).2.2.2.2.2.2.2.2.2.2.1
theorem tx_5 {t : Nat} (h : isT t) : zrf t 5 = some (t + 5) := (tx_all t h).2.2.2.2.2.2.2.2.2.2.2.1
theorem tx_6 {t : Nat} (h : isT t) : zrf t 6 = none := (tx_all t h).2.2.2.2.2.2.2.2.2.2.2.2
theorem tx_rng {t : Nat} (h : isT t) : 61 ≤ t ∧ t + 5 < 145 := by
  have h0 : ∀ t ∈ txl, 61 ≤ t ∧ t + 5 < 145 := by decide +kernel
  exact h0 t h
/-- FILE IS, CLERK IS, COUNT -/
def fsel (a0 a1 a2 a3 a4 a5 a6 w : Int32) : Int32 := if w.toInt = 0 then a0 else if w.toInt = 1 then a1 else if w.toInt = 2 then a2 else if w.toInt = 3 then a3 else if w.toInt = 4 then a4 else if w.toInt = 5 then a5 else if w.toInt = 6 then a6 else -1
def csel (a0 a1 a2 a3 w : Int32) : Int32 := if w.toInt = 0 then a0 else if w.toInt = 1 then a1 else if w.toInt = 2 then a2 else if w.toInt = 3 then a3 else -1000000000
def nsel (a0 a1 a2 a3 a4 a5 a6 a7 a8 a9 a10 : Int32) (cw : Nat → Int32) (c : Nat) (w : Int32) : Int32 := if w.toInt = 0 then a0 else if w.toInt = 1 then a1 else if w.toInt = 2 then a2 else if w.toInt = 3 then a3 else if w.toInt = 4 then a4 else if w.toInt = 5 then a5 else if w.toInt = 6 then a6 else if w.toInt = 7 then a7 else if w.toInt = 8 then a8 else if w.toInt = 9 then a9 else if w.toInt = 10 then a10 else if 20 ≤ w.toInt ∧ w.toInt < 20 + c then cw (w.toInt.toNat - 20) else -1
set_option maxHeartbeats 4000000 in
set_option maxRecDepth 100000 in
theorem c_fileIs (f : Nat) (j w : Int32) (σ : zSt) (hf : σ 3 11 = nI f) (h : f ≤ 40) : Con mX11_fileIs 1 [.ref 0, .int j, .int w] σ (fun r τ => r = some (.int (if 0 ≤ j.toInt ∧ j.toInt < (nI f).toInt then fsel (σ 18 j.toInt.toNat) (σ 19 j.toInt.toNat) (σ 20 j.toInt.toNat) (σ 21 j.toInt.toNat) (σ 22 j.toInt.toNat) (σ 23 j.toInt.toNat) (σ 12 j.toInt.toNat) w else -1)) ∧ τ = σ) := by
  refine Con.of (lv := [.ref 0, .int j, .int w]) mk_X11_fileIs rfl (Nat.le_of_ble_eq_true rfl) rfl (fun X F E => ?_)
  by_cases hA : 0 ≤ j.toInt ∧ j.toInt < (nI f).toInt
  · obtain ⟨J, hJ, eJ⟩ := nI_rng (n := 39) (x := j) (by omega) (by have := nI_toInt (n := f) (by omega); omega)
    subst eJ
    have eJ : (nI J).toInt = J := nI_toInt (by omega)
    have hJf : J < f := by have := nI_toInt (n := f) (by omega); omega
    refine g_aload_n (nx := 1) 0 F dX11_fileIs_0 rfl rfl rfl ?_
    refine g_getR (nx := 4) F dX11_fileIs_1 rfl fl_RX11_19 rfl (by decide) (by decide) rfl ?_
    refine g_iload_n (nx := 5) 1 F dX11_fileIs_4 rfl rfl rfl ?_
    refine g_callV (nx := 8) 1 0 [.int (nI J)] F dX11_fileIs_5 rfl ml_RX11_166 mo_X2_isFile rfl rfl rfl rfl (Nat.le_of_ble_eq_true rfl) (by first | decide | omega) (c_isFile (nI J) _) (fun r_5 τ_5 q_5 => ?_)
    obtain ⟨rfl, et_5⟩ := q_5
    have et_5 := et_5.symm
    subst et_5
    dsimp only [Option.toList, List.append, List.cons_append, List.nil_append]
    refine g_if_ne (nx := 11) 13 F dX11_fileIs_8 rfl (by decide) (fun c_8 => ?_) (fun c_8 => absurd c_8 (by exact bI_n0.mpr (by rw [hf]; omega)))
    refine g_iload_n (nx := 14) 2 F dX11_fileIs_13 rfl rfl rfl ?_
    rcases (show w.toInt = 0 ∨ w.toInt = 1 ∨ w.toInt = 2 ∨ w.toInt = 3 ∨ w.toInt = 4 ∨ w.toInt = 5 ∨ w.toInt = 6 ∨ (w.toInt < 0 ∨ 6 < w.toInt) by omega) with w_0 | w_1 | w_2 | w_3 | w_4 | w_5 | w_6 | w_7
    · refine g_tabN 0 56 F dX11_fileIs_14 (by omega) (by omega) rfl (by decide) ?_
      refine g_aload_n (nx := 57) 0 F dX11_fileIs_56 rfl rfl rfl ?_
      refine g_getR (nx := 60) F dX11_fileIs_57 rfl fl_RX11_44 rfl (by decide) (by decide) rfl ?_
      refine g_getR (nx := 63) F dX11_fileIs_60 rfl fl_RX11_169 rfl (by decide) (by decide) rfl ?_
      refine g_iload_n (nx := 64) 1 F dX11_fileIs_63 rfl rfl rfl ?_
      refine g_ialdN (nx := 65) (J) (_) F dX11_fileIs_64 rfl rfl (by omega) (rfl) ?_
      refine g_iret F E dX11_fileIs_65 ?_
      refine ⟨congrArg (fun z => some (Value.int z)) ?_, rfl⟩
      rw [if_pos hA, nI_tn (by omega)]
      unfold fsel
      rw [if_pos (by omega)]
    · refine g_tabN 1 66 F dX11_fileIs_14 (by omega) (by omega) rfl (by decide) ?_
      refine g_aload_n (nx := 67) 0 F dX11_fileIs_66 rfl rfl rfl ?_
      refine g_getR (nx := 70) F dX11_fileIs_67 rfl fl_RX11_44 rfl (by decide) (by decide) rfl ?_
      refine g_getR (nx := 73) F dX11_fileIs_70 rfl fl_RX11_173 rfl (by decide) (by decide) rfl ?_
      refine g_iload_n (nx := 74) 1 F dX11_fileIs_73 rfl rfl rfl ?_
      refine g_ialdN (nx := 75) (J) (_) F dX11_fileIs_74 rfl rfl (by omega) (rfl) ?_
      refine g_iret F E dX11_fileIs_75 ?_
      refine ⟨congrArg (fun z => some (Value.int z)) ?_, rfl⟩
      rw [if_pos hA, nI_tn (by omega)]
      unfold fsel
      rw [if_neg (by omega)]
      rw [if_pos (by omega)]
    · refine g_tabN 2 76 F dX11_fileIs_14 (by omega) (by omega) rfl (by decide) ?_
      refine g_aload_n (nx := 77) 0 F dX11_fileIs_76 rfl rfl rfl ?_
      refine g_getR (nx := 80) F dX11_fileIs_77 rfl fl_RX11_44 rfl (by decide) (by decide) rfl ?_
      refine g_getR (nx := 83) F dX11_fileIs_80 rfl fl_RX11_176 rfl (by decide) (by decide) rfl ?_
      refine g_iload_n (nx := 84) 1 F dX11_fileIs_83 rfl rfl rfl ?_
      refine g_ialdN (nx := 85) (J) (_) F dX11_fileIs_84 rfl rfl (by omega) (rfl) ?_
      refine g_iret F E dX11_fileIs_85 ?_
      refine ⟨congrArg (fun z => some (Value.int z)) ?_, rfl⟩
      rw [if_pos hA, nI_tn (by omega)]
      unfold fsel
      rw [if_neg (by omega)]
      rw [if_neg (by omega)]
      rw [if_pos (by omega)]
    · refine g_tabN 3 86 F dX11_fileIs_14 (by omega) (by omega) rfl (by decide) ?_
      refine g_aload_n (nx := 87) 0 F dX11_fileIs_86 rfl rfl rfl ?_
      refine g_getR (nx := 90) F dX11_fileIs_87 rfl fl_RX11_44 rfl (by decide) (by decide) rfl ?_
      refine g_getR (nx := 93) F dX11_fileIs_90 rfl fl_RX11_179 rfl (by decide) (by decide) rfl ?_
      refine g_iload_n (nx := 94) 1 F dX11_fileIs_93 rfl rfl rfl ?_
      refine g_ialdN (nx := 95) (J) (_) F dX11_fileIs_94 rfl rfl (by omega) (rfl) ?_
      refine g_iret F E dX11_fileIs_95 ?_
      refine ⟨congrArg (fun z => some (Value.int z)) ?_, rfl⟩
      rw [if_pos hA, nI_tn (by omega)]
      unfold fsel
      rw [if_neg (by omega)]
      rw [if_neg (by omega)]
      rw [if_neg (by omega)]
      rw [if_pos (by omega)]
    · refine g_tabN 4 96 F dX11_fileIs_14 (by omega) (by omega) rfl (by decide) ?_
      refine g_aload_n (nx := 97) 0 F dX11_fileIs_96 rfl rfl rfl ?_
      refine g_getR (nx := 100) F dX11_fileIs_97 rfl fl_RX11_44 rfl (by decide) (by decide) rfl ?_
      refine g_getR (nx := 103) F dX11_fileIs_100 rfl fl_RX11_182 rfl (by decide) (by decide) rfl ?_
      refine g_iload_n (nx := 104) 1 F dX11_fileIs_103 rfl rfl rfl ?_
      refine g_ialdN (nx := 105) (J) (_) F dX11_fileIs_104 rfl rfl (by omega) (rfl) ?_
      refine g_iret F E dX11_fileIs_105 ?_
      refine ⟨congrArg (fun z => some (Value.int z)) ?_, rfl⟩
      rw [if_pos hA, nI_tn (by omega)]
      unfold fsel
      rw [if_neg (by omega)]
      rw [if_neg (by omega)]
      rw [if_neg (by omega)]
      rw [if_neg (by omega)]
      rw [if_pos (by omega)]
    · refine g_tabN 5 106 F dX11_fileIs_14 (by omega) (by omega) rfl (by decide) ?_
      refine g_aload_n (nx := 107) 0 F dX11_fileIs_106 rfl rfl rfl ?_
      refine g_getR (nx := 110) F dX11_fileIs_107 rfl fl_RX11_44 rfl (by decide) (by decide) rfl ?_
      refine g_getR (nx := 113) F dX11_fileIs_110 rfl fl_RX11_185 rfl (by decide) (by decide) rfl ?_
      refine g_iload_n (nx := 114) 1 F dX11_fileIs_113 rfl rfl rfl ?_
      refine g_ialdN (nx := 115) (J) (_) F dX11_fileIs_114 rfl rfl (by omega) (rfl) ?_
      refine g_iret F E dX11_fileIs_115 ?_
      refine ⟨congrArg (fun z => some (Value.int z)) ?_, rfl⟩
      rw [if_pos hA, nI_tn (by omega)]
      unfold fsel
      rw [if_neg (by omega)]
      rw [if_neg (by omega)]
      rw [if_neg (by omega)]
      rw [if_neg (by omega)]
      rw [if_neg (by omega)]
      rw [if_pos (by omega)]
    · refine g_tabN 6 116 F dX11_fileIs_14 (by omega) (by omega) rfl (by decide) ?_
      refine g_aload_n (nx := 117) 0 F dX11_fileIs_116 rfl rfl rfl ?_
      refine g_getR (nx := 120) F dX11_fileIs_117 rfl fl_RX11_19 rfl (by decide) (by decide) rfl ?_
      refine g_getR (nx := 123) F dX11_fileIs_120 rfl fl_RX11_188 rfl (by decide) (by decide) rfl ?_
      refine g_iload_n (nx := 124) 1 F dX11_fileIs_123 rfl rfl rfl ?_
      refine g_ialdN (nx := 125) (J) (_) F dX11_fileIs_124 rfl rfl (by omega) (rfl) ?_
      refine g_iret F E dX11_fileIs_125 ?_
      refine ⟨congrArg (fun z => some (Value.int z)) ?_, rfl⟩
      rw [if_pos hA, nI_tn (by omega)]
      unfold fsel
      rw [if_neg (by omega)]
      rw [if_neg (by omega)]
      rw [if_neg (by omega)]
      rw [if_neg (by omega)]
      rw [if_neg (by omega)]
      rw [if_neg (by omega)]
      rw [if_pos (by omega)]
    · refine g_tableOut 126 F dX11_fileIs_14 (by omega) (by decide) ?_
      refine g_iconst (nx := 127) (-1) F dX11_fileIs_126 rfl rfl ?_
      refine g_iret F E dX11_fileIs_127 ?_
      refine ⟨congrArg (fun z => some (Value.int z)) ?_, rfl⟩
      rw [if_pos hA]
      unfold fsel
      rw [if_neg (by omega)]
      rw [if_neg (by omega)]
      rw [if_neg (by omega)]
      rw [if_neg (by omega)]
      rw [if_neg (by omega)]
      rw [if_neg (by omega)]
      rw [if_neg (by omega)]
  · refine g_aload_n (nx := 1) 0 F dX11_fileIs_0 rfl rfl rfl ?_
    refine g_getR (nx := 4) F dX11_fileIs_1 rfl fl_RX11_19 rfl (by decide) (by decide) rfl ?_
    refine g_iload_n (nx := 5) 1 F dX11_fileIs_4 rfl rfl rfl ?_
    refine g_callV (nx := 8) 1 0 [.int j] F dX11_fileIs_5 rfl ml_RX11_166 mo_X2_isFile rfl rfl rfl rfl (Nat.le_of_ble_eq_true rfl) (by first | decide | omega) (c_isFile j _) (fun r_5 τ_5 q_5 => ?_)
    obtain ⟨rfl, et_5⟩ := q_5
    have et_5 := et_5.symm
    subst et_5
    dsimp only [Option.toList, List.append, List.cons_append, List.nil_append]
    refine g_if_ne (nx := 11) 13 F dX11_fileIs_8 rfl (by decide) (fun c_8 => absurd c_8 (by exact fun q => q (bI_f (by rw [hf]; exact hA)))) (fun c_8 => ?_)
    refine g_iconst (nx := 12) (-1) F dX11_fileIs_11 rfl rfl ?_
    refine g_iret F E dX11_fileIs_12 ?_
    exact ⟨by rw [if_neg hA], rfl⟩
set_option maxHeartbeats 4000000 in
set_option maxRecDepth 100000 in
theorem k_fileIs (f : Nat) (j w : Int32) (σ : zSt) (hf : σ 145 3 = nI f) (h : f ≤ 40) : Con mX12_fileIs 1 [.ref 145, .int j, .int w] σ (fun r τ => r = some (.int (if 0 ≤ j.toInt ∧ j.toInt < (nI f).toInt then fsel (σ 156 j.toInt.toNat) (σ 157 j.toInt.toNat) (σ 158 j.toInt.toNat) (σ 159 j.toInt.toNat) (σ 160 j.toInt.toNat) (σ 161 j.toInt.toNat) (σ 155 j.toInt.toNat) w else -1)) ∧ τ = σ) := by
  refine Con.of (lv := [.ref 145, .int j, .int w]) mk_X12_fileIs rfl (Nat.le_of_ble_eq_true rfl) rfl (fun X F E => ?_)
  by_cases hA : 0 ≤ j.toInt ∧ j.toInt < (nI f).toInt
  · obtain ⟨J, hJ, eJ⟩ := nI_rng (n := 39) (x := j) (by omega) (by have := nI_toInt (n := f) (by omega); omega)
    subst eJ
    have eJ : (nI J).toInt = J := nI_toInt (by omega)
    have hJf : J < f := by have := nI_toInt (n := f) (by omega); omega
    refine g_aload_n (nx := 1) 0 F dX12_fileIs_0 rfl rfl rfl ?_
    refine g_iload_n (nx := 2) 1 F dX12_fileIs_1 rfl rfl rfl ?_
    refine g_callV (nx := 5) 1 0 [.int (nI J)] F dX12_fileIs_2 rfl ml_RX12_352 mo_X12_isFile rfl rfl rfl rfl (Nat.le_of_ble_eq_true rfl) (by first | decide | omega) (k_isFile (nI J) _) (fun r_2 τ_2 q_2 => ?_)
    obtain ⟨rfl, et_2⟩ := q_2
    have et_2 := et_2.symm
    subst et_2
    dsimp only [Option.toList, List.append, List.cons_append, List.nil_append]
    refine g_if_ne (nx := 8) 10 F dX12_fileIs_5 rfl (by decide) (fun c_5 => ?_) (fun c_5 => absurd c_5 (by exact bI_n0.mpr (by rw [hf]; omega)))
    refine g_iload_n (nx := 11) 2 F dX12_fileIs_10 rfl rfl rfl ?_
    rcases (show w.toInt = 0 ∨ w.toInt = 1 ∨ w.toInt = 2 ∨ w.toInt = 3 ∨ w.toInt = 4 ∨ w.toInt = 5 ∨ w.toInt = 6 ∨ (w.toInt < 0 ∨ 6 < w.toInt) by omega) with w_0 | w_1 | w_2 | w_3 | w_4 | w_5 | w_6 | w_7
    · refine g_tabN 0 52 F dX12_fileIs_11 (by omega) (by omega) rfl (by decide) ?_
      refine g_aload_n (nx := 53) 0 F dX12_fileIs_52 rfl rfl rfl ?_
      refine g_getR (nx := 56) F dX12_fileIs_53 rfl fl_RX12_40 rfl (by decide) (by decide) rfl ?_
      refine g_iload_n (nx := 57) 1 F dX12_fileIs_56 rfl rfl rfl ?_
      refine g_ialdN (nx := 58) (J) (_) F dX12_fileIs_57 rfl rfl (by omega) (rfl) ?_
      refine g_iret F E dX12_fileIs_58 ?_
      refine ⟨congrArg (fun z => some (Value.int z)) ?_, rfl⟩
      rw [if_pos hA, nI_tn (by omega)]
      unfold fsel
      rw [if_pos (by omega)]
    · refine g_tabN 1 59 F dX12_fileIs_11 (by omega) (by omega) rfl (by decide) ?_
      refine g_aload_n (nx := 60) 0 F dX12_fileIs_59 rfl rfl rfl ?_
      refine g_getR (nx := 63) F dX12_fileIs_60 rfl fl_RX12_43 rfl (by decide) (by decide) rfl ?_
      refine g_iload_n (nx := 64) 1 F dX12_fileIs_63 rfl rfl rfl ?_
      refine g_ialdN (nx := 65) (J) (_) F dX12_fileIs_64 rfl rfl (by omega) (rfl) ?_
      refine g_iret F E dX12_fileIs_65 ?_
      refine ⟨congrArg (fun z => some (Value.int z)) ?_, rfl⟩
      rw [if_pos hA, nI_tn (by omega)]
      unfold fsel
      rw [if_neg (by omega)]
      rw [if_pos (by omega)]
    · refine g_tabN 2 66 F dX12_fileIs_11 (by omega) (by omega) rfl (by decide) ?_
      refine g_aload_n (nx := 67) 0 F dX12_fileIs_66 rfl rfl rfl ?_
      refine g_getR (nx := 70) F dX12_fileIs_67 rfl fl_RX12_46 rfl (by decide) (by decide) rfl ?_
      refine g_iload_n (nx := 71) 1 F dX12_fileIs_70 rfl rfl rfl ?_
      refine g_ialdN (nx := 72) (J) (_) F dX12_fileIs_71 rfl rfl (by omega) (rfl) ?_
      refine g_iret F E dX12_fileIs_72 ?_
      refine ⟨congrArg (fun z => some (Value.int z)) ?_, rfl⟩
      rw [if_pos hA, nI_tn (by omega)]
      unfold fsel
      rw [if_neg (by omega)]
      rw [if_neg (by omega)]
      rw [if_pos (by omega)]
    · refine g_tabN 3 73 F dX12_fileIs_11 (by omega) (by omega) rfl (by decide) ?_
      refine g_aload_n (nx := 74) 0 F dX12_fileIs_73 rfl rfl rfl ?_
      refine g_getR (nx := 77) F dX12_fileIs_74 rfl fl_RX12_49 rfl (by decide) (by decide) rfl ?_
      refine g_iload_n (nx := 78) 1 F dX12_fileIs_77 rfl rfl rfl ?_
      refine g_ialdN (nx := 79) (J) (_) F dX12_fileIs_78 rfl rfl (by omega) (rfl) ?_
      refine g_iret F E dX12_fileIs_79 ?_
      refine ⟨congrArg (fun z => some (Value.int z)) ?_, rfl⟩
      rw [if_pos hA, nI_tn (by omega)]
      unfold fsel
      rw [if_neg (by omega)]
      rw [if_neg (by omega)]
      rw [if_neg (by omega)]
      rw [if_pos (by omega)]
    · refine g_tabN 4 80 F dX12_fileIs_11 (by omega) (by omega) rfl (by decide) ?_
      refine g_aload_n (nx := 81) 0 F dX12_fileIs_80 rfl rfl rfl ?_
      refine g_getR (nx := 84) F dX12_fileIs_81 rfl fl_RX12_52 rfl (by decide) (by decide) rfl ?_
      refine g_iload_n (nx := 85) 1 F dX12_fileIs_84 rfl rfl rfl ?_
      refine g_ialdN (nx := 86) (J) (_) F dX12_fileIs_85 rfl rfl (by omega) (rfl) ?_
      refine g_iret F E dX12_fileIs_86 ?_
      refine ⟨congrArg (fun z => some (Value.int z)) ?_, rfl⟩
      rw [if_pos hA, nI_tn (by omega)]
      unfold fsel
      rw [if_neg (by omega)]
      rw [if_neg (by omega)]
      rw [if_neg (by omega)]
      rw [if_neg (by omega)]
      rw [if_pos (by omega)]
    · refine g_tabN 5 87 F dX12_fileIs_11 (by omega) (by omega) rfl (by decide) ?_
      refine g_aload_n (nx := 88) 0 F dX12_fileIs_87 rfl rfl rfl ?_
      refine g_getR (nx := 91) F dX12_fileIs_88 rfl fl_RX12_55 rfl (by decide) (by decide) rfl ?_
      refine g_iload_n (nx := 92) 1 F dX12_fileIs_91 rfl rfl rfl ?_
      refine g_ialdN (nx := 93) (J) (_) F dX12_fileIs_92 rfl rfl (by omega) (rfl) ?_
      refine g_iret F E dX12_fileIs_93 ?_
      refine ⟨congrArg (fun z => some (Value.int z)) ?_, rfl⟩
      rw [if_pos hA, nI_tn (by omega)]
      unfold fsel
      rw [if_neg (by omega)]
      rw [if_neg (by omega)]
      rw [if_neg (by omega)]
      rw [if_neg (by omega)]
      rw [if_neg (by omega)]
      rw [if_pos (by omega)]
    · refine g_tabN 6 94 F dX12_fileIs_11 (by omega) (by omega) rfl (by decide) ?_
      refine g_aload_n (nx := 95) 0 F dX12_fileIs_94 rfl rfl rfl ?_
      refine g_getR (nx := 98) F dX12_fileIs_95 rfl fl_RX12_37 rfl (by decide) (by decide) rfl ?_
      refine g_iload_n (nx := 99) 1 F dX12_fileIs_98 rfl rfl rfl ?_
      refine g_ialdN (nx := 100) (J) (_) F dX12_fileIs_99 rfl rfl (by omega) (rfl) ?_
      refine g_iret F E dX12_fileIs_100 ?_
      refine ⟨congrArg (fun z => some (Value.int z)) ?_, rfl⟩
      rw [if_pos hA, nI_tn (by omega)]
      unfold fsel
      rw [if_neg (by omega)]
      rw [if_neg (by omega)]
      rw [if_neg (by omega)]
      rw [if_neg (by omega)]
      rw [if_neg (by omega)]
      rw [if_neg (by omega)]
      rw [if_pos (by omega)]
    · refine g_tableOut 101 F dX12_fileIs_11 (by omega) (by decide) ?_
      refine g_iconst (nx := 102) (-1) F dX12_fileIs_101 rfl rfl ?_
      refine g_iret F E dX12_fileIs_102 ?_
      refine ⟨congrArg (fun z => some (Value.int z)) ?_, rfl⟩
      rw [if_pos hA]
      unfold fsel
      rw [if_neg (by omega)]
      rw [if_neg (by omega)]
      rw [if_neg (by omega)]
      rw [if_neg (by omega)]
      rw [if_neg (by omega)]
      rw [if_neg (by omega)]
      rw [if_neg (by omega)]
  · refine g_aload_n (nx := 1) 0 F dX12_fileIs_0 rfl rfl rfl ?_
    refine g_iload_n (nx := 2) 1 F dX12_fileIs_1 rfl rfl rfl ?_
    refine g_callV (nx := 5) 1 0 [.int j] F dX12_fileIs_2 rfl ml_RX12_352 mo_X12_isFile rfl rfl rfl rfl (Nat.le_of_ble_eq_true rfl) (by first | decide | omega) (k_isFile j _) (fun r_2 τ_2 q_2 => ?_)
    obtain ⟨rfl, et_2⟩ := q_2
    have et_2 := et_2.symm
    subst et_2
    dsimp only [Option.toList, List.append, List.cons_append, List.nil_append]
    refine g_if_ne (nx := 8) 10 F dX12_fileIs_5 rfl (by decide) (fun c_5 => absurd c_5 (by exact fun q => q (bI_f (by rw [hf]; exact hA)))) (fun c_5 => ?_)
    refine g_iconst (nx := 9) (-1) F dX12_fileIs_8 rfl rfl ?_
    refine g_iret F E dX12_fileIs_9 ?_
    exact ⟨by rw [if_neg hA], rfl⟩
set_option maxHeartbeats 4000000 in
set_option maxRecDepth 100000 in
theorem c_clerkIs (c : Nat) (i w : Int32) (σ : zSt) (hc : σ 3 3 = nI c) (h : c ≤ 10) : Con mX11_clerkIs 1 [.ref 0, .int i, .int w] σ (fun r τ => r = some (.int (if 0 ≤ i.toInt ∧ i.toInt < (nI c).toInt then csel (σ 24 i.toInt.toNat) (σ 25 i.toInt.toNat) (σ 4 i.toInt.toNat) (σ 5 i.toInt.toNat) w else -1000000000)) ∧ τ = σ) := by
  refine Con.of (lv := [.ref 0, .int i, .int w]) mk_X11_clerkIs rfl (Nat.le_of_ble_eq_true rfl) rfl (fun X F E => ?_)
  by_cases hA : 0 ≤ i.toInt ∧ i.toInt < (nI c).toInt
  · obtain ⟨I, hI, eI⟩ := nI_rng (n := 9) (x := i) (by omega) (by have := nI_toInt (n := c) (by omega); omega)
    subst eI
    have eI : (nI I).toInt = I := nI_toInt (by omega)
    have hIc : I < c := by have := nI_toInt (n := c) (by omega); omega
    refine g_aload_n (nx := 1) 0 F dX11_clerkIs_0 rfl rfl rfl ?_
    refine g_getR (nx := 4) F dX11_clerkIs_1 rfl fl_RX11_19 rfl (by decide) (by decide) rfl ?_
    refine g_iload_n (nx := 5) 1 F dX11_clerkIs_4 rfl rfl rfl ?_
    refine g_callV (nx := 8) 1 0 [.int (nI I)] F dX11_clerkIs_5 rfl ml_RX11_125 mo_X2_isClerk rfl rfl rfl rfl (Nat.le_of_ble_eq_true rfl) (by first | decide | omega) (c_isClerk (nI I) _) (fun r_5 τ_5 q_5 => ?_)
    obtain ⟨rfl, et_5⟩ := q_5
    have et_5 := et_5.symm
    subst et_5
    dsimp only [Option.toList, List.append, List.cons_append, List.nil_append]
    refine g_if_ne (nx := 11) 14 F dX11_clerkIs_8 rfl (by decide) (fun c_8 => ?_) (fun c_8 => absurd c_8 (by exact bI_n0.mpr (by rw [hc]; omega)))
    refine g_iload_n (nx := 15) 2 F dX11_clerkIs_14 rfl rfl rfl ?_
    rcases (show w.toInt = 0 ∨ w.toInt = 1 ∨ w.toInt = 2 ∨ w.toInt = 3 ∨ (w.toInt < 0 ∨ 3 < w.toInt) by omega) with w_0 | w_1 | w_2 | w_3 | w_4
    · refine g_tabN 0 44 F dX11_clerkIs_15 (by omega) (by omega) rfl (by decide) ?_
      refine g_aload_n (nx := 45) 0 F dX11_clerkIs_44 rfl rfl rfl ?_
      refine g_getR (nx := 48) F dX11_clerkIs_45 rfl fl_RX11_44 rfl (by decide) (by decide) rfl ?_
      refine g_getR (nx := 51) F dX11_clerkIs_48 rfl fl_RX11_192 rfl (by decide) (by decide) rfl ?_
      refine g_iload_n (nx := 52) 1 F dX11_clerkIs_51 rfl rfl rfl ?_
      refine g_ialdN (nx := 53) (I) (_) F dX11_clerkIs_52 rfl rfl (by omega) (rfl) ?_
      refine g_iret F E dX11_clerkIs_53 ?_
      refine ⟨congrArg (fun z => some (Value.int z)) ?_, rfl⟩
      rw [if_pos hA, nI_tn (by omega)]
      unfold csel
      rw [if_pos (by omega)]
    · refine g_tabN 1 54 F dX11_clerkIs_15 (by omega) (by omega) rfl (by decide) ?_
      refine g_aload_n (nx := 55) 0 F dX11_clerkIs_54 rfl rfl rfl ?_
      refine g_getR (nx := 58) F dX11_clerkIs_55 rfl fl_RX11_44 rfl (by decide) (by decide) rfl ?_
      refine g_getR (nx := 61) F dX11_clerkIs_58 rfl fl_RX11_195 rfl (by decide) (by decide) rfl ?_
      refine g_iload_n (nx := 62) 1 F dX11_clerkIs_61 rfl rfl rfl ?_
      refine g_ialdN (nx := 63) (I) (_) F dX11_clerkIs_62 rfl rfl (by omega) (rfl) ?_
      refine g_iret F E dX11_clerkIs_63 ?_
      refine ⟨congrArg (fun z => some (Value.int z)) ?_, rfl⟩
      rw [if_pos hA, nI_tn (by omega)]
      unfold csel
      rw [if_neg (by omega)]
      rw [if_pos (by omega)]
    · refine g_tabN 2 64 F dX11_clerkIs_15 (by omega) (by omega) rfl (by decide) ?_
      refine g_aload_n (nx := 65) 0 F dX11_clerkIs_64 rfl rfl rfl ?_
      refine g_getR (nx := 68) F dX11_clerkIs_65 rfl fl_RX11_19 rfl (by decide) (by decide) rfl ?_
      refine g_getR (nx := 71) F dX11_clerkIs_68 rfl fl_RX11_198 rfl (by decide) (by decide) rfl ?_
      refine g_iload_n (nx := 72) 1 F dX11_clerkIs_71 rfl rfl rfl ?_
      refine g_ialdN (nx := 73) (I) (_) F dX11_clerkIs_72 rfl rfl (by omega) (rfl) ?_
      refine g_iret F E dX11_clerkIs_73 ?_
      refine ⟨congrArg (fun z => some (Value.int z)) ?_, rfl⟩
      rw [if_pos hA, nI_tn (by omega)]
      unfold csel
      rw [if_neg (by omega)]
      rw [if_neg (by omega)]
      rw [if_pos (by omega)]
    · refine g_tabN 3 74 F dX11_clerkIs_15 (by omega) (by omega) rfl (by decide) ?_
      refine g_aload_n (nx := 75) 0 F dX11_clerkIs_74 rfl rfl rfl ?_
      refine g_getR (nx := 78) F dX11_clerkIs_75 rfl fl_RX11_19 rfl (by decide) (by decide) rfl ?_
      refine g_getR (nx := 81) F dX11_clerkIs_78 rfl fl_RX11_201 rfl (by decide) (by decide) rfl ?_
      refine g_iload_n (nx := 82) 1 F dX11_clerkIs_81 rfl rfl rfl ?_
      refine g_ialdN (nx := 83) (I) (_) F dX11_clerkIs_82 rfl rfl (by omega) (rfl) ?_
      refine g_iret F E dX11_clerkIs_83 ?_
      refine ⟨congrArg (fun z => some (Value.int z)) ?_, rfl⟩
      rw [if_pos hA, nI_tn (by omega)]
      unfold csel
      rw [if_neg (by omega)]
      rw [if_neg (by omega)]
      rw [if_neg (by omega)]
      rw [if_pos (by omega)]
    · refine g_tableOut 84 F dX11_clerkIs_15 (by omega) (by decide) ?_
      refine g_ldc (nx := 86) (-1000000000) F dX11_clerkIs_84 rfl co_RX11_191 ?_
      refine g_iret F E dX11_clerkIs_86 ?_
      refine ⟨congrArg (fun z => some (Value.int z)) ?_, rfl⟩
      rw [if_pos hA]
      unfold csel
      rw [if_neg (by omega)]
      rw [if_neg (by omega)]
      rw [if_neg (by omega)]
      rw [if_neg (by omega)]
  · refine g_aload_n (nx := 1) 0 F dX11_clerkIs_0 rfl rfl rfl ?_
    refine g_getR (nx := 4) F dX11_clerkIs_1 rfl fl_RX11_19 rfl (by decide) (by decide) rfl ?_
    refine g_iload_n (nx := 5) 1 F dX11_clerkIs_4 rfl rfl rfl ?_
    refine g_callV (nx := 8) 1 0 [.int i] F dX11_clerkIs_5 rfl ml_RX11_125 mo_X2_isClerk rfl rfl rfl rfl (Nat.le_of_ble_eq_true rfl) (by first | decide | omega) (c_isClerk i _) (fun r_5 τ_5 q_5 => ?_)
    obtain ⟨rfl, et_5⟩ := q_5
    have et_5 := et_5.symm
    subst et_5
    dsimp only [Option.toList, List.append, List.cons_append, List.nil_append]
    refine g_if_ne (nx := 11) 14 F dX11_clerkIs_8 rfl (by decide) (fun c_8 => absurd c_8 (by exact fun q => q (bI_f (by rw [hc]; exact hA)))) (fun c_8 => ?_)
    refine g_ldc (nx := 13) (-1000000000) F dX11_clerkIs_11 rfl co_RX11_191 ?_
    refine g_iret F E dX11_clerkIs_13 ?_
    exact ⟨by rw [if_neg hA], rfl⟩
set_option maxHeartbeats 4000000 in
set_option maxRecDepth 100000 in
theorem k_clerkIs (c : Nat) (i w : Int32) (σ : zSt) (hc : σ 145 1 = nI c) (h : c ≤ 10) : Con mX12_clerkIs 1 [.ref 145, .int i, .int w] σ (fun r τ => r = some (.int (if 0 ≤ i.toInt ∧ i.toInt < (nI c).toInt then csel (σ 148 i.toInt.toNat) (σ 149 i.toInt.toNat) (σ 146 i.toInt.toNat) (σ 147 i.toInt.toNat) w else -1000000000)) ∧ τ = σ) := by
  refine Con.of (lv := [.ref 145, .int i, .int w]) mk_X12_clerkIs rfl (Nat.le_of_ble_eq_true rfl) rfl (fun X F E => ?_)
  by_cases hA : 0 ≤ i.toInt ∧ i.toInt < (nI c).toInt
  · obtain ⟨I, hI, eI⟩ := nI_rng (n := 9) (x := i) (by omega) (by have := nI_toInt (n := c) (by omega); omega)
    subst eI
    have eI : (nI I).toInt = I := nI_toInt (by omega)
    have hIc : I < c := by have := nI_toInt (n := c) (by omega); omega
    refine g_aload_n (nx := 1) 0 F dX12_clerkIs_0 rfl rfl rfl ?_
    refine g_iload_n (nx := 2) 1 F dX12_clerkIs_1 rfl rfl rfl ?_
    refine g_callV (nx := 5) 1 0 [.int (nI I)] F dX12_clerkIs_2 rfl ml_RX12_291 mo_X12_isClerk rfl rfl rfl rfl (Nat.le_of_ble_eq_true rfl) (by first | decide | omega) (k_isClerk (nI I) _) (fun r_2 τ_2 q_2 => ?_)
    obtain ⟨rfl, et_2⟩ := q_2
    have et_2 := et_2.symm
    subst et_2
    dsimp only [Option.toList, List.append, List.cons_append, List.nil_append]
    refine g_if_eq (nx := 8) 17 F dX12_clerkIs_5 rfl (by decide) (fun c_5 => absurd c_5 (by exact bI_n0.mpr (by rw [hc]; omega))) (fun c_5 => ?_)
    refine g_iload_n (nx := 9) 2 F dX12_clerkIs_8 rfl rfl rfl ?_
    refine g_iconst (nx := 10) (0) F dX12_clerkIs_9 rfl rfl ?_
    refine g_iconst (nx := 11) (3) F dX12_clerkIs_10 rfl rfl ?_
    refine g_callS (nx := 14) 3 0 [.int w, .int 0, .int 3] F dX12_clerkIs_11 rfl ml_RX12_174 mo_X12_in rfl rfl (Nat.le_of_ble_eq_true rfl) (by first | decide | omega) (k_in w 0 3 _) (fun r_11 τ_11 q_11 => ?_)
    obtain ⟨rfl, et_11⟩ := q_11
    have et_11 := et_11.symm
    subst et_11
    dsimp only [Option.toList, List.append, List.cons_append, List.nil_append]
    refine g_if_ne (nx := 17) 21 F dX12_clerkIs_14 rfl (by decide) (fun c_14 => ?_) (fun c_14 => ?_)
    · refine g_iload_n (nx := 22) 2 F dX12_clerkIs_21 rfl rfl rfl ?_
      refine g_if_ne (nx := 25) 34 F dX12_clerkIs_22 rfl (by decide) (fun c_22 => ?_) (fun c_22 => ?_)
      · refine g_iload_n (nx := 35) 2 F dX12_clerkIs_34 rfl rfl rfl ?_
        refine g_iconst (nx := 36) (1) F dX12_clerkIs_35 rfl rfl ?_
        refine g_icmp_ne (nx := 39) 48 F dX12_clerkIs_36 rfl (by decide) (fun c_36 => ?_) (fun c_36 => ?_)
        · refine g_iload_n (nx := 49) 2 F dX12_clerkIs_48 rfl rfl rfl ?_
          refine g_iconst (nx := 50) (2) F dX12_clerkIs_49 rfl rfl ?_
          refine g_icmp_ne (nx := 53) 62 F dX12_clerkIs_50 rfl (by decide) (fun c_50 => ?_) (fun c_50 => ?_)
          · refine g_aload_n (nx := 63) 0 F dX12_clerkIs_62 rfl rfl rfl ?_
            refine g_getR (nx := 66) F dX12_clerkIs_63 rfl fl_RX12_13 rfl (by decide) (by decide) rfl ?_
            refine g_iload_n (nx := 67) 1 F dX12_clerkIs_66 rfl rfl rfl ?_
            refine g_ialdN (nx := 68) (I) (_) F dX12_clerkIs_67 rfl rfl (by omega) (rfl) ?_
            refine g_iret F E dX12_clerkIs_68 ?_
            refine ⟨congrArg (fun z => some (Value.int z)) ?_, rfl⟩
            rw [if_pos hA, nI_tn (by omega)]
            unfold csel
            simp only [bI_n0, Int32.reduceToInt] at c_14
            simp only [fa_eq, ne_eq, Int32.reduceToInt] at *
            first
              | rw [if_pos (by omega)]
              | rw [if_neg (by omega), if_pos (by omega)]
              | rw [if_neg (by omega), if_neg (by omega), if_pos (by omega)]
              | rw [if_neg (by omega), if_neg (by omega), if_neg (by omega), if_pos (by omega)]
          · refine g_aload_n (nx := 54) 0 F dX12_clerkIs_53 rfl rfl rfl ?_
            refine g_getR (nx := 57) F dX12_clerkIs_54 rfl fl_RX12_7 rfl (by decide) (by decide) rfl ?_
            refine g_iload_n (nx := 58) 1 F dX12_clerkIs_57 rfl rfl rfl ?_
            refine g_ialdN (nx := 59) (I) (_) F dX12_clerkIs_58 rfl rfl (by omega) (rfl) ?_
            refine g_goto 68 F dX12_clerkIs_59 (by decide) ?_
            refine g_iret F E dX12_clerkIs_68 ?_
            refine ⟨congrArg (fun z => some (Value.int z)) ?_, rfl⟩
            rw [if_pos hA, nI_tn (by omega)]
            unfold csel
            simp only [bI_n0, Int32.reduceToInt] at c_14
            simp only [fa_eq, ne_eq, Int32.reduceToInt] at *
            first
              | rw [if_pos (by omega)]
              | rw [if_neg (by omega), if_pos (by omega)]
              | rw [if_neg (by omega), if_neg (by omega), if_pos (by omega)]
              | rw [if_neg (by omega), if_neg (by omega), if_neg (by omega), if_pos (by omega)]
        · refine g_aload_n (nx := 40) 0 F dX12_clerkIs_39 rfl rfl rfl ?_
          refine g_getR (nx := 43) F dX12_clerkIs_40 rfl fl_RX12_19 rfl (by decide) (by decide) rfl ?_
          refine g_iload_n (nx := 44) 1 F dX12_clerkIs_43 rfl rfl rfl ?_
          refine g_ialdN (nx := 45) (I) (_) F dX12_clerkIs_44 rfl rfl (by omega) (rfl) ?_
          refine g_goto 68 F dX12_clerkIs_45 (by decide) ?_
          refine g_iret F E dX12_clerkIs_68 ?_
          refine ⟨congrArg (fun z => some (Value.int z)) ?_, rfl⟩
          rw [if_pos hA, nI_tn (by omega)]
          unfold csel
          simp only [bI_n0, Int32.reduceToInt] at c_14
          simp only [fa_eq, ne_eq, Int32.reduceToInt] at *
          first
            | rw [if_pos (by omega)]
            | rw [if_neg (by omega), if_pos (by omega)]
            | rw [if_neg (by omega), if_neg (by omega), if_pos (by omega)]
            | rw [if_neg (by omega), if_neg (by omega), if_neg (by omega), if_pos (by omega)]
      · refine g_aload_n (nx := 26) 0 F dX12_clerkIs_25 rfl rfl rfl ?_
        refine g_getR (nx := 29) F dX12_clerkIs_26 rfl fl_RX12_16 rfl (by decide) (by decide) rfl ?_
        refine g_iload_n (nx := 30) 1 F dX12_clerkIs_29 rfl rfl rfl ?_
        refine g_ialdN (nx := 31) (I) (_) F dX12_clerkIs_30 rfl rfl (by omega) (rfl) ?_
        refine g_goto 68 F dX12_clerkIs_31 (by decide) ?_
        refine g_iret F E dX12_clerkIs_68 ?_
        refine ⟨congrArg (fun z => some (Value.int z)) ?_, rfl⟩
        rw [if_pos hA, nI_tn (by omega)]
        unfold csel
        simp only [bI_n0, Int32.reduceToInt] at c_14
        simp only [fa_eq, ne_eq, Int32.reduceToInt] at *
        first
          | rw [if_pos (by omega)]
          | rw [if_neg (by omega), if_pos (by omega)]
          | rw [if_neg (by omega), if_neg (by omega), if_pos (by omega)]
          | rw [if_neg (by omega), if_neg (by omega), if_neg (by omega), if_pos (by omega)]
    · refine g_ldcw (nx := 20) (-1000000000) F dX12_clerkIs_17 rfl co_RX12_355 ?_
      refine g_iret F E dX12_clerkIs_20 ?_
      refine ⟨congrArg (fun z => some (Value.int z)) ?_, rfl⟩
      rw [if_pos hA]
      unfold csel
      simp only [bI_0, Int32.reduceToInt] at c_14
      rw [if_neg (by omega)]
      rw [if_neg (by omega)]
      rw [if_neg (by omega)]
      rw [if_neg (by omega)]
  · refine g_aload_n (nx := 1) 0 F dX12_clerkIs_0 rfl rfl rfl ?_
    refine g_iload_n (nx := 2) 1 F dX12_clerkIs_1 rfl rfl rfl ?_
    refine g_callV (nx := 5) 1 0 [.int i] F dX12_clerkIs_2 rfl ml_RX12_291 mo_X12_isClerk rfl rfl rfl rfl (Nat.le_of_ble_eq_true rfl) (by first | decide | omega) (k_isClerk i _) (fun r_2 τ_2 q_2 => ?_)
    obtain ⟨rfl, et_2⟩ := q_2
    have et_2 := et_2.symm
    subst et_2
    dsimp only [Option.toList, List.append, List.cons_append, List.nil_append]
    refine g_if_eq (nx := 8) 17 F dX12_clerkIs_5 rfl (by decide) (fun c_5 => ?_) (fun c_5 => absurd c_5 (by exact fun q => q (bI_f (by rw [hc]; exact hA))))
    refine g_ldcw (nx := 20) (-1000000000) F dX12_clerkIs_17 rfl co_RX12_355 ?_
    refine g_iret F E dX12_clerkIs_20 ?_
    exact ⟨by rw [if_neg hA], rfl⟩
set_option maxHeartbeats 4000000 in
set_option maxRecDepth 100000 in
theorem k_value (v : Nat) (x : Int32) (σ : zSt) (hv : σ 145 51 = nI v) (h : v ≤ 20) : Con mX12_value 1 [.ref 145, .int x] σ (fun r τ => ((isin x 10000 ∧ v < 20) ∧ r = some (.int (nI (v + 1))) ∧ τ = zu (zu σ 177 v x) 145 51 (nI (v + 1))) ∨ (¬ (isin x 10000 ∧ v < 20) ∧ r = some (.int (-1)) ∧ τ = σ)) := by
  refine Con.of (lv := [.ref 145, .int x]) mk_X12_value rfl (Nat.le_of_ble_eq_true rfl) rfl (fun X F E => ?_)
  by_cases hA : isin x 10000 ∧ v < 20
  · refine g_iload_n (nx := 1) 1 F dX12_value_0 rfl rfl rfl ?_
    refine g_iconst (nx := 2) (0) F dX12_value_1 rfl rfl ?_
    refine g_sipush (nx := 5) (10000) F dX12_value_2 rfl (by decide) ?_
    refine g_callS (nx := 8) 3 0 [.int x, .int 0, .int 10000] F dX12_value_5 rfl ml_RX12_174 mo_X12_in rfl rfl (Nat.le_of_ble_eq_true rfl) (by first | decide | omega) (k_in x 0 10000 _) (fun r_5 τ_5 q_5 => ?_)
    obtain ⟨rfl, et_5⟩ := q_5
    have et_5 := et_5.symm
    subst et_5
    dsimp only [Option.toList, List.append, List.cons_append, List.nil_append]
    refine g_if_eq (nx := 11) 20 F dX12_value_8 rfl (by decide) (fun c_8 => absurd c_8 (by exact bI_n0.mpr (by simp only [Int32.reduceToInt]; omega))) (fun c_8 => ?_)
    refine g_aload_n (nx := 12) 0 F dX12_value_11 rfl rfl rfl ?_
    refine g_getV (nx := 15) (nI v) F dX12_value_12 rfl fl_RX12_374 rfl (by decide) (by decide) rfl rfl (hv) ?_
    refine g_bipush (nx := 17) (20) F dX12_value_15 rfl (by decide) ?_
    refine g_icmp_ne (nx := 20) 22 F dX12_value_17 rfl (by decide) (fun c_17 => ?_) (fun c_17 => absurd c_17 (by exact fun zq => absurd ((nI_eq (a := v) (b := 20) (by omega) (by omega)).mp zq) (by omega)))
    refine g_aload_n (nx := 23) 0 F dX12_value_22 rfl rfl rfl ?_
    refine g_getR (nx := 26) F dX12_value_23 rfl fl_RX12_104 rfl (by decide) (by decide) rfl ?_
    refine g_aload_n (nx := 27) 0 F dX12_value_26 rfl rfl rfl ?_
    refine g_getV (nx := 30) (nI v) F dX12_value_27 rfl fl_RX12_374 rfl (by decide) (by decide) rfl rfl (hv) ?_
    refine g_iload_n (nx := 31) 1 F dX12_value_30 rfl rfl rfl ?_
    refine g_iastN (nx := 32) (v) F dX12_value_31 rfl rfl (by omega) ?_
    refine g_aload_n (nx := 33) 0 F dX12_value_32 rfl rfl rfl ?_
    refine g_aload_n (nx := 34) 0 F dX12_value_33 rfl rfl rfl ?_
    refine g_getV (nx := 37) (nI v) F dX12_value_34 rfl fl_RX12_374 rfl (by decide) (by decide) rfl rfl (hv) ?_
    refine g_iconst (nx := 38) (1) F dX12_value_37 rfl rfl ?_
    refine g_iadd (nx := 39) F dX12_value_38 rfl ?_
    rw [nI_1]
    refine g_putI (nx := 42) F dX12_value_39 rfl fl_RX12_374 fi_11_51 rfl (by decide) (by decide) rfl rfl ?_
    refine g_aload_n (nx := 43) 0 F dX12_value_42 rfl rfl rfl ?_
    refine g_getV (nx := 46) (nI (v + 1)) F dX12_value_43 rfl fl_RX12_374 rfl (by decide) (by decide) rfl rfl (rfl) ?_
    refine g_iret F E dX12_value_46 ?_
    exact Or.inl ⟨hA, rfl, rfl⟩
  · refine g_iload_n (nx := 1) 1 F dX12_value_0 rfl rfl rfl ?_
    refine g_iconst (nx := 2) (0) F dX12_value_1 rfl rfl ?_
    refine g_sipush (nx := 5) (10000) F dX12_value_2 rfl (by decide) ?_
    refine g_callS (nx := 8) 3 0 [.int x, .int 0, .int 10000] F dX12_value_5 rfl ml_RX12_174 mo_X12_in rfl rfl (Nat.le_of_ble_eq_true rfl) (by first | decide | omega) (k_in x 0 10000 _) (fun r_5 τ_5 q_5 => ?_)
    obtain ⟨rfl, et_5⟩ := q_5
    have et_5 := et_5.symm
    subst et_5
    dsimp only [Option.toList, List.append, List.cons_append, List.nil_append]
    refine g_if_eq (nx := 11) 20 F dX12_value_8 rfl (by decide) (fun c_8 => ?_) (fun c_8 => ?_)
    · refine g_iconst (nx := 21) (-1) F dX12_value_20 rfl rfl ?_
      refine g_iret F E dX12_value_21 ?_
      exact Or.inr ⟨hA, rfl, rfl⟩
    · refine g_aload_n (nx := 12) 0 F dX12_value_11 rfl rfl rfl ?_
      refine g_getV (nx := 15) (nI v) F dX12_value_12 rfl fl_RX12_374 rfl (by decide) (by decide) rfl rfl (hv) ?_
      refine g_bipush (nx := 17) (20) F dX12_value_15 rfl (by decide) ?_
      refine g_icmp_ne (nx := 20) 22 F dX12_value_17 rfl (by decide) (fun c_17 => ?_) (fun c_17 => ?_)
      · exfalso
        clear F E
        have e_v : (nI v).toInt = v := nI_toInt (by omega)
        simp only [isin, bI_0, bI_n0, ne_eq, Decidable.not_not] at *
        (try simp only [fa_eq, fa_lt, fa_le, Int32.reduceToInt, Int32.toInt_zero] at *)
        omega
      · refine g_iconst (nx := 21) (-1) F dX12_value_20 rfl rfl ?_
        refine g_iret F E dX12_value_21 ?_
        exact Or.inr ⟨hA, rfl, rfl⟩
set_option maxHeartbeats 4000000 in
set_option maxRecDepth 100000 in
theorem k_entry (n : Nat) (s x : Int32) (σ : zSt) (hn : σ 145 52 = nI n) (h : n ≤ 60) : Con mX12_entry 1 [.ref 145, .int s, .int x] σ (fun r τ => (((0 ≤ s.toInt ∧ s.toInt < (σ 145 2).toInt) ∧ isin x 10000 ∧ n < 60) ∧ r = some (.int (nI (n + 1))) ∧ τ = zu (zu (zu σ 178 n s) 179 n x) 145 52 (nI (n + 1))) ∨ (¬ ((0 ≤ s.toInt ∧ s.toInt < (σ 145 2).toInt) ∧ isin x 10000 ∧ n < 60) ∧ r = some (.int (-1)) ∧ τ = σ)) := by
  refine Con.of (lv := [.ref 145, .int s, .int x]) mk_X12_entry rfl (Nat.le_of_ble_eq_true rfl) rfl (fun X F E => ?_)
  by_cases hA : (0 ≤ s.toInt ∧ s.toInt < (σ 145 2).toInt) ∧ isin x 10000 ∧ n < 60
  · refine g_aload_n (nx := 1) 0 F dX12_entry_0 rfl rfl rfl ?_
    refine g_iload_n (nx := 2) 1 F dX12_entry_1 rfl rfl rfl ?_
    refine g_callV (nx := 5) 1 0 [.int s] F dX12_entry_2 rfl ml_RX12_383 mo_X12_isStep rfl rfl rfl rfl (Nat.le_of_ble_eq_true rfl) (by first | decide | omega) (k_isStep s _) (fun r_2 τ_2 q_2 => ?_)
    obtain ⟨rfl, et_2⟩ := q_2
    have et_2 := et_2.symm
    subst et_2
    dsimp only [Option.toList, List.append, List.cons_append, List.nil_append]
    refine g_if_eq (nx := 8) 28 F dX12_entry_5 rfl (by decide) (fun c_5 => absurd c_5 (by exact bI_n0.mpr hA.1)) (fun c_5 => ?_)
    refine g_iload_n (nx := 9) 2 F dX12_entry_8 rfl rfl rfl ?_
    refine g_iconst (nx := 10) (0) F dX12_entry_9 rfl rfl ?_
    refine g_sipush (nx := 13) (10000) F dX12_entry_10 rfl (by decide) ?_
    refine g_callS (nx := 16) 3 0 [.int x, .int 0, .int 10000] F dX12_entry_13 rfl ml_RX12_174 mo_X12_in rfl rfl (Nat.le_of_ble_eq_true rfl) (by first | decide | omega) (k_in x 0 10000 _) (fun r_13 τ_13 q_13 => ?_)
    obtain ⟨rfl, et_13⟩ := q_13
    have et_13 := et_13.symm
    subst et_13
    dsimp only [Option.toList, List.append, List.cons_append, List.nil_append]
    refine g_if_eq (nx := 19) 28 F dX12_entry_16 rfl (by decide) (fun c_16 => absurd c_16 (by exact bI_n0.mpr (by simp only [Int32.reduceToInt]; omega))) (fun c_16 => ?_)
    refine g_aload_n (nx := 20) 0 F dX12_entry_19 rfl rfl rfl ?_
    refine g_getV (nx := 23) (nI n) F dX12_entry_20 rfl fl_RX12_389 rfl (by decide) (by decide) rfl rfl (hn) ?_
    refine g_bipush (nx := 25) (60) F dX12_entry_23 rfl (by decide) ?_
    refine g_icmp_ne (nx := 28) 30 F dX12_entry_25 rfl (by decide) (fun c_25 => ?_) (fun c_25 => absurd c_25 (by exact fun zq => absurd ((nI_eq (a := n) (b := 60) (by omega) (by omega)).mp zq) (by omega)))
    refine g_aload_n (nx := 31) 0 F dX12_entry_30 rfl rfl rfl ?_
    refine g_getR (nx := 34) F dX12_entry_31 rfl fl_RX12_107 rfl (by decide) (by decide) rfl ?_
    refine g_aload_n (nx := 35) 0 F dX12_entry_34 rfl rfl rfl ?_
    refine g_getV (nx := 38) (nI n) F dX12_entry_35 rfl fl_RX12_389 rfl (by decide) (by decide) rfl rfl (hn) ?_
    refine g_iload_n (nx := 39) 1 F dX12_entry_38 rfl rfl rfl ?_
    refine g_iastN (nx := 40) (n) F dX12_entry_39 rfl rfl (by omega) ?_
    refine g_aload_n (nx := 41) 0 F dX12_entry_40 rfl rfl rfl ?_
    refine g_getR (nx := 44) F dX12_entry_41 rfl fl_RX12_110 rfl (by decide) (by decide) rfl ?_
    refine g_aload_n (nx := 45) 0 F dX12_entry_44 rfl rfl rfl ?_
    refine g_getV (nx := 48) (nI n) F dX12_entry_45 rfl fl_RX12_389 rfl (by decide) (by decide) rfl rfl (hn) ?_
    refine g_iload_n (nx := 49) 2 F dX12_entry_48 rfl rfl rfl ?_
    refine g_iastN (nx := 50) (n) F dX12_entry_49 rfl rfl (by omega) ?_
    refine g_aload_n (nx := 51) 0 F dX12_entry_50 rfl rfl rfl ?_
    refine g_aload_n (nx := 52) 0 F dX12_entry_51 rfl rfl rfl ?_
    refine g_getV (nx := 55) (nI n) F dX12_entry_52 rfl fl_RX12_389 rfl (by decide) (by decide) rfl rfl (hn) ?_
    refine g_iconst (nx := 56) (1) F dX12_entry_55 rfl rfl ?_
    refine g_iadd (nx := 57) F dX12_entry_56 rfl ?_
    rw [nI_1]
    refine g_putI (nx := 60) F dX12_entry_57 rfl fl_RX12_389 fi_11_52 rfl (by decide) (by decide) rfl rfl ?_
    refine g_aload_n (nx := 61) 0 F dX12_entry_60 rfl rfl rfl ?_
    refine g_getV (nx := 64) (nI (n + 1)) F dX12_entry_61 rfl fl_RX12_389 rfl (by decide) (by decide) rfl rfl (rfl) ?_
    refine g_iret F E dX12_entry_64 ?_
    exact Or.inl ⟨hA, rfl, rfl⟩
  · refine g_aload_n (nx := 1) 0 F dX12_entry_0 rfl rfl rfl ?_
    refine g_iload_n (nx := 2) 1 F dX12_entry_1 rfl rfl rfl ?_
    refine g_callV (nx := 5) 1 0 [.int s] F dX12_entry_2 rfl ml_RX12_383 mo_X12_isStep rfl rfl rfl rfl (Nat.le_of_ble_eq_true rfl) (by first | decide | omega) (k_isStep s _) (fun r_2 τ_2 q_2 => ?_)
    obtain ⟨rfl, et_2⟩ := q_2
    have et_2 := et_2.symm
    subst et_2
    dsimp only [Option.toList, List.append, List.cons_append, List.nil_append]
    refine g_if_eq (nx := 8) 28 F dX12_entry_5 rfl (by decide) (fun c_5 => ?_) (fun c_5 => ?_)
    · refine g_iconst (nx := 29) (-1) F dX12_entry_28 rfl rfl ?_
      refine g_iret F E dX12_entry_29 ?_
      exact Or.inr ⟨hA, rfl, rfl⟩
    · refine g_iload_n (nx := 9) 2 F dX12_entry_8 rfl rfl rfl ?_
      refine g_iconst (nx := 10) (0) F dX12_entry_9 rfl rfl ?_
      refine g_sipush (nx := 13) (10000) F dX12_entry_10 rfl (by decide) ?_
      refine g_callS (nx := 16) 3 0 [.int x, .int 0, .int 10000] F dX12_entry_13 rfl ml_RX12_174 mo_X12_in rfl rfl (Nat.le_of_ble_eq_true rfl) (by first | decide | omega) (k_in x 0 10000 _) (fun r_13 τ_13 q_13 => ?_)
      obtain ⟨rfl, et_13⟩ := q_13
      have et_13 := et_13.symm
      subst et_13
      dsimp only [Option.toList, List.append, List.cons_append, List.nil_append]
      refine g_if_eq (nx := 19) 28 F dX12_entry_16 rfl (by decide) (fun c_16 => ?_) (fun c_16 => ?_)
      · refine g_iconst (nx := 29) (-1) F dX12_entry_28 rfl rfl ?_
        refine g_iret F E dX12_entry_29 ?_
        exact Or.inr ⟨hA, rfl, rfl⟩
      · refine g_aload_n (nx := 20) 0 F dX12_entry_19 rfl rfl rfl ?_
        refine g_getV (nx := 23) (nI n) F dX12_entry_20 rfl fl_RX12_389 rfl (by decide) (by decide) rfl rfl (hn) ?_
        refine g_bipush (nx := 25) (60) F dX12_entry_23 rfl (by decide) ?_
        refine g_icmp_ne (nx := 28) 30 F dX12_entry_25 rfl (by decide) (fun c_25 => ?_) (fun c_25 => ?_)
        · exfalso
          clear F E
          have e_n : (nI n).toInt = n := nI_toInt (by omega)
          simp only [isin, bI_0, bI_n0, ne_eq, Decidable.not_not] at *
          (try simp only [fa_eq, fa_lt, fa_le, Int32.reduceToInt, Int32.toInt_zero] at *)
          omega
        · refine g_iconst (nx := 29) (-1) F dX12_entry_28 rfl rfl ?_
          refine g_iret F E dX12_entry_29 ?_
          exact Or.inr ⟨hA, rfl, rfl⟩
set_option maxHeartbeats 4000000 in
set_option maxRecDepth 100000 in
theorem k_go (n : Nat) (x p a b : Int32) (σ : zSt) (hn : σ 145 53 = nI n) (h : n ≤ 8) : Con mX12_go 1 [.ref 145, .int x, .int p, .int a, .int b] σ (fun r τ => (((x ≠ 0 ∧ isset x (σ 145 1)) ∧ isin p 30000 ∧ (0 ≤ a.toInt ∧ a.toInt ≤ b.toInt ∧ b.toInt ≤ p.toInt) ∧ n < 8) ∧ r = some (.int (nI n)) ∧ τ = zu (zu (zu (zu (zu σ 180 n x) 181 n p) 182 n a) 183 n b) 145 53 (nI (n + 1))) ∨ (¬ ((x ≠ 0 ∧ isset x (σ 145 1)) ∧ isin p 30000 ∧ (0 ≤ a.toInt ∧ a.toInt ≤ b.toInt ∧ b.toInt ≤ p.toInt) ∧ n < 8) ∧ r = some (.int (-1)) ∧ τ = σ)) := by
  refine Con.of (lv := [.ref 145, .int x, .int p, .int a, .int b]) mk_X12_go rfl (Nat.le_of_ble_eq_true rfl) rfl (fun X F E => ?_)
  by_cases hA : (x ≠ 0 ∧ isset x (σ 145 1)) ∧ isin p 30000 ∧ (0 ≤ a.toInt ∧ a.toInt ≤ b.toInt ∧ b.toInt ≤ p.toInt) ∧ n < 8
  · refine g_aload_n (nx := 1) 0 F dX12_go_0 rfl rfl rfl ?_
    refine g_iload_n (nx := 2) 1 F dX12_go_1 rfl rfl rfl ?_
    refine g_callV (nx := 5) 1 0 [.int x] F dX12_go_2 rfl ml_RX12_178 mo_X12_isSet rfl rfl rfl rfl (Nat.le_of_ble_eq_true rfl) (by first | decide | omega) (k_isSet x _) (fun r_2 τ_2 q_2 => ?_)
    obtain ⟨rfl, et_2⟩ := q_2
    have et_2 := et_2.symm
    subst et_2
    dsimp only [Option.toList, List.append, List.cons_append, List.nil_append]
    refine g_if_eq (nx := 8) 53 F dX12_go_5 rfl (by decide) (fun c_5 => absurd c_5 (by exact bI_n0.mpr hA.1.2)) (fun c_5 => ?_)
    refine g_iload_n (nx := 9) 1 F dX12_go_8 rfl rfl rfl ?_
    refine g_if_eq (nx := 12) 53 F dX12_go_9 rfl (by decide) (fun c_9 => absurd c_9 (by exact hA.1.1)) (fun c_9 => ?_)
    refine g_iload_n (nx := 13) 2 F dX12_go_12 rfl rfl rfl ?_
    refine g_iconst (nx := 14) (0) F dX12_go_13 rfl rfl ?_
    refine g_sipush (nx := 17) (30000) F dX12_go_14 rfl (by decide) ?_
    refine g_callS (nx := 20) 3 0 [.int p, .int 0, .int 30000] F dX12_go_17 rfl ml_RX12_174 mo_X12_in rfl rfl (Nat.le_of_ble_eq_true rfl) (by first | decide | omega) (k_in p 0 30000 _) (fun r_17 τ_17 q_17 => ?_)
    obtain ⟨rfl, et_17⟩ := q_17
    have et_17 := et_17.symm
    subst et_17
    dsimp only [Option.toList, List.append, List.cons_append, List.nil_append]
    refine g_if_eq (nx := 23) 53 F dX12_go_20 rfl (by decide) (fun c_20 => absurd c_20 (by exact bI_n0.mpr (by simp only [Int32.reduceToInt]; omega))) (fun c_20 => ?_)
    refine g_iload_n (nx := 24) 3 F dX12_go_23 rfl rfl rfl ?_
    refine g_iconst (nx := 25) (0) F dX12_go_24 rfl rfl ?_
    refine g_sipush (nx := 28) (30000) F dX12_go_25 rfl (by decide) ?_
    refine g_callS (nx := 31) 3 0 [.int a, .int 0, .int 30000] F dX12_go_28 rfl ml_RX12_174 mo_X12_in rfl rfl (Nat.le_of_ble_eq_true rfl) (by first | decide | omega) (k_in a 0 30000 _) (fun r_28 τ_28 q_28 => ?_)
    obtain ⟨rfl, et_28⟩ := q_28
    have et_28 := et_28.symm
    subst et_28
    dsimp only [Option.toList, List.append, List.cons_append, List.nil_append]
    refine g_if_eq (nx := 34) 53 F dX12_go_31 rfl (by decide) (fun c_31 => absurd c_31 (by exact bI_n0.mpr (by simp only [Int32.reduceToInt]; omega))) (fun c_31 => ?_)
    refine g_iload (nx := 36) F dX12_go_34 rfl rfl ?_
    refine g_iload_n (nx := 37) 3 F dX12_go_36 rfl rfl rfl ?_
    refine g_iload_n (nx := 38) 2 F dX12_go_37 rfl rfl rfl ?_
    refine g_callS (nx := 41) 3 0 [.int b, .int a, .int p] F dX12_go_38 rfl ml_RX12_174 mo_X12_in rfl rfl (Nat.le_of_ble_eq_true rfl) (by first | decide | omega) (k_in b a p _) (fun r_38 τ_38 q_38 => ?_)
    obtain ⟨rfl, et_38⟩ := q_38
    have et_38 := et_38.symm
    subst et_38
    dsimp only [Option.toList, List.append, List.cons_append, List.nil_append]
    refine g_if_eq (nx := 44) 53 F dX12_go_41 rfl (by decide) (fun c_41 => absurd c_41 (by exact bI_n0.mpr (by omega))) (fun c_41 => ?_)
    refine g_aload_n (nx := 45) 0 F dX12_go_44 rfl rfl rfl ?_
    refine g_getV (nx := 48) (nI n) F dX12_go_45 rfl fl_RX12_395 rfl (by decide) (by decide) rfl rfl (hn) ?_
    refine g_bipush (nx := 50) (8) F dX12_go_48 rfl (by decide) ?_
    refine g_icmp_ne (nx := 53) 55 F dX12_go_50 rfl (by decide) (fun c_50 => ?_) (fun c_50 => absurd c_50 (by exact fun zq => absurd ((nI_eq (a := n) (b := 8) (by omega) (by omega)).mp zq) (by omega)))
    refine g_aload_n (nx := 56) 0 F dX12_go_55 rfl rfl rfl ?_
    refine g_getR (nx := 59) F dX12_go_56 rfl fl_RX12_113 rfl (by decide) (by decide) rfl ?_
    refine g_aload_n (nx := 60) 0 F dX12_go_59 rfl rfl rfl ?_
    refine g_getV (nx := 63) (nI n) F dX12_go_60 rfl fl_RX12_395 rfl (by decide) (by decide) rfl rfl (hn) ?_
    refine g_iload_n (nx := 64) 1 F dX12_go_63 rfl rfl rfl ?_
    refine g_iastN (nx := 65) (n) F dX12_go_64 rfl rfl (by omega) ?_
    refine g_aload_n (nx := 66) 0 F dX12_go_65 rfl rfl rfl ?_
    refine g_getR (nx := 69) F dX12_go_66 rfl fl_RX12_116 rfl (by decide) (by decide) rfl ?_
    refine g_aload_n (nx := 70) 0 F dX12_go_69 rfl rfl rfl ?_
    refine g_getV (nx := 73) (nI n) F dX12_go_70 rfl fl_RX12_395 rfl (by decide) (by decide) rfl rfl (hn) ?_
    refine g_iload_n (nx := 74) 2 F dX12_go_73 rfl rfl rfl ?_
    refine g_iastN (nx := 75) (n) F dX12_go_74 rfl rfl (by omega) ?_
    refine g_aload_n (nx := 76) 0 F dX12_go_75 rfl rfl rfl ?_
    refine g_getR (nx := 79) F dX12_go_76 rfl fl_RX12_119 rfl (by decide) (by decide) rfl ?_
    refine g_aload_n (nx := 80) 0 F dX12_go_79 rfl rfl rfl ?_
    refine g_getV (nx := 83) (nI n) F dX12_go_80 rfl fl_RX12_395 rfl (by decide) (by decide) rfl rfl (hn) ?_
    refine g_iload_n (nx := 84) 3 F dX12_go_83 rfl rfl rfl ?_
    refine g_iastN (nx := 85) (n) F dX12_go_84 rfl rfl (by omega) ?_
    refine g_aload_n (nx := 86) 0 F dX12_go_85 rfl rfl rfl ?_
    refine g_getR (nx := 89) F dX12_go_86 rfl fl_RX12_122 rfl (by decide) (by decide) rfl ?_
    refine g_aload_n (nx := 90) 0 F dX12_go_89 rfl rfl rfl ?_
    refine g_getV (nx := 93) (nI n) F dX12_go_90 rfl fl_RX12_395 rfl (by decide) (by decide) rfl rfl (hn) ?_
    refine g_iload (nx := 95) F dX12_go_93 rfl rfl ?_
    refine g_iastN (nx := 96) (n) F dX12_go_95 rfl rfl (by omega) ?_
    refine g_aload_n (nx := 97) 0 F dX12_go_96 rfl rfl rfl ?_
    refine g_aload_n (nx := 98) 0 F dX12_go_97 rfl rfl rfl ?_
    refine g_getV (nx := 101) (nI n) F dX12_go_98 rfl fl_RX12_395 rfl (by decide) (by decide) rfl rfl (hn) ?_
    refine g_iconst (nx := 102) (1) F dX12_go_101 rfl rfl ?_
    refine g_iadd (nx := 103) F dX12_go_102 rfl ?_
    rw [nI_1]
    refine g_putI (nx := 106) F dX12_go_103 rfl fl_RX12_395 fi_11_53 rfl (by decide) (by decide) rfl rfl ?_
    refine g_aload_n (nx := 107) 0 F dX12_go_106 rfl rfl rfl ?_
    refine g_getV (nx := 110) (nI (n + 1)) F dX12_go_107 rfl fl_RX12_395 rfl (by decide) (by decide) rfl rfl (rfl) ?_
    refine g_iconst (nx := 111) (1) F dX12_go_110 rfl rfl ?_
    refine g_isub (nx := 112) F dX12_go_111 rfl ?_
    refine g_iret F E dX12_go_112 ?_
    exact Or.inl ⟨hA, by rw [nI_pred], rfl⟩
  · refine g_aload_n (nx := 1) 0 F dX12_go_0 rfl rfl rfl ?_
    refine g_iload_n (nx := 2) 1 F dX12_go_1 rfl rfl rfl ?_
    refine g_callV (nx := 5) 1 0 [.int x] F dX12_go_2 rfl ml_RX12_178 mo_X12_isSet rfl rfl rfl rfl (Nat.le_of_ble_eq_true rfl) (by first | decide | omega) (k_isSet x _) (fun r_2 τ_2 q_2 => ?_)
    obtain ⟨rfl, et_2⟩ := q_2
    have et_2 := et_2.symm
    subst et_2
    dsimp only [Option.toList, List.append, List.cons_append, List.nil_append]
    refine g_if_eq (nx := 8) 53 F dX12_go_5 rfl (by decide) (fun c_5 => ?_) (fun c_5 => ?_)
    · refine g_iconst (nx := 54) (-1) F dX12_go_53 rfl rfl ?_
      refine g_iret F E dX12_go_54 ?_
      exact Or.inr ⟨hA, rfl, rfl⟩
    · refine g_iload_n (nx := 9) 1 F dX12_go_8 rfl rfl rfl ?_
      refine g_if_eq (nx := 12) 53 F dX12_go_9 rfl (by decide) (fun c_9 => ?_) (fun c_9 => ?_)
      · refine g_iconst (nx := 54) (-1) F dX12_go_53 rfl rfl ?_
        refine g_iret F E dX12_go_54 ?_
        exact Or.inr ⟨hA, rfl, rfl⟩
      · refine g_iload_n (nx := 13) 2 F dX12_go_12 rfl rfl rfl ?_
        refine g_iconst (nx := 14) (0) F dX12_go_13 rfl rfl ?_
        refine g_sipush (nx := 17) (30000) F dX12_go_14 rfl (by decide) ?_
        refine g_callS (nx := 20) 3 0 [.int p, .int 0, .int 30000] F dX12_go_17 rfl ml_RX12_174 mo_X12_in rfl rfl (Nat.le_of_ble_eq_true rfl) (by first | decide | omega) (k_in p 0 30000 _) (fun r_17 τ_17 q_17 => ?_)
        obtain ⟨rfl, et_17⟩ := q_17
        have et_17 := et_17.symm
        subst et_17
        dsimp only [Option.toList, List.append, List.cons_append, List.nil_append]
        refine g_if_eq (nx := 23) 53 F dX12_go_20 rfl (by decide) (fun c_20 => ?_) (fun c_20 => ?_)
        · refine g_iconst (nx := 54) (-1) F dX12_go_53 rfl rfl ?_
          refine g_iret F E dX12_go_54 ?_
          exact Or.inr ⟨hA, rfl, rfl⟩
        · refine g_iload_n (nx := 24) 3 F dX12_go_23 rfl rfl rfl ?_
          refine g_iconst (nx := 25) (0) F dX12_go_24 rfl rfl ?_
          refine g_sipush (nx := 28) (30000) F dX12_go_25 rfl (by decide) ?_
          refine g_callS (nx := 31) 3 0 [.int a, .int 0, .int 30000] F dX12_go_28 rfl ml_RX12_174 mo_X12_in rfl rfl (Nat.le_of_ble_eq_true rfl) (by first | decide | omega) (k_in a 0 30000 _) (fun r_28 τ_28 q_28 => ?_)
          obtain ⟨rfl, et_28⟩ := q_28
          have et_28 := et_28.symm
          subst et_28
          dsimp only [Option.toList, List.append, List.cons_append, List.nil_append]
          refine g_if_eq (nx := 34) 53 F dX12_go_31 rfl (by decide) (fun c_31 => ?_) (fun c_31 => ?_)
          · refine g_iconst (nx := 54) (-1) F dX12_go_53 rfl rfl ?_
            refine g_iret F E dX12_go_54 ?_
            exact Or.inr ⟨hA, rfl, rfl⟩
          · refine g_iload (nx := 36) F dX12_go_34 rfl rfl ?_
            refine g_iload_n (nx := 37) 3 F dX12_go_36 rfl rfl rfl ?_
            refine g_iload_n (nx := 38) 2 F dX12_go_37 rfl rfl rfl ?_
            refine g_callS (nx := 41) 3 0 [.int b, .int a, .int p] F dX12_go_38 rfl ml_RX12_174 mo_X12_in rfl rfl (Nat.le_of_ble_eq_true rfl) (by first | decide | omega) (k_in b a p _) (fun r_38 τ_38 q_38 => ?_)
            obtain ⟨rfl, et_38⟩ := q_38
            have et_38 := et_38.symm
            subst et_38
            dsimp only [Option.toList, List.append, List.cons_append, List.nil_append]
            refine g_if_eq (nx := 44) 53 F dX12_go_41 rfl (by decide) (fun c_41 => ?_) (fun c_41 => ?_)
            · refine g_iconst (nx := 54) (-1) F dX12_go_53 rfl rfl ?_
              refine g_iret F E dX12_go_54 ?_
              exact Or.inr ⟨hA, rfl, rfl⟩
            · refine g_aload_n (nx := 45) 0 F dX12_go_44 rfl rfl rfl ?_
              refine g_getV (nx := 48) (nI n) F dX12_go_45 rfl fl_RX12_395 rfl (by decide) (by decide) rfl rfl (hn) ?_
              refine g_bipush (nx := 50) (8) F dX12_go_48 rfl (by decide) ?_
              refine g_icmp_ne (nx := 53) 55 F dX12_go_50 rfl (by decide) (fun c_50 => ?_) (fun c_50 => ?_)
              · have c8 := Decidable.not_not.mp (mt bI_0.mpr c_5)
                refine absurd ⟨⟨c_9, c8⟩, ?_⟩ hA
                clear hA E F c8 c_5 c_9
                have e_n : (nI n).toInt = n := nI_toInt (by omega)
                simp only [isin, bI_0, bI_n0, ne_eq, Decidable.not_not] at *
                (try simp only [fa_eq, fa_lt, fa_le, Int32.reduceToInt, Int32.toInt_zero] at *)
                omega
              · refine g_iconst (nx := 54) (-1) F dX12_go_53 rfl rfl ?_
                refine g_iret F E dX12_go_54 ?_
                exact Or.inr ⟨hA, rfl, rfl⟩
-- 0 .iload_n 1; 1 .ifCond .lt 21; 4 .iload_n 1; 5 .aload_n 0; 6 .getfield 20; 9 .arraylength; 10 .if_icmp .ge 12; 13 .aload_n 0; 14 .getfield 20; 17 .iload_n 1; 18 .aaload; 19 .goto 7; 22 .aload_n 0; 23 .getfield 51; 26 .astore_n 2; 27 .aload_n 2; 28 .ifnonnull 10; 31 .aload_n 0; 32 .getfield 51; 35 .goto 4; 38 .aload_n 2; 39 .areturn
set_option maxHeartbeats 4000000 in
set_option maxRecDepth 100000 in
theorem c_wayOf (i t : Nat) (σ : zSt) (ht : (σ 6 i).toNatClampNeg = t) (h : i < 10) : Con mX2_wayOf 0 [.ref 3, .int (nI i)] σ (fun r τ => r = some (.ref t) ∧ τ = σ) := by
  refine Con.of (lv := [.ref 3, .int (nI i), .long 0]) mk_X2_wayOf rfl (Nat.le_of_ble_eq_true rfl) rfl (fun X F E => ?_)
  refine g_iload_n (nx := 1) 1 F dX2_wayOf_0 rfl rfl rfl ?_
  refine g_if_lt (nx := 4) 22 F dX2_wayOf_1 rfl (by decide) (fun c_1 => absurd c_1 (by exact nI_pos (by omega))) (fun c_1 => ?_)
  refine g_iload_n (nx := 5) 1 F dX2_wayOf_4 rfl rfl rfl ?_
  refine g_aload_n (nx := 6) 0 F dX2_wayOf_5 rfl rfl rfl ?_
  refine g_getR (nx := 9) F dX2_wayOf_6 rfl fl_RX2_20 rfl (by decide) (by decide) rfl ?_
  refine g_alenT (nx := 10) F dX2_wayOf_9 rfl rfl ?_
  refine g_icmp_ge (nx := 13) 22 F dX2_wayOf_10 rfl (by decide) (fun c_10 => absurd c_10 (by exact nI_ge (b := 10) (by omega) (by omega))) (fun c_10 => ?_)
  refine g_aload_n (nx := 14) 0 F dX2_wayOf_13 rfl rfl rfl ?_
  refine g_getR (nx := 17) F dX2_wayOf_14 rfl fl_RX2_20 rfl (by decide) (by decide) rfl ?_
  refine g_iload_n (nx := 18) 1 F dX2_wayOf_17 rfl rfl rfl ?_
  refine g_aaldN (nx := 19) (i) (t) F dX2_wayOf_18 rfl rfl (by omega) (ht) ?_
  refine g_goto 26 F dX2_wayOf_19 (by decide) ?_
  refine g_astore_n (nx := 27) 2 F dX2_wayOf_26 rfl rfl (by decide) ?_
  try dsimp only [List.set]
  refine g_aload_n (nx := 28) 2 F dX2_wayOf_27 rfl rfl rfl ?_
  refine g_ifnonnull 38 F dX2_wayOf_28 (by decide) ?_
  refine g_aload_n (nx := 39) 2 F dX2_wayOf_38 rfl rfl rfl ?_
  refine g_aret F E dX2_wayOf_39 ?_
  exact ⟨rfl, rfl⟩
