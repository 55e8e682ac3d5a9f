set_option maxHeartbeats 4000000 in
set_option maxRecDepth 100000 in
theorem c_count (c : Nat) (w : Int32) (σ : zSt) (hc : σ 3 3 = nI c) (h : c ≤ 10) (hT : isT (σ 3 12).toNatClampNeg) (hTw : ∀ i, i < 10 → isT (σ 6 i).toNatClampNeg) : Con mX11_count 1 [.ref 0, .int w] σ (fun r τ => r = some (.int (nsel (σ 17 12) (σ 3 3) (σ 3 6) (σ 3 11) (σ 1 1) (σ 49 1) (σ 52 2) (σ 55 3) (σ 17 13) (σ (σ 3 12).toNatClampNeg 6) (σ 17 14) (fun i => σ (σ 6 i).toNatClampNeg 6) c w)) ∧ τ = σ) := by
  refine Con.of (lv := [.ref 0, .int w]) mk_X11_count rfl (Nat.le_of_ble_eq_true rfl) rfl (fun X F E => ?_)
  have ec : (nI c).toInt = c := nI_toInt (by omega)
  by_cases hw : w.toInt < 20
  · refine g_iload_n (nx := 1) 1 F dX11_count_0 rfl rfl rfl ?_
    refine g_bipush (nx := 3) (20) F dX11_count_1 rfl (by decide) ?_
    refine g_icmp_lt (nx := 6) 35 F dX11_count_3 rfl (by decide) (fun c_3 => ?_) (fun c_3 => absurd c_3 (by simp only [fa_lt, Int32.reduceToInt]; omega))
    refine g_iload_n (nx := 36) 1 F dX11_count_35 rfl rfl rfl ?_
    rcases (show w.toInt = 0 ∨ w.toInt = 1 ∨ w.toInt = 2 ∨ w.toInt = 3 ∨ w.toInt = 4 ∨ w.toInt = 5 ∨ w.toInt = 6 ∨ w.toInt = 7 ∨ w.toInt = 8 ∨ w.toInt = 9 ∨ w.toInt = 10 ∨ (w.toInt < 0 ∨ 10 < w.toInt) by omega) with w_0 | w_1 | w_2 | w_3 | w_4 | w_5 | w_6 | w_7 | w_8 | w_9 | w_10 | w_11
    · refine g_tabN 0 96 F dX11_count_36 (by omega) (by omega) rfl (by decide) ?_
      refine g_aload_n (nx := 97) 0 F dX11_count_96 rfl rfl rfl ?_
      refine g_getR (nx := 100) F dX11_count_97 rfl fl_RX11_44 rfl (by decide) (by decide) rfl ?_
      refine g_getI (nx := 103) F dX11_count_100 rfl fl_RX11_108 rfl (by decide) (by decide) rfl rfl ?_
      refine g_iret F E dX11_count_103 ?_
      refine ⟨congrArg (fun z => some (Value.int z)) ?_, rfl⟩
      unfold nsel
      rw [if_pos (by omega)]
    · refine g_tabN 1 104 F dX11_count_36 (by omega) (by omega) rfl (by decide) ?_
      refine g_aload_n (nx := 105) 0 F dX11_count_104 rfl rfl rfl ?_
      refine g_getR (nx := 108) F dX11_count_105 rfl fl_RX11_19 rfl (by decide) (by decide) rfl ?_
      refine g_getI (nx := 111) F dX11_count_108 rfl fl_RX11_344 rfl (by decide) (by decide) rfl rfl ?_
      refine g_iret F E dX11_count_111 ?_
      refine ⟨congrArg (fun z => some (Value.int z)) ?_, rfl⟩
      unfold nsel
      rw [if_neg (by omega)]
      rw [if_pos (by omega)]
    · refine g_tabN 2 112 F dX11_count_36 (by omega) (by omega) rfl (by decide) ?_
      refine g_aload_n (nx := 113) 0 F dX11_count_112 rfl rfl rfl ?_
      refine g_getR (nx := 116) F dX11_count_113 rfl fl_RX11_19 rfl (by decide) (by decide) rfl ?_
      refine g_getI (nx := 119) F dX11_count_116 rfl fl_RX11_105 rfl (by decide) (by decide) rfl rfl ?_
      refine g_iret F E dX11_count_119 ?_
      refine ⟨congrArg (fun z => some (Value.int z)) ?_, rfl⟩
      unfold nsel
      rw [if_neg (by omega)]
      rw [if_neg (by omega)]
      rw [if_pos (by omega)]
    · refine g_tabN 3 120 F dX11_count_36 (by omega) (by omega) rfl (by decide) ?_
      refine g_aload_n (nx := 121) 0 F dX11_count_120 rfl rfl rfl ?_
      refine g_getR (nx := 124) F dX11_count_121 rfl fl_RX11_19 rfl (by decide) (by decide) rfl ?_
      refine g_getI (nx := 127) F dX11_count_124 rfl fl_RX11_91 rfl (by decide) (by decide) rfl rfl ?_
      refine g_iret F E dX11_count_127 ?_
      refine ⟨congrArg (fun z => some (Value.int z)) ?_, rfl⟩
      unfold nsel
      rw [if_neg (by omega)]
      rw [if_neg (by omega)]
      rw [if_neg (by omega)]
      rw [if_pos (by omega)]
    · refine g_tabN 4 128 F dX11_count_36 (by omega) (by omega) rfl (by decide) ?_
      refine g_aload_n (nx := 129) 0 F dX11_count_128 rfl rfl rfl ?_
      refine g_getR (nx := 132) F dX11_count_129 rfl fl_RX11_10 rfl (by decide) (by decide) rfl ?_
      refine g_getI (nx := 135) F dX11_count_132 rfl fl_RX11_119 rfl (by decide) (by decide) rfl rfl ?_
      refine g_iret F E dX11_count_135 ?_
      refine ⟨congrArg (fun z => some (Value.int z)) ?_, rfl⟩
      unfold nsel
      rw [if_neg (by omega)]
      rw [if_neg (by omega)]
      rw [if_neg (by omega)]
      rw [if_neg (by omega)]
      rw [if_pos (by omega)]
    · refine g_tabN 5 136 F dX11_count_36 (by omega) (by omega) rfl (by decide) ?_
      refine g_aload_n (nx := 137) 0 F dX11_count_136 rfl rfl rfl ?_
      refine g_getR (nx := 140) F dX11_count_137 rfl fl_RX11_61 rfl (by decide) (by decide) rfl ?_
      refine g_getI (nx := 143) F dX11_count_140 rfl fl_RX11_347 rfl (by decide) (by decide) rfl rfl ?_
      refine g_iret F E dX11_count_143 ?_
      refine ⟨congrArg (fun z => some (Value.int z)) ?_, rfl⟩
      unfold nsel
      rw [if_neg (by omega)]
      rw [if_neg (by omega)]
      rw [if_neg (by omega)]
      rw [if_neg (by omega)]
      rw [if_neg (by omega)]
      rw [if_pos (by omega)]
    · refine g_tabN 6 144 F dX11_count_36 (by omega) (by omega) rfl (by decide) ?_
      refine g_aload_n (nx := 145) 0 F dX11_count_144 rfl rfl rfl ?_
      refine g_getR (nx := 148) F dX11_count_145 rfl fl_RX11_68 rfl (by decide) (by decide) rfl ?_
      refine g_getI (nx := 151) F dX11_count_148 rfl fl_RX11_350 rfl (by decide) (by decide) rfl rfl ?_
      refine g_iret F E dX11_count_151 ?_
      refine ⟨congrArg (fun z => some (Value.int z)) ?_, rfl⟩
      unfold nsel
      rw [if_neg (by omega)]
      rw [if_neg (by omega)]
      rw [if_neg (by omega)]
      rw [if_neg (by omega)]
      rw [if_neg (by omega)]
      rw [if_neg (by omega)]
      rw [if_pos (by omega)]
    · refine g_tabN 7 152 F dX11_count_36 (by omega) (by omega) rfl (by decide) ?_
      refine g_aload_n (nx := 153) 0 F dX11_count_152 rfl rfl rfl ?_
      refine g_getR (nx := 156) F dX11_count_153 rfl fl_RX11_75 rfl (by decide) (by decide) rfl ?_
      refine g_getI (nx := 159) F dX11_count_156 rfl fl_RX11_353 rfl (by decide) (by decide) rfl rfl ?_
      refine g_iret F E dX11_count_159 ?_
      refine ⟨congrArg (fun z => some (Value.int z)) ?_, rfl⟩
      unfold nsel
      rw [if_neg (by omega)]
      rw [if_neg (by omega)]
      rw [if_neg (by omega)]
      rw [if_neg (by omega)]
      rw [if_neg (by omega)]
      rw [if_neg (by omega)]
      rw [if_neg (by omega)]
      rw [if_pos (by omega)]
    · refine g_tabN 8 160 F dX11_count_36 (by omega) (by omega) rfl (by decide) ?_
      refine g_aload_n (nx := 161) 0 F dX11_count_160 rfl rfl rfl ?_
      refine g_getR (nx := 164) F dX11_count_161 rfl fl_RX11_44 rfl (by decide) (by decide) rfl ?_
      refine g_getI (nx := 167) F dX11_count_164 rfl fl_RX11_102 rfl (by decide) (by decide) rfl rfl ?_
      refine g_iret F E dX11_count_167 ?_
      refine ⟨congrArg (fun z => some (Value.int z)) ?_, rfl⟩
      unfold nsel
      rw [if_neg (by omega)]
      rw [if_neg (by omega)]
      rw [if_neg (by omega)]
      rw [if_neg (by omega)]
      rw [if_neg (by omega)]
      rw [if_neg (by omega)]
      rw [if_neg (by omega)]
      rw [if_neg (by omega)]
      rw [if_pos (by omega)]
    · refine g_tabN 9 168 F dX11_count_36 (by omega) (by omega) rfl (by decide) ?_
      refine g_aload_n (nx := 169) 0 F dX11_count_168 rfl rfl rfl ?_
      refine g_getR (nx := 172) F dX11_count_169 rfl fl_RX11_19 rfl (by decide) (by decide) rfl ?_
      refine g_getD (nx := 175) F dX11_count_172 rfl fl_RX11_147 rfl (by decide) (by decide) rfl rfl ?_
      refine g_getI (nx := 178) F dX11_count_175 rfl fl_RX11_339 (tx_k hT) (by decide) (by decide) (tx_6 hT) rfl ?_
      refine g_iret F E dX11_count_178 ?_
      refine ⟨congrArg (fun z => some (Value.int z)) ?_, rfl⟩
      unfold nsel
      rw [if_neg (by omega)]
      rw [if_neg (by omega)]
      rw [if_neg (by omega)]
      rw [if_neg (by omega)]
      rw [if_neg (by omega)]
      rw [if_neg (by omega)]
      rw [if_neg (by omega)]
      rw [if_neg (by omega)]
      rw [if_neg (by omega)]
      rw [if_pos (by omega)]
    · refine g_tabN 10 179 F dX11_count_36 (by omega) (by omega) rfl (by decide) ?_
      refine g_aload_n (nx := 180) 0 F dX11_count_179 rfl rfl rfl ?_
      refine g_getR (nx := 183) F dX11_count_180 rfl fl_RX11_44 rfl (by decide) (by decide) rfl ?_
      refine g_getI (nx := 186) F dX11_count_183 rfl fl_RX11_356 rfl (by decide) (by decide) rfl rfl ?_
      refine g_iret F E dX11_count_186 ?_
      refine ⟨congrArg (fun z => some (Value.int z)) ?_, rfl⟩
      unfold nsel
      rw [if_neg (by omega)]
      rw [if_neg (by omega)]
      rw [if_neg (by omega)]
      rw [if_neg (by omega)]
      rw [if_neg (by omega)]
      rw [if_neg (by omega)]
      rw [if_neg (by omega)]
      rw [if_neg (by omega)]
      rw [if_neg (by omega)]
      rw [if_neg (by omega)]
      rw [if_pos (by omega)]
    · refine g_tableOut 187 F dX11_count_36 (by omega) (by decide) ?_
      refine g_iconst (nx := 188) (-1) F dX11_count_187 rfl rfl ?_
      refine g_iret F E dX11_count_188 ?_
      refine ⟨congrArg (fun z => some (Value.int z)) ?_, rfl⟩
      unfold nsel
      rw [if_neg (by omega)]
      rw [if_neg (by omega)]
      rw [if_neg (by omega)]
      rw [if_neg (by omega)]
      rw [if_neg (by omega)]
      rw [if_neg (by omega)]
      rw [if_neg (by omega)]
      rw [if_neg (by omega)]
      rw [if_neg (by omega)]
      rw [if_neg (by omega)]
      rw [if_neg (by omega)]
      rw [if_neg (by omega)]
  · have hsub : (w - 20).toInt = w.toInt - 20 := fb_subI (by have := fb_rng w; simp only [Int32.reduceToInt]; omega) (by have := fb_rng w; simp only [Int32.reduceToInt]; omega)
    by_cases hA : w.toInt < 20 + c
    · obtain ⟨I, hI, eI⟩ := nI_rng (n := 9) (x := w - 20) (by rw [hsub]; omega) (by rw [hsub]; omega)
      have eI2 : (nI I).toInt = I := nI_toInt (by omega)
      have eI3 : w.toInt = I + 20 := by have h1 := hsub; rw [eI, eI2] at h1; omega
      refine g_iload_n (nx := 1) 1 F dX11_count_0 rfl rfl rfl ?_
      refine g_bipush (nx := 3) (20) F dX11_count_1 rfl (by decide) ?_
      refine g_icmp_lt (nx := 6) 35 F dX11_count_3 rfl (by decide) (fun c_3 => absurd c_3 (by simp only [fa_lt, Int32.reduceToInt]; omega)) (fun c_3 => ?_)
      refine g_aload_n (nx := 7) 0 F dX11_count_6 rfl rfl rfl ?_
      refine g_getR (nx := 10) F dX11_count_7 rfl fl_RX11_19 rfl (by decide) (by decide) rfl ?_
      refine g_iload_n (nx := 11) 1 F dX11_count_10 rfl rfl rfl ?_
      refine g_bipush (nx := 13) (20) F dX11_count_11 rfl (by decide) ?_
      refine g_isub (nx := 14) F dX11_count_13 rfl ?_
      rw [eI]
      refine g_callV (nx := 17) 1 0 [.int (nI I)] F dX11_count_14 rfl ml_RX11_125 mo_X2_isClerk rfl rfl rfl rfl (Nat.le_of_ble_eq_true rfl) (by first | decide | omega) (c_isClerk (nI I) _) (fun r_14 τ_14 q_14 => ?_)
      obtain ⟨rfl, et_14⟩ := q_14
      have et_14 := et_14.symm
      subst et_14
      dsimp only [Option.toList, List.append, List.cons_append, List.nil_append]
      refine g_if_eq (nx := 20) 35 F dX11_count_17 rfl (by decide) (fun c_17 => absurd c_17 (by exact bI_n0.mpr (by rw [hc]; omega))) (fun c_17 => ?_)
      refine g_aload_n (nx := 21) 0 F dX11_count_20 rfl rfl rfl ?_
      refine g_getR (nx := 24) F dX11_count_21 rfl fl_RX11_19 rfl (by decide) (by decide) rfl ?_
      refine g_iload_n (nx := 25) 1 F dX11_count_24 rfl rfl rfl ?_
      refine g_bipush (nx := 27) (20) F dX11_count_25 rfl (by decide) ?_
      refine g_isub (nx := 28) F dX11_count_27 rfl ?_
      rw [eI]
      refine g_callV (nx := 31) 1 0 [.int (nI I)] F dX11_count_28 rfl ml_RX11_335 mo_X2_wayOf rfl rfl rfl rfl (Nat.le_of_ble_eq_true rfl) (by first | decide | omega) (c_wayOf I _ _ rfl (by omega)) (fun r_28 τ_28 q_28 => ?_)
      obtain ⟨rfl, et_28⟩ := q_28
      have et_28 := et_28.symm
      subst et_28
      dsimp only [Option.toList, List.append, List.cons_append, List.nil_append]
      refine g_getI (nx := 34) F dX11_count_31 rfl fl_RX11_339 (tx_k (hTw I (by omega))) (by decide) (by decide) (tx_6 (hTw I (by omega))) rfl ?_
      refine g_iret F E dX11_count_34 ?_
      refine ⟨congrArg (fun z => some (Value.int z)) ?_, rfl⟩
      unfold nsel
      rw [if_neg (by omega)]
      rw [if_neg (by omega)]
      rw [if_neg (by omega)]
      rw [if_neg (by omega)]
      rw [if_neg (by omega)]
      rw [if_neg (by omega)]
      rw [if_neg (by omega)]
      rw [if_neg (by omega)]
      rw [if_neg (by omega)]
      rw [if_neg (by omega)]
      rw [if_neg (by omega)]
      rw [if_pos (by omega), show w.toInt.toNat - 20 = I by omega]
    · refine g_iload_n (nx := 1) 1 F dX11_count_0 rfl rfl rfl ?_
      refine g_bipush (nx := 3) (20) F dX11_count_1 rfl (by decide) ?_
      refine g_icmp_lt (nx := 6) 35 F dX11_count_3 rfl (by decide) (fun c_3 => absurd c_3 (by simp only [fa_lt, Int32.reduceToInt]; omega)) (fun c_3 => ?_)
      refine g_aload_n (nx := 7) 0 F dX11_count_6 rfl rfl rfl ?_
      refine g_getR (nx := 10) F dX11_count_7 rfl fl_RX11_19 rfl (by decide) (by decide) rfl ?_
      refine g_iload_n (nx := 11) 1 F dX11_count_10 rfl rfl rfl ?_
      refine g_bipush (nx := 13) (20) F dX11_count_11 rfl (by decide) ?_
      refine g_isub (nx := 14) F dX11_count_13 rfl ?_
      refine g_callV (nx := 17) 1 0 [.int (w - 20)] F dX11_count_14 rfl ml_RX11_125 mo_X2_isClerk rfl rfl rfl rfl (Nat.le_of_ble_eq_true rfl) (by first | decide | omega) (c_isClerk (w - 20) _) (fun r_14 τ_14 q_14 => ?_)
      obtain ⟨rfl, et_14⟩ := q_14
      have et_14 := et_14.symm
      subst et_14
      dsimp only [Option.toList, List.append, List.cons_append, List.nil_append]
      refine g_if_eq (nx := 20) 35 F dX11_count_17 rfl (by decide) (fun c_17 => ?_) (fun c_17 => absurd c_17 (by exact fun q => q (bI_f (by rw [hc, hsub]; omega))))
      refine g_iload_n (nx := 36) 1 F dX11_count_35 rfl rfl rfl ?_
      refine g_tableOut 187 F dX11_count_36 (by omega) (by decide) ?_
      refine g_iconst (nx := 188) (-1) F dX11_count_187 rfl rfl ?_
      refine g_iret F E dX11_count_188 ?_
      refine ⟨congrArg (fun z => some (Value.int z)) ?_, rfl⟩
      unfold nsel
      rw [if_neg (by omega)]
      rw [if_neg (by omega)]
      rw [if_neg (by omega)]
      rw [if_neg (by omega)]
      rw [if_neg (by omega)]
      rw [if_neg (by omega)]
      rw [if_neg (by omega)]
      rw [if_neg (by omega)]
      rw [if_neg (by omega)]
      rw [if_neg (by omega)]
      rw [if_neg (by omega)]
      rw [if_neg (by omega)]
set_option maxHeartbeats 4000000 in
set_option maxRecDepth 100000 in
theorem k_count (c : Nat) (w : Int32) (σ : zSt) (hc : σ 145 1 = nI c) (h : c ≤ 10) : Con mX12_count 1 [.ref 145, .int w] σ (fun r τ => r = some (.int (nsel (σ 145 0) (σ 145 1) (σ 145 2) (σ 145 3) (σ 145 24) (σ 145 51) (σ 145 52) (σ 145 53) (σ 145 5) (σ 170 10) (σ 145 6) (fun i => σ 170 i) c w)) ∧ τ = σ) := by
  refine Con.of (lv := [.ref 145, .int w]) mk_X12_count rfl (Nat.le_of_ble_eq_true rfl) rfl (fun X F E => ?_)
  refine g_iload_n (nx := 1) 1 F dX12_count_0 rfl rfl rfl ?_
  
  rcases (show w.toInt = 0 ∨ w.toInt = 1 ∨ w.toInt = 2 ∨ w.toInt = 3 ∨ w.toInt = 4 ∨ w.toInt = 5 ∨ w.toInt = 6 ∨ w.toInt = 7 ∨ w.toInt = 8 ∨ w.toInt = 9 ∨ w.toInt = 10 ∨ (w.toInt < 0 ∨ 10 < w.toInt) by omega) with w_0 | w_1 | w_2 | w_3 | w_4 | w_5 | w_6 | w_7 | w_8 | w_9 | w_10 | w_11
  · refine g_tabN 0 60 F dX12_count_1 (by omega) (by omega) rfl (by decide) ?_
    refine g_aload_n (nx := 61) 0 F dX12_count_60 rfl rfl rfl ?_
    refine g_getI (nx := 64) F dX12_count_61 rfl fl_RX12_183 rfl (by decide) (by decide) rfl rfl ?_
    refine g_iret F E dX12_count_64 ?_
    refine ⟨congrArg (fun z => some (Value.int z)) ?_, rfl⟩
    unfold nsel
    rw [if_pos (by omega)]
  · refine g_tabN 1 65 F dX12_count_1 (by omega) (by omega) rfl (by decide) ?_
    refine g_aload_n (nx := 66) 0 F dX12_count_65 rfl rfl rfl ?_
    refine g_getI (nx := 69) F dX12_count_66 rfl fl_RX12_165 rfl (by decide) (by decide) rfl rfl ?_
    refine g_iret F E dX12_count_69 ?_
    refine ⟨congrArg (fun z => some (Value.int z)) ?_, rfl⟩
    unfold nsel
    rw [if_neg (by omega)]
    rw [if_pos (by omega)]
  · refine g_tabN 2 70 F dX12_count_1 (by omega) (by omega) rfl (by decide) ?_
    refine g_aload_n (nx := 71) 0 F dX12_count_70 rfl rfl rfl ?_
    refine g_getI (nx := 74) F dX12_count_71 rfl fl_RX12_168 rfl (by decide) (by decide) rfl rfl ?_
    refine g_iret F E dX12_count_74 ?_
    refine ⟨congrArg (fun z => some (Value.int z)) ?_, rfl⟩
    unfold nsel
    rw [if_neg (by omega)]
    rw [if_neg (by omega)]
    rw [if_pos (by omega)]
  · refine g_tabN 3 75 F dX12_count_1 (by omega) (by omega) rfl (by decide) ?_
    refine g_aload_n (nx := 76) 0 F dX12_count_75 rfl rfl rfl ?_
    refine g_getI (nx := 79) F dX12_count_76 rfl fl_RX12_171 rfl (by decide) (by decide) rfl rfl ?_
    refine g_iret F E dX12_count_79 ?_
    refine ⟨congrArg (fun z => some (Value.int z)) ?_, rfl⟩
    unfold nsel
    rw [if_neg (by omega)]
    rw [if_neg (by omega)]
    rw [if_neg (by omega)]
    rw [if_pos (by omega)]
  · refine g_tabN 4 80 F dX12_count_1 (by omega) (by omega) rfl (by decide) ?_
    refine g_aload_n (nx := 81) 0 F dX12_count_80 rfl rfl rfl ?_
    refine g_getI (nx := 84) F dX12_count_81 rfl fl_RX12_186 rfl (by decide) (by decide) rfl rfl ?_
    refine g_iret F E dX12_count_84 ?_
    refine ⟨congrArg (fun z => some (Value.int z)) ?_, rfl⟩
    unfold nsel
    rw [if_neg (by omega)]
    rw [if_neg (by omega)]
    rw [if_neg (by omega)]
    rw [if_neg (by omega)]
    rw [if_pos (by omega)]
  · refine g_tabN 5 85 F dX12_count_1 (by omega) (by omega) rfl (by decide) ?_
    refine g_aload_n (nx := 86) 0 F dX12_count_85 rfl rfl rfl ?_
    refine g_getI (nx := 89) F dX12_count_86 rfl fl_RX12_374 rfl (by decide) (by decide) rfl rfl ?_
    refine g_iret F E dX12_count_89 ?_
    refine ⟨congrArg (fun z => some (Value.int z)) ?_, rfl⟩
    unfold nsel
    rw [if_neg (by omega)]
    rw [if_neg (by omega)]
    rw [if_neg (by omega)]
    rw [if_neg (by omega)]
    rw [if_neg (by omega)]
    rw [if_pos (by omega)]
  · refine g_tabN 6 90 F dX12_count_1 (by omega) (by omega) rfl (by decide) ?_
    refine g_aload_n (nx := 91) 0 F dX12_count_90 rfl rfl rfl ?_
    refine g_getI (nx := 94) F dX12_count_91 rfl fl_RX12_389 rfl (by decide) (by decide) rfl rfl ?_
    refine g_iret F E dX12_count_94 ?_
    refine ⟨congrArg (fun z => some (Value.int z)) ?_, rfl⟩
    unfold nsel
    rw [if_neg (by omega)]
    rw [if_neg (by omega)]
    rw [if_neg (by omega)]
    rw [if_neg (by omega)]
    rw [if_neg (by omega)]
    rw [if_neg (by omega)]
    rw [if_pos (by omega)]
  · refine g_tabN 7 95 F dX12_count_1 (by omega) (by omega) rfl (by decide) ?_
    refine g_aload_n (nx := 96) 0 F dX12_count_95 rfl rfl rfl ?_
    refine g_getI (nx := 99) F dX12_count_96 rfl fl_RX12_395 rfl (by decide) (by decide) rfl rfl ?_
    refine g_iret F E dX12_count_99 ?_
    refine ⟨congrArg (fun z => some (Value.int z)) ?_, rfl⟩
    unfold nsel
    rw [if_neg (by omega)]
    rw [if_neg (by omega)]
    rw [if_neg (by omega)]
    rw [if_neg (by omega)]
    rw [if_neg (by omega)]
    rw [if_neg (by omega)]
    rw [if_neg (by omega)]
    rw [if_pos (by omega)]
  · refine g_tabN 8 100 F dX12_count_1 (by omega) (by omega) rfl (by decide) ?_
    refine g_aload_n (nx := 101) 0 F dX12_count_100 rfl rfl rfl ?_
    refine g_getI (nx := 104) F dX12_count_101 rfl fl_RX12_162 rfl (by decide) (by decide) rfl rfl ?_
    refine g_iret F E dX12_count_104 ?_
    refine ⟨congrArg (fun z => some (Value.int z)) ?_, rfl⟩
    unfold nsel
    rw [if_neg (by omega)]
    rw [if_neg (by omega)]
    rw [if_neg (by omega)]
    rw [if_neg (by omega)]
    rw [if_neg (by omega)]
    rw [if_neg (by omega)]
    rw [if_neg (by omega)]
    rw [if_neg (by omega)]
    rw [if_pos (by omega)]
  · refine g_tabN 9 105 F dX12_count_1 (by omega) (by omega) rfl (by decide) ?_
    refine g_aload_n (nx := 106) 0 F dX12_count_105 rfl rfl rfl ?_
    refine g_getR (nx := 109) F dX12_count_106 rfl fl_RX12_83 rfl (by decide) (by decide) rfl ?_
    refine g_bipush (nx := 111) (10) F dX12_count_109 rfl (by decide) ?_
    refine g_ialdN (nx := 112) (10) (_) F dX12_count_111 rfl rfl (by omega) (rfl) ?_
    refine g_iret F E dX12_count_112 ?_
    refine ⟨congrArg (fun z => some (Value.int z)) ?_, rfl⟩
    unfold nsel
    rw [if_neg (by omega)]
    rw [if_neg (by omega)]
    rw [if_neg (by omega)]
    rw [if_neg (by omega)]
    rw [if_neg (by omega)]
    rw [if_neg (by omega)]
    rw [if_neg (by omega)]
    rw [if_neg (by omega)]
    rw [if_neg (by omega)]
    rw [if_pos (by omega)]
  · refine g_tabN 10 113 F dX12_count_1 (by omega) (by omega) rfl (by decide) ?_
    refine g_aload_n (nx := 114) 0 F dX12_count_113 rfl rfl rfl ?_
    refine g_getI (nx := 117) F dX12_count_114 rfl fl_RX12_308 rfl (by decide) (by decide) rfl rfl ?_
    refine g_iret F E dX12_count_117 ?_
    refine ⟨congrArg (fun z => some (Value.int z)) ?_, rfl⟩
    unfold nsel
    rw [if_neg (by omega)]
    rw [if_neg (by omega)]
    rw [if_neg (by omega)]
    rw [if_neg (by omega)]
    rw [if_neg (by omega)]
    rw [if_neg (by omega)]
    rw [if_neg (by omega)]
    rw [if_neg (by omega)]
    rw [if_neg (by omega)]
    rw [if_neg (by omega)]
    rw [if_pos (by omega)]
  · refine g_tableOut 118 F dX12_count_1 (by omega) (by decide) ?_
    have ec : (nI c).toInt = c := nI_toInt (by omega)
    have e19 : (19 + nI c).toInt = 19 + c := by rw [show (19 : Int32) = nI 19 from rfl, nI_add, nI_toInt (by omega)]; omega
    have hsub : 20 ≤ w.toInt → (w - 20).toInt = w.toInt - 20 := fun _ => fb_subI (by have := fb_rng w; simp only [Int32.reduceToInt]; omega) (by have := fb_rng w; simp only [Int32.reduceToInt]; omega)
    by_cases hA : 20 ≤ w.toInt ∧ w.toInt < 20 + c
    · have hsub := hsub hA.1
      obtain ⟨I, hI, eI⟩ := nI_rng (n := 9) (x := w - 20) (by rw [hsub]; omega) (by rw [hsub]; omega)
      have eI2 : (nI I).toInt = I := nI_toInt (by omega)
      have eI3 : w.toInt = I + 20 := by have h1 := hsub; rw [eI, eI2] at h1; omega
      refine g_iload_n (nx := 119) 1 F dX12_count_118 rfl rfl rfl ?_
      refine g_bipush (nx := 121) (20) F dX12_count_119 rfl (by decide) ?_
      refine g_bipush (nx := 123) (19) F dX12_count_121 rfl (by decide) ?_
      refine g_aload_n (nx := 124) 0 F dX12_count_123 rfl rfl rfl ?_
      refine g_getV (nx := 127) (nI c) F dX12_count_124 rfl fl_RX12_165 rfl (by decide) (by decide) rfl rfl (hc) ?_
      refine g_iadd (nx := 128) F dX12_count_127 rfl ?_
      refine g_callS (nx := 131) 3 0 [.int w, .int 20, .int (19 + nI c)] F dX12_count_128 rfl ml_RX12_174 mo_X12_in rfl rfl (Nat.le_of_ble_eq_true rfl) (by first | decide | omega) (k_in _ _ _ _) (fun r_128 τ_128 q_128 => ?_)
      obtain ⟨rfl, et_128⟩ := q_128
      have et_128 := et_128.symm
      subst et_128
      dsimp only [Option.toList, List.append, List.cons_append, List.nil_append]
      refine g_if_eq (nx := 134) 146 F dX12_count_131 rfl (by decide) (fun c_131 => absurd c_131 (by exact bI_n0.mpr (by simp only [Int32.reduceToInt]; omega))) (fun c_131 => ?_)
      refine g_aload_n (nx := 135) 0 F dX12_count_134 rfl rfl rfl ?_
      refine g_getR (nx := 138) F dX12_count_135 rfl fl_RX12_83 rfl (by decide) (by decide) rfl ?_
      refine g_iload_n (nx := 139) 1 F dX12_count_138 rfl rfl rfl ?_
      refine g_bipush (nx := 141) (20) F dX12_count_139 rfl (by decide) ?_
      refine g_isub (nx := 142) F dX12_count_141 rfl ?_
      rw [eI]
      refine g_ialdN (nx := 143) (I) (_) F dX12_count_142 rfl rfl (by omega) (rfl) ?_
      refine g_goto 147 F dX12_count_143 (by decide) ?_
      refine g_iret F E dX12_count_147 ?_
      refine ⟨congrArg (fun z => some (Value.int z)) ?_, rfl⟩
      unfold nsel
      rw [if_neg (by omega)]
      rw [if_neg (by omega)]
      rw [if_neg (by omega)]
      rw [if_neg (by omega)]
      rw [if_neg (by omega)]
      rw [if_neg (by omega)]
      rw [if_neg (by omega)]
      rw [if_neg (by omega)]
      rw [if_neg (by omega)]
      rw [if_neg (by omega)]
      rw [if_neg (by omega)]
      rw [if_pos (by omega), show w.toInt.toNat - 20 = I by omega]
    · refine g_iload_n (nx := 119) 1 F dX12_count_118 rfl rfl rfl ?_
      refine g_bipush (nx := 121) (20) F dX12_count_119 rfl (by decide) ?_
      refine g_bipush (nx := 123) (19) F dX12_count_121 rfl (by decide) ?_
      refine g_aload_n (nx := 124) 0 F dX12_count_123 rfl rfl rfl ?_
      refine g_getV (nx := 127) (nI c) F dX12_count_124 rfl fl_RX12_165 rfl (by decide) (by decide) rfl rfl (hc) ?_
      refine g_iadd (nx := 128) F dX12_count_127 rfl ?_
      refine g_callS (nx := 131) 3 0 [.int w, .int 20, .int (19 + nI c)] F dX12_count_128 rfl ml_RX12_174 mo_X12_in rfl rfl (Nat.le_of_ble_eq_true rfl) (by first | decide | omega) (k_in _ _ _ _) (fun r_128 τ_128 q_128 => ?_)
      obtain ⟨rfl, et_128⟩ := q_128
      have et_128 := et_128.symm
      subst et_128
      dsimp only [Option.toList, List.append, List.cons_append, List.nil_append]
      refine g_if_eq (nx := 134) 146 F dX12_count_131 rfl (by decide) (fun c_131 => ?_) (fun c_131 => absurd c_131 (by exact fun q => q (bI_f (by simp only [Int32.reduceToInt]; omega))))
      refine g_iconst (nx := 147) (-1) F dX12_count_146 rfl rfl ?_
      refine g_iret F E dX12_count_147 ?_
      refine ⟨congrArg (fun z => some (Value.int z)) ?_, rfl⟩
      unfold nsel
      rw [if_neg (by omega)]
      rw [if_neg (by omega)]
      rw [if_neg (by omega)]
      rw [if_neg (by omega)]
      rw [if_neg (by omega)]
      rw [if_neg (by omega)]
      rw [if_neg (by omega)]
      rw [if_neg (by omega)]
      rw [if_neg (by omega)]
      rw [if_neg (by omega)]
      rw [if_neg (by omega)]
      rw [if_neg (by omega)]
