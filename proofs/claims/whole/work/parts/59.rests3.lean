theorem fK_tr {σ τ ρ : zSt} (h : fK σ τ) (g : fK τ ρ) : fK σ ρ := fun a h1 h2 => (g a h1 h2).trans (h a h1 h2)
theorem fK_rf (σ : zSt) : fK σ σ := fun _ _ _ => rfl
theorem gn_let {g : Nat → Int32} (hz : ∀ k, k < 12 → g k = 0) (a b c d f : Int32) : ∀ k, k < 12 → upd (upd (upd (upd (upd g 5 a) 6 b) 7 c) 8 d) 9 f k = fcF 0 0 0 0 0 a b c d f 0 0 k
  | 0, _ => hz 0 (by decide)
  | 1, _ => hz 1 (by decide)
  | 2, _ => hz 2 (by decide)
  | 3, _ => hz 3 (by decide)
  | 4, _ => hz 4 (by decide)
  | 5, _ => rfl
  | 6, _ => rfl
  | 7, _ => rfl
  | 8, _ => rfl
  | 9, _ => rfl
  | 10, _ => hz 10 (by decide)
  | 11, _ => hz 11 (by decide)
  | k + 12, h => absurd h (by omega)
theorem woB_1 {gv : Nat → Nat → Int32} {x i : Nat} (h : x / 2 ^ i % 2 = 1) : woB gv x i = decide (gv i (bcN x - x / 2 ^ i % 2) < 0) := by unfold woB; rw [if_pos h, h]
theorem woB_0 {gv : Nat → Nat → Int32} {x i : Nat} (h : ¬ x / 2 ^ i % 2 = 1) : woB gv x i = decide (0 < gv i (bcN x - x / 2 ^ i % 2)) := by unfold woB; rw [if_neg h, show x / 2 ^ i % 2 = 0 by omega]; rfl
set_option maxHeartbeats 4000000 in
set_option maxRecDepth 100000 in
theorem k_gainOf (op vl : Nat → Nat) (len e x i : Nat) (fe pa : Nat → Int32) (σ : zSt) (hg : gnK σ op vl len e fe pa) (h10 : x < 1024) (hi : i < e) : Con mX12_gainOf 2 [.ref 145, .int (nI i), .int (nI x)] σ (fun r τ => r = some (.int (gvF op vl len fe pa e i (bcN x - x / 2 ^ i % 2))) ∧ fK σ τ) := by
  refine Con.of (lv := [.ref 145, .int (nI i), .int (nI x), .long 0]) mk_X12_gainOf rfl (Nat.le_of_ble_eq_true rfl) rfl (fun X F E => ?_)
  obtain ⟨hfe, hpa, hc, he10, h172, h174, hcode, hlen, hvl, dp, bl, hw⟩ := hg
  have hoff := off_ok x h10 i (by omega)
  have L : ∀ (q k : Nat) (g : Nat → Int32), k + q = 12 → (∀ j, j < k → g j = 0) → Gs X 2 [.ref 145, .int (nI i), .int (nI x), .int (nI k)] [] (zs σ 176 g) := by
    intro q
    induction q with
    | zero =>
      intro k g hk hz
      have hk : k = 12 := hk
      subst hk
      refine g_iload_n (nx := 3) 3 F dX12_gainOf_2 rfl rfl rfl ?_
      refine g_bipush (nx := 5) (12) F dX12_gainOf_3 rfl (by decide) ?_
      refine g_icmp_ge (nx := 8) 21 F dX12_gainOf_5 rfl (by decide) (fun c_5 => ?_) (fun c_5 => absurd c_5 (by decide))
      refine g_aload_n (nx := 22) 0 F dX12_gainOf_21 rfl rfl rfl ?_
      refine g_getR (nx := 25) F dX12_gainOf_22 rfl fl_RX12_101 rfl (by decide) (by decide) rfl ?_
      refine g_iconst (nx := 26) (5) F dX12_gainOf_25 rfl rfl ?_
      refine g_aload_n (nx := 27) 0 F dX12_gainOf_26 rfl rfl rfl ?_
      refine g_getR (nx := 30) F dX12_gainOf_27 rfl fl_RX12_13 rfl (by decide) (by decide) rfl ?_
      refine g_iload_n (nx := 31) 1 F dX12_gainOf_30 rfl rfl rfl ?_
      refine g_ialdN (nx := 32) (i) (fe i) F dX12_gainOf_31 rfl rfl (by omega) (congrFun hfe i) ?_
      show Gs X 32 _ (.int _ :: .int (nI 5) :: .ref 176 :: []) _
      refine g_iastN (nx := 33) (5) F dX12_gainOf_32 rfl rfl (by decide) ?_
      refine g_aload_n (nx := 34) 0 F dX12_gainOf_33 rfl rfl rfl ?_
      refine g_getR (nx := 37) F dX12_gainOf_34 rfl fl_RX12_101 rfl (by decide) (by decide) rfl ?_
      refine g_bipush (nx := 39) (6) F dX12_gainOf_37 rfl (by decide) ?_
      refine g_aload_n (nx := 40) 0 F dX12_gainOf_39 rfl rfl rfl ?_
      refine g_getR (nx := 43) F dX12_gainOf_40 rfl fl_RX12_7 rfl (by decide) (by decide) rfl ?_
      refine g_iload_n (nx := 44) 1 F dX12_gainOf_43 rfl rfl rfl ?_
      refine g_ialdN (nx := 45) (i) (pa i) F dX12_gainOf_44 rfl rfl (by omega) (congrFun hpa i) ?_
      show Gs X 45 _ (.int _ :: .int (nI 6) :: .ref 176 :: []) _
      refine g_iastN (nx := 46) (6) F dX12_gainOf_45 rfl rfl (by decide) ?_
      refine g_aload_n (nx := 47) 0 F dX12_gainOf_46 rfl rfl rfl ?_
      refine g_getR (nx := 50) F dX12_gainOf_47 rfl fl_RX12_101 rfl (by decide) (by decide) rfl ?_
      refine g_bipush (nx := 52) (7) F dX12_gainOf_50 rfl (by decide) ?_
      refine g_iload_n (nx := 53) 1 F dX12_gainOf_52 rfl rfl rfl ?_
      show Gs X 53 _ (.int _ :: .int (nI 7) :: .ref 176 :: []) _
      refine g_iastN (nx := 54) (7) F dX12_gainOf_53 rfl rfl (by decide) ?_
      refine g_aload_n (nx := 55) 0 F dX12_gainOf_54 rfl rfl rfl ?_
      refine g_getR (nx := 58) F dX12_gainOf_55 rfl fl_RX12_101 rfl (by decide) (by decide) rfl ?_
      refine g_bipush (nx := 60) (8) F dX12_gainOf_58 rfl (by decide) ?_
      refine g_aload_n (nx := 61) 0 F dX12_gainOf_60 rfl rfl rfl ?_
      refine g_getV (nx := 64) (nI e) F dX12_gainOf_61 rfl fl_RX12_165 rfl (by decide) (by decide) rfl rfl (hc) ?_
      show Gs X 64 _ (.int _ :: .int (nI 8) :: .ref 176 :: []) _
      refine g_iastN (nx := 65) (8) F dX12_gainOf_64 rfl rfl (by decide) ?_
      refine g_aload_n (nx := 66) 0 F dX12_gainOf_65 rfl rfl rfl ?_
      refine g_getR (nx := 69) F dX12_gainOf_66 rfl fl_RX12_101 rfl (by decide) (by decide) rfl ?_
      refine g_bipush (nx := 71) (9) F dX12_gainOf_69 rfl (by decide) ?_
      refine g_iload_n (nx := 72) 2 F dX12_gainOf_71 rfl rfl rfl ?_
      refine g_iconst (nx := 73) (1) F dX12_gainOf_72 rfl rfl ?_
      refine g_iload_n (nx := 74) 1 F dX12_gainOf_73 rfl rfl rfl ?_
      refine g_ishl (nx := 75) F dX12_gainOf_74 rfl ?_
      refine g_iconst (nx := 76) (-1) F dX12_gainOf_75 rfl rfl ?_
      refine g_ixor (nx := 77) F dX12_gainOf_76 rfl ?_
      refine g_iand (nx := 78) F dX12_gainOf_77 rfl ?_
      rw [hoff.1]
      refine g_callS (nx := 81) 1 0 [.int (nI (x - x / 2 ^ i % 2 * 2 ^ i))] F dX12_gainOf_78 rfl ml_RX12_328 mo_X12_bits rfl rfl (Nat.le_of_ble_eq_true rfl) (by first | decide | omega) (k_bits _ _ hoff.2.1) (fun r_78 τ_78 q_78 => ?_)
      obtain ⟨rfl, et_78⟩ := q_78
      have et_78 := et_78.symm
      subst et_78
      dsimp only [Option.toList, List.append, List.cons_append, List.nil_append]
      rw [hoff.2.2, zs_zu, zs_zu, zs_zu, zs_zu]
      show Gs X 81 _ (.int _ :: .int (nI 9) :: .ref 176 :: []) _
      refine g_iastN (nx := 82) (9) F dX12_gainOf_81 rfl rfl (by decide) ?_
      rw [zs_zu]
      refine g_aload_n (nx := 83) 0 F dX12_gainOf_82 rfl rfl rfl ?_
      refine g_aload_n (nx := 84) 0 F dX12_gainOf_83 rfl rfl rfl ?_
      refine g_getR (nx := 87) F dX12_gainOf_84 rfl fl_RX12_89 rfl (by decide) (by decide) rfl ?_
      refine g_sipush (nx := 90) (132) F dX12_gainOf_87 rfl (by decide) ?_
      show Gs X 90 _ (.int (nI 132) :: .ref 172 :: _) _
      refine g_ialdN (nx := 91) (132) (nI 1980) F dX12_gainOf_90 rfl rfl (by decide) (h172) ?_
      refine g_aload_n (nx := 92) 0 F dX12_gainOf_91 rfl rfl rfl ?_
      refine g_getR (nx := 95) F dX12_gainOf_92 rfl fl_RX12_95 rfl (by decide) (by decide) rfl ?_
      refine g_sipush (nx := 98) (132) F dX12_gainOf_95 rfl (by decide) ?_
      show Gs X 98 _ (.int (nI 132) :: .ref 174 :: _) _
      refine g_ialdN (nx := 99) (132) (nI (1980 + len)) F dX12_gainOf_98 rfl rfl (by decide) (h174) ?_
      refine g_callV (nx := 102) 2 1 [.int (nI (1980 + 0)), .int (nI (1980 + len))] F dX12_gainOf_99 rfl ml_RX12_302 mo_X12_comesTo rfl rfl rfl rfl (Nat.le_of_ble_eq_true rfl) (by first | decide | omega) (k_comesTo 1980 11 0 len len op vl dp bl (zs σ 176 _) rfl (by decide) hlen (Nat.le_refl _) hcode hvl hw) (fun r_99 τ_99 q_99 => ?_)
      obtain ⟨⟨g_99, et_99⟩, rfl⟩ := q_99
      subst et_99
      dsimp only [Option.toList, List.append, List.cons_append, List.nil_append]
      refine g_iret F E dX12_gainOf_102 ?_
      refine ⟨congrArg (fun z => some (Value.int z)) (ev_congr hw (fun k hk => ?_) _ _ _ (Nat.le_refl _)), fun a a1 a2 => by rw [zs_ne _ a1, zs_ne _ a2]⟩
      rw [zs_at]
      exact gn_let hz _ _ _ _ _ k hk
    | succ q ih =>
      intro k g hk hz
      refine g_iload_n (nx := 3) 3 F dX12_gainOf_2 rfl rfl rfl ?_
      refine g_bipush (nx := 5) (12) F dX12_gainOf_3 rfl (by decide) ?_
      refine g_icmp_ge (nx := 8) 21 F dX12_gainOf_5 rfl (by decide) (fun c_5 => absurd c_5 (by exact nI_ge (b := 12) (by omega) (by omega))) (fun c_5 => ?_)
      refine g_aload_n (nx := 9) 0 F dX12_gainOf_8 rfl rfl rfl ?_
      refine g_getR (nx := 12) F dX12_gainOf_9 rfl fl_RX12_101 rfl (by decide) (by decide) rfl ?_
      refine g_iload_n (nx := 13) 3 F dX12_gainOf_12 rfl rfl rfl ?_
      refine g_iconst (nx := 14) (0) F dX12_gainOf_13 rfl rfl ?_
      refine g_iastN (nx := 15) (k) F dX12_gainOf_14 rfl rfl (by omega) ?_
      refine g_iinc (nx := 18) (1) F dX12_gainOf_15 rfl rfl (by decide) (by decide) ?_
      try dsimp only [List.set]
      refine g_goto 2 F dX12_gainOf_18 (by decide) ?_
      rw [nI_1, zs_zu]
      refine ih (k + 1) _ (by omega) (fun j hj => ?_)
      by_cases ez : j = k
      · subst ez; exact if_pos rfl
      · exact (if_neg ez).trans (hz j (by omega))
  refine g_iconst (nx := 1) (0) F dX12_gainOf_0 rfl rfl ?_
  refine g_istore_n (nx := 2) 3 F dX12_gainOf_1 rfl rfl (by decide) ?_
  try dsimp only [List.set]
  refine g_st (zs σ 176 (σ 176)) (zs_id σ 176 _ rfl).symm ?_
  exact L 12 0 (σ 176) (by omega) (fun j hj => absurd hj (Nat.not_lt_zero j))
set_option maxHeartbeats 4000000 in
set_option maxRecDepth 100000 in
theorem k_wants (op vl : Nat → Nat) (len e x i : Nat) (fe pa : Nat → Int32) (σ : zSt) (hg : gnK σ op vl len e fe pa) (h10 : x < 1024) (hi : i < e) : Con mX12_wantsOtherwise 3 [.ref 145, .int (nI i), .int (nI x)] σ (fun r τ => r = some (.int (bI (woB (gvF op vl len fe pa e) x i = true))) ∧ fK σ τ) := by
  refine Con.of (lv := [.ref 145, .int (nI i), .int (nI x), .long 0]) mk_X12_wantsOtherwise rfl (Nat.le_of_ble_eq_true rfl) rfl (fun X F E => ?_)
  have he10 := hg.2.2.2.1
  have hbit := bit_ok x h10 i (by omega)
  by_cases hA : x / 2 ^ i % 2 = 1
  · refine g_aload_n (nx := 1) 0 F dX12_wantsOtherwise_0 rfl rfl rfl ?_
    refine g_iload_n (nx := 2) 1 F dX12_wantsOtherwise_1 rfl rfl rfl ?_
    refine g_iload_n (nx := 3) 2 F dX12_wantsOtherwise_2 rfl rfl rfl ?_
    refine g_callV (nx := 6) 2 2 [.int (nI i), .int (nI x)] F dX12_wantsOtherwise_3 rfl ml_RX12_359 mo_X12_gainOf rfl rfl rfl rfl (Nat.le_of_ble_eq_true rfl) (by first | decide | omega) (k_gainOf op vl len e x i fe pa _ hg h10 hi) (fun r_3 τ_3 q_3 => ?_)
    obtain ⟨rfl, hf_3⟩ := q_3
    dsimp only [Option.toList, List.append, List.cons_append, List.nil_append]
    refine g_istore_n (nx := 7) 3 F dX12_wantsOtherwise_6 rfl rfl (by decide) ?_
    try dsimp only [List.set]
    refine g_iload_n (nx := 8) 2 F dX12_wantsOtherwise_7 rfl rfl rfl ?_
    refine g_iload_n (nx := 9) 1 F dX12_wantsOtherwise_8 rfl rfl rfl ?_
    refine g_ishr (nx := 10) F dX12_wantsOtherwise_9 rfl ?_
    refine g_iconst (nx := 11) (1) F dX12_wantsOtherwise_10 rfl rfl ?_
    refine g_iand (nx := 12) F dX12_wantsOtherwise_11 rfl ?_
    rw [hbit]
    refine g_iconst (nx := 13) (1) F dX12_wantsOtherwise_12 rfl rfl ?_
    refine g_icmp_ne (nx := 16) 28 F dX12_wantsOtherwise_13 rfl (by decide) (fun c_13 => absurd c_13 (by exact fun zq => zq ((bt_1 _).mpr hA))) (fun c_13 => ?_)
    refine g_iload_n (nx := 17) 3 F dX12_wantsOtherwise_16 rfl rfl rfl ?_
    refine g_if_ge (nx := 20) 24 F dX12_wantsOtherwise_17 rfl (by decide) (fun c_17 => ?_) (fun c_17 => ?_)
    · refine g_iconst (nx := 25) (0) F dX12_wantsOtherwise_24 rfl rfl ?_
      refine g_goto 37 F dX12_wantsOtherwise_25 (by decide) ?_
      refine g_zret F E dX12_wantsOtherwise_37 (by first | rfl | assumption) ?_
      refine ⟨congrArg (fun z => some (Value.int z)) (Eq.symm ?_), hf_3⟩
      rw [woB_1 hA]
      first
        | exact bI_f (fun z => absurd (of_decide_eq_true z) (not_lt_I.mpr c_17))
        | exact bI_t (decide_eq_true (not_le_I.mp c_17))
    · refine g_iconst (nx := 21) (1) F dX12_wantsOtherwise_20 rfl rfl ?_
      refine g_goto 37 F dX12_wantsOtherwise_21 (by decide) ?_
      refine g_zret F E dX12_wantsOtherwise_37 (by first | rfl | assumption) ?_
      refine ⟨congrArg (fun z => some (Value.int z)) (Eq.symm ?_), hf_3⟩
      rw [woB_1 hA]
      first
        | exact bI_f (fun z => absurd (of_decide_eq_true z) (not_lt_I.mpr c_17))
        | exact bI_t (decide_eq_true (not_le_I.mp c_17))
  · refine g_aload_n (nx := 1) 0 F dX12_wantsOtherwise_0 rfl rfl rfl ?_
    refine g_iload_n (nx := 2) 1 F dX12_wantsOtherwise_1 rfl rfl rfl ?_
    refine g_iload_n (nx := 3) 2 F dX12_wantsOtherwise_2 rfl rfl rfl ?_
    refine g_callV (nx := 6) 2 2 [.int (nI i), .int (nI x)] F dX12_wantsOtherwise_3 rfl ml_RX12_359 mo_X12_gainOf rfl rfl rfl rfl (Nat.le_of_ble_eq_true rfl) (by first | decide | omega) (k_gainOf op vl len e x i fe pa _ hg h10 hi) (fun r_3 τ_3 q_3 => ?_)
    obtain ⟨rfl, hf_3⟩ := q_3
    dsimp only [Option.toList, List.append, List.cons_append, List.nil_append]
    refine g_istore_n (nx := 7) 3 F dX12_wantsOtherwise_6 rfl rfl (by decide) ?_
    try dsimp only [List.set]
    refine g_iload_n (nx := 8) 2 F dX12_wantsOtherwise_7 rfl rfl rfl ?_
    refine g_iload_n (nx := 9) 1 F dX12_wantsOtherwise_8 rfl rfl rfl ?_
    refine g_ishr (nx := 10) F dX12_wantsOtherwise_9 rfl ?_
    refine g_iconst (nx := 11) (1) F dX12_wantsOtherwise_10 rfl rfl ?_
    refine g_iand (nx := 12) F dX12_wantsOtherwise_11 rfl ?_
    rw [hbit]
    refine g_iconst (nx := 13) (1) F dX12_wantsOtherwise_12 rfl rfl ?_
    refine g_icmp_ne (nx := 16) 28 F dX12_wantsOtherwise_13 rfl (by decide) (fun c_13 => ?_) (fun c_13 => absurd c_13 (by exact fun zq => hA ((bt_1 _).mp zq)))
    refine g_iload_n (nx := 29) 3 F dX12_wantsOtherwise_28 rfl rfl rfl ?_
    refine g_if_le (nx := 32) 36 F dX12_wantsOtherwise_29 rfl (by decide) (fun c_29 => ?_) (fun c_29 => ?_)
    · refine g_iconst (nx := 37) (0) F dX12_wantsOtherwise_36 rfl rfl ?_
      refine g_zret F E dX12_wantsOtherwise_37 (by first | rfl | assumption) ?_
      refine ⟨congrArg (fun z => some (Value.int z)) (Eq.symm ?_), hf_3⟩
      rw [woB_0 hA]
      first
        | exact bI_f (fun z => absurd (of_decide_eq_true z) (not_lt_I.mpr c_29))
        | exact bI_t (decide_eq_true (not_le_I.mp c_29))
    · refine g_iconst (nx := 33) (1) F dX12_wantsOtherwise_32 rfl rfl ?_
      refine g_goto 37 F dX12_wantsOtherwise_33 (by decide) ?_
      refine g_zret F E dX12_wantsOtherwise_37 (by first | rfl | assumption) ?_
      refine ⟨congrArg (fun z => some (Value.int z)) (Eq.symm ?_), hf_3⟩
      rw [woB_0 hA]
      first
        | exact bI_f (fun z => absurd (of_decide_eq_true z) (not_lt_I.mpr c_29))
        | exact bI_t (decide_eq_true (not_le_I.mp c_29))
set_option maxHeartbeats 4000000 in
set_option maxRecDepth 100000 in
theorem k_isRest (op vl : Nat → Nat) (len e x : Nat) (fe pa : Nat → Int32) (σ : zSt) (hg : gnK σ op vl len e fe pa) (h10 : x < 1024) : Con mX12_isRest 4 [.ref 145, .int (nI x)] σ (fun r τ => r = some (.int (bI (∀ i, i < e → woB (gvF op vl len fe pa e) x i = false))) ∧ fK σ τ) := by
  refine Con.of (lv := [.ref 145, .int (nI x), .long 0]) mk_X12_isRest rfl (Nat.le_of_ble_eq_true rfl) rfl (fun X F E => ?_)
  have hc := hg.2.2.1
  have he10 := hg.2.2.2.1
  have L : ∀ (q i : Nat) (τ : zSt), i + q = e → fK σ τ → (∀ k, k < i → woB (gvF op vl len fe pa e) x k = false) → Gs X 2 [.ref 145, .int (nI x), .int (nI i)] [] τ := by
    intro q
    induction q with
    | zero =>
      intro i τ hi hfr hk
      have hi : i = e := hi
      subst hi
      refine g_iload_n (nx := 3) 2 F dX12_isRest_2 rfl rfl rfl ?_
      refine g_aload_n (nx := 4) 0 F dX12_isRest_3 rfl rfl rfl ?_
      refine g_getV (nx := 7) (nI i) F dX12_isRest_4 rfl fl_RX12_165 rfl (by decide) (by decide) rfl rfl ((congrFun (hfr 145 (by decide) (by decide)) 1).trans hc) ?_
      refine g_icmp_ge (nx := 10) 27 F dX12_isRest_7 rfl (by decide) (fun c_7 => ?_) (fun c_7 => absurd c_7 (by exact fun zq => zq (nI_le (Nat.le_refl i) (by omega))))
      refine g_iconst (nx := 28) (1) F dX12_isRest_27 rfl rfl ?_
      refine g_zret F E dX12_isRest_28 (by first | rfl | assumption) ?_
      exact ⟨congrArg (fun z => some (Value.int z)) (bI_t hk).symm, hfr⟩
    | succ q ih =>
      intro i τ hi hfr hk
      refine g_iload_n (nx := 3) 2 F dX12_isRest_2 rfl rfl rfl ?_
      refine g_aload_n (nx := 4) 0 F dX12_isRest_3 rfl rfl rfl ?_
      refine g_getV (nx := 7) (nI e) F dX12_isRest_4 rfl fl_RX12_165 rfl (by decide) (by decide) rfl rfl ((congrFun (hfr 145 (by decide) (by decide)) 1).trans hc) ?_
      refine g_icmp_ge (nx := 10) 27 F dX12_isRest_7 rfl (by decide) (fun c_7 => absurd c_7 (by exact nI_ge (by omega) (by omega))) (fun c_7 => ?_)
      refine g_aload_n (nx := 11) 0 F dX12_isRest_10 rfl rfl rfl ?_
      refine g_iload_n (nx := 12) 2 F dX12_isRest_11 rfl rfl rfl ?_
      refine g_iload_n (nx := 13) 1 F dX12_isRest_12 rfl rfl rfl ?_
      refine g_callV (nx := 16) 2 3 [.int (nI i), .int (nI x)] F dX12_isRest_13 rfl ml_RX12_362 mo_X12_wantsOtherwise rfl rfl rfl rfl (Nat.le_of_ble_eq_true rfl) (by first | decide | omega) (k_wants op vl len e x i fe pa _ (gnK_fr hfr hg) (by omega) (by omega)) (fun r_13 τ_13 q_13 => ?_)
      obtain ⟨rfl, hf_13⟩ := q_13
      have hfr := fK_tr hfr hf_13
      dsimp only [Option.toList, List.append, List.cons_append, List.nil_append]
      refine g_if_eq (nx := 19) 21 F dX12_isRest_16 rfl (by decide) (fun c_16 => ?_) (fun c_16 => ?_)
      · refine g_iinc (nx := 24) (1) F dX12_isRest_21 rfl rfl (by decide) (by decide) ?_
        try dsimp only [List.set]
        refine g_goto 2 F dX12_isRest_24 (by decide) ?_
        rw [nI_1]
        refine ih (i + 1) _ (by omega) hfr (fun k hk2 => ?_)
        by_cases ez : k = i
        · subst ez; exact Bool.eq_false_iff.mpr (bI_0.mp c_16)
        · exact hk k (by omega)
      · refine g_iconst (nx := 20) (0) F dX12_isRest_19 rfl rfl ?_
        refine g_zret F E dX12_isRest_20 (by first | rfl | assumption) ?_
        exact ⟨congrArg (fun z => some (Value.int z)) (bI_f (fun z => absurd (bI_n0.mp c_16) (by rw [z i (by omega)]; decide))).symm, hfr⟩
  refine g_iconst (nx := 1) (0) F dX12_isRest_0 rfl rfl ?_
  refine g_istore_n (nx := 2) 2 F dX12_isRest_1 rfl rfl (by decide) ?_
  try dsimp only [List.set]
  exact L e 0 σ (by omega) (fK_rf σ) (fun k hk => absurd hk (Nat.not_lt_zero k))
set_option maxHeartbeats 4000000 in
set_option maxRecDepth 100000 in
theorem k_end (op vl : Nat → Nat) (len e x0 : Nat) (fe pa : Nat → Int32) (σ : zSt) (hg : gnK σ op vl len e fe pa) (hx0 : x0 < 2 ^ e) : Con mX12_end 4 [.ref 145, .int (nI x0)] σ (fun r τ => r = some (.int (stF (woB (gvF op vl len fe pa e)) e 100 x0)) ∧ fK σ τ) := by
  refine Con.of (lv := [.ref 145, .int (nI x0), .long 0, .long 0, .long 0, .long 0]) mk_X12_end rfl (Nat.le_of_ble_eq_true rfl) rfl (fun X F E => ?_)
  have hc := hg.2.2.1
  have he10 := hg.2.2.2.1
  have hp10 := pow_e he10
  have L : ∀ (r k x : Nat) (τ : zSt) (z4 z5 : Value), k + r = 100 → x < 2 ^ e → fK σ τ → stF (woB (gvF op vl len fe pa e)) e r x = stF (woB (gvF op vl len fe pa e)) e 100 x0 → Gs X 4 [.ref 145, .int (nI x0), .int (nI x), .int (nI k), z4, z5] [] τ := by
    intro r
    induction r with
    | zero =>
      intro k x τ z4 z5 hk hx hfr hA
      have hk : k = 100 := hk
      subst hk
      refine g_iload_n (nx := 5) 3 F dX12_end_4 rfl rfl rfl ?_
      refine g_bipush (nx := 7) (100) F dX12_end_5 rfl (by decide) ?_
      refine g_icmp_ge (nx := 10) 67 F dX12_end_7 rfl (by decide) (fun c_7 => ?_) (fun c_7 => absurd c_7 (by decide))
      refine g_bipush (nx := 69) (-2) F dX12_end_67 rfl (by decide) ?_
      refine g_iret F E dX12_end_69 ?_
      exact ⟨by rw [← hA]; rfl, hfr⟩
    | succ r ih =>
      intro k x τ z4 z5 hk hx hfr hA
      rw [stF] at hA
      have hcg := ps_cg (wo := woB (gvF op vl len fe pa e)) e 0 x
      have M : ∀ (q i y : Nat) (ch : Bool) (τ : zSt), i + q = e → y < 2 ^ e → fK σ τ → psF (woB (gvF op vl len fe pa e)) q i y = psF (woB (gvF op vl len fe pa e)) e 0 x → cgF (woB (gvF op vl len fe pa e)) e 0 x = (ch || cgF (woB (gvF op vl len fe pa e)) q i y) → Gs X 16 [.ref 145, .int (nI x0), .int (nI y), .int (nI k), .int (bI (ch = true)), .int (nI i)] [] τ := by
        intro q
        induction q with
        | zero =>
          intro i y ch τ hi hy hfr hB hC
          have hi : i = e := hi
          have hB : y = _ := hB
          rw [show cgF (woB (gvF op vl len fe pa e)) 0 i y = false from rfl, Bool.or_false] at hC
          rw [hC] at hcg
          rw [← hB] at hA hcg
          refine g_iload (nx := 18) F dX12_end_16 rfl rfl ?_
          refine g_aload_n (nx := 19) 0 F dX12_end_18 rfl rfl rfl ?_
          refine g_getV (nx := 22) (nI e) F dX12_end_19 rfl fl_RX12_165 rfl (by decide) (by decide) rfl rfl ((congrFun (hfr 145 (by decide) (by decide)) 1).trans hc) ?_
          refine g_icmp_ge (nx := 25) 54 F dX12_end_22 rfl (by decide) (fun c_22 => ?_) (fun c_22 => absurd c_22 (by exact fun zq => zq (nI_le (by omega) (by omega))))
          refine g_iload (nx := 56) F dX12_end_54 rfl rfl ?_
          refine g_if_ne (nx := 59) 61 F dX12_end_56 rfl (by decide) (fun c_56 => ?_) (fun c_56 => ?_)
          · refine g_iinc (nx := 64) (1) F dX12_end_61 rfl rfl (by decide) (by decide) ?_
            try dsimp only [List.set]
            refine g_goto 4 F dX12_end_64 (by decide) ?_
            have hq : ¬ y = x := fun z => absurd (hcg.mp z) (by rw [bI_n0.mp c_56]; decide)
            rw [if_neg hq] at hA
            rw [nI_1]
            exact ih (k + 1) y _ _ _ (by omega) hy hfr hA
          · refine g_iload_n (nx := 60) 2 F dX12_end_59 rfl rfl rfl ?_
            refine g_iret F E dX12_end_60 ?_
            have hq := hcg.mpr (Bool.eq_false_iff.mpr (bI_0.mp c_56))
            rw [if_pos hq] at hA
            exact ⟨by rw [← hA, hq], hfr⟩
        | succ q ih2 =>
          intro i y ch τ hi hy hfr hB hC
          rw [psF] at hB
          rw [cgF] at hC
          refine g_iload (nx := 18) F dX12_end_16 rfl rfl ?_
          refine g_aload_n (nx := 19) 0 F dX12_end_18 rfl rfl rfl ?_
          refine g_getV (nx := 22) (nI e) F dX12_end_19 rfl fl_RX12_165 rfl (by decide) (by decide) rfl rfl ((congrFun (hfr 145 (by decide) (by decide)) 1).trans hc) ?_
          refine g_icmp_ge (nx := 25) 54 F dX12_end_22 rfl (by decide) (fun c_22 => absurd c_22 (by exact nI_ge (by omega) (by omega))) (fun c_22 => ?_)
          refine g_aload_n (nx := 26) 0 F dX12_end_25 rfl rfl rfl ?_
          refine g_iload (nx := 28) F dX12_end_26 rfl rfl ?_
          refine g_iload_n (nx := 29) 2 F dX12_end_28 rfl rfl rfl ?_
          refine g_callV (nx := 32) 2 3 [.int (nI i), .int (nI y)] F dX12_end_29 rfl ml_RX12_362 mo_X12_wantsOtherwise rfl rfl rfl rfl (Nat.le_of_ble_eq_true rfl) (by first | decide | omega) (k_wants op vl len e y i fe pa _ (gnK_fr hfr hg) (by omega) (by omega)) (fun r_29 τ_29 q_29 => ?_)
          obtain ⟨rfl, hf_29⟩ := q_29
          have hfr := fK_tr hfr hf_29
          dsimp only [Option.toList, List.append, List.cons_append, List.nil_append]
          refine g_if_ne (nx := 35) 38 F dX12_end_32 rfl (by decide) (fun c_32 => ?_) (fun c_32 => ?_)
          · refine g_iload_n (nx := 39) 2 F dX12_end_38 rfl rfl rfl ?_
            refine g_iconst (nx := 40) (1) F dX12_end_39 rfl rfl ?_
            refine g_iload (nx := 42) F dX12_end_40 rfl rfl ?_
            refine g_ishl (nx := 43) F dX12_end_42 rfl ?_
            refine g_ixor (nx := 44) F dX12_end_43 rfl ?_
            rw [sh_ok i (by omega), nI_xor]
            refine g_istore_n (nx := 45) 2 F dX12_end_44 rfl rfl (by decide) ?_
            try dsimp only [List.set]
            refine g_iconst (nx := 46) (1) F dX12_end_45 rfl rfl ?_
            refine g_istore (nx := 48) F dX12_end_46 rfl (by decide) ?_
            try dsimp only [List.set]
            refine g_iinc (nx := 51) (1) F dX12_end_48 rfl rfl (by decide) (by decide) ?_
            try dsimp only [List.set]
            refine g_goto 16 F dX12_end_51 (by decide) ?_
            rw [nI_1]
            first
              | (have hq := bI_n0.mp c_32; rw [if_pos hq] at hB hC; rw [hq] at hC; exact ih2 (i + 1) (y ^^^ 2 ^ i) true _ (by omega) (Nat.xor_lt_two_pow hy (Nat.pow_lt_pow_right (by decide) (by omega))) hfr hB (by rw [hC]; simp))
              | (have hq := Bool.eq_false_iff.mpr (bI_0.mp c_32); rw [hq] at hB hC; exact ih2 (i + 1) y ch _ (by omega) hy hfr hB (by rw [hC]; simp))
          · refine g_goto 48 F dX12_end_35 (by decide) ?_
            refine g_iinc (nx := 51) (1) F dX12_end_48 rfl rfl (by decide) (by decide) ?_
            try dsimp only [List.set]
            refine g_goto 16 F dX12_end_51 (by decide) ?_
            rw [nI_1]
            first
              | (have hq := bI_n0.mp c_32; rw [if_pos hq] at hB hC; rw [hq] at hC; exact ih2 (i + 1) (y ^^^ 2 ^ i) true _ (by omega) (Nat.xor_lt_two_pow hy (Nat.pow_lt_pow_right (by decide) (by omega))) hfr hB (by rw [hC]; simp))
              | (have hq := Bool.eq_false_iff.mpr (bI_0.mp c_32); rw [hq] at hB hC; exact ih2 (i + 1) y ch _ (by omega) hy hfr hB (by rw [hC]; simp))
      refine g_iload_n (nx := 5) 3 F dX12_end_4 rfl rfl rfl ?_
      refine g_bipush (nx := 7) (100) F dX12_end_5 rfl (by decide) ?_
      refine g_icmp_ge (nx := 10) 67 F dX12_end_7 rfl (by decide) (fun c_7 => absurd c_7 (by exact nI_ge (b := 100) (by omega) (by omega))) (fun c_7 => ?_)
      refine g_iconst (nx := 11) (0) F dX12_end_10 rfl rfl ?_
      refine g_istore (nx := 13) F dX12_end_11 rfl (by decide) ?_
      try dsimp only [List.set]
      refine g_iconst (nx := 14) (0) F dX12_end_13 rfl rfl ?_
      refine g_istore (nx := 16) F dX12_end_14 rfl (by decide) ?_
      try dsimp only [List.set]
      exact M e 0 x false _ (by omega) hx hfr rfl (by simp)
  refine g_iload_n (nx := 1) 1 F dX12_end_0 rfl rfl rfl ?_
  refine g_istore_n (nx := 2) 2 F dX12_end_1 rfl rfl (by decide) ?_
  try dsimp only [List.set]
  refine g_iconst (nx := 3) (0) F dX12_end_2 rfl rfl ?_
  refine g_istore_n (nx := 4) 3 F dX12_end_3 rfl rfl (by decide) ?_
  try dsimp only [List.set]
  exact L 100 0 x0 _ _ _ (by omega) hx0 (fK_rf σ) rfl
