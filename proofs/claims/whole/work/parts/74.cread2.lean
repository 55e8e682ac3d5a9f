theorem flt_le : ∀ f, f < 6 → ∀ p, p < 161 → fltI f p ≤ 0 := by decide +kernel
def cOK (t : Nat) (c : Nat → Nat) (hd : Nat → Bool) (σ : zSt) (r : Option Value) (τ : zSt) : Prop :=
  ∃ (p2 l2 m : Nat) (op2 vl2 h sf cf en : Nat → Nat), Rn c hd ([(13, 0), (16, 0)], E00, Z00) ([], (p2, 0, l2, op2, vl2), (m, h, sf, cf, en)) ∧ r = some (.int (nI m)) ∧ (1 ≤ m ∧ m ≤ 12) ∧ txC τ t (m, h, sf, cf, en, op2, vl2, l2) ∧ txG (m, h, sf, cf, en, op2, vl2, l2) ∧ frX t σ τ
def cBad (t : Nat) (c : Nat → Nat) (hd : Nat → Bool) (S : TK) (σ : zSt) (r : Option Value) (τ : zSt) : Prop :=
  ∃ (f : Nat) (e : ES) (z : CS), Rn c hd (S, E00, Z00) ([(99, f)], e, z) ∧ r = some (.int (fltI f e.1)) ∧ (1 ≤ f ∧ f ≤ 5 ∧ e.1 ≤ 160) ∧ frX t σ τ
def cGn (t : Nat) (c : Nat → Nat) (σ : zSt) (r : Option Value) (τ : zSt) : Prop :=
  ∃ (p2 l2 : Nat) (op2 vl2 : Nat → Nat), Rn c hdL ([(0, 0), (1, 0), (3, 0), (17, 0)], E00, Z00) ([], (p2, 0, l2, op2, vl2), Z00) ∧ r = some (.int 1) ∧ gnOK op2 vl2 l2 ∧ τ t 1 = nI l2 ∧ (∀ k, k < l2 → τ (t + 1) k = nI (256 * vl2 k + ck (op2 k))) ∧ frX t σ τ
theorem tx_ok {σ : zSt} {t n p l m : Nat} {c op vl h sf cf en : Nat → Nat} (H : pcS σ t c n (p, 0, l, op, vl)) (HZ : clS σ t (m, h, sf, cf, en)) (HW : clW (m, h, sf, cf, en) op vl l) : txC σ t (m, h, sf, cf, en, op, vl, l) ∧ txG (m, h, sf, cf, en, op, vl, l) := by
  have hn := H.1.2.2.1
  have hp := H.2.2.2.1
  have hl := H.2.2.2.2.1
  refine ⟨⟨HZ.2.1, H.2.2.1.1, HZ.2.2, fun k hk => (H.2.2.1.2 k hk).1⟩, ⟨HZ.1, by omega, fun k hk => (H.2.2.1.2 k hk).2.1, fun j hj => ?_⟩, fun j hj => ?_⟩
  · obtain ⟨a1, a2, a3, a4⟩ := HW j hj
    exact ⟨a1, ⟨_, _, wfE_C a2 (by decide)⟩, a3.2⟩
  · have := (HW j hj).2.2.2
    omega
set_option maxHeartbeats 4000000 in
set_option maxRecDepth 100000 in
theorem c_faultHere (t n f p : Nat) (σ : zSt) (H : pcF σ t n f p) : Con mX5_faultHere 0 [.ref 16] σ (fun r τ => r = some (.int (fltI f p)) ∧ τ = σ) := by
  refine Con.of (lv := [.ref 16]) mk_X5_faultHere rfl (Nat.le_of_ble_eq_true rfl) rfl (fun X F E => ?_)
  refine g_sipush (nx := 3) (-1000) F dX5_faultHere_0 rfl (by decide) ?_
  refine g_aload_n (nx := 4) 0 F dX5_faultHere_3 rfl rfl rfl ?_
  refine g_getV (nx := 7) (nI f) F dX5_faultHere_4 rfl fl_RX5_38 rfl (by decide) (by decide) rfl rfl (H.2.2.2.2.2.2.1) ?_
  refine g_imul (nx := 8) F dX5_faultHere_7 rfl ?_
  refine g_aload_n (nx := 9) 0 F dX5_faultHere_8 rfl rfl rfl ?_
  refine g_getV (nx := 12) (nI p) F dX5_faultHere_9 rfl fl_RX5_65 rfl (by decide) (by decide) rfl rfl (H.2.2.2.2.1) ?_
  refine g_isub (nx := 13) F dX5_faultHere_12 rfl ?_
  refine g_iret F E dX5_faultHere_13 ?_
  exact ⟨rfl, rfl⟩
set_option maxHeartbeats 4000000 in
set_option maxRecDepth 100000 in
theorem c_swapFor (t2 : Nat) (σ : zSt) (h2 : t2 < 2 ^ 31) : Con mX5_swapFor 0 [.ref 16, .ref t2] σ (fun r τ => r = some (.ref (σ 16 1).toNatClampNeg) ∧ τ = zu σ 16 1 (nI t2)) := by
  refine Con.of (lv := [.ref 16, .ref t2, .long 0]) mk_X5_swapFor rfl (Nat.le_of_ble_eq_true rfl) rfl (fun X F E => ?_)
  refine g_aload_n (nx := 1) 0 F dX5_swapFor_0 rfl rfl rfl ?_
  refine g_getD (nx := 4) F dX5_swapFor_1 rfl fl_RX5_12 rfl (by decide) (by decide) rfl rfl ?_
  refine g_astore_n (nx := 5) 2 F dX5_swapFor_4 rfl rfl (by decide) ?_
  try dsimp only [List.set]
  refine g_aload_n (nx := 6) 0 F dX5_swapFor_5 rfl rfl rfl ?_
  refine g_aload_n (nx := 7) 1 F dX5_swapFor_6 rfl rfl rfl ?_
  refine g_ifnonnull 20 F dX5_swapFor_7 (by decide) ?_
  refine g_aload_n (nx := 21) 1 F dX5_swapFor_20 rfl rfl rfl ?_
  refine g_putD (nx := 24) F dX5_swapFor_21 rfl fl_RX5_12 fr_4_1 rfl (by decide) (by decide) rfl rfl (h2) ?_
  refine g_aload_n (nx := 25) 2 F dX5_swapFor_24 rfl rfl rfl ?_
  refine g_aret F E dX5_swapFor_25 ?_
  exact ⟨rfl, rfl⟩
set_option maxHeartbeats 4000000 in
set_option maxRecDepth 100000 in
theorem c_hasText (n k : Int32) (σ : zSt) : Con mX9_hasText 0 [.ref 1, .int n, .int k] σ (fun r τ => r = some (.int (bI (1 ≤ n.toInt ∧ n.toInt ≤ k.toInt ∧ n.toInt ≤ (σ 1 1).toInt))) ∧ τ = σ) := by
  refine Con.of (lv := [.ref 1, .int n, .int k]) mk_X9_hasText rfl (Nat.le_of_ble_eq_true rfl) rfl (fun X F E => ?_)
  refine g_iload_n (nx := 1) 1 F dX9_hasText_0 rfl rfl rfl ?_
  refine g_iconst (nx := 2) (1) F dX9_hasText_1 rfl rfl ?_
  refine g_icmp_lt (nx := 5) 22 F dX9_hasText_2 rfl (by decide) (fun c_2 => ?_) (fun c_2 => ?_)
  · refine g_iconst (nx := 23) (0) F dX9_hasText_22 rfl rfl ?_
    refine g_zret F E dX9_hasText_23 (by first | rfl | assumption) ?_
    clear F E
    refine ⟨congrArg (fun z => some (Value.int z)) (Eq.symm ?_), rfl⟩
    first | refine bI_f ?_ | refine bI_t ?_
    all_goals (try simp only [bI_0, bI_n0, bI_1, fa_lt, fa_le, Int32.toInt_zero, Int32.reduceToInt] at *)
    all_goals omega
  · refine g_iload_n (nx := 6) 1 F dX9_hasText_5 rfl rfl rfl ?_
    refine g_iload_n (nx := 7) 2 F dX9_hasText_6 rfl rfl rfl ?_
    refine g_icmp_gt (nx := 10) 22 F dX9_hasText_7 rfl (by decide) (fun c_7 => ?_) (fun c_7 => ?_)
    · refine g_iconst (nx := 23) (0) F dX9_hasText_22 rfl rfl ?_
      refine g_zret F E dX9_hasText_23 (by first | rfl | assumption) ?_
      clear F E
      refine ⟨congrArg (fun z => some (Value.int z)) (Eq.symm ?_), rfl⟩
      first | refine bI_f ?_ | refine bI_t ?_
      all_goals (try simp only [bI_0, bI_n0, bI_1, fa_lt, fa_le, Int32.toInt_zero, Int32.reduceToInt] at *)
      all_goals omega
    · refine g_iload_n (nx := 11) 1 F dX9_hasText_10 rfl rfl rfl ?_
      refine g_aload_n (nx := 12) 0 F dX9_hasText_11 rfl rfl rfl ?_
      refine g_getI (nx := 15) F dX9_hasText_12 rfl fl_RX9_13 rfl (by decide) (by decide) rfl rfl ?_
      refine g_icmp_gt (nx := 18) 22 F dX9_hasText_15 rfl (by decide) (fun c_15 => ?_) (fun c_15 => ?_)
      · refine g_iconst (nx := 23) (0) F dX9_hasText_22 rfl rfl ?_
        refine g_zret F E dX9_hasText_23 (by first | rfl | assumption) ?_
        clear F E
        refine ⟨congrArg (fun z => some (Value.int z)) (Eq.symm ?_), rfl⟩
        first | refine bI_f ?_ | refine bI_t ?_
        all_goals (try simp only [bI_0, bI_n0, bI_1, fa_lt, fa_le, Int32.toInt_zero, Int32.reduceToInt] at *)
        all_goals omega
      · refine g_iconst (nx := 19) (1) F dX9_hasText_18 rfl rfl ?_
        refine g_goto 23 F dX9_hasText_19 (by decide) ?_
        refine g_zret F E dX9_hasText_23 (by first | rfl | assumption) ?_
        clear F E
        refine ⟨congrArg (fun z => some (Value.int z)) (Eq.symm ?_), rfl⟩
        first | refine bI_f ?_ | refine bI_t ?_
        all_goals (try simp only [bI_0, bI_n0, bI_1, fa_lt, fa_le, Int32.toInt_zero, Int32.reduceToInt] at *)
        all_goals omega
set_option maxHeartbeats 4000000 in
set_option maxRecDepth 100000 in
theorem c_readClauses (ks t n : Nat) (c : Nat → Nat) (hd : Nat → Bool) (σ : zSt) (ht : isT t) (hT : (σ 16 1).toNatClampNeg = t) (hin : inC c n) (hn : n ≤ 160) (hb : ∀ q, q < n → σ 2 q &&& 255 = nI (c q)) (hks : ks < 6) (hsee : ∀ x, x < 256 → (0 ≤ (ixS ks (nI x)).toInt ↔ hd x = true)) (hd300 : hd 300 = false) : Con mX5_readClauses 31 [.ref 16, .int (nI n), .ref (1000 + ks)] σ (fun r τ => cOK t c hd σ r τ ∨ cBad t c hd [(13, 0), (16, 0)] σ r τ) := by
  refine Con.of (lv := [.ref 16, .int (nI n), .ref (1000 + ks), .long 0, .long 0]) mk_X5_readClauses rfl (Nat.le_of_ble_eq_true rfl) rfl (fun X F E => ?_)
  have Zf : ∀ (f : Nat) (e : ES) (z : CS) (τ : zSt) (k : Int32), pcF τ t n f e.1 → frX t σ τ → Rn c hd ([(13, 0), (16, 0)], E00, Z00) ([(99, f)], e, z) → Gs X 10 [.ref 16, .int (nI n), .ref (1000 + ks), .int 0, .int k] [] τ := by
    intro f e z τ k hF hf hR
    refine g_iload_n (nx := 11) 3 F dX5_readClauses_10 rfl rfl rfl ?_
    refine g_if_eq (nx := 14) 60 F dX5_readClauses_11 rfl (by decide) (fun c_11 => ?_) (fun c_11 => absurd c_11 (by exact fun zq => zq rfl))
    have hf1 := hF.2.2.2.2.2.2.2.1
    have hf5 := hF.2.2.2.2.2.2.2.2.1
    refine g_aload_n (nx := 61) 0 F dX5_readClauses_60 rfl rfl rfl ?_
    refine g_getV (nx := 64) (nI f) F dX5_readClauses_61 rfl fl_RX5_38 rfl (by decide) (by decide) rfl rfl (hF.2.2.2.2.2.2.1) ?_
    refine g_if_ne (nx := 67) 77 F dX5_readClauses_64 rfl (by decide) (fun c_64 => ?_) (fun c_64 => absurd c_64 (by exact nI_ne0 (by omega) (by omega)))
    refine g_aload_n (nx := 78) 0 F dX5_readClauses_77 rfl rfl rfl ?_
    refine g_callV (nx := 81) 0 0 [] F dX5_readClauses_78 rfl ml_RX5_44 mo_X5_faultHere rfl rfl rfl rfl (Nat.le_of_ble_eq_true rfl) (by first | decide | omega) (c_faultHere t n f e.1 _ hF) (fun r_78 τ_78 q_78 => ?_)
    obtain ⟨rfl, et_78⟩ := q_78
    have et_78 := et_78.symm
    subst et_78
    dsimp only [Option.toList, List.append, List.cons_append, List.nil_append]
    refine g_iret F E dX5_readClauses_81 ?_
    exact Or.inr ⟨f, e, z, hR, rfl, ⟨hf1, hf5, by have h1 := hF.2.2.2.1; have h2 := hF.2.2.2.2.2.1; omega⟩, hf⟩
  have Zok : ∀ (p1 l1 m : Nat) (op1 vl1 h sf cf en : Nat → Nat) (τ : zSt) (k : Int32), pcS τ t c n (p1, 0, l1, op1, vl1) → clS τ t (m, h, sf, cf, en) → clW (m, h, sf, cf, en) op1 vl1 l1 → frX t σ τ → 1 ≤ m → Rn c hd ([(13, 0), (16, 0)], E00, Z00) ([], (p1, 0, l1, op1, vl1), (m, h, sf, cf, en)) → Gs X 10 [.ref 16, .int (nI n), .ref (1000 + ks), .int 0, .int k] [] τ := by
    intro p1 l1 m op1 vl1 h sf cf en τ k H1 HZ1 HW1 hf1 hm1 hR1
    refine g_iload_n (nx := 11) 3 F dX5_readClauses_10 rfl rfl rfl ?_
    refine g_if_eq (nx := 14) 60 F dX5_readClauses_11 rfl (by decide) (fun c_11 => ?_) (fun c_11 => absurd c_11 (by exact fun zq => zq rfl))
    refine g_aload_n (nx := 61) 0 F dX5_readClauses_60 rfl rfl rfl ?_
    refine g_getV (nx := 64) (0) F dX5_readClauses_61 rfl fl_RX5_38 rfl (by decide) (by decide) rfl rfl (H1.2.1.2.2.2.2.2) ?_
    refine g_if_ne (nx := 67) 77 F dX5_readClauses_64 rfl (by decide) (fun c_64 => absurd c_64 (by exact fun zq => zq rfl)) (fun c_64 => ?_)
    refine g_aload_n (nx := 68) 0 F dX5_readClauses_67 rfl rfl rfl ?_
    refine g_getD (nx := 71) F dX5_readClauses_68 rfl fl_RX5_12 rfl (by decide) (by decide) rfl rfl ?_
    rw [H1.2.1.1]
    refine g_getV (nx := 74) (nI m) F dX5_readClauses_71 rfl fl_RX5_41 (tx_k H1.1.1) (by decide) (by decide) (tx_6 H1.1.1) rfl (HZ1.2.1) ?_
    refine g_goto 81 F dX5_readClauses_74 (by decide) ?_
    refine g_iret F E dX5_readClauses_81 ?_
    have hT := tx_ok H1 HZ1 HW1
    exact Or.inl ⟨p1, l1, m, op1, vl1, h, sf, cf, en, hR1, rfl, ⟨hm1, HZ1.1⟩, hT.1, hT.2, hf1⟩
  have L : ∀ (q p1 l1 m : Nat) (op1 vl1 h sf cf en : Nat → Nat) (τ : zSt), 12 < m + q → pcS τ t c n (p1, 0, l1, op1, vl1) → clS τ t (m, h, sf, cf, en) → clW (m, h, sf, cf, en) op1 vl1 l1 → frX t σ τ → Rn c hd ([(13, 0), (16, 0)], E00, Z00) ([(13, 0), (16, 0)], (p1, 0, l1, op1, vl1), (m, h, sf, cf, en)) → Gs X 10 [.ref 16, .int (nI n), .ref (1000 + ks), .int 1, .int (nI m)] [] τ := by
    intro q
    induction q with
    | zero =>
      intro p1 l1 m op1 vl1 h sf cf en τ hq H1 HZ1
      exact absurd HZ1.1 (by omega)
    | succ q ih =>
      intro p1 l1 m op1 vl1 h sf cf en τ hq H1 HZ1 HW1 hf1 hR1
      have hm12 := HZ1.1
      refine g_iload_n (nx := 11) 3 F dX5_readClauses_10 rfl rfl rfl ?_
      refine g_if_eq (nx := 14) 60 F dX5_readClauses_11 rfl (by decide) (fun c_11 => absurd c_11 (by decide)) (fun c_11 => ?_)
      refine g_iload (nx := 16) F dX5_readClauses_14 rfl rfl ?_
      refine g_bipush (nx := 18) (12) F dX5_readClauses_16 rfl (by decide) ?_
      refine g_icmp_gt (nx := 21) 60 F dX5_readClauses_18 rfl (by decide) (fun c_18 => absurd c_18 (by exact nI_nlt (a := 12) (b := m) (by omega) (by omega))) (fun c_18 => ?_)
      refine g_aload_n (nx := 22) 0 F dX5_readClauses_21 rfl rfl rfl ?_
      refine g_iload (nx := 24) F dX5_readClauses_22 rfl rfl ?_
      refine g_aload_n (nx := 25) 2 F dX5_readClauses_24 rfl rfl rfl ?_
      refine g_callV (nx := 28) 2 30 [.int (nI m), .ref (1000 + ks)] F dX5_readClauses_25 rfl ml_RX5_26 mo_X5_readClause rfl rfl rfl rfl (Nat.le_of_ble_eq_true rfl) (by first | decide | omega) (c_readClause ks t n p1 l1 m c op1 vl1 h sf cf en hd _ H1 HZ1 HW1 hks hsee hd300) (fun r_25 τ_25 q_25 => ?_)
      skip
      rcases q_25 with ⟨rfl, p2, l2, op2, vl2, z2, hS2, hZ2, hz2, hW2, hf2, hp2, hR2⟩ | ⟨rfl, f2, e2, z2, hF2, hf2, hR2⟩
      · dsimp only [Option.toList, List.append, List.cons_append, List.nil_append]
        obtain ⟨m2, h2, sf2, cf2, en2⟩ := z2
        have hz2 : m2 = m + 1 := hz2
        subst hz2
        have hor2 := inC_or hS2.1.2.1 p2
        by_cases hE : c p2 = 300
        · refine g_if_eq (nx := 31) 52 F dX5_readClauses_28 rfl (by decide) (fun c_28 => absurd c_28 (by decide)) (fun c_28 => ?_)
          refine g_aload_n (nx := 32) 0 F dX5_readClauses_31 rfl rfl rfl ?_
          refine g_getV (nx := 35) (sgI (c p2)) F dX5_readClauses_32 rfl fl_RX5_30 rfl (by decide) (by decide) rfl rfl (hS2.2.1.2.2.2.1) ?_
          refine g_iconst (nx := 36) (-1) F dX5_readClauses_35 rfl rfl ?_
          refine g_icmp_eq (nx := 39) 52 F dX5_readClauses_36 rfl (by decide) (fun c_36 => ?_) (fun c_36 => absurd c_36 (by exact fun zq => zq ((sgI_end hor2).mpr hE)))
          refine g_iconst (nx := 53) (0) F dX5_readClauses_52 rfl rfl ?_
          refine g_istore_n (nx := 54) 3 F dX5_readClauses_53 rfl rfl (by decide) ?_
          try dsimp only [List.set]
          refine g_iinc (nx := 57) (1) F dX5_readClauses_54 rfl rfl (by decide) (by decide) ?_
          try dsimp only [List.set]
          refine g_goto 10 F dX5_readClauses_57 (by decide) ?_
          exact Zok _ _ _ _ _ _ _ _ _ _ _ hS2 hZ2 hW2 (hf1.tr hf2) (by omega) ((hR1.tr (hR2 _)).tr (s16_end hE))
        · refine g_if_eq (nx := 31) 52 F dX5_readClauses_28 rfl (by decide) (fun c_28 => absurd c_28 (by decide)) (fun c_28 => ?_)
          refine g_aload_n (nx := 32) 0 F dX5_readClauses_31 rfl rfl rfl ?_
          refine g_getV (nx := 35) (sgI (c p2)) F dX5_readClauses_32 rfl fl_RX5_30 rfl (by decide) (by decide) rfl rfl (hS2.2.1.2.2.2.1) ?_
          refine g_iconst (nx := 36) (-1) F dX5_readClauses_35 rfl rfl ?_
          refine g_icmp_eq (nx := 39) 52 F dX5_readClauses_36 rfl (by decide) (fun c_36 => absurd c_36 (by exact fun zq => hE ((sgI_end hor2).mp zq))) (fun c_36 => ?_)
          refine g_aload_n (nx := 40) 0 F dX5_readClauses_39 rfl rfl rfl ?_
          refine g_bipush (nx := 42) (59) F dX5_readClauses_40 rfl (by decide) ?_
          show Gs X 42 _ (.int (nI 59) :: .ref 16 :: []) _
          refine g_callV (nx := 45) 1 2 [.int (nI 59)] F dX5_readClauses_42 rfl ml_RX5_34 mo_X5_take rfl rfl rfl rfl (Nat.le_of_ble_eq_true rfl) (by first | decide | omega) (c_take 59 t n p2 0 l2 c op2 vl2 _ hS2 (by decide)) (fun r_42 τ_42 q_42 => ?_)
          skip
          rcases q_42 with ⟨rfl, h4, h4S, h4f⟩ | ⟨rfl, h4, h4F, h4f⟩
          · dsimp only [Option.toList, List.append, List.cons_append, List.nil_append]
            have htr := tx_rng h4S.1.1
            have hZ4 : clS τ_42 t (m + 1, h2, sf2, cf2, en2) := by
              refine ⟨hZ2.1, (h4f.2.1 6 (by decide)).trans hZ2.2.1, fun j hj => ?_⟩
              rw [h4f.1 (t + 2) (by omega) (by omega) (by omega), h4f.1 (t + 3) (by omega) (by omega) (by omega), h4f.1 (t + 4) (by omega) (by omega) (by omega), h4f.1 (t + 5) (by omega) (by omega) (by omega)]
              exact hZ2.2.2 j hj
            refine g_if_eq (nx := 48) 52 F dX5_readClauses_45 rfl (by decide) (fun c_45 => absurd c_45 (by decide)) (fun c_45 => ?_)
            refine g_iconst (nx := 49) (1) F dX5_readClauses_48 rfl rfl ?_
            refine g_goto 53 F dX5_readClauses_49 (by decide) ?_
            refine g_istore_n (nx := 54) 3 F dX5_readClauses_53 rfl rfl (by decide) ?_
            try dsimp only [List.set]
            refine g_iinc (nx := 57) (1) F dX5_readClauses_54 rfl rfl (by decide) (by decide) ?_
            try dsimp only [List.set]
            rw [nI_1]
            refine g_goto 10 F dX5_readClauses_57 (by decide) ?_
            exact ih _ _ _ _ _ _ _ _ _ _ (by omega) h4S hZ4 hW2 ((hf1.tr hf2).tr h4f.X) ((hR1.tr (hR2 _)).tr (s16_go h4))
          · dsimp only [Option.toList, List.append, List.cons_append, List.nil_append]
            refine g_if_eq (nx := 48) 52 F dX5_readClauses_45 rfl (by decide) (fun c_45 => ?_) (fun c_45 => absurd c_45 (by exact fun zq => zq rfl))
            refine g_iconst (nx := 53) (0) F dX5_readClauses_52 rfl rfl ?_
            refine g_istore_n (nx := 54) 3 F dX5_readClauses_53 rfl rfl (by decide) ?_
            try dsimp only [List.set]
            refine g_iinc (nx := 57) (1) F dX5_readClauses_54 rfl rfl (by decide) (by decide) ?_
            try dsimp only [List.set]
            refine g_goto 10 F dX5_readClauses_57 (by decide) ?_
            exact Zf 1 (p2, 0, l2, op2, vl2) (m + 1, h2, sf2, cf2, en2) _ _ h4F ((hf1.tr hf2).tr h4f.X) ((hR1.tr (hR2 _)).tr (s16_bad hE h4))
      · dsimp only [Option.toList, List.append, List.cons_append, List.nil_append]
        refine g_if_eq (nx := 31) 52 F dX5_readClauses_28 rfl (by decide) (fun c_28 => ?_) (fun c_28 => absurd c_28 (by exact fun zq => zq rfl))
        refine g_iconst (nx := 53) (0) F dX5_readClauses_52 rfl rfl ?_
        refine g_istore_n (nx := 54) 3 F dX5_readClauses_53 rfl rfl (by decide) ?_
        try dsimp only [List.set]
        refine g_iinc (nx := 57) (1) F dX5_readClauses_54 rfl rfl (by decide) (by decide) ?_
        try dsimp only [List.set]
        refine g_goto 10 F dX5_readClauses_57 (by decide) ?_
        exact Zf f2 e2 z2 _ _ hF2 (hf1.tr hf2) (hR1.tr (hR2 _))
  refine g_aload_n (nx := 1) 0 F dX5_readClauses_0 rfl rfl rfl ?_
  refine g_iload_n (nx := 2) 1 F dX5_readClauses_1 rfl rfl rfl ?_
  refine g_callV (nx := 5) 1 2 [.int (nI n)] F dX5_readClauses_2 rfl ml_RX5_22 mo_X5_begin rfl rfl rfl rfl (Nat.le_of_ble_eq_true rfl) (by first | decide | omega) (c_beginT t n c zF zF zF zF zF zF _ ht hT hin hn hb) (fun r_2 τ_2 q_2 => ?_)
  obtain ⟨rfl, hS0, hZ0, hf0⟩ := q_2
  dsimp only [Option.toList, List.append, List.cons_append, List.nil_append]
  refine g_iconst (nx := 6) (1) F dX5_readClauses_5 rfl rfl ?_
  refine g_istore_n (nx := 7) 3 F dX5_readClauses_6 rfl rfl (by decide) ?_
  try dsimp only [List.set]
  refine g_iconst (nx := 8) (0) F dX5_readClauses_7 rfl rfl ?_
  refine g_istore (nx := 10) F dX5_readClauses_8 rfl (by decide) ?_
  try dsimp only [List.set]
  exact L 13 0 0 0 zF zF zF zF zF zF _ (by omega) hS0 hZ0 (fun j hj => absurd hj (Nat.not_lt_zero j)) hf0 (Rn.rf _ _ _)
set_option maxHeartbeats 4000000 in
set_option maxRecDepth 100000 in
theorem c_readSum (t n : Nat) (c : Nat → Nat) (σ : zSt) (ht : isT t) (hT : (σ 16 1).toNatClampNeg = t) (hin : inC c n) (hn : n ≤ 160) (hb : ∀ q, q < n → σ 2 q &&& 255 = nI (c q)) : Con mX5_readSum 27 [.ref 16, .int (nI n)] σ (fun r τ => cGn t c σ r τ ∨ cBad t c hdL [(0, 0), (1, 0), (3, 0), (17, 0)] σ r τ) := by
  refine Con.of (lv := [.ref 16, .int (nI n), .long 0]) mk_X5_readSum rfl (Nat.le_of_ble_eq_true rfl) rfl (fun X F E => ?_)
  refine g_aload_n (nx := 1) 0 F dX5_readSum_0 rfl rfl rfl ?_
  refine g_iload_n (nx := 2) 1 F dX5_readSum_1 rfl rfl rfl ?_
  refine g_callV (nx := 5) 1 2 [.int (nI n)] F dX5_readSum_2 rfl ml_RX5_22 mo_X5_begin rfl rfl rfl rfl (Nat.le_of_ble_eq_true rfl) (by first | decide | omega) (c_beginT t n c zF zF zF zF zF zF _ ht hT hin hn hb) (fun r_2 τ_2 q_2 => ?_)
  obtain ⟨rfl, hS0, hZ0, hf0⟩ := q_2
  dsimp only [Option.toList, List.append, List.cons_append, List.nil_append]
  refine g_aload_n (nx := 6) 0 F dX5_readSum_5 rfl rfl rfl ?_
  refine g_callV (nx := 9) 0 26 [] F dX5_readSum_6 rfl ml_RX5_48 mo_X5_readTerms rfl rfl rfl rfl (Nat.le_of_ble_eq_true rfl) (by first | decide | omega) (c_terms t n c hdL 6 _ _ _ _ _ _ hS0 rfl) (fun r_6 τ_6 q_6 => ?_)
  skip
  rcases q_6 with ⟨rfl, p2, l2, op2, vl2, hS2, hf2, hp2, hl2, hk2, hw2, hR2⟩ | ⟨rfl, f2, e2, hF2, hf2, hR2⟩
  · dsimp only [Option.toList, List.append, List.cons_append, List.nil_append]
    have hor2 := inC_or hS2.1.2.1 p2
    by_cases hE : c p2 = 300
    · refine g_if_eq (nx := 12) 32 F dX5_readSum_9 rfl (by decide) (fun c_9 => absurd c_9 (by decide)) (fun c_9 => ?_)
      refine g_aload_n (nx := 13) 0 F dX5_readSum_12 rfl rfl rfl ?_
      refine g_getV (nx := 16) (sgI (c p2)) F dX5_readSum_13 rfl fl_RX5_30 rfl (by decide) (by decide) rfl rfl (hS2.2.1.2.2.2.1) ?_
      refine g_iconst (nx := 17) (-1) F dX5_readSum_16 rfl rfl ?_
      refine g_icmp_eq (nx := 20) 28 F dX5_readSum_17 rfl (by decide) (fun c_17 => ?_) (fun c_17 => absurd c_17 (by exact fun zq => zq ((sgI_end hor2).mpr hE)))
      refine g_iconst (nx := 29) (1) F dX5_readSum_28 rfl rfl ?_
      refine g_goto 33 F dX5_readSum_29 (by decide) ?_
      refine g_istore_n (nx := 34) 2 F dX5_readSum_33 rfl rfl (by decide) ?_
      try dsimp only [List.set]
      refine g_iload_n (nx := 35) 2 F dX5_readSum_34 rfl rfl rfl ?_
      refine g_if_eq (nx := 38) 42 F dX5_readSum_35 rfl (by decide) (fun c_35 => absurd c_35 (by decide)) (fun c_35 => ?_)
      refine g_iconst (nx := 39) (1) F dX5_readSum_38 rfl rfl ?_
      refine g_goto 46 F dX5_readSum_39 (by decide) ?_
      refine g_iret F E dX5_readSum_46 ?_
      refine Or.inl ⟨p2, l2, op2, vl2, (hR2 _ _).tr (s17_end hE), rfl, ⟨by have h1 := hS2.1.2.2.1; have h2 := hS2.2.2.2.1; have h3 := hS2.2.2.2.2.1; omega, fun k hk => (hS2.2.2.1.2 k hk).2.1, _, _, wfE_C hw2 (by decide)⟩, hS2.2.2.1.1, fun k hk => (hS2.2.2.1.2 k hk).1, hf0.tr hf2.X⟩
    · refine g_if_eq (nx := 12) 32 F dX5_readSum_9 rfl (by decide) (fun c_9 => absurd c_9 (by decide)) (fun c_9 => ?_)
      refine g_aload_n (nx := 13) 0 F dX5_readSum_12 rfl rfl rfl ?_
      refine g_getV (nx := 16) (sgI (c p2)) F dX5_readSum_13 rfl fl_RX5_30 rfl (by decide) (by decide) rfl rfl (hS2.2.1.2.2.2.1) ?_
      refine g_iconst (nx := 17) (-1) F dX5_readSum_16 rfl rfl ?_
      refine g_icmp_eq (nx := 20) 28 F dX5_readSum_17 rfl (by decide) (fun c_17 => absurd c_17 (by exact fun zq => hE ((sgI_end hor2).mp zq))) (fun c_17 => ?_)
      refine g_aload_n (nx := 21) 0 F dX5_readSum_20 rfl rfl rfl ?_
      refine g_iconst (nx := 22) (1) F dX5_readSum_21 rfl rfl ?_
      show Gs X 22 _ (.int (nI 1) :: .ref 16 :: []) _
      refine g_callV (nx := 25) 1 0 [.int (nI 1)] F dX5_readSum_22 rfl ml_RX5_52 mo_X5_fail rfl rfl rfl rfl (Nat.le_of_ble_eq_true rfl) (by first | decide | omega) (c_fail t n _ _ _ 1 c _ _ _ hS2 (by decide)) (fun r_22 τ_22 q_22 => ?_)
      obtain ⟨rfl, hF_22, hf_22⟩ := q_22
      dsimp only [Option.toList, List.append, List.cons_append, List.nil_append]
      refine g_if_eq (nx := 28) 32 F dX5_readSum_25 rfl (by decide) (fun c_25 => ?_) (fun c_25 => absurd c_25 (by exact fun zq => zq rfl))
      refine g_iconst (nx := 33) (0) F dX5_readSum_32 rfl rfl ?_
      refine g_istore_n (nx := 34) 2 F dX5_readSum_33 rfl rfl (by decide) ?_
      try dsimp only [List.set]
      refine g_iload_n (nx := 35) 2 F dX5_readSum_34 rfl rfl rfl ?_
      refine g_if_eq (nx := 38) 42 F dX5_readSum_35 rfl (by decide) (fun c_35 => ?_) (fun c_35 => absurd c_35 (by exact fun zq => zq rfl))
      refine g_aload_n (nx := 43) 0 F dX5_readSum_42 rfl rfl rfl ?_
      refine g_callV (nx := 46) 0 0 [] F dX5_readSum_43 rfl ml_RX5_44 mo_X5_faultHere rfl rfl rfl rfl (Nat.le_of_ble_eq_true rfl) (by first | decide | omega) (c_faultHere t n 1 p2 _ hF_22) (fun r_43 τ_43 q_43 => ?_)
      obtain ⟨rfl, et_43⟩ := q_43
      have et_43 := et_43.symm
      subst et_43
      dsimp only [Option.toList, List.append, List.cons_append, List.nil_append]
      refine g_iret F E dX5_readSum_46 ?_
      exact Or.inr ⟨1, _, _, (hR2 _ _).tr (s17_bad hE), rfl, ⟨hF_22.2.2.2.2.2.2.2.1, hF_22.2.2.2.2.2.2.2.2.1, by have h1 := hF_22.2.2.2.1; have h2 := hF_22.2.2.2.2.2.1; show p2 ≤ 160; omega⟩, (hf0.tr hf2.X).tr hf_22.X⟩
  · dsimp only [Option.toList, List.append, List.cons_append, List.nil_append]
    refine g_if_eq (nx := 12) 32 F dX5_readSum_9 rfl (by decide) (fun c_9 => ?_) (fun c_9 => absurd c_9 (by exact fun zq => zq rfl))
    refine g_iconst (nx := 33) (0) F dX5_readSum_32 rfl rfl ?_
    refine g_istore_n (nx := 34) 2 F dX5_readSum_33 rfl rfl (by decide) ?_
    try dsimp only [List.set]
    refine g_iload_n (nx := 35) 2 F dX5_readSum_34 rfl rfl rfl ?_
    refine g_if_eq (nx := 38) 42 F dX5_readSum_35 rfl (by decide) (fun c_35 => ?_) (fun c_35 => absurd c_35 (by exact fun zq => zq rfl))
    refine g_aload_n (nx := 43) 0 F dX5_readSum_42 rfl rfl rfl ?_
    refine g_callV (nx := 46) 0 0 [] F dX5_readSum_43 rfl ml_RX5_44 mo_X5_faultHere rfl rfl rfl rfl (Nat.le_of_ble_eq_true rfl) (by first | decide | omega) (c_faultHere t n f2 e2.1 _ hF2) (fun r_43 τ_43 q_43 => ?_)
    obtain ⟨rfl, et_43⟩ := q_43
    have et_43 := et_43.symm
    subst et_43
    dsimp only [Option.toList, List.append, List.cons_append, List.nil_append]
    refine g_iret F E dX5_readSum_46 ?_
    exact Or.inr ⟨f2, _, _, hR2 _ _, rfl, ⟨hF2.2.2.2.2.2.2.2.1, hF2.2.2.2.2.2.2.2.2.1, by have h1 := hF2.2.2.2.1; have h2 := hF2.2.2.2.2.2.1; show e2.1 ≤ 160; omega⟩, hf0.tr hf2.X⟩
set_option maxHeartbeats 4000000 in
set_option maxRecDepth 100000 in
theorem c_way (t u e0 : Nat) (c : Nat → Nat) (i n : Int32) (σ : zSt) (ht : isT t) (hT : (σ 16 1).toNatClampNeg = t) (hu : σ 1 1 = nI u) (hu2 : u ≤ 200) (hc : σ 3 3 = nI e0) (he10 : e0 ≤ 10) (hTw : ∀ I, I < e0 → isT (σ 6 I).toNatClampNeg) (hB : ∀ N : Nat, N ≤ 160 → n = nI N → inC c N ∧ ∀ q, q < N → σ 2 q &&& 255 = nI (c q)) : Con mX11_way 32 [.ref 0, .int i, .int n] σ (fun r τ => (((0 ≤ i.toInt ∧ i.toInt < e0) ∧ 1 ≤ n.toInt ∧ n.toInt ≤ 160 ∧ n.toInt ≤ u) ∧ ∃ N I : Nat, n = nI N ∧ i = nI I ∧ I < e0 ∧ ∃ τ1, (cOK t c hdW2 σ r τ1 ∧ τ = zu (zu (zu τ1 1 1 0) 16 1 (nI (σ 6 I).toNatClampNeg)) 6 I (nI t)) ∨ (cBad t c hdW2 [(13, 0), (16, 0)] σ r τ1 ∧ τ = zu τ1 1 1 0)) ∨ (¬ ((0 ≤ i.toInt ∧ i.toInt < e0) ∧ 1 ≤ n.toInt ∧ n.toInt ≤ 160 ∧ n.toInt ≤ u) ∧ r = some (.int (-1)) ∧ τ = σ)) := by
  refine Con.of (lv := [.ref 0, .int i, .int n, .long 0]) mk_X11_way rfl (Nat.le_of_ble_eq_true rfl) rfl (fun X F E => ?_)
  have hei : (nI e0).toInt = e0 := nI_toInt (by omega)
  by_cases hA : (0 ≤ i.toInt ∧ i.toInt < e0) ∧ 1 ≤ n.toInt ∧ n.toInt ≤ 160 ∧ n.toInt ≤ u
  · obtain ⟨N, hN, rfl⟩ : ∃ N : Nat, N ≤ 160 ∧ n = nI N := nI_rng (by omega) (by omega)
    have hNi : (nI N).toInt = N := nI_toInt (by omega)
    have hui : (nI u).toInt = u := nI_toInt (by omega)
    have htr := tx_rng ht
    rw [hNi] at hA
    obtain ⟨hin, hb⟩ := hB N (by omega) rfl
    obtain ⟨I, hI, rfl⟩ := nI_ofr hA.1
    refine g_aload_n (nx := 1) 0 F dX11_way_0 rfl rfl rfl ?_
    refine g_getR (nx := 4) F dX11_way_1 rfl fl_RX11_19 rfl (by decide) (by decide) rfl ?_
    refine g_iload_n (nx := 5) 1 F dX11_way_4 rfl rfl rfl ?_
    refine g_callV (nx := 8) 1 0 [.int (nI I)] F dX11_way_5 rfl ml_RX11_125 mo_X2_isClerk rfl rfl rfl rfl (Nat.le_of_ble_eq_true rfl) (by first | decide | omega) (c_isClerk (nI I) _) (fun r_5 τ_5 q_5 => ?_)
    obtain ⟨rfl, et_5⟩ := q_5
    have et_5 := et_5.symm
    subst et_5
    dsimp only [Option.toList, List.append, List.cons_append, List.nil_append]
    refine g_if_eq (nx := 11) 25 F dX11_way_8 rfl (by decide) (fun c_8 => absurd c_8 (by exact bI_n0.mpr (by rw [hc, hei]; exact hA.1))) (fun c_8 => ?_)
    refine g_aload_n (nx := 12) 0 F dX11_way_11 rfl rfl rfl ?_
    refine g_getR (nx := 15) F dX11_way_12 rfl fl_RX11_10 rfl (by decide) (by decide) rfl ?_
    refine g_iload_n (nx := 16) 2 F dX11_way_15 rfl rfl rfl ?_
    refine g_sipush (nx := 19) (160) F dX11_way_16 rfl (by decide) ?_
    refine g_callV (nx := 22) 2 0 [.int (nI N), .int 160] F dX11_way_19 rfl ml_RX11_128 mo_X9_hasText rfl rfl rfl rfl (Nat.le_of_ble_eq_true rfl) (by first | decide | omega) (c_hasText (nI N) 160 _) (fun r_19 τ_19 q_19 => ?_)
    obtain ⟨rfl, et_19⟩ := q_19
    have et_19 := et_19.symm
    subst et_19
    dsimp only [Option.toList, List.append, List.cons_append, List.nil_append]
    refine g_if_ne (nx := 25) 27 F dX11_way_22 rfl (by decide) (fun c_22 => ?_) (fun c_22 => absurd c_22 (by exact bI_n0.mpr (by rw [hu, hui, hNi]; simp only [Int32.reduceToInt]; omega)))
    refine g_aload_n (nx := 28) 0 F dX11_way_27 rfl rfl rfl ?_
    refine g_getR (nx := 31) F dX11_way_28 rfl fl_RX11_35 rfl (by decide) (by decide) rfl ?_
    refine g_iload_n (nx := 32) 2 F dX11_way_31 rfl rfl rfl ?_
    refine g_ldcS (nx := 34) 0 F dX11_way_32 rfl (by decide) rfl ?_
    refine g_callV (nx := 37) 2 31 [.int (nI N), .ref 1000] F dX11_way_34 rfl ml_RX11_133 mo_X5_readClauses rfl rfl rfl rfl (Nat.le_of_ble_eq_true rfl) (by first | decide | omega) (c_readClauses 0 t N c hdW2 _ ht hT hin hN hb (by decide) see_0 rfl) (fun r_34 τ_34 q_34 => ?_)
    skip
    rcases q_34 with ⟨p2, l2, m, op2, vl2, h, sf, cf, en, hR, rfl, hm, hTC, hTG, hfr⟩ | ⟨f, e, z, hR, rfl, hfe, hfr⟩
    · dsimp only [Option.toList, List.append, List.cons_append, List.nil_append]
      refine g_istore_n (nx := 38) 3 F dX11_way_37 rfl rfl (by decide) ?_
      try dsimp only [List.set]
      refine g_aload_n (nx := 39) 0 F dX11_way_38 rfl rfl rfl ?_
      refine g_getR (nx := 42) F dX11_way_39 rfl fl_RX11_10 rfl (by decide) (by decide) rfl ?_
      refine g_iconst (nx := 43) (0) F dX11_way_42 rfl rfl ?_
      refine g_putI (nx := 46) F dX11_way_43 rfl fl_RX11_119 fi_8_1 rfl (by decide) (by decide) rfl rfl ?_
      refine g_iload_n (nx := 47) 3 F dX11_way_46 rfl rfl rfl ?_
      refine g_if_le (nx := 50) 75 F dX11_way_47 rfl (by decide) (fun c_47 => absurd c_47 (by exact nI_nle (by omega) (by omega))) (fun c_47 => ?_)
      refine g_aload_n (nx := 51) 0 F dX11_way_50 rfl rfl rfl ?_
      refine g_getR (nx := 54) F dX11_way_51 rfl fl_RX11_19 rfl (by decide) (by decide) rfl ?_
      refine g_getR (nx := 57) F dX11_way_54 rfl fl_RX11_137 rfl (by decide) (by decide) rfl ?_
      refine g_iload_n (nx := 58) 1 F dX11_way_57 rfl rfl rfl ?_
      refine g_aload_n (nx := 59) 0 F dX11_way_58 rfl rfl rfl ?_
      refine g_getR (nx := 62) F dX11_way_59 rfl fl_RX11_35 rfl (by decide) (by decide) rfl ?_
      refine g_aload_n (nx := 63) 0 F dX11_way_62 rfl rfl rfl ?_
      refine g_getR (nx := 66) F dX11_way_63 rfl fl_RX11_19 rfl (by decide) (by decide) rfl ?_
      refine g_getR (nx := 69) F dX11_way_66 rfl fl_RX11_137 rfl (by decide) (by decide) rfl ?_
      refine g_iload_n (nx := 70) 1 F dX11_way_69 rfl rfl rfl ?_
      refine g_aaldN (nx := 71) (I) ((σ 6 I).toNatClampNeg) F dX11_way_70 rfl rfl (by omega) ((congrArg (fun f => (f I).toNatClampNeg) (hfr.1 6 (by decide) (by omega)))) ?_
      refine g_callV (nx := 74) 1 0 [.ref (σ 6 I).toNatClampNeg] F dX11_way_71 rfl ml_RX11_141 mo_X5_swapFor rfl rfl rfl rfl (Nat.le_of_ble_eq_true rfl) (by first | decide | omega) (c_swapFor (σ 6 I).toNatClampNeg _ (by have := tx_rng (hTw I hI); omega)) (fun r_71 τ_71 q_71 => ?_)
      obtain ⟨rfl, et_71⟩ := q_71
      subst et_71
      dsimp only [Option.toList, List.append, List.cons_append, List.nil_append]
      rw [show (zu τ_34 1 1 0) 16 1 = σ 16 1 from hfr.2, hT]
      refine g_aast (nx := 75) F dX11_way_74 rfl rfl (by first | exact vp_in_nI (by omega) (by omega)) (tx_k ht) ?_
      refine g_iload_n (nx := 76) 3 F dX11_way_75 rfl rfl rfl ?_
      refine g_iret F E dX11_way_76 ?_
      rw [nI_clamp (by omega)]
      exact Or.inl ⟨by rw [hNi]; exact hA, N, I, rfl, rfl, hI, τ_34, Or.inl ⟨⟨p2, l2, m, op2, vl2, h, sf, cf, en, hR, rfl, hm, hTC, hTG, hfr⟩, rfl⟩⟩
    · dsimp only [Option.toList, List.append, List.cons_append, List.nil_append]
      refine g_istore_n (nx := 38) 3 F dX11_way_37 rfl rfl (by decide) ?_
      try dsimp only [List.set]
      refine g_aload_n (nx := 39) 0 F dX11_way_38 rfl rfl rfl ?_
      refine g_getR (nx := 42) F dX11_way_39 rfl fl_RX11_10 rfl (by decide) (by decide) rfl ?_
      refine g_iconst (nx := 43) (0) F dX11_way_42 rfl rfl ?_
      refine g_putI (nx := 46) F dX11_way_43 rfl fl_RX11_119 fi_8_1 rfl (by decide) (by decide) rfl rfl ?_
      refine g_iload_n (nx := 47) 3 F dX11_way_46 rfl rfl rfl ?_
      refine g_if_le (nx := 50) 75 F dX11_way_47 rfl (by decide) (fun c_47 => ?_) (fun c_47 => absurd c_47 (by exact fun zq => zq (flt_le f (by omega) e.1 (by omega))))
      refine g_iload_n (nx := 76) 3 F dX11_way_75 rfl rfl rfl ?_
      refine g_iret F E dX11_way_76 ?_
      exact Or.inl ⟨by rw [hNi]; exact hA, N, I, rfl, rfl, hI, τ_34, Or.inr ⟨⟨f, e, z, hR, rfl, hfe, hfr⟩, rfl⟩⟩
  · refine g_aload_n (nx := 1) 0 F dX11_way_0 rfl rfl rfl ?_
    refine g_getR (nx := 4) F dX11_way_1 rfl fl_RX11_19 rfl (by decide) (by decide) rfl ?_
    refine g_iload_n (nx := 5) 1 F dX11_way_4 rfl rfl rfl ?_
    refine g_callV (nx := 8) 1 0 [.int i] F dX11_way_5 rfl ml_RX11_125 mo_X2_isClerk rfl rfl rfl rfl (Nat.le_of_ble_eq_true rfl) (by first | decide | omega) (c_isClerk i _) (fun r_5 τ_5 q_5 => ?_)
    obtain ⟨rfl, et_5⟩ := q_5
    have et_5 := et_5.symm
    subst et_5
    dsimp only [Option.toList, List.append, List.cons_append, List.nil_append]
    refine g_if_eq (nx := 11) 25 F dX11_way_8 rfl (by decide) (fun c_8 => ?_) (fun c_8 => ?_)
    · refine g_iconst (nx := 26) (-1) F dX11_way_25 rfl rfl ?_
      refine g_iret F E dX11_way_26 ?_
      exact Or.inr ⟨hA, rfl, rfl⟩
    · refine g_aload_n (nx := 12) 0 F dX11_way_11 rfl rfl rfl ?_
      refine g_getR (nx := 15) F dX11_way_12 rfl fl_RX11_10 rfl (by decide) (by decide) rfl ?_
      refine g_iload_n (nx := 16) 2 F dX11_way_15 rfl rfl rfl ?_
      refine g_sipush (nx := 19) (160) F dX11_way_16 rfl (by decide) ?_
      refine g_callV (nx := 22) 2 0 [.int n, .int 160] F dX11_way_19 rfl ml_RX11_128 mo_X9_hasText rfl rfl rfl rfl (Nat.le_of_ble_eq_true rfl) (by first | decide | omega) (c_hasText n 160 _) (fun r_19 τ_19 q_19 => ?_)
      obtain ⟨rfl, et_19⟩ := q_19
      have et_19 := et_19.symm
      subst et_19
      dsimp only [Option.toList, List.append, List.cons_append, List.nil_append]
      refine g_if_ne (nx := 25) 27 F dX11_way_22 rfl (by decide) (fun c_22 => ?_) (fun c_22 => ?_)
      · exfalso
        clear F E
        have hui : (nI u).toInt = u := nI_toInt (by omega)
        simp only [bI_0, bI_n0, ne_eq, hui, hu, hc, hei, Int32.reduceToInt, Decidable.not_not] at *
        omega
      · refine g_iconst (nx := 26) (-1) F dX11_way_25 rfl rfl ?_
        refine g_iret F E dX11_way_26 ?_
        exact Or.inr ⟨hA, rfl, rfl⟩
set_option maxHeartbeats 4000000 in
set_option maxRecDepth 100000 in
theorem c_law (t u : Nat) (c : Nat → Nat) (n : Int32) (σ : zSt) (ht : isT t) (hT : (σ 16 1).toNatClampNeg = t) (hu : σ 1 1 = nI u) (hu2 : u ≤ 200) (hTw : isT (σ 3 12).toNatClampNeg) (hB : ∀ N : Nat, N ≤ 160 → n = nI N → inC c N ∧ ∀ q, q < N → σ 2 q &&& 255 = nI (c q)) : Con mX11_law 32 [.ref 0, .int n] σ (fun r τ => ((1 ≤ n.toInt ∧ n.toInt ≤ 160 ∧ n.toInt ≤ u) ∧ ∃ N : Nat, n = nI N ∧ ∃ τ1, (cOK t c hdL σ r τ1 ∧ τ = zu (zu (zu τ1 1 1 0) 16 1 (nI (σ 3 12).toNatClampNeg)) 3 12 (nI t)) ∨ (cBad t c hdL [(13, 0), (16, 0)] σ r τ1 ∧ τ = zu τ1 1 1 0)) ∨ (¬ (1 ≤ n.toInt ∧ n.toInt ≤ 160 ∧ n.toInt ≤ u) ∧ r = some (.int (-1)) ∧ τ = σ)) := by
  refine Con.of (lv := [.ref 0, .int n, .long 0]) mk_X11_law rfl (Nat.le_of_ble_eq_true rfl) rfl (fun X F E => ?_)
  by_cases hA : 1 ≤ n.toInt ∧ n.toInt ≤ 160 ∧ n.toInt ≤ u
  · obtain ⟨N, hN, rfl⟩ : ∃ N : Nat, N ≤ 160 ∧ n = nI N := nI_rng (by omega) (by omega)
    have hNi : (nI N).toInt = N := nI_toInt (by omega)
    have hui : (nI u).toInt = u := nI_toInt (by omega)
    have htr := tx_rng ht
    rw [hNi] at hA
    obtain ⟨hin, hb⟩ := hB N (by omega) rfl
    refine g_aload_n (nx := 1) 0 F dX11_law_0 rfl rfl rfl ?_
    refine g_getR (nx := 4) F dX11_law_1 rfl fl_RX11_10 rfl (by decide) (by decide) rfl ?_
    refine g_iload_n (nx := 5) 1 F dX11_law_4 rfl rfl rfl ?_
    refine g_sipush (nx := 8) (160) F dX11_law_5 rfl (by decide) ?_
    refine g_callV (nx := 11) 2 0 [.int (nI N), .int 160] F dX11_law_8 rfl ml_RX11_128 mo_X9_hasText rfl rfl rfl rfl (Nat.le_of_ble_eq_true rfl) (by first | decide | omega) (c_hasText (nI N) 160 _) (fun r_8 τ_8 q_8 => ?_)
    obtain ⟨rfl, et_8⟩ := q_8
    have et_8 := et_8.symm
    subst et_8
    dsimp only [Option.toList, List.append, List.cons_append, List.nil_append]
    refine g_if_ne (nx := 14) 16 F dX11_law_11 rfl (by decide) (fun c_11 => ?_) (fun c_11 => absurd c_11 (by exact bI_n0.mpr (by rw [hu, hui, hNi]; simp only [Int32.reduceToInt]; omega)))
    refine g_aload_n (nx := 17) 0 F dX11_law_16 rfl rfl rfl ?_
    refine g_getR (nx := 20) F dX11_law_17 rfl fl_RX11_35 rfl (by decide) (by decide) rfl ?_
    refine g_iload_n (nx := 21) 1 F dX11_law_20 rfl rfl rfl ?_
    refine g_ldcS (nx := 23) 1 F dX11_law_21 rfl (by decide) rfl ?_
    refine g_callV (nx := 26) 2 31 [.int (nI N), .ref 1001] F dX11_law_23 rfl ml_RX11_133 mo_X5_readClauses rfl rfl rfl rfl (Nat.le_of_ble_eq_true rfl) (by first | decide | omega) (c_readClauses 1 t N c hdL _ ht hT hin hN hb (by decide) see_1 rfl) (fun r_23 τ_23 q_23 => ?_)
    skip
    rcases q_23 with ⟨p2, l2, m, op2, vl2, h, sf, cf, en, hR, rfl, hm, hTC, hTG, hfr⟩ | ⟨f, e, z, hR, rfl, hfe, hfr⟩
    · dsimp only [Option.toList, List.append, List.cons_append, List.nil_append]
      refine g_istore_n (nx := 27) 2 F dX11_law_26 rfl rfl (by decide) ?_
      try dsimp only [List.set]
      refine g_aload_n (nx := 28) 0 F dX11_law_27 rfl rfl rfl ?_
      refine g_getR (nx := 31) F dX11_law_28 rfl fl_RX11_10 rfl (by decide) (by decide) rfl ?_
      refine g_iconst (nx := 32) (0) F dX11_law_31 rfl rfl ?_
      refine g_putI (nx := 35) F dX11_law_32 rfl fl_RX11_119 fi_8_1 rfl (by decide) (by decide) rfl rfl ?_
      refine g_iload_n (nx := 36) 2 F dX11_law_35 rfl rfl rfl ?_
      refine g_if_le (nx := 39) 60 F dX11_law_36 rfl (by decide) (fun c_36 => absurd c_36 (by exact nI_nle (by omega) (by omega))) (fun c_36 => ?_)
      refine g_aload_n (nx := 40) 0 F dX11_law_39 rfl rfl rfl ?_
      refine g_getR (nx := 43) F dX11_law_40 rfl fl_RX11_19 rfl (by decide) (by decide) rfl ?_
      refine g_aload_n (nx := 44) 0 F dX11_law_43 rfl rfl rfl ?_
      refine g_getR (nx := 47) F dX11_law_44 rfl fl_RX11_35 rfl (by decide) (by decide) rfl ?_
      refine g_aload_n (nx := 48) 0 F dX11_law_47 rfl rfl rfl ?_
      refine g_getR (nx := 51) F dX11_law_48 rfl fl_RX11_19 rfl (by decide) (by decide) rfl ?_
      refine g_getD (nx := 54) F dX11_law_51 rfl fl_RX11_147 rfl (by decide) (by decide) rfl rfl ?_
      rw [show (zu τ_23 1 1 0) 3 12 = σ 3 12 from congrFun (hfr.1 3 (by decide) (by omega)) 12]
      refine g_callV (nx := 57) 1 0 [.ref (σ 3 12).toNatClampNeg] F dX11_law_54 rfl ml_RX11_141 mo_X5_swapFor rfl rfl rfl rfl (Nat.le_of_ble_eq_true rfl) (by first | decide | omega) (c_swapFor (σ 3 12).toNatClampNeg _ (by have := tx_rng hTw; omega)) (fun r_54 τ_54 q_54 => ?_)
      obtain ⟨rfl, et_54⟩ := q_54
      subst et_54
      dsimp only [Option.toList, List.append, List.cons_append, List.nil_append]
      rw [show (zu τ_23 1 1 0) 16 1 = σ 16 1 from hfr.2, hT]
      refine g_putD (nx := 60) F dX11_law_57 rfl fl_RX11_147 fr_2_12 rfl (by decide) (by decide) rfl rfl (by omega) ?_
      refine g_iload_n (nx := 61) 2 F dX11_law_60 rfl rfl rfl ?_
      refine g_iret F E dX11_law_61 ?_
      exact Or.inl ⟨by rw [hNi]; exact hA, N, rfl, τ_23, Or.inl ⟨⟨p2, l2, m, op2, vl2, h, sf, cf, en, hR, rfl, hm, hTC, hTG, hfr⟩, rfl⟩⟩
    · dsimp only [Option.toList, List.append, List.cons_append, List.nil_append]
      refine g_istore_n (nx := 27) 2 F dX11_law_26 rfl rfl (by decide) ?_
      try dsimp only [List.set]
      refine g_aload_n (nx := 28) 0 F dX11_law_27 rfl rfl rfl ?_
      refine g_getR (nx := 31) F dX11_law_28 rfl fl_RX11_10 rfl (by decide) (by decide) rfl ?_
      refine g_iconst (nx := 32) (0) F dX11_law_31 rfl rfl ?_
      refine g_putI (nx := 35) F dX11_law_32 rfl fl_RX11_119 fi_8_1 rfl (by decide) (by decide) rfl rfl ?_
      refine g_iload_n (nx := 36) 2 F dX11_law_35 rfl rfl rfl ?_
      refine g_if_le (nx := 39) 60 F dX11_law_36 rfl (by decide) (fun c_36 => ?_) (fun c_36 => absurd c_36 (by exact fun zq => zq (flt_le f (by omega) e.1 (by omega))))
      refine g_iload_n (nx := 61) 2 F dX11_law_60 rfl rfl rfl ?_
      refine g_iret F E dX11_law_61 ?_
      exact Or.inl ⟨by rw [hNi]; exact hA, N, rfl, τ_23, Or.inr ⟨⟨f, e, z, hR, rfl, hfe, hfr⟩, rfl⟩⟩
  · refine g_aload_n (nx := 1) 0 F dX11_law_0 rfl rfl rfl ?_
    refine g_getR (nx := 4) F dX11_law_1 rfl fl_RX11_10 rfl (by decide) (by decide) rfl ?_
    refine g_iload_n (nx := 5) 1 F dX11_law_4 rfl rfl rfl ?_
    refine g_sipush (nx := 8) (160) F dX11_law_5 rfl (by decide) ?_
    refine g_callV (nx := 11) 2 0 [.int n, .int 160] F dX11_law_8 rfl ml_RX11_128 mo_X9_hasText rfl rfl rfl rfl (Nat.le_of_ble_eq_true rfl) (by first | decide | omega) (c_hasText n 160 _) (fun r_8 τ_8 q_8 => ?_)
    obtain ⟨rfl, et_8⟩ := q_8
    have et_8 := et_8.symm
    subst et_8
    dsimp only [Option.toList, List.append, List.cons_append, List.nil_append]
    refine g_if_ne (nx := 14) 16 F dX11_law_11 rfl (by decide) (fun c_11 => ?_) (fun c_11 => ?_)
    · exfalso
      clear F E
      have hui : (nI u).toInt = u := nI_toInt (by omega)
      simp only [bI_0, bI_n0, ne_eq, hui, hu, Int32.reduceToInt, Decidable.not_not] at *
      omega
    · refine g_iconst (nx := 15) (-1) F dX11_law_14 rfl rfl ?_
      refine g_iret F E dX11_law_15 ?_
      exact Or.inr ⟨hA, rfl, rfl⟩
set_option maxHeartbeats 4000000 in
set_option maxRecDepth 100000 in
theorem c_replaceGain (t : Nat) (σ : zSt) (ht : t < 2 ^ 31) : Con mX8_replaceGain 0 [.ref 37, .ref t] σ (fun r τ => r = none ∧ τ = zu (zu (zu σ 37 2 (nI t)) 37 3 1) 37 6 (-1)) := by
  refine Con.of (lv := [.ref 37, .ref t]) mk_X8_replaceGain rfl (Nat.le_of_ble_eq_true rfl) rfl (fun X F E => ?_)
  refine g_aload_n (nx := 1) 0 F dX8_replaceGain_0 rfl rfl rfl ?_
  refine g_aload_n (nx := 2) 1 F dX8_replaceGain_1 rfl rfl rfl ?_
  refine g_putD (nx := 5) F dX8_replaceGain_2 rfl fl_RX8_12 fr_7_2 rfl (by decide) (by decide) rfl rfl (by omega) ?_
  refine g_aload_n (nx := 6) 0 F dX8_replaceGain_5 rfl rfl rfl ?_
  refine g_iconst (nx := 7) (1) F dX8_replaceGain_6 rfl rfl ?_
  refine g_putB (nx := 10) F dX8_replaceGain_7 rfl fl_RX8_39 fb_7_3 rfl (by decide) (by decide) rfl rfl (Or.inr rfl) ?_
  refine g_aload_n (nx := 11) 0 F dX8_replaceGain_10 rfl rfl rfl ?_
  refine g_iconst (nx := 12) (-1) F dX8_replaceGain_11 rfl rfl ?_
  refine g_putI (nx := 15) F dX8_replaceGain_12 rfl fl_RX8_27 fi_7_6 rfl (by decide) (by decide) rfl rfl ?_
  refine g_vret F E dX8_replaceGain_15 ?_
  exact ⟨rfl, rfl⟩
set_option maxHeartbeats 4000000 in
set_option maxRecDepth 100000 in
theorem c_gain (t u : Nat) (c : Nat → Nat) (n : Int32) (σ : zSt) (ht : isT t) (hT : (σ 16 1).toNatClampNeg = t) (hu : σ 1 1 = nI u) (hu2 : u ≤ 200) (hTw : isT (σ 37 2).toNatClampNeg) (hB : ∀ N : Nat, N ≤ 160 → n = nI N → inC c N ∧ ∀ q, q < N → σ 2 q &&& 255 = nI (c q)) : Con mX11_gain 28 [.ref 0, .int n] σ (fun r τ => ((1 ≤ n.toInt ∧ n.toInt ≤ 60 ∧ n.toInt ≤ u) ∧ ∃ N : Nat, n = nI N ∧ ∃ τ1, (cGn t c σ r τ1 ∧ τ = zu (zu (zu (zu (zu τ1 1 1 0) 16 1 (nI (σ 37 2).toNatClampNeg)) 37 2 (nI t)) 37 3 1) 37 6 (-1)) ∨ (cBad t c hdL [(0, 0), (1, 0), (3, 0), (17, 0)] σ r τ1 ∧ τ = zu τ1 1 1 0)) ∨ (¬ (1 ≤ n.toInt ∧ n.toInt ≤ 60 ∧ n.toInt ≤ u) ∧ r = some (.int (-1)) ∧ τ = σ)) := by
  refine Con.of (lv := [.ref 0, .int n, .long 0]) mk_X11_gain rfl (Nat.le_of_ble_eq_true rfl) rfl (fun X F E => ?_)
  by_cases hA : 1 ≤ n.toInt ∧ n.toInt ≤ 60 ∧ n.toInt ≤ u
  · obtain ⟨N, hN, rfl⟩ : ∃ N : Nat, N ≤ 60 ∧ n = nI N := nI_rng (by omega) (by omega)
    have hNi : (nI N).toInt = N := nI_toInt (by omega)
    have hui : (nI u).toInt = u := nI_toInt (by omega)
    have htr := tx_rng ht
    rw [hNi] at hA
    obtain ⟨hin, hb⟩ := hB N (by omega) rfl
    refine g_aload_n (nx := 1) 0 F dX11_gain_0 rfl rfl rfl ?_
    refine g_getR (nx := 4) F dX11_gain_1 rfl fl_RX11_10 rfl (by decide) (by decide) rfl ?_
    refine g_iload_n (nx := 5) 1 F dX11_gain_4 rfl rfl rfl ?_
    refine g_bipush (nx := 7) (60) F dX11_gain_5 rfl (by decide) ?_
    refine g_callV (nx := 10) 2 0 [.int (nI N), .int 60] F dX11_gain_7 rfl ml_RX11_128 mo_X9_hasText rfl rfl rfl rfl (Nat.le_of_ble_eq_true rfl) (by first | decide | omega) (c_hasText (nI N) 60 _) (fun r_7 τ_7 q_7 => ?_)
    obtain ⟨rfl, et_7⟩ := q_7
    have et_7 := et_7.symm
    subst et_7
    dsimp only [Option.toList, List.append, List.cons_append, List.nil_append]
    refine g_if_ne (nx := 13) 15 F dX11_gain_10 rfl (by decide) (fun c_10 => ?_) (fun c_10 => absurd c_10 (by exact bI_n0.mpr (by rw [hu, hui, hNi]; simp only [Int32.reduceToInt]; omega)))
    refine g_aload_n (nx := 16) 0 F dX11_gain_15 rfl rfl rfl ?_
    refine g_getR (nx := 19) F dX11_gain_16 rfl fl_RX11_35 rfl (by decide) (by decide) rfl ?_
    refine g_iload_n (nx := 20) 1 F dX11_gain_19 rfl rfl rfl ?_
    refine g_callV (nx := 23) 1 27 [.int (nI N)] F dX11_gain_20 rfl ml_RX11_151 mo_X5_readSum rfl rfl rfl rfl (Nat.le_of_ble_eq_true rfl) (by first | decide | omega) (c_readSum t N c _ ht hT hin (by omega) hb) (fun r_20 τ_20 q_20 => ?_)
    skip
    rcases q_20 with ⟨p2, l2, op2, vl2, hR, rfl, hgk, hl1, hcd, hfr⟩ | ⟨f, e, z, hR, rfl, hfe, hfr⟩
    · dsimp only [Option.toList, List.append, List.cons_append, List.nil_append]
      refine g_istore_n (nx := 24) 2 F dX11_gain_23 rfl rfl (by decide) ?_
      try dsimp only [List.set]
      refine g_aload_n (nx := 25) 0 F dX11_gain_24 rfl rfl rfl ?_
      refine g_getR (nx := 28) F dX11_gain_25 rfl fl_RX11_10 rfl (by decide) (by decide) rfl ?_
      refine g_iconst (nx := 29) (0) F dX11_gain_28 rfl rfl ?_
      refine g_putI (nx := 32) F dX11_gain_29 rfl fl_RX11_119 fi_8_1 rfl (by decide) (by decide) rfl rfl ?_
      refine g_iload_n (nx := 33) 2 F dX11_gain_32 rfl rfl rfl ?_
      refine g_if_le (nx := 36) 57 F dX11_gain_33 rfl (by decide) (fun c_33 => absurd c_33 (by decide)) (fun c_33 => ?_)
      refine g_aload_n (nx := 37) 0 F dX11_gain_36 rfl rfl rfl ?_
      refine g_getR (nx := 40) F dX11_gain_37 rfl fl_RX11_54 rfl (by decide) (by decide) rfl ?_
      refine g_aload_n (nx := 41) 0 F dX11_gain_40 rfl rfl rfl ?_
      refine g_getR (nx := 44) F dX11_gain_41 rfl fl_RX11_35 rfl (by decide) (by decide) rfl ?_
      refine g_aload_n (nx := 45) 0 F dX11_gain_44 rfl rfl rfl ?_
      refine g_getR (nx := 48) F dX11_gain_45 rfl fl_RX11_54 rfl (by decide) (by decide) rfl ?_
      refine g_getD (nx := 51) F dX11_gain_48 rfl fl_RX11_155 rfl (by decide) (by decide) rfl rfl ?_
      rw [show (zu τ_20 1 1 0) 37 2 = σ 37 2 from congrFun (hfr.1 37 (by decide) (by omega)) 2]
      refine g_callV (nx := 54) 1 0 [.ref (σ 37 2).toNatClampNeg] F dX11_gain_51 rfl ml_RX11_141 mo_X5_swapFor rfl rfl rfl rfl (Nat.le_of_ble_eq_true rfl) (by first | decide | omega) (c_swapFor (σ 37 2).toNatClampNeg _ (by have := tx_rng hTw; omega)) (fun r_51 τ_51 q_51 => ?_)
      obtain ⟨rfl, et_51⟩ := q_51
      subst et_51
      dsimp only [Option.toList, List.append, List.cons_append, List.nil_append]
      rw [show (zu τ_20 1 1 0) 16 1 = σ 16 1 from hfr.2, hT]
      refine g_callV (nx := 57) 1 0 [.ref t] F dX11_gain_54 rfl ml_RX11_158 mo_X8_replaceGain rfl rfl rfl rfl (Nat.le_of_ble_eq_true rfl) (by first | decide | omega) (c_replaceGain t _ (by omega)) (fun r_54 τ_54 q_54 => ?_)
      obtain ⟨rfl, et_54⟩ := q_54
      subst et_54
      dsimp only [Option.toList, List.append, List.cons_append, List.nil_append]
      refine g_iload_n (nx := 58) 2 F dX11_gain_57 rfl rfl rfl ?_
      refine g_iret F E dX11_gain_58 ?_
      exact Or.inl ⟨by rw [hNi]; exact hA, N, rfl, τ_20, Or.inl ⟨⟨p2, l2, op2, vl2, hR, rfl, hgk, hl1, hcd, hfr⟩, rfl⟩⟩
    · dsimp only [Option.toList, List.append, List.cons_append, List.nil_append]
      refine g_istore_n (nx := 24) 2 F dX11_gain_23 rfl rfl (by decide) ?_
      try dsimp only [List.set]
      refine g_aload_n (nx := 25) 0 F dX11_gain_24 rfl rfl rfl ?_
      refine g_getR (nx := 28) F dX11_gain_25 rfl fl_RX11_10 rfl (by decide) (by decide) rfl ?_
      refine g_iconst (nx := 29) (0) F dX11_gain_28 rfl rfl ?_
      refine g_putI (nx := 32) F dX11_gain_29 rfl fl_RX11_119 fi_8_1 rfl (by decide) (by decide) rfl rfl ?_
      refine g_iload_n (nx := 33) 2 F dX11_gain_32 rfl rfl rfl ?_
      refine g_if_le (nx := 36) 57 F dX11_gain_33 rfl (by decide) (fun c_33 => ?_) (fun c_33 => absurd c_33 (by exact fun zq => zq (flt_le f (by omega) e.1 (by omega))))
      refine g_iload_n (nx := 58) 2 F dX11_gain_57 rfl rfl rfl ?_
      refine g_iret F E dX11_gain_58 ?_
      exact Or.inl ⟨by rw [hNi]; exact hA, N, rfl, τ_20, Or.inr ⟨⟨f, e, z, hR, rfl, hfe, hfr⟩, rfl⟩⟩
  · refine g_aload_n (nx := 1) 0 F dX11_gain_0 rfl rfl rfl ?_
    refine g_getR (nx := 4) F dX11_gain_1 rfl fl_RX11_10 rfl (by decide) (by decide) rfl ?_
    refine g_iload_n (nx := 5) 1 F dX11_gain_4 rfl rfl rfl ?_
    refine g_bipush (nx := 7) (60) F dX11_gain_5 rfl (by decide) ?_
    refine g_callV (nx := 10) 2 0 [.int n, .int 60] F dX11_gain_7 rfl ml_RX11_128 mo_X9_hasText rfl rfl rfl rfl (Nat.le_of_ble_eq_true rfl) (by first | decide | omega) (c_hasText n 60 _) (fun r_7 τ_7 q_7 => ?_)
    obtain ⟨rfl, et_7⟩ := q_7
    have et_7 := et_7.symm
    subst et_7
    dsimp only [Option.toList, List.append, List.cons_append, List.nil_append]
    refine g_if_ne (nx := 13) 15 F dX11_gain_10 rfl (by decide) (fun c_10 => ?_) (fun c_10 => ?_)
    · exfalso
      clear F E
      have hui : (nI u).toInt = u := nI_toInt (by omega)
      simp only [bI_0, bI_n0, ne_eq, hui, hu, Int32.reduceToInt, Decidable.not_not] at *
      omega
    · refine g_iconst (nx := 14) (-1) F dX11_gain_13 rfl rfl ?_
      refine g_iret F E dX11_gain_14 ?_
      exact Or.inr ⟨hA, rfl, rfl⟩
