def gvF (op vl : Nat → Nat) (len : Nat) (fe pa : Nat → Int32) (e : Nat) : Nat → Nat → Int32 := fun i o => evF op vl (fcF 0 0 0 0 0 (fe i) (pa i) (nI i) (nI e) (nI o) 0 0) len len 0 []
def gnOK (op vl : Nat → Nat) (len : Nat) : Prop := len ≤ 160 ∧ (∀ k, k < len → vl k < 1000000) ∧ ∃ dp bl, wfC op vl dp bl 0 len
def gnC (σ : zSt) (op vl : Nat → Nat) (len e : Nat) (fe pa : Nat → Int32) : Prop := isT (σ 37 2).toNatClampNeg ∧ σ (σ 37 2).toNatClampNeg 1 = nI len ∧ (∀ k, k < len → σ ((σ 37 2).toNatClampNeg + 1) k = nI (256 * vl k + ck (op k))) ∧ gnOK op vl len ∧ σ 5 = fe ∧ σ 4 = pa ∧ σ 3 3 = nI e ∧ e ≤ 10
def gnK (σ : zSt) (op vl : Nat → Nat) (len e : Nat) (fe pa : Nat → Int32) : Prop := σ 147 = fe ∧ σ 146 = pa ∧ σ 145 1 = nI e ∧ e ≤ 10 ∧ σ 172 132 = nI 1980 ∧ σ 174 132 = nI (1980 + len) ∧ (∀ k, k < len → σ 169 (1980 + k) = nI (1048576 * op k + vl k)) ∧ gnOK op vl len
def fL (σ τ : zSt) : Prop := ∀ a, a ≠ 14 → a ≠ 15 → (a < 39 ∨ 48 < a) → τ a = σ a
def fK (σ τ : zSt) : Prop := ∀ a, a ≠ 175 → a ≠ 176 → τ a = σ a
theorem gnK_fr {σ τ : zSt} {op vl : Nat → Nat} {len e : Nat} {fe pa : Nat → Int32} (h : fK σ τ) (hg : gnK σ op vl len e fe pa) : gnK τ op vl len e fe pa := by
  unfold gnK at *
  rw [h 147 (by decide) (by decide), h 146 (by decide) (by decide), h 145 (by decide) (by decide), h 172 (by decide) (by decide), h 174 (by decide) (by decide), h 169 (by decide) (by decide)]
  exact hg
set_option maxHeartbeats 4000000 in
set_option maxRecDepth 100000 in
theorem c_learnWants (op vl : Nat → Nat) (len e : Nat) (fe pa : Nat → Int32) (σ : zSt) (hg : gnC σ op vl len e fe pa) : Con mX8_learnWants 2 [.ref 37] σ (fun r τ => r = none ∧ fL σ τ ∧ lwS τ e (gvF op vl len fe pa e)) := by
  refine Con.of (lv := [.ref 37, .long 0, .long 0, .long 0]) mk_X8_learnWants rfl (Nat.le_of_ble_eq_true rfl) rfl (fun X F E => ?_)
  obtain ⟨ht, hl, hcode, ⟨hlen, hvl, dp, bl, hw⟩, hfe, hpa, hc, he10⟩ := hg
  have htr := tx_rng ht
  have L1 : ∀ (q i : Nat) (τ : zSt) (z3 : Value), i + q = e → fL σ τ → (∀ k, k < 12 → k ≠ 5 → k ≠ 6 → k ≠ 7 → k ≠ 9 → τ 14 k = if k = 8 then nI e else 0) → (∀ i2, i2 < i → ∀ o, o < e → τ (39 + i2) o = gvF op vl len fe pa e i2 o) → Gs X 26 [.ref 37, .ref 14, .int (nI i), z3] [] τ := by
    intro q
    induction q with
    | zero =>
      intro i τ z3 hi hfr hlet hrow
      have hi : i = e := hi
      subst hi
      refine g_iload_n (nx := 27) 2 F dX8_learnWants_26 rfl rfl rfl ?_
      refine g_aload_n (nx := 28) 0 F dX8_learnWants_27 rfl rfl rfl ?_
      refine g_getR (nx := 31) F dX8_learnWants_28 rfl fl_RX8_23 rfl (by decide) (by decide) rfl ?_
      refine g_getV (nx := 34) (nI i) F dX8_learnWants_31 rfl fl_RX8_43 rfl (by decide) (by decide) rfl rfl ((congrFun (hfr 3 (by decide) (by decide) (by decide)) 3).trans hc) ?_
      refine g_icmp_ge (nx := 37) 124 F dX8_learnWants_34 rfl (by decide) (fun c_34 => ?_) (fun c_34 => absurd c_34 (by exact fun zq => zq (nI_le (Nat.le_refl i) (by omega))))
      refine g_vret F E dX8_learnWants_124 ?_
      exact ⟨rfl, hfr, he10, (congrFun (hfr 3 (by decide) (by decide) (by decide)) 3).trans hc, hrow⟩
    | succ q ih =>
      intro i τ z3 hi hfr hlet hrow
      have hie : i < e := by omega
      have L2 : ∀ (p o : Nat) (τ : zSt), o + p = e → fL σ τ → (∀ k, k < 12 → k ≠ 9 → τ 14 k = fcF 0 0 0 0 0 (fe i) (pa i) (nI i) (nI e) 0 0 0 k) → (∀ i2, i2 < i → ∀ o, o < e → τ (39 + i2) o = gvF op vl len fe pa e i2 o) → (∀ o2, o2 < o → τ (39 + i) o2 = gvF op vl len fe pa e i o2) → Gs X 69 [.ref 37, .ref 14, .int (nI i), .int (nI o)] [] τ := by
        intro p
        induction p with
        | zero =>
          intro o τ ho hfr hlet hrow hrow2
          have ho : o = e := ho
          refine g_iload_n (nx := 70) 3 F dX8_learnWants_69 rfl rfl rfl ?_
          refine g_aload_n (nx := 71) 0 F dX8_learnWants_70 rfl rfl rfl ?_
          refine g_getR (nx := 74) F dX8_learnWants_71 rfl fl_RX8_23 rfl (by decide) (by decide) rfl ?_
          refine g_getV (nx := 77) (nI e) F dX8_learnWants_74 rfl fl_RX8_43 rfl (by decide) (by decide) rfl rfl ((congrFun (hfr 3 (by decide) (by decide) (by decide)) 3).trans hc) ?_
          refine g_icmp_ge (nx := 80) 118 F dX8_learnWants_77 rfl (by decide) (fun c_77 => ?_) (fun c_77 => absurd c_77 (by exact fun zq => zq (nI_le (by omega) (by omega))))
          refine g_iinc (nx := 121) (1) F dX8_learnWants_118 rfl rfl (by decide) (by decide) ?_
          try dsimp only [List.set]
          refine g_goto 26 F dX8_learnWants_121 (by decide) ?_
          rw [nI_1]
          refine ih (i + 1) τ _ (by omega) hfr (fun k k1 k2 k3 k4 k5 => ?_) (fun i2 h2 o2 h3 => ?_)
          · rw [hlet k k1 k5]
            match k, k1, k2, k3, k4, k5 with
            | 0, _, _, _, _, _ => rfl
            | 1, _, _, _, _, _ => rfl
            | 2, _, _, _, _, _ => rfl
            | 3, _, _, _, _, _ => rfl
            | 4, _, _, _, _, _ => rfl
            | 8, _, _, _, _, _ => rfl
            | 10, _, _, _, _, _ => rfl
            | 11, _, _, _, _, _ => rfl
            | 5, _, z, _, _, _ => exact absurd rfl z
            | 6, _, _, z, _, _ => exact absurd rfl z
            | 7, _, _, _, z, _ => exact absurd rfl z
            | 9, _, _, _, _, z => exact absurd rfl z
            | k + 12, z, _, _, _, _ => exact absurd z (by omega)
          · by_cases ez : i2 = i
            · subst ez; exact hrow2 o2 (by omega)
            · exact hrow i2 (by omega) o2 h3
        | succ p ih2 =>
          intro o τ ho hfr hlet hrow hrow2
          have e37 : τ 37 2 = σ 37 2 := congrFun (hfr 37 (by decide) (by decide) (by decide)) 2
          have et : ∀ a, 61 ≤ a → τ a = σ a := fun a ha => hfr a (by omega) (by omega) (by omega)
          refine g_iload_n (nx := 70) 3 F dX8_learnWants_69 rfl rfl rfl ?_
          refine g_aload_n (nx := 71) 0 F dX8_learnWants_70 rfl rfl rfl ?_
          refine g_getR (nx := 74) F dX8_learnWants_71 rfl fl_RX8_23 rfl (by decide) (by decide) rfl ?_
          refine g_getV (nx := 77) (nI e) F dX8_learnWants_74 rfl fl_RX8_43 rfl (by decide) (by decide) rfl rfl ((congrFun (hfr 3 (by decide) (by decide) (by decide)) 3).trans hc) ?_
          refine g_icmp_ge (nx := 80) 118 F dX8_learnWants_77 rfl (by decide) (fun c_77 => absurd c_77 (by exact nI_ge (by omega) (by omega))) (fun c_77 => ?_)
          refine g_aload_n (nx := 81) 1 F dX8_learnWants_80 rfl rfl rfl ?_
          refine g_bipush (nx := 83) (9) F dX8_learnWants_81 rfl (by decide) ?_
          refine g_iload_n (nx := 84) 3 F dX8_learnWants_83 rfl rfl rfl ?_
          show Gs X 84 _ (.int _ :: .int (nI 9) :: .ref 14 :: []) _
          refine g_iastN (nx := 85) (9) F dX8_learnWants_84 rfl rfl (by decide) ?_
          refine g_aload_n (nx := 86) 0 F dX8_learnWants_85 rfl rfl rfl ?_
          refine g_getR (nx := 89) F dX8_learnWants_86 rfl fl_RX8_20 rfl (by decide) (by decide) rfl ?_
          refine g_iload_n (nx := 90) 2 F dX8_learnWants_89 rfl rfl rfl ?_
          refine g_aaldGN (nx := 91) (i) F dX8_learnWants_90 rfl rfl (by omega) ?_
          refine g_iload_n (nx := 92) 3 F dX8_learnWants_91 rfl rfl rfl ?_
          refine g_aload_n (nx := 93) 0 F dX8_learnWants_92 rfl rfl rfl ?_
          refine g_getR (nx := 96) F dX8_learnWants_93 rfl fl_RX8_27 rfl (by decide) (by decide) rfl ?_
          refine g_aload_n (nx := 97) 0 F dX8_learnWants_96 rfl rfl rfl ?_
          refine g_getD (nx := 100) F dX8_learnWants_97 rfl fl_RX8_12 rfl (by decide) (by decide) rfl rfl ?_
          rw [show (zu τ 14 9 (nI o) 37 2) = σ 37 2 from e37]
          refine g_iconst (nx := 101) (0) F dX8_learnWants_100 rfl rfl ?_
          refine g_aload_n (nx := 102) 0 F dX8_learnWants_101 rfl rfl rfl ?_
          refine g_getD (nx := 105) F dX8_learnWants_102 rfl fl_RX8_12 rfl (by decide) (by decide) rfl rfl ?_
          rw [show (zu τ 14 9 (nI o) 37 2) = σ 37 2 from e37]
          refine g_getV (nx := 108) (nI len) F dX8_learnWants_105 rfl fl_RX8_55 (tx_k ht) (by decide) (by decide) (tx_1 ht) rfl (by rw [zu_ne _ (show (σ 37 2).toNatClampNeg ≠ 14 by omega), et _ (by omega)]; exact hl) ?_
          refine g_callV (nx := 111) 3 1 [.ref (σ 37 2).toNatClampNeg, .int (nI 0), .int (nI len)] F dX8_learnWants_108 rfl ml_RX8_58 mo_X7_reckon rfl rfl rfl rfl (Nat.le_of_ble_eq_true rfl) (by first | decide | omega) (c_reckon (σ 37 2).toNatClampNeg 0 len len op vl dp bl (zu τ 14 9 (nI o)) ht (by rw [zu_ne _ (by omega), et _ (by omega)]; exact hl) hlen (Nat.le_refl _) (fun k hk => by rw [zu_ne _ (by omega), et _ (by omega)]; exact hcode k hk) hvl hw) (fun r_108 τ_108 q_108 => ?_)
          obtain ⟨⟨g_108, et_108⟩, rfl⟩ := q_108
          subst et_108
          dsimp only [Option.toList, List.append, List.cons_append, List.nil_append]
          refine g_top (gvF op vl len fe pa e i o) (ev_congr hw (fun k hk => ?_) _ _ _ (Nat.le_refl _)) ?_
          · rw [zu_at]
            unfold upd
            by_cases ez : k = 9
            · subst ez
              rfl
            · rw [if_neg ez, hlet k hk ez]
              match k, hk, ez with
              | 0, _, _ => rfl
              | 1, _, _ => rfl
              | 2, _, _ => rfl
              | 3, _, _ => rfl
              | 4, _, _ => rfl
              | 5, _, _ => rfl
              | 6, _, _ => rfl
              | 7, _, _ => rfl
              | 8, _, _ => rfl
              | 9, _, z => exact absurd rfl z
              | 10, _, _ => rfl
              | 11, _, _ => rfl
              | k + 12, z, _ => exact absurd z (by omega)
          refine g_iastN (nx := 112) (o) F dX8_learnWants_111 rfl (row_k i (by omega)) (by omega) ?_
          refine g_iinc (nx := 115) (1) F dX8_learnWants_112 rfl rfl (by decide) (by decide) ?_
          try dsimp only [List.set]
          refine g_goto 69 F dX8_learnWants_115 (by decide) ?_
          rw [nI_1]
          refine ih2 (o + 1) _ (by omega) (fun a a1 a2 a3 => ?_) (fun k k1 k2 => ?_) (fun i2 h2 o2 h3 => ?_) (fun o2 h2 => ?_)
          · rw [zu_ne _ (by omega), zs_ne _ a2, zu_ne _ a1]
            exact hfr a a1 a2 a3
          · rw [zu_ne _ (by omega), zs_ne _ (by decide), zu_off _ _ _ _ _ k2]
            exact hlet k k1 k2
          · rw [zu_ne _ (by omega), zs_ne _ (by omega), zu_ne _ (by omega)]
            exact hrow i2 h2 o2 h3
          · by_cases ez : o2 = o
            · subst ez
              rw [zu_same]
            · rw [zu_off _ _ _ _ _ ez, zs_ne _ (by omega), zu_ne _ (by omega)]
              exact hrow2 o2 (by omega)
      refine g_iload_n (nx := 27) 2 F dX8_learnWants_26 rfl rfl rfl ?_
      refine g_aload_n (nx := 28) 0 F dX8_learnWants_27 rfl rfl rfl ?_
      refine g_getR (nx := 31) F dX8_learnWants_28 rfl fl_RX8_23 rfl (by decide) (by decide) rfl ?_
      refine g_getV (nx := 34) (nI e) F dX8_learnWants_31 rfl fl_RX8_43 rfl (by decide) (by decide) rfl rfl ((congrFun (hfr 3 (by decide) (by decide) (by decide)) 3).trans hc) ?_
      refine g_icmp_ge (nx := 37) 124 F dX8_learnWants_34 rfl (by decide) (fun c_34 => absurd c_34 (by exact nI_ge (by omega) (by omega))) (fun c_34 => ?_)
      refine g_aload_n (nx := 38) 1 F dX8_learnWants_37 rfl rfl rfl ?_
      refine g_bipush (nx := 40) (7) F dX8_learnWants_38 rfl (by decide) ?_
      refine g_iload_n (nx := 41) 2 F dX8_learnWants_40 rfl rfl rfl ?_
      show Gs X 41 _ (.int _ :: .int (nI 7) :: .ref 14 :: []) _
      refine g_iastN (nx := 42) (7) F dX8_learnWants_41 rfl rfl (by decide) ?_
      refine g_aload_n (nx := 43) 1 F dX8_learnWants_42 rfl rfl rfl ?_
      refine g_iconst (nx := 44) (5) F dX8_learnWants_43 rfl rfl ?_
      refine g_aload_n (nx := 45) 0 F dX8_learnWants_44 rfl rfl rfl ?_
      refine g_getR (nx := 48) F dX8_learnWants_45 rfl fl_RX8_23 rfl (by decide) (by decide) rfl ?_
      refine g_getR (nx := 51) F dX8_learnWants_48 rfl fl_RX8_49 rfl (by decide) (by decide) rfl ?_
      refine g_iload_n (nx := 52) 2 F dX8_learnWants_51 rfl rfl rfl ?_
      refine g_ialdN (nx := 53) (i) (fe i) F dX8_learnWants_52 rfl rfl (by omega) ((congrFun (hfr 5 (by decide) (by decide) (by decide)) i).trans (congrFun hfe i)) ?_
      show Gs X 53 _ (.int _ :: .int (nI 5) :: .ref 14 :: []) _
      refine g_iastN (nx := 54) (5) F dX8_learnWants_53 rfl rfl (by decide) ?_
      refine g_aload_n (nx := 55) 1 F dX8_learnWants_54 rfl rfl rfl ?_
      refine g_bipush (nx := 57) (6) F dX8_learnWants_55 rfl (by decide) ?_
      refine g_aload_n (nx := 58) 0 F dX8_learnWants_57 rfl rfl rfl ?_
      refine g_getR (nx := 61) F dX8_learnWants_58 rfl fl_RX8_23 rfl (by decide) (by decide) rfl ?_
      refine g_getR (nx := 64) F dX8_learnWants_61 rfl fl_RX8_52 rfl (by decide) (by decide) rfl ?_
      refine g_iload_n (nx := 65) 2 F dX8_learnWants_64 rfl rfl rfl ?_
      refine g_ialdN (nx := 66) (i) (pa i) F dX8_learnWants_65 rfl rfl (by omega) ((congrFun (hfr 4 (by decide) (by decide) (by decide)) i).trans (congrFun hpa i)) ?_
      show Gs X 66 _ (.int _ :: .int (nI 6) :: .ref 14 :: []) _
      refine g_iastN (nx := 67) (6) F dX8_learnWants_66 rfl rfl (by decide) ?_
      refine g_iconst (nx := 68) (0) F dX8_learnWants_67 rfl rfl ?_
      refine g_istore_n (nx := 69) 3 F dX8_learnWants_68 rfl rfl (by decide) ?_
      try dsimp only [List.set]
      refine L2 e 0 _ (by omega) (fun a a1 a2 a3 => ?_) (fun k k1 k2 => ?_) (fun i2 h2 o2 h3 => ?_) (fun o2 h2 => absurd h2 (Nat.not_lt_zero o2))
      · rw [zu_ne _ a1, zu_ne _ a1, zu_ne _ a1]
        exact hfr a a1 a2 a3
      · have hlet := hlet k k1
        match k, k1, k2, hlet with
        | 0, _, _, h => exact h (by decide) (by decide) (by decide) (by decide)
        | 1, _, _, h => exact h (by decide) (by decide) (by decide) (by decide)
        | 2, _, _, h => exact h (by decide) (by decide) (by decide) (by decide)
        | 3, _, _, h => exact h (by decide) (by decide) (by decide) (by decide)
        | 4, _, _, h => exact h (by decide) (by decide) (by decide) (by decide)
        | 5, _, _, _ => rfl
        | 6, _, _, _ => rfl
        | 7, _, _, _ => rfl
        | 8, _, _, h => exact h (by decide) (by decide) (by decide) (by decide)
        | 9, _, z, _ => exact absurd rfl z
        | 10, _, _, h => exact h (by decide) (by decide) (by decide) (by decide)
        | 11, _, _, h => exact h (by decide) (by decide) (by decide) (by decide)
        | k + 12, z, _, _ => exact absurd z (by omega)
      · rw [zu_ne _ (by omega), zu_ne _ (by omega), zu_ne _ (by omega)]
        exact hrow i2 h2 o2 h3
  refine g_aload_n (nx := 1) 0 F dX8_learnWants_0 rfl rfl rfl ?_
  refine g_getR (nx := 4) F dX8_learnWants_1 rfl fl_RX8_27 rfl (by decide) (by decide) rfl ?_
  refine g_getR (nx := 7) F dX8_learnWants_4 rfl fl_RX8_31 rfl (by decide) (by decide) rfl ?_
  refine g_astore_n (nx := 8) 1 F dX8_learnWants_7 rfl rfl (by decide) ?_
  try dsimp only [List.set]
  refine g_aload_n (nx := 9) 1 F dX8_learnWants_8 rfl rfl rfl ?_
  refine g_iconst (nx := 10) (0) F dX8_learnWants_9 rfl rfl ?_
  refine g_callS (nx := 13) 2 0 [.ref 14, .int 0] F dX8_learnWants_10 rfl ml_RX8_37 mo_J7_fill_53178 rfl rfl (Nat.le_of_ble_eq_true rfl) (by first | decide | omega) (j_fill 14 12 0 _ rfl) (fun r_10 τ_10 q_10 => ?_)
  obtain ⟨rfl, et_10⟩ := q_10
  subst et_10
  dsimp only [Option.toList, List.append, List.cons_append, List.nil_append]
  refine g_aload_n (nx := 14) 1 F dX8_learnWants_13 rfl rfl rfl ?_
  refine g_bipush (nx := 16) (8) F dX8_learnWants_14 rfl (by decide) ?_
  refine g_aload_n (nx := 17) 0 F dX8_learnWants_16 rfl rfl rfl ?_
  refine g_getR (nx := 20) F dX8_learnWants_17 rfl fl_RX8_23 rfl (by decide) (by decide) rfl ?_
  refine g_getV (nx := 23) (nI e) F dX8_learnWants_20 rfl fl_RX8_43 rfl (by decide) (by decide) rfl rfl (hc) ?_
  show Gs X 23 _ (.int _ :: .int (nI 8) :: .ref 14 :: []) _
  refine g_iastN (nx := 24) (8) F dX8_learnWants_23 rfl rfl (by decide) ?_
  refine g_iconst (nx := 25) (0) F dX8_learnWants_24 rfl rfl ?_
  refine g_istore_n (nx := 26) 2 F dX8_learnWants_25 rfl rfl (by decide) ?_
  try dsimp only [List.set]
  refine L1 e 0 _ _ (by omega) (fun a a1 a2 a3 => ?_) (fun k k1 k2 k3 k4 k5 => ?_) (fun i2 h2 => absurd h2 (Nat.not_lt_zero i2))
  · rw [zu_ne _ a1, zs_ne _ a1]
  · by_cases ez : k = 8
    · subst ez
      rfl
    · rw [zu_off _ _ _ _ _ ez, zs_at, if_pos k1, if_neg ez]
