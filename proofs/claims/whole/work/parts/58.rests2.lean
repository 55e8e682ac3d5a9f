def gvF (op vl : Nat → Nat) (len : Nat) (fe pa : Nat → Int32) (e : Nat) : Nat → Nat → Int32 := fun i o => evF op vl (fcF 0 0 0 0 0 (fe i) (pa i) (nI i) (nI e) (nI o) 0 0) len len 0 []
def gnOK (op vl : Nat → Nat) (len : Nat) : Prop := len ≤ 160 ∧ (∀ k, k < len → vl k < 1000000) ∧ ∃ dp bl, wfC op vl dp bl 0 len
def gnC (σ : zSt) (op vl : Nat → Nat) (len e : Nat) (fe pa : Nat → Int32) : Prop := isT (σ 37 2).toNatClampNeg ∧ σ (σ 37 2).toNatClampNeg 1 = nI len ∧ (∀ k, k < len → σ ((σ 37 2).toNatClampNeg + 1) k = nI (256 * vl k + ck (op k))) ∧ gnOK op vl len ∧ σ 5 = fe ∧ σ 4 = pa ∧ σ 3 3 = nI e ∧ e ≤ 10
def gnK (σ : zSt) (op vl : Nat → Nat) (len e : Nat) (fe pa : Nat → Int32) : Prop := σ 147 = fe ∧ σ 146 = pa ∧ σ 145 1 = nI e ∧ e ≤ 10 ∧ σ 172 132 = nI 1980 ∧ σ 174 132 = nI (1980 + len) ∧ (∀ k, k < len → σ 169 (1980 + k) = nI (1048576 * op k + vl k)) ∧ gnOK op vl len
def fL0 (σ τ : zSt) : Prop := ∀ a, a ≠ 14 → a ≠ 15 → (a < 39 ∨ 48 < a) → τ a = σ a
def fL (σ τ : zSt) : Prop := (∀ a, a ≠ 14 → a ≠ 15 → a ≠ 37 → (a < 39 ∨ 48 < a) → a ≠ 195 → τ a = σ a) ∧ ∀ k, k ≠ 6 → τ 37 k = σ 37 k
theorem fL_rf (σ : zSt) : fL σ σ := ⟨fun _ _ _ _ _ _ => rfl, fun _ _ => rfl⟩
theorem fL_fA {σ τ ρ : zSt} (h : fL σ τ) (g : fA τ ρ) : fL σ ρ := ⟨fun a a1 a2 a3 a4 a5 => (g a a5).trans (h.1 a a1 a2 a3 a4 a5), fun k hk => by rw [g 37 (by decide)]; exact h.2 k hk⟩
theorem gnC_fr {σ τ : zSt} {op vl : Nat → Nat} {len e : Nat} {fe pa : Nat → Int32} (h : ∀ a, a ≠ 37 → a ≠ 195 → τ a = σ a) (h2 : τ 37 2 = σ 37 2) (hg : gnC σ op vl len e fe pa) : gnC τ op vl len e fe pa := by
  have hr := tx_rng hg.1
  unfold gnC at *
  rw [h2, h (σ 37 2).toNatClampNeg (by omega) (by omega), h ((σ 37 2).toNatClampNeg + 1) (by omega) (by omega), h 5 (by decide) (by decide), h 4 (by decide) (by decide), h 3 (by decide) (by decide)]
  exact hg
def fK (σ τ : zSt) : Prop := ∀ a, a ≠ 175 → a ≠ 176 → τ a = σ a
theorem gnK_fr {σ τ : zSt} {op vl : Nat → Nat} {len e : Nat} {fe pa : Nat → Int32} (h : fK σ τ) (hg : gnK σ op vl len e fe pa) : gnK τ op vl len e fe pa := by
  unfold gnK at *
  rw [h 147 (by decide) (by decide), h 146 (by decide) (by decide), h 145 (by decide) (by decide), h 172 (by decide) (by decide), h 174 (by decide) (by decide), h 169 (by decide) (by decide)]
  exact hg
set_option maxHeartbeats 4000000 in
set_option maxRecDepth 100000 in
theorem c_learnWants (op vl : Nat → Nat) (len e : Nat) (fe pa : Nat → Int32) (σ : zSt) (hg : gnC σ op vl len e fe pa) (hch : σ 37 6 = nI e → lrS σ e (gvF op vl len fe pa e)) : Con mX8_learnWants 2 [.ref 37] σ (fun r τ => r = none ∧ fL σ τ ∧ lwS τ e (gvF op vl len fe pa e) ∧ afS τ e (gvF op vl len fe pa e) ∧ τ 37 6 = nI e) := by
  refine Con.of (lv := [.ref 37, .long 0, .long 0, .long 0]) mk_X8_learnWants rfl (Nat.le_of_ble_eq_true rfl) rfl (fun X F E => ?_)
  obtain ⟨_, _, _, _, _, _, hc0, he0⟩ := id hg
  by_cases hq6 : σ 37 6 = nI e
  · refine g_aload_n (nx := 1) 0 F dX8_learnWants_0 rfl rfl rfl ?_
    refine g_getI (nx := 4) F dX8_learnWants_1 rfl fl_RX8_27 rfl (by decide) (by decide) rfl rfl ?_
    refine g_aload_n (nx := 5) 0 F dX8_learnWants_4 rfl rfl rfl ?_
    refine g_getR (nx := 8) F dX8_learnWants_5 rfl fl_RX8_31 rfl (by decide) (by decide) rfl ?_
    refine g_getV (nx := 11) (nI e) F dX8_learnWants_8 rfl fl_RX8_43 rfl (by decide) (by decide) rfl rfl (hc0) ?_
    refine g_icmp_ne (nx := 14) 15 F dX8_learnWants_11 rfl (by decide) (fun c_11 => absurd c_11 (by exact fun zq => zq hq6)) (fun c_11 => ?_)
    refine g_vret F E dX8_learnWants_14 ?_
    exact ⟨rfl, fL_rf σ, ⟨he0, hc0, (hch hq6).1⟩, (hch hq6).2, hq6⟩
  obtain ⟨ς, hς⟩ : ∃ ς : zSt, ς = zs (zu σ 37 6 (nI e)) 195 (fun k => if k < 1024 then -1 else zu σ 37 6 (nI e) 195 k) := ⟨_, rfl⟩
  have hςa : ∀ a, a ≠ 37 → a ≠ 195 → ς a = σ a := fun a a1 a2 => by rw [hς, zs_ne _ a2, zu_ne _ a1]
  have hςk : ∀ k, k ≠ 6 → ς 37 k = σ 37 k := fun k hk => by rw [hς, zs_ne _ (by decide), zu_off _ _ _ _ _ hk]
  have hς6 : ς 37 6 = nI e := by rw [hς, zs_ne _ (by decide), zu_same]
  have hς195 : ∀ k, k < 1024 → ς 195 k = -1 := fun k hk => by rw [hς, zs_at, if_pos hk]
  obtain ⟨ht, hl, hcode, ⟨hlen, hvl, dp, bl, hw⟩, hfe, hpa, hc, he10⟩ := gnC_fr hςa (hςk 2 (by decide)) hg
  have hp10 := pow_e he10
  have htr := tx_rng ht
  have L1 : ∀ (q i : Nat) (τ : zSt) (z3 : Value), i + q = e → fL0 ς τ → (∀ k, k < 12 → k ≠ 5 → k ≠ 6 → k ≠ 7 → k ≠ 9 → τ 14 k = if k = 8 then nI e else 0) → (∀ i2, i2 < i → ∀ o, o < e → τ (39 + i2) o = gvF op vl len fe pa e i2 o) → Gs X 60 [.ref 37, .ref 14, .int (nI i), z3] [] τ := by
    intro q
    induction q with
    | zero =>
      intro i τ z3 hi hfr hlet hrow
      have hi : i = e := hi
      subst hi
      refine g_iload_n (nx := 61) 2 F dX8_learnWants_60 rfl rfl rfl ?_
      refine g_aload_n (nx := 62) 0 F dX8_learnWants_61 rfl rfl rfl ?_
      refine g_getR (nx := 65) F dX8_learnWants_62 rfl fl_RX8_31 rfl (by decide) (by decide) rfl ?_
      refine g_getV (nx := 68) (nI i) F dX8_learnWants_65 rfl fl_RX8_43 rfl (by decide) (by decide) rfl rfl ((congrFun (hfr 3 (by decide) (by decide) (by decide)) 3).trans hc) ?_
      refine g_icmp_ge (nx := 71) 158 F dX8_learnWants_68 rfl (by decide) (fun c_68 => ?_) (fun c_68 => absurd c_68 (by exact fun zq => zq (nI_le (Nat.le_refl i) (by omega))))
      refine g_vret F E dX8_learnWants_158 ?_
      refine ⟨rfl, ⟨fun a a1 a2 a3 a4 a5 => (hfr a a1 a2 a4).trans (hςa a a3 a5), fun k hk => ?_⟩, ⟨he10, (congrFun (hfr 3 (by decide) (by decide) (by decide)) 3).trans hc, hrow⟩, fun z hz => Or.inl ?_, ?_⟩
      · rw [hfr 37 (by decide) (by decide) (by decide)]
        exact hςk k hk
      · rw [hfr 195 (by decide) (by decide) (by decide)]
        exact hς195 z (by omega)
      · rw [hfr 37 (by decide) (by decide) (by decide)]
        exact hς6
    | succ q ih =>
      intro i τ z3 hi hfr hlet hrow
      have hie : i < e := by omega
      have L2 : ∀ (p o : Nat) (τ : zSt), o + p = e → fL0 ς τ → (∀ k, k < 12 → k ≠ 9 → τ 14 k = fcF 0 0 0 0 0 (fe i) (pa i) (nI i) (nI e) 0 0 0 k) → (∀ i2, i2 < i → ∀ o, o < e → τ (39 + i2) o = gvF op vl len fe pa e i2 o) → (∀ o2, o2 < o → τ (39 + i) o2 = gvF op vl len fe pa e i o2) → Gs X 103 [.ref 37, .ref 14, .int (nI i), .int (nI o)] [] τ := by
        intro p
        induction p with
        | zero =>
          intro o τ ho hfr hlet hrow hrow2
          have ho : o = e := ho
          refine g_iload_n (nx := 104) 3 F dX8_learnWants_103 rfl rfl rfl ?_
          refine g_aload_n (nx := 105) 0 F dX8_learnWants_104 rfl rfl rfl ?_
          refine g_getR (nx := 108) F dX8_learnWants_105 rfl fl_RX8_31 rfl (by decide) (by decide) rfl ?_
          refine g_getV (nx := 111) (nI e) F dX8_learnWants_108 rfl fl_RX8_43 rfl (by decide) (by decide) rfl rfl ((congrFun (hfr 3 (by decide) (by decide) (by decide)) 3).trans hc) ?_
          refine g_icmp_ge (nx := 114) 152 F dX8_learnWants_111 rfl (by decide) (fun c_111 => ?_) (fun c_111 => absurd c_111 (by exact fun zq => zq (nI_le (by omega) (by omega))))
          refine g_iinc (nx := 155) (1) F dX8_learnWants_152 rfl rfl (by decide) (by decide) ?_
          try dsimp only [List.set]
          refine g_goto 60 F dX8_learnWants_155 (by decide) ?_
          rw [nI_1]
          refine ih (i + 1) τ _ (by omega) hfr (fun k k1 k2 k3 k4 k5 => ?_) (fun i2 h2 o2 h3 => ?_)
          · rw [hlet k k1 k5]
            match k, k1, k2, k3, k4, k5 with
            | 0, _, _, _, _, _ => rfl
            | 1, _, _, _, _, _ => rfl
            | 2, _, _, _, _, _ => rfl
            | 3, _, _, _, _, _ => rfl
            | 4, _, _, _, _, _ => rfl
            | 8, _, _, _, _, _ => rfl
            | 10, _, _, _, _, _ => rfl
            | 11, _, _, _, _, _ => rfl
            | 5, _, z, _, _, _ => exact absurd rfl z
            | 6, _, _, z, _, _ => exact absurd rfl z
            | 7, _, _, _, z, _ => exact absurd rfl z
            | 9, _, _, _, _, z => exact absurd rfl z
            | k + 12, z, _, _, _, _ => exact absurd z (by omega)
          · by_cases ez : i2 = i
            · subst ez; exact hrow2 o2 (by omega)
            · exact hrow i2 (by omega) o2 h3
        | succ p ih2 =>
          intro o τ ho hfr hlet hrow hrow2
          have e37 : τ 37 2 = ς 37 2 := congrFun (hfr 37 (by decide) (by decide) (by decide)) 2
          have et : ∀ a, 61 ≤ a → τ a = ς a := fun a ha => hfr a (by omega) (by omega) (by omega)
          refine g_iload_n (nx := 104) 3 F dX8_learnWants_103 rfl rfl rfl ?_
          refine g_aload_n (nx := 105) 0 F dX8_learnWants_104 rfl rfl rfl ?_
          refine g_getR (nx := 108) F dX8_learnWants_105 rfl fl_RX8_31 rfl (by decide) (by decide) rfl ?_
          refine g_getV (nx := 111) (nI e) F dX8_learnWants_108 rfl fl_RX8_43 rfl (by decide) (by decide) rfl rfl ((congrFun (hfr 3 (by decide) (by decide) (by decide)) 3).trans hc) ?_
          refine g_icmp_ge (nx := 114) 152 F dX8_learnWants_111 rfl (by decide) (fun c_111 => absurd c_111 (by exact nI_ge (by omega) (by omega))) (fun c_111 => ?_)
          refine g_aload_n (nx := 115) 1 F dX8_learnWants_114 rfl rfl rfl ?_
          refine g_bipush (nx := 117) (9) F dX8_learnWants_115 rfl (by decide) ?_
          refine g_iload_n (nx := 118) 3 F dX8_learnWants_117 rfl rfl rfl ?_
          show Gs X 118 _ (.int _ :: .int (nI 9) :: .ref 14 :: []) _
          refine g_iastN (nx := 119) (9) F dX8_learnWants_118 rfl rfl (by decide) ?_
          refine g_aload_n (nx := 120) 0 F dX8_learnWants_119 rfl rfl rfl ?_
          refine g_getR (nx := 123) F dX8_learnWants_120 rfl fl_RX8_20 rfl (by decide) (by decide) rfl ?_
          refine g_iload_n (nx := 124) 2 F dX8_learnWants_123 rfl rfl rfl ?_
          refine g_aaldGN (nx := 125) (i) F dX8_learnWants_124 rfl rfl (by omega) ?_
          refine g_iload_n (nx := 126) 3 F dX8_learnWants_125 rfl rfl rfl ?_
          refine g_aload_n (nx := 127) 0 F dX8_learnWants_126 rfl rfl rfl ?_
          refine g_getR (nx := 130) F dX8_learnWants_127 rfl fl_RX8_35 rfl (by decide) (by decide) rfl ?_
          refine g_aload_n (nx := 131) 0 F dX8_learnWants_130 rfl rfl rfl ?_
          refine g_getD (nx := 134) F dX8_learnWants_131 rfl fl_RX8_12 rfl (by decide) (by decide) rfl rfl ?_
          rw [show (zu τ 14 9 (nI o) 37 2) = ς 37 2 from e37]
          refine g_iconst (nx := 135) (0) F dX8_learnWants_134 rfl rfl ?_
          refine g_aload_n (nx := 136) 0 F dX8_learnWants_135 rfl rfl rfl ?_
          refine g_getD (nx := 139) F dX8_learnWants_136 rfl fl_RX8_12 rfl (by decide) (by decide) rfl rfl ?_
          rw [show (zu τ 14 9 (nI o) 37 2) = ς 37 2 from e37]
          refine g_getV (nx := 142) (nI len) F dX8_learnWants_139 rfl fl_RX8_65 (tx_k ht) (by decide) (by decide) (tx_1 ht) rfl (by rw [zu_ne _ (show (ς 37 2).toNatClampNeg ≠ 14 by omega), et _ (by omega)]; exact hl) ?_
          refine g_callV (nx := 145) 3 1 [.ref (ς 37 2).toNatClampNeg, .int (nI 0), .int (nI len)] F dX8_learnWants_142 rfl ml_RX8_68 mo_X7_reckon rfl rfl rfl rfl (Nat.le_of_ble_eq_true rfl) (by first | decide | omega) (c_reckon (ς 37 2).toNatClampNeg 0 len len op vl dp bl (zu τ 14 9 (nI o)) ht (by rw [zu_ne _ (by omega), et _ (by omega)]; exact hl) hlen (Nat.le_refl _) (fun k hk => by rw [zu_ne _ (by omega), et _ (by omega)]; exact hcode k hk) hvl hw) (fun r_142 τ_142 q_142 => ?_)
          obtain ⟨⟨g_142, et_142⟩, rfl⟩ := q_142
          subst et_142
          dsimp only [Option.toList, List.append, List.cons_append, List.nil_append]
          refine g_top (gvF op vl len fe pa e i o) (ev_congr hw (fun k hk => ?_) _ _ _ (Nat.le_refl _)) ?_
          · rw [zu_at]
            unfold upd
            by_cases ez : k = 9
            · subst ez
              rfl
            · rw [if_neg ez, hlet k hk ez]
              match k, hk, ez with
              | 0, _, _ => rfl
              | 1, _, _ => rfl
              | 2, _, _ => rfl
              | 3, _, _ => rfl
              | 4, _, _ => rfl
              | 5, _, _ => rfl
              | 6, _, _ => rfl
              | 7, _, _ => rfl
              | 8, _, _ => rfl
              | 9, _, z => exact absurd rfl z
              | 10, _, _ => rfl
              | 11, _, _ => rfl
              | k + 12, z, _ => exact absurd z (by omega)
          refine g_iastN (nx := 146) (o) F dX8_learnWants_145 rfl (row_k i (by omega)) (by omega) ?_
          refine g_iinc (nx := 149) (1) F dX8_learnWants_146 rfl rfl (by decide) (by decide) ?_
          try dsimp only [List.set]
          refine g_goto 103 F dX8_learnWants_149 (by decide) ?_
          rw [nI_1]
          refine ih2 (o + 1) _ (by omega) (fun a a1 a2 a3 => ?_) (fun k k1 k2 => ?_) (fun i2 h2 o2 h3 => ?_) (fun o2 h2 => ?_)
          · rw [zu_ne _ (by omega), zs_ne _ a2, zu_ne _ a1]
            exact hfr a a1 a2 a3
          · rw [zu_ne _ (by omega), zs_ne _ (by decide), zu_off _ _ _ _ _ k2]
            exact hlet k k1 k2
          · rw [zu_ne _ (by omega), zs_ne _ (by omega), zu_ne _ (by omega)]
            exact hrow i2 h2 o2 h3
          · by_cases ez : o2 = o
            · subst ez
              rw [zu_same]
            · rw [zu_off _ _ _ _ _ ez, zs_ne _ (by omega), zu_ne _ (by omega)]
              exact hrow2 o2 (by omega)
      refine g_iload_n (nx := 61) 2 F dX8_learnWants_60 rfl rfl rfl ?_
      refine g_aload_n (nx := 62) 0 F dX8_learnWants_61 rfl rfl rfl ?_
      refine g_getR (nx := 65) F dX8_learnWants_62 rfl fl_RX8_31 rfl (by decide) (by decide) rfl ?_
      refine g_getV (nx := 68) (nI e) F dX8_learnWants_65 rfl fl_RX8_43 rfl (by decide) (by decide) rfl rfl ((congrFun (hfr 3 (by decide) (by decide) (by decide)) 3).trans hc) ?_
      refine g_icmp_ge (nx := 71) 158 F dX8_learnWants_68 rfl (by decide) (fun c_68 => absurd c_68 (by exact nI_ge (by omega) (by omega))) (fun c_68 => ?_)
      refine g_aload_n (nx := 72) 1 F dX8_learnWants_71 rfl rfl rfl ?_
      refine g_bipush (nx := 74) (7) F dX8_learnWants_72 rfl (by decide) ?_
      refine g_iload_n (nx := 75) 2 F dX8_learnWants_74 rfl rfl rfl ?_
      show Gs X 75 _ (.int _ :: .int (nI 7) :: .ref 14 :: []) _
      refine g_iastN (nx := 76) (7) F dX8_learnWants_75 rfl rfl (by decide) ?_
      refine g_aload_n (nx := 77) 1 F dX8_learnWants_76 rfl rfl rfl ?_
      refine g_iconst (nx := 78) (5) F dX8_learnWants_77 rfl rfl ?_
      refine g_aload_n (nx := 79) 0 F dX8_learnWants_78 rfl rfl rfl ?_
      refine g_getR (nx := 82) F dX8_learnWants_79 rfl fl_RX8_31 rfl (by decide) (by decide) rfl ?_
      refine g_getR (nx := 85) F dX8_learnWants_82 rfl fl_RX8_59 rfl (by decide) (by decide) rfl ?_
      refine g_iload_n (nx := 86) 2 F dX8_learnWants_85 rfl rfl rfl ?_
      refine g_ialdN (nx := 87) (i) (fe i) F dX8_learnWants_86 rfl rfl (by omega) ((congrFun (hfr 5 (by decide) (by decide) (by decide)) i).trans (congrFun hfe i)) ?_
      show Gs X 87 _ (.int _ :: .int (nI 5) :: .ref 14 :: []) _
      refine g_iastN (nx := 88) (5) F dX8_learnWants_87 rfl rfl (by decide) ?_
      refine g_aload_n (nx := 89) 1 F dX8_learnWants_88 rfl rfl rfl ?_
      refine g_bipush (nx := 91) (6) F dX8_learnWants_89 rfl (by decide) ?_
      refine g_aload_n (nx := 92) 0 F dX8_learnWants_91 rfl rfl rfl ?_
      refine g_getR (nx := 95) F dX8_learnWants_92 rfl fl_RX8_31 rfl (by decide) (by decide) rfl ?_
      refine g_getR (nx := 98) F dX8_learnWants_95 rfl fl_RX8_62 rfl (by decide) (by decide) rfl ?_
      refine g_iload_n (nx := 99) 2 F dX8_learnWants_98 rfl rfl rfl ?_
      refine g_ialdN (nx := 100) (i) (pa i) F dX8_learnWants_99 rfl rfl (by omega) ((congrFun (hfr 4 (by decide) (by decide) (by decide)) i).trans (congrFun hpa i)) ?_
      show Gs X 100 _ (.int _ :: .int (nI 6) :: .ref 14 :: []) _
      refine g_iastN (nx := 101) (6) F dX8_learnWants_100 rfl rfl (by decide) ?_
      refine g_iconst (nx := 102) (0) F dX8_learnWants_101 rfl rfl ?_
      refine g_istore_n (nx := 103) 3 F dX8_learnWants_102 rfl rfl (by decide) ?_
      try dsimp only [List.set]
      refine L2 e 0 _ (by omega) (fun a a1 a2 a3 => ?_) (fun k k1 k2 => ?_) (fun i2 h2 o2 h3 => ?_) (fun o2 h2 => absurd h2 (Nat.not_lt_zero o2))
      · rw [zu_ne _ a1, zu_ne _ a1, zu_ne _ a1]
        exact hfr a a1 a2 a3
      · have hlet := hlet k k1
        match k, k1, k2, hlet with
        | 0, _, _, h => exact h (by decide) (by decide) (by decide) (by decide)
        | 1, _, _, h => exact h (by decide) (by decide) (by decide) (by decide)
        | 2, _, _, h => exact h (by decide) (by decide) (by decide) (by decide)
        | 3, _, _, h => exact h (by decide) (by decide) (by decide) (by decide)
        | 4, _, _, h => exact h (by decide) (by decide) (by decide) (by decide)
        | 5, _, _, _ => rfl
        | 6, _, _, _ => rfl
        | 7, _, _, _ => rfl
        | 8, _, _, h => exact h (by decide) (by decide) (by decide) (by decide)
        | 9, _, z, _ => exact absurd rfl z
        | 10, _, _, h => exact h (by decide) (by decide) (by decide) (by decide)
        | 11, _, _, h => exact h (by decide) (by decide) (by decide) (by decide)
        | k + 12, z, _, _ => exact absurd z (by omega)
      · rw [zu_ne _ (by omega), zu_ne _ (by omega), zu_ne _ (by omega)]
        exact hrow i2 h2 o2 h3
  refine g_aload_n (nx := 1) 0 F dX8_learnWants_0 rfl rfl rfl ?_
  refine g_getI (nx := 4) F dX8_learnWants_1 rfl fl_RX8_27 rfl (by decide) (by decide) rfl rfl ?_
  refine g_aload_n (nx := 5) 0 F dX8_learnWants_4 rfl rfl rfl ?_
  refine g_getR (nx := 8) F dX8_learnWants_5 rfl fl_RX8_31 rfl (by decide) (by decide) rfl ?_
  refine g_getV (nx := 11) (nI e) F dX8_learnWants_8 rfl fl_RX8_43 rfl (by decide) (by decide) rfl rfl (hc0) ?_
  refine g_icmp_ne (nx := 14) 15 F dX8_learnWants_11 rfl (by decide) (fun c_11 => ?_) (fun c_11 => absurd c_11 (by exact hq6))
  refine g_aload_n (nx := 16) 0 F dX8_learnWants_15 rfl rfl rfl ?_
  refine g_aload_n (nx := 17) 0 F dX8_learnWants_16 rfl rfl rfl ?_
  refine g_getR (nx := 20) F dX8_learnWants_17 rfl fl_RX8_31 rfl (by decide) (by decide) rfl ?_
  refine g_getV (nx := 23) (nI e) F dX8_learnWants_20 rfl fl_RX8_43 rfl (by decide) (by decide) rfl rfl (hc0) ?_
  refine g_putI (nx := 26) F dX8_learnWants_23 rfl fl_RX8_27 fi_7_6 rfl (by decide) (by decide) rfl rfl ?_
  refine g_aload_n (nx := 27) 0 F dX8_learnWants_26 rfl rfl rfl ?_
  refine g_getR (nx := 30) F dX8_learnWants_27 rfl fl_RX8_23 rfl (by decide) (by decide) rfl ?_
  refine g_iconst (nx := 31) (-1) F dX8_learnWants_30 rfl rfl ?_
  refine g_callS (nx := 34) 2 0 [.ref 195, .int (-1)] F dX8_learnWants_31 rfl ml_RX8_48 mo_J7_fill_53178 rfl rfl (Nat.le_of_ble_eq_true rfl) (by first | decide | omega) (j_fill 195 1024 (-1) _ rfl) (fun r_31 τ_31 q_31 => ?_)
  obtain ⟨rfl, et_31⟩ := q_31
  subst et_31
  dsimp only [Option.toList, List.append, List.cons_append, List.nil_append]
  refine g_st ς hς.symm ?_
  refine g_aload_n (nx := 35) 0 F dX8_learnWants_34 rfl rfl rfl ?_
  refine g_getR (nx := 38) F dX8_learnWants_35 rfl fl_RX8_35 rfl (by decide) (by decide) rfl ?_
  refine g_getR (nx := 41) F dX8_learnWants_38 rfl fl_RX8_54 rfl (by decide) (by decide) rfl ?_
  refine g_astore_n (nx := 42) 1 F dX8_learnWants_41 rfl rfl (by decide) ?_
  try dsimp only [List.set]
  refine g_aload_n (nx := 43) 1 F dX8_learnWants_42 rfl rfl rfl ?_
  refine g_iconst (nx := 44) (0) F dX8_learnWants_43 rfl rfl ?_
  refine g_callS (nx := 47) 2 0 [.ref 14, .int 0] F dX8_learnWants_44 rfl ml_RX8_48 mo_J7_fill_53178 rfl rfl (Nat.le_of_ble_eq_true rfl) (by first | decide | omega) (j_fill 14 12 0 _ rfl) (fun r_44 τ_44 q_44 => ?_)
  obtain ⟨rfl, et_44⟩ := q_44
  subst et_44
  dsimp only [Option.toList, List.append, List.cons_append, List.nil_append]
  refine g_aload_n (nx := 48) 1 F dX8_learnWants_47 rfl rfl rfl ?_
  refine g_bipush (nx := 50) (8) F dX8_learnWants_48 rfl (by decide) ?_
  refine g_aload_n (nx := 51) 0 F dX8_learnWants_50 rfl rfl rfl ?_
  refine g_getR (nx := 54) F dX8_learnWants_51 rfl fl_RX8_31 rfl (by decide) (by decide) rfl ?_
  refine g_getV (nx := 57) (nI e) F dX8_learnWants_54 rfl fl_RX8_43 rfl (by decide) (by decide) rfl rfl (hc) ?_
  show Gs X 57 _ (.int _ :: .int (nI 8) :: .ref 14 :: []) _
  refine g_iastN (nx := 58) (8) F dX8_learnWants_57 rfl rfl (by decide) ?_
  refine g_iconst (nx := 59) (0) F dX8_learnWants_58 rfl rfl ?_
  refine g_istore_n (nx := 60) 2 F dX8_learnWants_59 rfl rfl (by decide) ?_
  try dsimp only [List.set]
  refine L1 e 0 _ _ (by omega) (fun a a1 a2 a3 => ?_) (fun k k1 k2 k3 k4 k5 => ?_) (fun i2 h2 => absurd h2 (Nat.not_lt_zero i2))
  · rw [zu_ne _ a1, zs_ne _ a1]
  · by_cases ez : k = 8
    · subst ez
      rfl
    · rw [zu_off _ _ _ _ _ ez, zs_at, if_pos k1, if_neg ez]
