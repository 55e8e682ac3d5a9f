def zF : Nat → Nat := fun _ => 0
abbrev E00 : ES := (0, 0, 0, zF, zF)
abbrev Z00 : CS := (0, zF, zF, zF, zF)
def frY (σ τ : zSt) : Prop := (∀ a, a ≠ 145 → (a < 163 ∨ 168 < a) → τ a = σ a) ∧ ∀ k, (k < 25 ∨ 32 < k) → τ 145 k = σ 145 k
theorem frY.tr {σ τ ρ : zSt} (h : frY σ τ) (g : frY τ ρ) : frY σ ρ := ⟨fun a a1 a2 => (g.1 a a1 a2).trans (h.1 a a1 a2), fun k hk => (g.2 k hk).trans (h.2 k hk)⟩
theorem frZ.Y {σ τ : zSt} (h : frZ σ τ) : frY σ τ := ⟨h.1, fun k hk => h.2 k (by omega)⟩
theorem frK.Y {σ τ : zSt} (h : frK σ τ) : frY σ τ := h.Z.Y
theorem frY.u (σ : zSt) (k : Nat) (x : Int32) (h : 25 ≤ k ∧ k ≤ 32) : frY σ (zu σ 145 k x) := ⟨fun a a1 _ => zu_ne _ a1 _ _, fun j hj => zu_off _ _ _ _ _ (by omega)⟩
theorem frY.w (σ : zSt) (a k : Nat) (x : Int32) (h : 163 ≤ a ∧ a ≤ 168) : frY σ (zu σ a k x) := ⟨fun b _ b2 => zu_ne _ (by omega) _ _, fun j _ => by rw [zu_ne _ (by omega)]⟩
/-- behind a reading that found a FAULT -/
def frR0 (σ τ : zSt) : Prop := (∀ a, a ≠ 145 → (a < 163 ∨ 168 < a) → τ a = σ a) ∧ (∀ k, (k < 24 ∨ 32 < k) → τ 145 k = σ 145 k) ∧ τ 145 24 = 0
/-- behind a reading that keeps the TEXT i -/
def frR (i : Nat) (σ τ : zSt) : Prop := (∀ a, a ≠ 145 → (a < 163 ∨ 174 < a) → τ a = σ a) ∧ (∀ k, (k < 24 ∨ 32 < k) → τ 145 k = σ 145 k) ∧ τ 145 24 = 0 ∧ ∀ j, j ≠ i → τ 170 j = σ 170 j ∧ (∀ k, k < 12 → τ 171 (12 * j + k) = σ 171 (12 * j + k) ∧ τ 172 (12 * j + k) = σ 172 (12 * j + k) ∧ τ 173 (12 * j + k) = σ 173 (12 * j + k) ∧ τ 174 (12 * j + k) = σ 174 (12 * j + k)) ∧ ∀ k, k < 180 → τ 169 (180 * j + k) = σ 169 (180 * j + k)
theorem txK_fr {i j : Nat} {σ τ : zSt} {T : TXT} (h : frR i σ τ) (hj : j ≠ i) (hT : txK σ j T) (hok : txOK T) : txK τ j T := by
  obtain ⟨n, hd, sf, cf, en, op, vl, len⟩ := T
  obtain ⟨h1, h2, h3⟩ := h.2.2.2 j hj
  obtain ⟨a1, a2, a3⟩ := hT
  obtain ⟨b1, b2, b3⟩ := hok
  refine ⟨h1.trans a1, fun k hk => ?_, fun k hk => (h3 k (by omega)).trans (a3 k hk)⟩
  obtain ⟨g1, g2, g3, g4⟩ := h2 k (by omega)
  obtain ⟨q1, q2, q3, q4⟩ := a2 k hk
  exact ⟨g1.trans q1, g2.trans q2, g3.trans q3, g4.trans q4⟩
theorem keep_fr {i l m : Nat} {σ ρ : zSt} (h : frY σ ρ) (hi : i < 12) (hl : l ≤ 170) (hm : m ≤ 12) : frR i σ (kp2 (kp1 (zu ρ 145 24 0) i m l) i m) := by
  have e0 : ∀ a, a ≠ 169 → a ≠ 170 → a ≠ 171 → a ≠ 172 → a ≠ 173 → a ≠ 174 → (kp2 (kp1 (zu ρ 145 24 0) i m l) i m) a = (zu ρ 145 24 0) a := fun a a1 a2 a3 a4 a5 a6 => by
    unfold kp2 kp1
    rw [zs_n _ _ a6, zs_n _ _ a5, zs_n _ _ a4, zs_n _ _ a3, zs_n _ _ a1, zu_ne _ a2]
  have g : ∀ a, 169 ≤ a → a ≤ 174 → (zu ρ 145 24 0) a = σ a := fun a a1 a2 => by rw [zu_ne _ (by omega), h.1 a (by omega) (by omega)]
  refine ⟨fun a a1 a2 => by rw [e0 a (by omega) (by omega) (by omega) (by omega) (by omega) (by omega), zu_ne _ a1, h.1 a a1 (by omega)], fun k hk => by rw [e0 145 (by decide) (by decide) (by decide) (by decide) (by decide) (by decide), zu_off _ _ _ _ _ (by omega), h.2 k (by omega)], by rw [e0 145 (by decide) (by decide) (by decide) (by decide) (by decide) (by decide), zu_same], fun j hj => ⟨?_, fun k hk => ⟨?_, ?_, ?_, ?_⟩, fun k hk => ?_⟩⟩
  · show upd ((zu ρ 145 24 0) 170) i _ j = _
    rw [g 170 (by decide) (by decide)]
    exact if_neg hj
  · show kpF _ ((zu ρ 145 24 0) 171) (12 * i) m (12 * j + k) = _
    rw [g 171 (by decide) (by decide), kpF_out (by omega)]
  · show kpF (fun j => nI (180 * i) + (kp1 (zu ρ 145 24 0) i m l) 166 j) ((zu ρ 145 24 0) 172) (12 * i) m (12 * j + k) = _
    rw [g 172 (by decide) (by decide), kpF_out (by omega)]
  · show kpF (fun j => nI (180 * i) + (kp1 (zu ρ 145 24 0) i m l) 167 j) ((zu ρ 145 24 0) 173) (12 * i) m (12 * j + k) = _
    rw [g 173 (by decide) (by decide), kpF_out (by omega)]
  · show kpF (fun j => nI (180 * i) + (kp1 (zu ρ 145 24 0) i m l) 168 j) ((zu ρ 145 24 0) 174) (12 * i) m (12 * j + k) = _
    rw [g 174 (by decide) (by decide), kpF_out (by omega)]
  · show kpF _ ((zu ρ 145 24 0) 169) (180 * i) l (180 * j + k) = _
    rw [g 169 (by decide) (by decide), kpF_out (by omega)]
theorem keep_tx {i n p l m : Nat} {c op vl h sf cf en : Nat → Nat} {ρ : zSt} (H : kcS ρ c n (p, 0, l, op, vl) []) (HZ : kzS ρ (m, h, sf, cf, en)) : txK (kp2 (kp1 (zu ρ 145 24 0) i m l) i m) i (m, h, sf, cf, en, op, vl, l) := by
  refine ⟨?_, fun j hj => ⟨?_, ?_, ?_, ?_⟩, fun k hk => ?_⟩
  · show upd _ i _ i = _
    exact if_pos rfl
  · show kpF (ρ 165) _ (12 * i) m (12 * i + j) = _
    rw [kpF_in hj]
    exact (HZ.2.2 j hj).1
  · show kpF (fun j => nI (180 * i) + ρ 166 j) _ (12 * i) m (12 * i + j) = _
    rw [kpF_in hj]
    show nI (180 * i) + ρ 166 j = _
    rw [(HZ.2.2 j hj).2.1, nI_add]
  · show kpF (fun j => nI (180 * i) + ρ 167 j) _ (12 * i) m (12 * i + j) = _
    rw [kpF_in hj]
    show nI (180 * i) + ρ 167 j = _
    rw [(HZ.2.2 j hj).2.2.1, nI_add]
  · show kpF (fun j => nI (180 * i) + ρ 168 j) _ (12 * i) m (12 * i + j) = _
    rw [kpF_in hj]
    show nI (180 * i) + ρ 168 j = _
    rw [(HZ.2.2 j hj).2.2.2, nI_add]
  · show kpF (ρ 163) _ (180 * i) l (180 * i + k) = _
    rw [kpF_in hk]
    exact (H.2.2.1.1 k hk).1
set_option maxHeartbeats 4000000 in
set_option maxRecDepth 100000 in
theorem k_begins (n : Nat) (c : Nat → Nat) (σ : zSt) (hin : inC c n) (hn : n ≤ 160) (hb : ∀ q, q < n → σ 162 q &&& 255 = nI (c q)) : Con mX12_begins 0 [.ref 145, .int (nI n)] σ (fun r τ => r = none ∧ kcS τ c n E00 [] ∧ kzS τ Z00 ∧ frY σ τ) := by
  refine Con.of (lv := [.ref 145, .int (nI n)]) mk_X12_begins rfl (Nat.le_of_ble_eq_true rfl) rfl (fun X F E => ?_)
  refine g_aload_n (nx := 1) 0 F dX12_begins_0 rfl rfl rfl ?_
  refine g_iconst (nx := 2) (0) F dX12_begins_1 rfl rfl ?_
  refine g_putI (nx := 5) F dX12_begins_2 rfl fl_RX12_193 fi_11_25 rfl (by decide) (by decide) rfl rfl ?_
  refine g_aload_n (nx := 6) 0 F dX12_begins_5 rfl rfl rfl ?_
  refine g_iload_n (nx := 7) 1 F dX12_begins_6 rfl rfl rfl ?_
  refine g_putI (nx := 10) F dX12_begins_7 rfl fl_RX12_196 fi_11_26 rfl (by decide) (by decide) rfl rfl ?_
  refine g_aload_n (nx := 11) 0 F dX12_begins_10 rfl rfl rfl ?_
  refine g_iconst (nx := 12) (0) F dX12_begins_11 rfl rfl ?_
  refine g_putI (nx := 15) F dX12_begins_12 rfl fl_RX12_217 fi_11_29 rfl (by decide) (by decide) rfl rfl ?_
  refine g_aload_n (nx := 16) 0 F dX12_begins_15 rfl rfl rfl ?_
  refine g_iconst (nx := 17) (0) F dX12_begins_16 rfl rfl ?_
  refine g_putI (nx := 20) F dX12_begins_17 rfl fl_RX12_272 fi_11_31 rfl (by decide) (by decide) rfl rfl ?_
  refine g_aload_n (nx := 21) 0 F dX12_begins_20 rfl rfl rfl ?_
  refine g_iconst (nx := 22) (0) F dX12_begins_21 rfl rfl ?_
  refine g_putI (nx := 25) F dX12_begins_22 rfl fl_RX12_221 fi_11_28 rfl (by decide) (by decide) rfl rfl ?_
  refine g_aload_n (nx := 26) 0 F dX12_begins_25 rfl rfl rfl ?_
  refine g_iconst (nx := 27) (0) F dX12_begins_26 rfl rfl ?_
  refine g_putI (nx := 30) F dX12_begins_27 rfl fl_RX12_224 fi_11_30 rfl (by decide) (by decide) rfl rfl ?_
  refine g_vret F E dX12_begins_30 ?_
  refine ⟨rfl, ⟨⟨hin, hn, hb⟩, ⟨rfl, rfl, rfl, rfl, rfl⟩, ⟨fun k hk => absurd hk (Nat.not_lt_zero k), trivial⟩, Nat.zero_le _, by decide, by decide, by decide⟩, ⟨Nat.zero_le _, rfl, fun j hj => absurd hj (Nat.not_lt_zero j)⟩, ?_⟩
  exact (((((frY.u _ 25 _ (by decide)).tr (frY.u _ 26 _ (by decide))).tr (frY.u _ 29 _ (by decide))).tr (frY.u _ 31 _ (by decide))).tr (frY.u _ 28 _ (by decide))).tr (frY.u _ 30 _ (by decide))
def kR (n i : Nat) (c : Nat → Nat) (hd : Nat → Bool) (σ : zSt) (r : Option Value) (τ : zSt) : Prop :=
  (∃ (p2 l2 m : Nat) (op2 vl2 h sf cf en : Nat → Nat), Rn c hd ([(13, 0), (16, 0)], E00, Z00) ([], (p2, 0, l2, op2, vl2), (m, h, sf, cf, en)) ∧ r = some (.int (nI m)) ∧ txK τ i (m, h, sf, cf, en, op2, vl2, l2) ∧ frR i σ τ) ∨
  (∃ (f : Nat) (e : ES) (z : CS), Rn c hd ([(13, 0), (16, 0)], E00, Z00) ([(99, f)], e, z) ∧ r = some (.int (fltI f e.1)) ∧ frR0 σ τ)
theorem kzS_congr {σ τ : zSt} {z : CS} (H : kzS σ z) (h : frK σ τ) : kzS τ z := by
  obtain ⟨m, hh, sf, cf, en⟩ := z
  refine ⟨H.1, (h.2 31 (by omega)).trans H.2.1, fun j hj => ?_⟩
  rw [h.1 165 (by decide) (by decide) (by decide), h.1 166 (by decide) (by decide) (by decide), h.1 167 (by decide) (by decide) (by decide), h.1 168 (by decide) (by decide) (by decide)]
  exact H.2.2 j hj
set_option maxHeartbeats 4000000 in
set_option maxRecDepth 100000 in
theorem k_reads0 (n i : Nat) (c : Nat → Nat) (σ : zSt) (hi : i < 10) (hin : inC c n) (hn : n ≤ 160) (hb : ∀ q, q < n → σ 162 q &&& 255 = nI (c q)) : Con mX12_reads 8 [.ref 145, .int (nI n), .int (nI i)] σ (kR n i c hdW2 σ) := by
  refine Con.of (lv := [.ref 145, .int (nI n), .int (nI i), .long 0]) mk_X12_reads rfl (Nat.le_of_ble_eq_true rfl) rfl (fun X F E => ?_)
  have Zf : ∀ (f : Nat) (e : ES) (z : CS) (τ : zSt), kcF τ f e.1 → frY σ τ → Rn c hdW2 ([(13, 0), (16, 0)], E00, Z00) ([(99, f)], e, z) → Gs X 21 [.ref 145, .int (nI n), .int (nI i), .int 0] [] τ := by
    intro f e z τ hF hf hR
    refine g_iload_n (nx := 22) 3 F dX12_reads_21 rfl rfl rfl ?_
    refine g_if_eq (nx := 25) 72 F dX12_reads_22 rfl (by decide) (fun c_22 => ?_) (fun c_22 => absurd c_22 (by exact fun zq => zq rfl))
    refine g_aload_n (nx := 73) 0 F dX12_reads_72 rfl rfl rfl ?_
    refine g_iconst (nx := 74) (0) F dX12_reads_73 rfl rfl ?_
    refine g_putI (nx := 77) F dX12_reads_74 rfl fl_RX12_186 fi_11_24 rfl (by decide) (by decide) rfl rfl ?_
    refine g_iload_n (nx := 78) 3 F dX12_reads_77 rfl rfl rfl ?_
    refine g_if_ne (nx := 81) 86 F dX12_reads_78 rfl (by decide) (fun c_78 => absurd c_78 (by exact fun zq => zq rfl)) (fun c_78 => ?_)
    refine g_aload_n (nx := 82) 0 F dX12_reads_81 rfl rfl rfl ?_
    refine g_getV (nx := 85) (fltI f e.1) F dX12_reads_82 rfl fl_RX12_203 rfl (by decide) (by decide) rfl rfl (hF) ?_
    refine g_iret F E dX12_reads_85 ?_
    refine Or.inr ⟨f, e, z, hR, rfl, fun a a1 a2 => ?_, fun k hk => ?_, rfl⟩
    · rw [zu_ne _ a1]
      exact hf.1 a a1 a2
    · rw [zu_off _ _ _ _ _ (by omega)]
      exact hf.2 k (by omega)
  have L : ∀ (q p1 l1 : Nat) (op1 vl1 : Nat → Nat) (z1 : CS) (τ : zSt), n < p1 + q → kcS τ c n (p1, 0, l1, op1, vl1) [] → kzS τ z1 → frY σ τ → l1 ≤ p1 → Rn c hdW2 ([(13, 0), (16, 0)], E00, Z00) ([(16, 0)], (p1, 0, l1, op1, vl1), z1) → Gs X 21 [.ref 145, .int (nI n), .int (nI i), .int 1] [] τ := by
    intro q
    induction q with
    | zero =>
      intro p1 l1 op1 vl1 z1 τ hq H1
      exact absurd H1.2.2.2.1 (by omega)
    | succ q ih =>
      intro p1 l1 op1 vl1 z1 τ hq H1 HZ1 hf1 hl1 hR1
      have hpn := H1.2.2.2.1
      rcases Nat.lt_or_ge p1 n with hlt | hlt
      · refine g_iload_n (nx := 22) 3 F dX12_reads_21 rfl rfl rfl ?_
        refine g_if_eq (nx := 25) 72 F dX12_reads_22 rfl (by decide) (fun c_22 => absurd c_22 (by decide)) (fun c_22 => ?_)
        refine g_aload_n (nx := 26) 0 F dX12_reads_25 rfl rfl rfl ?_
        refine g_getV (nx := 29) (nI p1) F dX12_reads_26 rfl fl_RX12_193 rfl (by decide) (by decide) rfl rfl (H1.2.1.1) ?_
        refine g_aload_n (nx := 30) 0 F dX12_reads_29 rfl rfl rfl ?_
        refine g_getV (nx := 33) (nI n) F dX12_reads_30 rfl fl_RX12_196 rfl (by decide) (by decide) rfl rfl (H1.2.1.2.1) ?_
        refine g_icmp_ge (nx := 36) 72 F dX12_reads_33 rfl (by decide) (fun c_33 => absurd c_33 (by exact nI_ge hlt (by omega))) (fun c_33 => ?_)
        refine g_aload_n (nx := 37) 0 F dX12_reads_36 rfl rfl rfl ?_
        refine g_bipush (nx := 39) (59) F dX12_reads_37 rfl (by decide) ?_
        refine g_callV (nx := 42) 1 1 [.int 59] F dX12_reads_39 rfl ml_RX12_285 mo_X12_takes rfl rfl rfl rfl (Nat.le_of_ble_eq_true rfl) (by first | decide | omega) (k_takes 59 n p1 0 l1 c op1 vl1 59 [] _ H1 rfl (by decide)) (fun r_39 τ_39 q_39 => ?_)
        skip
        rcases q_39 with ⟨rfl, h4, hS4, hf4⟩ | ⟨rfl, h4, hF4, hf4⟩
        · dsimp only [Option.toList, List.append, List.cons_append, List.nil_append]
          have hZ4 : kzS τ_39 z1 := kzS_congr HZ1 hf4
          obtain ⟨m, h, sf, cf, en⟩ := z1
          refine g_if_eq (nx := 45) 67 F dX12_reads_42 rfl (by decide) (fun c_42 => absurd c_42 (by decide)) (fun c_42 => ?_)
          refine g_aload_n (nx := 46) 0 F dX12_reads_45 rfl rfl rfl ?_
          refine g_iload_n (nx := 47) 2 F dX12_reads_46 rfl rfl rfl ?_
          refine g_bipush (nx := 49) (10) F dX12_reads_47 rfl (by decide) ?_
          refine g_icmp_ne (nx := 52) 56 F dX12_reads_49 rfl (by decide) (fun c_49 => ?_) (fun c_49 => absurd c_49 (by exact fun zq => absurd ((nI_eq (b := 10) (by omega) (by omega)).mp zq) (by omega)))
          refine g_iconst (nx := 57) (0) F dX12_reads_56 rfl rfl ?_
          refine g_callV (nx := 60) 1 7 [.int 0] F dX12_reads_57 rfl ml_RX12_281 mo_X12_readsClause rfl rfl rfl rfl (Nat.le_of_ble_eq_true rfl) (by first | decide | omega) (k_readsClause0 n (p1 + 1) l1 _ c _ _ _ _ _ _ _ hS4 hZ4 (by omega)) (fun r_57 τ_57 q_57 => ?_)
          skip
          rcases q_57 with ⟨rfl, p2, l2, op2, vl2, z2, hS2, hZ2, hf2, hp2, hl2, hR2⟩ | ⟨rfl, f2, e2, z2, hF2, hf2, hR2⟩
          · dsimp only [Option.toList, List.append, List.cons_append, List.nil_append]
            refine g_if_eq (nx := 63) 67 F dX12_reads_60 rfl (by decide) (fun c_60 => absurd c_60 (by decide)) (fun c_60 => ?_)
            refine g_iconst (nx := 64) (1) F dX12_reads_63 rfl rfl ?_
            refine g_goto 68 F dX12_reads_64 (by decide) ?_
            refine g_istore_n (nx := 69) 3 F dX12_reads_68 rfl rfl (by decide) ?_
            try dsimp only [List.set]
            refine g_goto 21 F dX12_reads_69 (by decide) ?_
            exact ih p2 l2 op2 vl2 z2 _ (by omega) hS2 hZ2 ((hf1.tr hf4.Y).tr hf2.Y) (by omega) ((hR1.tr (s16_go h4)).tr (hR2 _))
          · dsimp only [Option.toList, List.append, List.cons_append, List.nil_append]
            refine g_if_eq (nx := 63) 67 F dX12_reads_60 rfl (by decide) (fun c_60 => ?_) (fun c_60 => absurd c_60 (by exact fun zq => zq rfl))
            refine g_iconst (nx := 68) (0) F dX12_reads_67 rfl rfl ?_
            refine g_istore_n (nx := 69) 3 F dX12_reads_68 rfl rfl (by decide) ?_
            try dsimp only [List.set]
            refine g_goto 21 F dX12_reads_69 (by decide) ?_
            exact Zf f2 e2 z2 _ hF2 ((hf1.tr hf4.Y).tr hf2.Y) ((hR1.tr (s16_go h4)).tr (hR2 _))
        · dsimp only [Option.toList, List.append, List.cons_append, List.nil_append]
          refine g_if_eq (nx := 45) 67 F dX12_reads_42 rfl (by decide) (fun c_42 => ?_) (fun c_42 => absurd c_42 (by exact fun zq => zq rfl))
          refine g_iconst (nx := 68) (0) F dX12_reads_67 rfl rfl ?_
          refine g_istore_n (nx := 69) 3 F dX12_reads_68 rfl rfl (by decide) ?_
          try dsimp only [List.set]
          refine g_goto 21 F dX12_reads_69 (by decide) ?_
          exact Zf 1 (p1, 0, l1, op1, vl1) z1 _ hF4 (hf1.tr hf4.Y) (hR1.tr (s16_bad (by have := H1.1.1.1 p1 hlt; omega) h4))
      · obtain ⟨m, h, sf, cf, en⟩ := z1
        refine g_iload_n (nx := 22) 3 F dX12_reads_21 rfl rfl rfl ?_
        refine g_if_eq (nx := 25) 72 F dX12_reads_22 rfl (by decide) (fun c_22 => absurd c_22 (by decide)) (fun c_22 => ?_)
        refine g_aload_n (nx := 26) 0 F dX12_reads_25 rfl rfl rfl ?_
        refine g_getV (nx := 29) (nI p1) F dX12_reads_26 rfl fl_RX12_193 rfl (by decide) (by decide) rfl rfl (H1.2.1.1) ?_
        refine g_aload_n (nx := 30) 0 F dX12_reads_29 rfl rfl rfl ?_
        refine g_getV (nx := 33) (nI n) F dX12_reads_30 rfl fl_RX12_196 rfl (by decide) (by decide) rfl rfl (H1.2.1.2.1) ?_
        refine g_icmp_ge (nx := 36) 72 F dX12_reads_33 rfl (by decide) (fun c_33 => ?_) (fun c_33 => absurd c_33 (by exact fun zq => zq (nI_le hlt (by omega))))
        refine g_aload_n (nx := 73) 0 F dX12_reads_72 rfl rfl rfl ?_
        refine g_iconst (nx := 74) (0) F dX12_reads_73 rfl rfl ?_
        refine g_putI (nx := 77) F dX12_reads_74 rfl fl_RX12_186 fi_11_24 rfl (by decide) (by decide) rfl rfl ?_
        refine g_iload_n (nx := 78) 3 F dX12_reads_77 rfl rfl rfl ?_
        refine g_if_ne (nx := 81) 86 F dX12_reads_78 rfl (by decide) (fun c_78 => ?_) (fun c_78 => absurd c_78 (by decide))
        refine g_aload_n (nx := 87) 0 F dX12_reads_86 rfl rfl rfl ?_
        refine g_iload_n (nx := 88) 2 F dX12_reads_87 rfl rfl rfl ?_
        refine g_callV (nx := 91) 1 0 [.int (nI i)] F dX12_reads_88 rfl ml_RX12_288 mo_X12_keeps rfl rfl rfl rfl (Nat.le_of_ble_eq_true rfl) (by first | decide | omega) (k_keeps i l1 m _ (by omega) H1.2.2.2.2.2.1 HZ1.1 H1.2.1.2.2.2.1 HZ1.2.1) (fun r_88 τ_88 q_88 => ?_)
        obtain ⟨rfl, et_88⟩ := q_88
        subst et_88
        have h31 : (kp2 (kp1 (zu τ 145 24 0) i m l1) i m) 145 31 = nI m := HZ1.2.1
        dsimp only [Option.toList, List.append, List.cons_append, List.nil_append]
        refine g_aload_n (nx := 92) 0 F dX12_reads_91 rfl rfl rfl ?_
        refine g_getV (nx := 95) (nI m) F dX12_reads_92 rfl fl_RX12_272 rfl (by decide) (by decide) rfl rfl (h31) ?_
        refine g_iret F E dX12_reads_95 ?_
        exact Or.inl ⟨p1, l1, m, op1, vl1, h, sf, cf, en, hR1.tr (s16_end (H1.1.1.2 p1 hlt)), rfl, keep_tx H1 HZ1, keep_fr hf1 (by omega) H1.2.2.2.2.2.1 HZ1.1⟩
  refine g_aload_n (nx := 1) 0 F dX12_reads_0 rfl rfl rfl ?_
  refine g_iload_n (nx := 2) 1 F dX12_reads_1 rfl rfl rfl ?_
  refine g_callV (nx := 5) 1 0 [.int (nI n)] F dX12_reads_2 rfl ml_RX12_278 mo_X12_begins rfl rfl rfl rfl (Nat.le_of_ble_eq_true rfl) (by first | decide | omega) (k_begins n c _ hin hn hb) (fun r_2 τ_2 q_2 => ?_)
  obtain ⟨rfl, hS0, hZ0, hf0⟩ := q_2
  dsimp only [Option.toList, List.append, List.cons_append, List.nil_append]
  refine g_aload_n (nx := 6) 0 F dX12_reads_5 rfl rfl rfl ?_
  refine g_iload_n (nx := 7) 2 F dX12_reads_6 rfl rfl rfl ?_
  refine g_bipush (nx := 9) (10) F dX12_reads_7 rfl (by decide) ?_
  refine g_icmp_ne (nx := 12) 16 F dX12_reads_9 rfl (by decide) (fun c_9 => ?_) (fun c_9 => absurd c_9 (by exact fun zq => absurd ((nI_eq (b := 10) (by omega) (by omega)).mp zq) (by omega)))
  refine g_iconst (nx := 17) (0) F dX12_reads_16 rfl rfl ?_
  refine g_callV (nx := 20) 1 7 [.int 0] F dX12_reads_17 rfl ml_RX12_281 mo_X12_readsClause rfl rfl rfl rfl (Nat.le_of_ble_eq_true rfl) (by first | decide | omega) (k_readsClause0 n 0 0 _ c _ _ _ _ _ _ _ hS0 hZ0 (Nat.le_refl _)) (fun r_17 τ_17 q_17 => ?_)
  skip
  rcases q_17 with ⟨rfl, p2, l2, op2, vl2, z2, hS2, hZ2, hf2, hp2, hl2, hR2⟩ | ⟨rfl, f2, e2, z2, hF2, hf2, hR2⟩
  · dsimp only [Option.toList, List.append, List.cons_append, List.nil_append]
    refine g_istore_n (nx := 21) 3 F dX12_reads_20 rfl rfl (by decide) ?_
    try dsimp only [List.set]
    exact L (n + 1) p2 l2 op2 vl2 z2 _ (by omega) hS2 hZ2 (hf0.tr hf2.Y) (by omega) (hR2 _)
  · dsimp only [Option.toList, List.append, List.cons_append, List.nil_append]
    refine g_istore_n (nx := 21) 3 F dX12_reads_20 rfl rfl (by decide) ?_
    try dsimp only [List.set]
    exact Zf f2 e2 z2 _ hF2 (hf0.tr hf2.Y) (hR2 _)
set_option maxHeartbeats 4000000 in
set_option maxRecDepth 100000 in
theorem k_reads1 (n : Nat) (c : Nat → Nat) (σ : zSt) (hin : inC c n) (hn : n ≤ 160) (hb : ∀ q, q < n → σ 162 q &&& 255 = nI (c q)) : Con mX12_reads 8 [.ref 145, .int (nI n), .int (nI 10)] σ (kR n 10 c hdL σ) := by
  refine Con.of (lv := [.ref 145, .int (nI n), .int (nI 10), .long 0]) mk_X12_reads rfl (Nat.le_of_ble_eq_true rfl) rfl (fun X F E => ?_)
  have Zf : ∀ (f : Nat) (e : ES) (z : CS) (τ : zSt), kcF τ f e.1 → frY σ τ → Rn c hdL ([(13, 0), (16, 0)], E00, Z00) ([(99, f)], e, z) → Gs X 21 [.ref 145, .int (nI n), .int (nI 10), .int 0] [] τ := by
    intro f e z τ hF hf hR
    refine g_iload_n (nx := 22) 3 F dX12_reads_21 rfl rfl rfl ?_
    refine g_if_eq (nx := 25) 72 F dX12_reads_22 rfl (by decide) (fun c_22 => ?_) (fun c_22 => absurd c_22 (by exact fun zq => zq rfl))
    refine g_aload_n (nx := 73) 0 F dX12_reads_72 rfl rfl rfl ?_
    refine g_iconst (nx := 74) (0) F dX12_reads_73 rfl rfl ?_
    refine g_putI (nx := 77) F dX12_reads_74 rfl fl_RX12_186 fi_11_24 rfl (by decide) (by decide) rfl rfl ?_
    refine g_iload_n (nx := 78) 3 F dX12_reads_77 rfl rfl rfl ?_
    refine g_if_ne (nx := 81) 86 F dX12_reads_78 rfl (by decide) (fun c_78 => absurd c_78 (by exact fun zq => zq rfl)) (fun c_78 => ?_)
    refine g_aload_n (nx := 82) 0 F dX12_reads_81 rfl rfl rfl ?_
    refine g_getV (nx := 85) (fltI f e.1) F dX12_reads_82 rfl fl_RX12_203 rfl (by decide) (by decide) rfl rfl (hF) ?_
    refine g_iret F E dX12_reads_85 ?_
    refine Or.inr ⟨f, e, z, hR, rfl, fun a a1 a2 => ?_, fun k hk => ?_, rfl⟩
    · rw [zu_ne _ a1]
      exact hf.1 a a1 a2
    · rw [zu_off _ _ _ _ _ (by omega)]
      exact hf.2 k (by omega)
  have L : ∀ (q p1 l1 : Nat) (op1 vl1 : Nat → Nat) (z1 : CS) (τ : zSt), n < p1 + q → kcS τ c n (p1, 0, l1, op1, vl1) [] → kzS τ z1 → frY σ τ → l1 ≤ p1 → Rn c hdL ([(13, 0), (16, 0)], E00, Z00) ([(16, 0)], (p1, 0, l1, op1, vl1), z1) → Gs X 21 [.ref 145, .int (nI n), .int (nI 10), .int 1] [] τ := by
    intro q
    induction q with
    | zero =>
      intro p1 l1 op1 vl1 z1 τ hq H1
      exact absurd H1.2.2.2.1 (by omega)
    | succ q ih =>
      intro p1 l1 op1 vl1 z1 τ hq H1 HZ1 hf1 hl1 hR1
      have hpn := H1.2.2.2.1
      rcases Nat.lt_or_ge p1 n with hlt | hlt
      · refine g_iload_n (nx := 22) 3 F dX12_reads_21 rfl rfl rfl ?_
        refine g_if_eq (nx := 25) 72 F dX12_reads_22 rfl (by decide) (fun c_22 => absurd c_22 (by decide)) (fun c_22 => ?_)
        refine g_aload_n (nx := 26) 0 F dX12_reads_25 rfl rfl rfl ?_
        refine g_getV (nx := 29) (nI p1) F dX12_reads_26 rfl fl_RX12_193 rfl (by decide) (by decide) rfl rfl (H1.2.1.1) ?_
        refine g_aload_n (nx := 30) 0 F dX12_reads_29 rfl rfl rfl ?_
        refine g_getV (nx := 33) (nI n) F dX12_reads_30 rfl fl_RX12_196 rfl (by decide) (by decide) rfl rfl (H1.2.1.2.1) ?_
        refine g_icmp_ge (nx := 36) 72 F dX12_reads_33 rfl (by decide) (fun c_33 => absurd c_33 (by exact nI_ge hlt (by omega))) (fun c_33 => ?_)
        refine g_aload_n (nx := 37) 0 F dX12_reads_36 rfl rfl rfl ?_
        refine g_bipush (nx := 39) (59) F dX12_reads_37 rfl (by decide) ?_
        refine g_callV (nx := 42) 1 1 [.int 59] F dX12_reads_39 rfl ml_RX12_285 mo_X12_takes rfl rfl rfl rfl (Nat.le_of_ble_eq_true rfl) (by first | decide | omega) (k_takes 59 n p1 0 l1 c op1 vl1 59 [] _ H1 rfl (by decide)) (fun r_39 τ_39 q_39 => ?_)
        skip
        rcases q_39 with ⟨rfl, h4, hS4, hf4⟩ | ⟨rfl, h4, hF4, hf4⟩
        · dsimp only [Option.toList, List.append, List.cons_append, List.nil_append]
          have hZ4 : kzS τ_39 z1 := kzS_congr HZ1 hf4
          obtain ⟨m, h, sf, cf, en⟩ := z1
          refine g_if_eq (nx := 45) 67 F dX12_reads_42 rfl (by decide) (fun c_42 => absurd c_42 (by decide)) (fun c_42 => ?_)
          refine g_aload_n (nx := 46) 0 F dX12_reads_45 rfl rfl rfl ?_
          refine g_iload_n (nx := 47) 2 F dX12_reads_46 rfl rfl rfl ?_
          refine g_bipush (nx := 49) (10) F dX12_reads_47 rfl (by decide) ?_
          refine g_icmp_ne (nx := 52) 56 F dX12_reads_49 rfl (by decide) (fun c_49 => absurd c_49 (by exact fun zq => zq rfl)) (fun c_49 => ?_)
          refine g_iconst (nx := 53) (1) F dX12_reads_52 rfl rfl ?_
          refine g_goto 57 F dX12_reads_53 (by decide) ?_
          refine g_callV (nx := 60) 1 7 [.int 1] F dX12_reads_57 rfl ml_RX12_281 mo_X12_readsClause rfl rfl rfl rfl (Nat.le_of_ble_eq_true rfl) (by first | decide | omega) (k_readsClause1 n (p1 + 1) l1 _ c _ _ _ _ _ _ _ hS4 hZ4 (by omega)) (fun r_57 τ_57 q_57 => ?_)
          skip
          rcases q_57 with ⟨rfl, p2, l2, op2, vl2, z2, hS2, hZ2, hf2, hp2, hl2, hR2⟩ | ⟨rfl, f2, e2, z2, hF2, hf2, hR2⟩
          · dsimp only [Option.toList, List.append, List.cons_append, List.nil_append]
            refine g_if_eq (nx := 63) 67 F dX12_reads_60 rfl (by decide) (fun c_60 => absurd c_60 (by decide)) (fun c_60 => ?_)
            refine g_iconst (nx := 64) (1) F dX12_reads_63 rfl rfl ?_
            refine g_goto 68 F dX12_reads_64 (by decide) ?_
            refine g_istore_n (nx := 69) 3 F dX12_reads_68 rfl rfl (by decide) ?_
            try dsimp only [List.set]
            refine g_goto 21 F dX12_reads_69 (by decide) ?_
            exact ih p2 l2 op2 vl2 z2 _ (by omega) hS2 hZ2 ((hf1.tr hf4.Y).tr hf2.Y) (by omega) ((hR1.tr (s16_go h4)).tr (hR2 _))
          · dsimp only [Option.toList, List.append, List.cons_append, List.nil_append]
            refine g_if_eq (nx := 63) 67 F dX12_reads_60 rfl (by decide) (fun c_60 => ?_) (fun c_60 => absurd c_60 (by exact fun zq => zq rfl))
            refine g_iconst (nx := 68) (0) F dX12_reads_67 rfl rfl ?_
            refine g_istore_n (nx := 69) 3 F dX12_reads_68 rfl rfl (by decide) ?_
            try dsimp only [List.set]
            refine g_goto 21 F dX12_reads_69 (by decide) ?_
            exact Zf f2 e2 z2 _ hF2 ((hf1.tr hf4.Y).tr hf2.Y) ((hR1.tr (s16_go h4)).tr (hR2 _))
        · dsimp only [Option.toList, List.append, List.cons_append, List.nil_append]
          refine g_if_eq (nx := 45) 67 F dX12_reads_42 rfl (by decide) (fun c_42 => ?_) (fun c_42 => absurd c_42 (by exact fun zq => zq rfl))
          refine g_iconst (nx := 68) (0) F dX12_reads_67 rfl rfl ?_
          refine g_istore_n (nx := 69) 3 F dX12_reads_68 rfl rfl (by decide) ?_
          try dsimp only [List.set]
          refine g_goto 21 F dX12_reads_69 (by decide) ?_
          exact Zf 1 (p1, 0, l1, op1, vl1) z1 _ hF4 (hf1.tr hf4.Y) (hR1.tr (s16_bad (by have := H1.1.1.1 p1 hlt; omega) h4))
      · obtain ⟨m, h, sf, cf, en⟩ := z1
        refine g_iload_n (nx := 22) 3 F dX12_reads_21 rfl rfl rfl ?_
        refine g_if_eq (nx := 25) 72 F dX12_reads_22 rfl (by decide) (fun c_22 => absurd c_22 (by decide)) (fun c_22 => ?_)
        refine g_aload_n (nx := 26) 0 F dX12_reads_25 rfl rfl rfl ?_
        refine g_getV (nx := 29) (nI p1) F dX12_reads_26 rfl fl_RX12_193 rfl (by decide) (by decide) rfl rfl (H1.2.1.1) ?_
        refine g_aload_n (nx := 30) 0 F dX12_reads_29 rfl rfl rfl ?_
        refine g_getV (nx := 33) (nI n) F dX12_reads_30 rfl fl_RX12_196 rfl (by decide) (by decide) rfl rfl (H1.2.1.2.1) ?_
        refine g_icmp_ge (nx := 36) 72 F dX12_reads_33 rfl (by decide) (fun c_33 => ?_) (fun c_33 => absurd c_33 (by exact fun zq => zq (nI_le hlt (by omega))))
        refine g_aload_n (nx := 73) 0 F dX12_reads_72 rfl rfl rfl ?_
        refine g_iconst (nx := 74) (0) F dX12_reads_73 rfl rfl ?_
        refine g_putI (nx := 77) F dX12_reads_74 rfl fl_RX12_186 fi_11_24 rfl (by decide) (by decide) rfl rfl ?_
        refine g_iload_n (nx := 78) 3 F dX12_reads_77 rfl rfl rfl ?_
        refine g_if_ne (nx := 81) 86 F dX12_reads_78 rfl (by decide) (fun c_78 => ?_) (fun c_78 => absurd c_78 (by decide))
        refine g_aload_n (nx := 87) 0 F dX12_reads_86 rfl rfl rfl ?_
        refine g_iload_n (nx := 88) 2 F dX12_reads_87 rfl rfl rfl ?_
        refine g_callV (nx := 91) 1 0 [.int (nI 10)] F dX12_reads_88 rfl ml_RX12_288 mo_X12_keeps rfl rfl rfl rfl (Nat.le_of_ble_eq_true rfl) (by first | decide | omega) (k_keeps 10 l1 m _ (by omega) H1.2.2.2.2.2.1 HZ1.1 H1.2.1.2.2.2.1 HZ1.2.1) (fun r_88 τ_88 q_88 => ?_)
        obtain ⟨rfl, et_88⟩ := q_88
        subst et_88
        have h31 : (kp2 (kp1 (zu τ 145 24 0) 10 m l1) 10 m) 145 31 = nI m := HZ1.2.1
        dsimp only [Option.toList, List.append, List.cons_append, List.nil_append]
        refine g_aload_n (nx := 92) 0 F dX12_reads_91 rfl rfl rfl ?_
        refine g_getV (nx := 95) (nI m) F dX12_reads_92 rfl fl_RX12_272 rfl (by decide) (by decide) rfl rfl (h31) ?_
        refine g_iret F E dX12_reads_95 ?_
        exact Or.inl ⟨p1, l1, m, op1, vl1, h, sf, cf, en, hR1.tr (s16_end (H1.1.1.2 p1 hlt)), rfl, keep_tx H1 HZ1, keep_fr hf1 (by omega) H1.2.2.2.2.2.1 HZ1.1⟩
  refine g_aload_n (nx := 1) 0 F dX12_reads_0 rfl rfl rfl ?_
  refine g_iload_n (nx := 2) 1 F dX12_reads_1 rfl rfl rfl ?_
  refine g_callV (nx := 5) 1 0 [.int (nI n)] F dX12_reads_2 rfl ml_RX12_278 mo_X12_begins rfl rfl rfl rfl (Nat.le_of_ble_eq_true rfl) (by first | decide | omega) (k_begins n c _ hin hn hb) (fun r_2 τ_2 q_2 => ?_)
  obtain ⟨rfl, hS0, hZ0, hf0⟩ := q_2
  dsimp only [Option.toList, List.append, List.cons_append, List.nil_append]
  refine g_aload_n (nx := 6) 0 F dX12_reads_5 rfl rfl rfl ?_
  refine g_iload_n (nx := 7) 2 F dX12_reads_6 rfl rfl rfl ?_
  refine g_bipush (nx := 9) (10) F dX12_reads_7 rfl (by decide) ?_
  refine g_icmp_ne (nx := 12) 16 F dX12_reads_9 rfl (by decide) (fun c_9 => absurd c_9 (by exact fun zq => zq rfl)) (fun c_9 => ?_)
  refine g_iconst (nx := 13) (1) F dX12_reads_12 rfl rfl ?_
  refine g_goto 17 F dX12_reads_13 (by decide) ?_
  refine g_callV (nx := 20) 1 7 [.int 1] F dX12_reads_17 rfl ml_RX12_281 mo_X12_readsClause rfl rfl rfl rfl (Nat.le_of_ble_eq_true rfl) (by first | decide | omega) (k_readsClause1 n 0 0 _ c _ _ _ _ _ _ _ hS0 hZ0 (Nat.le_refl _)) (fun r_17 τ_17 q_17 => ?_)
  skip
  rcases q_17 with ⟨rfl, p2, l2, op2, vl2, z2, hS2, hZ2, hf2, hp2, hl2, hR2⟩ | ⟨rfl, f2, e2, z2, hF2, hf2, hR2⟩
  · dsimp only [Option.toList, List.append, List.cons_append, List.nil_append]
    refine g_istore_n (nx := 21) 3 F dX12_reads_20 rfl rfl (by decide) ?_
    try dsimp only [List.set]
    exact L (n + 1) p2 l2 op2 vl2 z2 _ (by omega) hS2 hZ2 (hf0.tr hf2.Y) (by omega) (hR2 _)
  · dsimp only [Option.toList, List.append, List.cons_append, List.nil_append]
    refine g_istore_n (nx := 21) 3 F dX12_reads_20 rfl rfl (by decide) ?_
    try dsimp only [List.set]
    exact Zf f2 e2 z2 _ hF2 (hf0.tr hf2.Y) (hR2 _)
set_option maxHeartbeats 4000000 in
set_option maxRecDepth 100000 in
theorem k_law (u : Nat) (c : Nat → Nat) (n : Int32) (σ : zSt) (hu : σ 145 24 = nI u) (hu2 : u ≤ 200) (hB : ∀ N : Nat, N ≤ 160 → n = nI N → inC c N ∧ ∀ q, q < N → σ 162 q &&& 255 = nI (c q)) : Con mX12_law 9 [.ref 145, .int n] σ (fun r τ => ((1 ≤ n.toInt ∧ n.toInt ≤ 160 ∧ n.toInt ≤ u) ∧ ∃ N : Nat, n = nI N ∧ kR N 10 c hdL σ r τ) ∨ (¬ (1 ≤ n.toInt ∧ n.toInt ≤ 160 ∧ n.toInt ≤ u) ∧ r = some (.int (-1)) ∧ τ = σ)) := by
  refine Con.of (lv := [.ref 145, .int n]) mk_X12_law rfl (Nat.le_of_ble_eq_true rfl) rfl (fun X F E => ?_)
  by_cases hA : 1 ≤ n.toInt ∧ n.toInt ≤ 160 ∧ n.toInt ≤ u
  · obtain ⟨N, hN, rfl⟩ : ∃ N : Nat, N ≤ 160 ∧ n = nI N := nI_rng (by omega) (by omega)
    have hNi : (nI N).toInt = N := nI_toInt (by omega)
    rw [hNi] at hA
    obtain ⟨hin, hb⟩ := hB N (by omega) rfl
    refine g_iload_n (nx := 1) 1 F dX12_law_0 rfl rfl rfl ?_
    refine g_iconst (nx := 2) (1) F dX12_law_1 rfl rfl ?_
    refine g_sipush (nx := 5) (160) F dX12_law_2 rfl (by decide) ?_
    refine g_callS (nx := 8) 3 0 [.int (nI N), .int 1, .int 160] F dX12_law_5 rfl ml_RX12_174 mo_X12_in rfl rfl (Nat.le_of_ble_eq_true rfl) (by first | decide | omega) (k_in (nI N) 1 160 _) (fun r_5 τ_5 q_5 => ?_)
    obtain ⟨rfl, et_5⟩ := q_5
    have et_5 := et_5.symm
    subst et_5
    dsimp only [Option.toList, List.append, List.cons_append, List.nil_append]
    refine g_if_eq (nx := 11) 19 F dX12_law_8 rfl (by decide) (fun c_8 => absurd c_8 (by exact bI_n0.mpr (by simp only [Int32.reduceToInt]; omega))) (fun c_8 => ?_)
    refine g_iload_n (nx := 12) 1 F dX12_law_11 rfl rfl rfl ?_
    refine g_aload_n (nx := 13) 0 F dX12_law_12 rfl rfl rfl ?_
    refine g_getV (nx := 16) (nI u) F dX12_law_13 rfl fl_RX12_186 rfl (by decide) (by decide) rfl rfl (hu) ?_
    refine g_icmp_le (nx := 19) 23 F dX12_law_16 rfl (by decide) (fun c_16 => ?_) (fun c_16 => absurd c_16 (by exact fun zq => zq (nI_le (by omega) (by omega))))
    refine g_aload_n (nx := 24) 0 F dX12_law_23 rfl rfl rfl ?_
    refine g_iload_n (nx := 25) 1 F dX12_law_24 rfl rfl rfl ?_
    refine g_bipush (nx := 27) (10) F dX12_law_25 rfl (by decide) ?_
    refine g_callV (nx := 30) 2 8 [.int (nI N), .int 10] F dX12_law_27 rfl ml_RX12_294 mo_X12_reads rfl rfl rfl rfl (Nat.le_of_ble_eq_true rfl) (by first | decide | omega) (k_reads1 N c _ hin hN hb) (fun r_27 τ_27 q_27 => ?_)
    skip
    obtain ⟨x, rfl⟩ : ∃ x, r_27 = some (.int x) := by
      rcases q_27 with ⟨_, _, m, _, _, _, _, _, _, _, h, _⟩ | ⟨_, _, _, _, h, _⟩
      · exact ⟨_, h⟩
      · exact ⟨_, h⟩
    dsimp only [Option.toList, List.append, List.cons_append, List.nil_append]
    refine g_iret F E dX12_law_30 ?_
    exact Or.inl ⟨by rw [hNi]; exact hA, N, rfl, q_27⟩
  · refine g_iload_n (nx := 1) 1 F dX12_law_0 rfl rfl rfl ?_
    refine g_iconst (nx := 2) (1) F dX12_law_1 rfl rfl ?_
    refine g_sipush (nx := 5) (160) F dX12_law_2 rfl (by decide) ?_
    refine g_callS (nx := 8) 3 0 [.int n, .int 1, .int 160] F dX12_law_5 rfl ml_RX12_174 mo_X12_in rfl rfl (Nat.le_of_ble_eq_true rfl) (by first | decide | omega) (k_in n 1 160 _) (fun r_5 τ_5 q_5 => ?_)
    obtain ⟨rfl, et_5⟩ := q_5
    have et_5 := et_5.symm
    subst et_5
    dsimp only [Option.toList, List.append, List.cons_append, List.nil_append]
    refine g_if_eq (nx := 11) 19 F dX12_law_8 rfl (by decide) (fun c_8 => ?_) (fun c_8 => ?_)
    · refine g_iconst (nx := 20) (-1) F dX12_law_19 rfl rfl ?_
      refine g_goto 30 F dX12_law_20 (by decide) ?_
      refine g_iret F E dX12_law_30 ?_
      exact Or.inr ⟨hA, rfl, rfl⟩
    · refine g_iload_n (nx := 12) 1 F dX12_law_11 rfl rfl rfl ?_
      refine g_aload_n (nx := 13) 0 F dX12_law_12 rfl rfl rfl ?_
      refine g_getV (nx := 16) (nI u) F dX12_law_13 rfl fl_RX12_186 rfl (by decide) (by decide) rfl rfl (hu) ?_
      refine g_icmp_le (nx := 19) 23 F dX12_law_16 rfl (by decide) (fun c_16 => ?_) (fun c_16 => ?_)
      · exfalso
        clear F E
        have hui : (nI u).toInt = u := nI_toInt (by omega)
        simp only [bI_0, bI_n0, ne_eq, fa_le, hui, Int32.reduceToInt, Decidable.not_not] at *
        omega
      · refine g_iconst (nx := 20) (-1) F dX12_law_19 rfl rfl ?_
        refine g_goto 30 F dX12_law_20 (by decide) ?_
        refine g_iret F E dX12_law_30 ?_
        exact Or.inr ⟨hA, rfl, rfl⟩
set_option maxHeartbeats 4000000 in
set_option maxRecDepth 100000 in
theorem k_way (u e : Nat) (c : Nat → Nat) (i n : Int32) (σ : zSt) (hu : σ 145 24 = nI u) (hu2 : u ≤ 200) (hc : σ 145 1 = nI e) (he10 : e ≤ 10) (hB : ∀ N : Nat, N ≤ 160 → n = nI N → inC c N ∧ ∀ q, q < N → σ 162 q &&& 255 = nI (c q)) : Con mX12_way 9 [.ref 145, .int i, .int n] σ (fun r τ => (((0 ≤ i.toInt ∧ i.toInt < e) ∧ 1 ≤ n.toInt ∧ n.toInt ≤ 160 ∧ n.toInt ≤ u) ∧ ∃ N I : Nat, n = nI N ∧ i = nI I ∧ I < e ∧ kR N I c hdW2 σ r τ) ∨ (¬ ((0 ≤ i.toInt ∧ i.toInt < e) ∧ 1 ≤ n.toInt ∧ n.toInt ≤ 160 ∧ n.toInt ≤ u) ∧ r = some (.int (-1)) ∧ τ = σ)) := by
  refine Con.of (lv := [.ref 145, .int i, .int n]) mk_X12_way rfl (Nat.le_of_ble_eq_true rfl) rfl (fun X F E => ?_)
  have hei : (nI e).toInt = e := nI_toInt (by omega)
  by_cases hA : (0 ≤ i.toInt ∧ i.toInt < e) ∧ 1 ≤ n.toInt ∧ n.toInt ≤ 160 ∧ n.toInt ≤ u
  · obtain ⟨N, hN, rfl⟩ : ∃ N : Nat, N ≤ 160 ∧ n = nI N := nI_rng (by omega) (by omega)
    obtain ⟨I, hI, rfl⟩ := nI_ofr hA.1
    have hNi : (nI N).toInt = N := nI_toInt (by omega)
    rw [hNi] at hA
    obtain ⟨hin, hb⟩ := hB N (by omega) rfl
    refine g_aload_n (nx := 1) 0 F dX12_way_0 rfl rfl rfl ?_
    refine g_iload_n (nx := 2) 1 F dX12_way_1 rfl rfl rfl ?_
    refine g_callV (nx := 5) 1 0 [.int (nI I)] F dX12_way_2 rfl ml_RX12_291 mo_X12_isClerk rfl rfl rfl rfl (Nat.le_of_ble_eq_true rfl) (by first | decide | omega) (k_isClerk (nI I) _) (fun r_2 τ_2 q_2 => ?_)
    obtain ⟨rfl, et_2⟩ := q_2
    have et_2 := et_2.symm
    subst et_2
    dsimp only [Option.toList, List.append, List.cons_append, List.nil_append]
    refine g_if_eq (nx := 8) 27 F dX12_way_5 rfl (by decide) (fun c_5 => absurd c_5 (by exact bI_n0.mpr (by rw [hc, hei]; exact hA.1))) (fun c_5 => ?_)
    refine g_iload_n (nx := 9) 2 F dX12_way_8 rfl rfl rfl ?_
    refine g_iconst (nx := 10) (1) F dX12_way_9 rfl rfl ?_
    refine g_sipush (nx := 13) (160) F dX12_way_10 rfl (by decide) ?_
    refine g_callS (nx := 16) 3 0 [.int (nI N), .int 1, .int 160] F dX12_way_13 rfl ml_RX12_174 mo_X12_in rfl rfl (Nat.le_of_ble_eq_true rfl) (by first | decide | omega) (k_in (nI N) 1 160 _) (fun r_13 τ_13 q_13 => ?_)
    obtain ⟨rfl, et_13⟩ := q_13
    have et_13 := et_13.symm
    subst et_13
    dsimp only [Option.toList, List.append, List.cons_append, List.nil_append]
    refine g_if_eq (nx := 19) 27 F dX12_way_16 rfl (by decide) (fun c_16 => absurd c_16 (by exact bI_n0.mpr (by simp only [Int32.reduceToInt]; omega))) (fun c_16 => ?_)
    refine g_iload_n (nx := 20) 2 F dX12_way_19 rfl rfl rfl ?_
    refine g_aload_n (nx := 21) 0 F dX12_way_20 rfl rfl rfl ?_
    refine g_getV (nx := 24) (nI u) F dX12_way_21 rfl fl_RX12_186 rfl (by decide) (by decide) rfl rfl (hu) ?_
    refine g_icmp_le (nx := 27) 31 F dX12_way_24 rfl (by decide) (fun c_24 => ?_) (fun c_24 => absurd c_24 (by exact fun zq => zq (nI_le (by omega) (by omega))))
    refine g_aload_n (nx := 32) 0 F dX12_way_31 rfl rfl rfl ?_
    refine g_iload_n (nx := 33) 2 F dX12_way_32 rfl rfl rfl ?_
    refine g_iload_n (nx := 34) 1 F dX12_way_33 rfl rfl rfl ?_
    refine g_callV (nx := 37) 2 8 [.int (nI N), .int (nI I)] F dX12_way_34 rfl ml_RX12_294 mo_X12_reads rfl rfl rfl rfl (Nat.le_of_ble_eq_true rfl) (by first | decide | omega) (k_reads0 N I c _ (by omega) hin hN hb) (fun r_34 τ_34 q_34 => ?_)
    skip
    obtain ⟨x, rfl⟩ : ∃ x, r_34 = some (.int x) := by
      rcases q_34 with ⟨_, _, m, _, _, _, _, _, _, _, h, _⟩ | ⟨_, _, _, _, h, _⟩
      · exact ⟨_, h⟩
      · exact ⟨_, h⟩
    dsimp only [Option.toList, List.append, List.cons_append, List.nil_append]
    refine g_iret F E dX12_way_37 ?_
    exact Or.inl ⟨by rw [hNi]; exact hA, N, I, rfl, rfl, hI, q_34⟩
  · refine g_aload_n (nx := 1) 0 F dX12_way_0 rfl rfl rfl ?_
    refine g_iload_n (nx := 2) 1 F dX12_way_1 rfl rfl rfl ?_
    refine g_callV (nx := 5) 1 0 [.int i] F dX12_way_2 rfl ml_RX12_291 mo_X12_isClerk rfl rfl rfl rfl (Nat.le_of_ble_eq_true rfl) (by first | decide | omega) (k_isClerk i _) (fun r_2 τ_2 q_2 => ?_)
    obtain ⟨rfl, et_2⟩ := q_2
    have et_2 := et_2.symm
    subst et_2
    dsimp only [Option.toList, List.append, List.cons_append, List.nil_append]
    refine g_if_eq (nx := 8) 27 F dX12_way_5 rfl (by decide) (fun c_5 => ?_) (fun c_5 => ?_)
    · refine g_iconst (nx := 28) (-1) F dX12_way_27 rfl rfl ?_
      refine g_goto 37 F dX12_way_28 (by decide) ?_
      refine g_iret F E dX12_way_37 ?_
      exact Or.inr ⟨hA, rfl, rfl⟩
    · refine g_iload_n (nx := 9) 2 F dX12_way_8 rfl rfl rfl ?_
      refine g_iconst (nx := 10) (1) F dX12_way_9 rfl rfl ?_
      refine g_sipush (nx := 13) (160) F dX12_way_10 rfl (by decide) ?_
      refine g_callS (nx := 16) 3 0 [.int n, .int 1, .int 160] F dX12_way_13 rfl ml_RX12_174 mo_X12_in rfl rfl (Nat.le_of_ble_eq_true rfl) (by first | decide | omega) (k_in n 1 160 _) (fun r_13 τ_13 q_13 => ?_)
      obtain ⟨rfl, et_13⟩ := q_13
      have et_13 := et_13.symm
      subst et_13
      dsimp only [Option.toList, List.append, List.cons_append, List.nil_append]
      refine g_if_eq (nx := 19) 27 F dX12_way_16 rfl (by decide) (fun c_16 => ?_) (fun c_16 => ?_)
      · refine g_iconst (nx := 28) (-1) F dX12_way_27 rfl rfl ?_
        refine g_goto 37 F dX12_way_28 (by decide) ?_
        refine g_iret F E dX12_way_37 ?_
        exact Or.inr ⟨hA, rfl, rfl⟩
      · refine g_iload_n (nx := 20) 2 F dX12_way_19 rfl rfl rfl ?_
        refine g_aload_n (nx := 21) 0 F dX12_way_20 rfl rfl rfl ?_
        refine g_getV (nx := 24) (nI u) F dX12_way_21 rfl fl_RX12_186 rfl (by decide) (by decide) rfl rfl (hu) ?_
        refine g_icmp_le (nx := 27) 31 F dX12_way_24 rfl (by decide) (fun c_24 => ?_) (fun c_24 => ?_)
        · exfalso
          clear F E
          have hui : (nI u).toInt = u := nI_toInt (by omega)
          simp only [bI_0, bI_n0, ne_eq, fa_le, hui, hc, hei, Int32.reduceToInt, Decidable.not_not] at *
          omega
        · refine g_iconst (nx := 28) (-1) F dX12_way_27 rfl rfl ?_
          refine g_goto 37 F dX12_way_28 (by decide) ?_
          refine g_iret F E dX12_way_37 ?_
          exact Or.inr ⟨hA, rfl, rfl⟩
def kG (n : Nat) (c : Nat → Nat) (σ : zSt) (r : Option Value) (τ : zSt) : Prop :=
  (∃ (p2 l2 : Nat) (op2 vl2 : Nat → Nat), Rn c hdL ([(0, 0), (1, 0), (3, 0), (17, 0)], E00, Z00) ([], (p2, 0, l2, op2, vl2), Z00) ∧ r = some (.int 1) ∧ (τ 170 11 = 1 ∧ τ 172 132 = nI 1980 ∧ τ 174 132 = nI (1980 + l2) ∧ ∀ k, k < l2 → τ 169 (1980 + k) = nI (1048576 * op2 k + vl2 k)) ∧ frR 11 σ τ) ∨
  (∃ (f : Nat) (e : ES) (z : CS), Rn c hdL ([(0, 0), (1, 0), (3, 0), (17, 0)], E00, Z00) ([(99, f)], e, z) ∧ r = some (.int (fltI f e.1)) ∧ frR0 σ τ)
set_option maxHeartbeats 4000000 in
set_option maxRecDepth 100000 in
theorem k_gain (u : Nat) (c : Nat → Nat) (n : Int32) (σ : zSt) (hu : σ 145 24 = nI u) (hu2 : u ≤ 200) (hB : ∀ N : Nat, N ≤ 160 → n = nI N → inC c N ∧ ∀ q, q < N → σ 162 q &&& 255 = nI (c q)) : Con mX12_gain 5 [.ref 145, .int n] σ (fun r τ => ((1 ≤ n.toInt ∧ n.toInt ≤ 60 ∧ n.toInt ≤ u) ∧ ∃ N : Nat, n = nI N ∧ kG N c σ r τ) ∨ (¬ (1 ≤ n.toInt ∧ n.toInt ≤ 60 ∧ n.toInt ≤ u) ∧ r = some (.int (-1)) ∧ τ = σ)) := by
  refine Con.of (lv := [.ref 145, .int n, .long 0]) mk_X12_gain rfl (Nat.le_of_ble_eq_true rfl) rfl (fun X F E => ?_)
  by_cases hA : 1 ≤ n.toInt ∧ n.toInt ≤ 60 ∧ n.toInt ≤ u
  · obtain ⟨N, hN, rfl⟩ : ∃ N : Nat, N ≤ 60 ∧ n = nI N := nI_rng (by omega) (by omega)
    have hNi : (nI N).toInt = N := nI_toInt (by omega)
    rw [hNi] at hA
    obtain ⟨hin, hb⟩ := hB N (by omega) rfl
    refine g_iload_n (nx := 1) 1 F dX12_gain_0 rfl rfl rfl ?_
    refine g_iconst (nx := 2) (1) F dX12_gain_1 rfl rfl ?_
    refine g_bipush (nx := 4) (60) F dX12_gain_2 rfl (by decide) ?_
    refine g_callS (nx := 7) 3 0 [.int (nI N), .int 1, .int 60] F dX12_gain_4 rfl ml_RX12_174 mo_X12_in rfl rfl (Nat.le_of_ble_eq_true rfl) (by first | decide | omega) (k_in (nI N) 1 60 _) (fun r_4 τ_4 q_4 => ?_)
    obtain ⟨rfl, et_4⟩ := q_4
    have et_4 := et_4.symm
    subst et_4
    dsimp only [Option.toList, List.append, List.cons_append, List.nil_append]
    refine g_if_eq (nx := 10) 18 F dX12_gain_7 rfl (by decide) (fun c_7 => absurd c_7 (by exact bI_n0.mpr (by simp only [Int32.reduceToInt]; omega))) (fun c_7 => ?_)
    refine g_iload_n (nx := 11) 1 F dX12_gain_10 rfl rfl rfl ?_
    refine g_aload_n (nx := 12) 0 F dX12_gain_11 rfl rfl rfl ?_
    refine g_getV (nx := 15) (nI u) F dX12_gain_12 rfl fl_RX12_186 rfl (by decide) (by decide) rfl rfl (hu) ?_
    refine g_icmp_le (nx := 18) 20 F dX12_gain_15 rfl (by decide) (fun c_15 => ?_) (fun c_15 => absurd c_15 (by exact fun zq => zq (nI_le (by omega) (by omega))))
    refine g_aload_n (nx := 21) 0 F dX12_gain_20 rfl rfl rfl ?_
    refine g_iload_n (nx := 22) 1 F dX12_gain_21 rfl rfl rfl ?_
    refine g_callV (nx := 25) 1 0 [.int (nI N)] F dX12_gain_22 rfl ml_RX12_278 mo_X12_begins rfl rfl rfl rfl (Nat.le_of_ble_eq_true rfl) (by first | decide | omega) (k_begins N c _ hin (by omega) hb) (fun r_22 τ_22 q_22 => ?_)
    obtain ⟨rfl, hS0, hZ0, hf0⟩ := q_22
    dsimp only [Option.toList, List.append, List.cons_append, List.nil_append]
    refine g_aload_n (nx := 26) 0 F dX12_gain_25 rfl rfl rfl ?_
    refine g_callV (nx := 29) 0 4 [] F dX12_gain_26 rfl ml_RX12_257 mo_X12_readsSum rfl rfl rfl rfl (Nat.le_of_ble_eq_true rfl) (by first | decide | omega) (k_readsSum N 0 0 0 c zF zF hdL [] _ hS0 (fun x hx => absurd hx (by intro z; cases z)) (Nat.le_refl _) (Nat.le_refl _)) (fun r_26 τ_26 q_26 => ?_)
    skip
    rcases q_26 with ⟨rfl, p2, l2, op2, vl2, hS2, hf2, hp2, hl2, hR2⟩ | ⟨rfl, f2, e2, hF2, hf2, hR2⟩
    · dsimp only [Option.toList, List.append, List.cons_append, List.nil_append]
      by_cases hend : p2 = N
      · refine g_if_eq (nx := 32) 59 F dX12_gain_29 rfl (by decide) (fun c_29 => absurd c_29 (by decide)) (fun c_29 => ?_)
        refine g_aload_n (nx := 33) 0 F dX12_gain_32 rfl rfl rfl ?_
        refine g_getV (nx := 36) (nI p2) F dX12_gain_33 rfl fl_RX12_193 rfl (by decide) (by decide) rfl rfl (hS2.2.1.1) ?_
        refine g_aload_n (nx := 37) 0 F dX12_gain_36 rfl rfl rfl ?_
        refine g_getV (nx := 40) (nI N) F dX12_gain_37 rfl fl_RX12_196 rfl (by decide) (by decide) rfl rfl (hS2.2.1.2.1) ?_
        refine g_icmp_eq (nx := 43) 55 F dX12_gain_40 rfl (by decide) (fun c_40 => ?_) (fun c_40 => absurd c_40 (by exact fun zq => zq (by rw [hend])))
        refine g_iconst (nx := 56) (1) F dX12_gain_55 rfl rfl ?_
        refine g_goto 60 F dX12_gain_56 (by decide) ?_
        refine g_istore_n (nx := 61) 2 F dX12_gain_60 rfl rfl (by decide) ?_
        try dsimp only [List.set]
        refine g_aload_n (nx := 62) 0 F dX12_gain_61 rfl rfl rfl ?_
        refine g_iconst (nx := 63) (0) F dX12_gain_62 rfl rfl ?_
        refine g_putI (nx := 66) F dX12_gain_63 rfl fl_RX12_186 fi_11_24 rfl (by decide) (by decide) rfl rfl ?_
        refine g_iload_n (nx := 67) 2 F dX12_gain_66 rfl rfl rfl ?_
        refine g_if_ne (nx := 70) 75 F dX12_gain_67 rfl (by decide) (fun c_67 => ?_) (fun c_67 => absurd c_67 (by decide))
        refine g_aload_n (nx := 76) 0 F dX12_gain_75 rfl rfl rfl ?_
        refine g_getR (nx := 79) F dX12_gain_76 rfl fl_RX12_68 rfl (by decide) (by decide) rfl ?_
        refine g_iconst (nx := 80) (0) F dX12_gain_79 rfl rfl ?_
        refine g_iconst (nx := 81) (0) F dX12_gain_80 rfl rfl ?_
        refine g_iastN (nx := 82) (0) F dX12_gain_81 rfl rfl (by decide) ?_
        refine g_aload_n (nx := 83) 0 F dX12_gain_82 rfl rfl rfl ?_
        refine g_getR (nx := 86) F dX12_gain_83 rfl fl_RX12_71 rfl (by decide) (by decide) rfl ?_
        refine g_iconst (nx := 87) (0) F dX12_gain_86 rfl rfl ?_
        refine g_iconst (nx := 88) (0) F dX12_gain_87 rfl rfl ?_
        refine g_iastN (nx := 89) (0) F dX12_gain_88 rfl rfl (by decide) ?_
        refine g_aload_n (nx := 90) 0 F dX12_gain_89 rfl rfl rfl ?_
        refine g_getR (nx := 93) F dX12_gain_90 rfl fl_RX12_74 rfl (by decide) (by decide) rfl ?_
        refine g_iconst (nx := 94) (0) F dX12_gain_93 rfl rfl ?_
        refine g_aload_n (nx := 95) 0 F dX12_gain_94 rfl rfl rfl ?_
        refine g_getV (nx := 98) (nI l2) F dX12_gain_95 rfl fl_RX12_217 rfl (by decide) (by decide) rfl rfl (hS2.2.1.2.2.2.1) ?_
        refine g_iastN (nx := 99) (0) F dX12_gain_98 rfl rfl (by decide) ?_
        refine g_aload_n (nx := 100) 0 F dX12_gain_99 rfl rfl rfl ?_
        refine g_getR (nx := 103) F dX12_gain_100 rfl fl_RX12_77 rfl (by decide) (by decide) rfl ?_
        refine g_iconst (nx := 104) (0) F dX12_gain_103 rfl rfl ?_
        refine g_aload_n (nx := 105) 0 F dX12_gain_104 rfl rfl rfl ?_
        refine g_getV (nx := 108) (nI l2) F dX12_gain_105 rfl fl_RX12_217 rfl (by decide) (by decide) rfl rfl (hS2.2.1.2.2.2.1) ?_
        refine g_iastN (nx := 109) (0) F dX12_gain_108 rfl rfl (by decide) ?_
        refine g_aload_n (nx := 110) 0 F dX12_gain_109 rfl rfl rfl ?_
        refine g_iconst (nx := 111) (1) F dX12_gain_110 rfl rfl ?_
        refine g_putI (nx := 114) F dX12_gain_111 rfl fl_RX12_272 fi_11_31 rfl (by decide) (by decide) rfl rfl ?_
        obtain ⟨ρ, eρ⟩ : ∃ s, s = zu (zu (zu (zu (zu (zu τ_26 145 24 0) 165 0 0) 166 0 0) 167 0 (nI l2)) 168 0 (nI l2)) 145 31 1 := ⟨_, rfl⟩
        rw [← eρ]
        have h29 : ρ 145 29 = nI l2 := by rw [eρ]; exact hS2.2.1.2.2.2.1
        have h31 : ρ 145 31 = nI 1 := by rw [eρ]; rfl
        refine g_aload_n (nx := 115) 0 F dX12_gain_114 rfl rfl rfl ?_
        refine g_bipush (nx := 117) (11) F dX12_gain_115 rfl (by decide) ?_
        refine g_callV (nx := 120) 1 0 [.int 11] F dX12_gain_117 rfl ml_RX12_288 mo_X12_keeps rfl rfl rfl rfl (Nat.le_of_ble_eq_true rfl) (by first | decide | omega) (k_keeps 11 l2 1 _ (by decide) hS2.2.2.2.2.2.1 (by decide) h29 h31) (fun r_117 τ_117 q_117 => ?_)
        obtain ⟨rfl, et_117⟩ := q_117
        subst et_117
        dsimp only [Option.toList, List.append, List.cons_append, List.nil_append]
        refine g_iconst (nx := 121) (1) F dX12_gain_120 rfl rfl ?_
        refine g_iret F E dX12_gain_121 ?_
        refine Or.inl ⟨by rw [hNi]; exact hA, N, rfl, Or.inl ⟨p2, l2, op2, vl2, (hR2 _ _).tr (s17_end (hS2.1.1.2 p2 (by omega))), rfl, ⟨?_, ?_, ?_, fun k hk => ?_⟩, ?_⟩⟩
        · show upd (ρ 170) 11 (nI 1) 11 = 1
          exact if_pos rfl
        · show kpF (fun j => nI (180 * 11) + ρ 166 j) (ρ 172) (12 * 11) 1 (12 * 11 + 0) = _
          rw [kpF_in (by decide)]
          show nI (180 * 11) + ρ 166 0 = _
          rw [eρ]
          rfl
        · show kpF (fun j => nI (180 * 11) + ρ 168 j) (ρ 174) (12 * 11) 1 (12 * 11 + 0) = _
          rw [kpF_in (by decide)]
          show nI (180 * 11) + ρ 168 0 = _
          rw [eρ]
          show nI (180 * 11) + nI l2 = _
          rw [nI_add]
        · show kpF (ρ 163) (ρ 169) (180 * 11) l2 (180 * 11 + k) = _
          rw [kpF_in hk, eρ]
          exact (hS2.2.2.1.1 k hk).1
        · have hfr : frY σ (zu (zu (zu (zu (zu τ_26 165 0 0) 166 0 0) 167 0 (nI l2)) 168 0 (nI l2)) 145 31 1) := (((((hf0.tr hf2.Y).tr (frY.w _ 165 0 _ (by decide))).tr (frY.w _ 166 0 _ (by decide))).tr (frY.w _ 167 0 _ (by decide))).tr (frY.w _ 168 0 _ (by decide))).tr (frY.u _ 31 _ (by decide))
          have ee : ρ = zu (zu (zu (zu (zu (zu τ_26 165 0 0) 166 0 0) 167 0 (nI l2)) 168 0 (nI l2)) 145 31 1) 145 24 0 := by
            rw [eρ]
            funext a
            by_cases a1 : a = 145
            · subst a1
              show upd (upd (τ_26 145) 24 0) 31 1 = upd (upd (τ_26 145) 31 1) 24 0
              exact fa_upd_swap _ (by decide) _ _
            · rw [zu_ne _ a1, zu_ne _ a1, zu_ne _ a1]
              by_cases a2 : a = 168
              · subst a2; rfl
              · rw [zu_ne _ a2, zu_ne _ a2]
                by_cases a3 : a = 167
                · subst a3; rfl
                · rw [zu_ne _ a3, zu_ne _ a3]
                  by_cases a4 : a = 166
                  · subst a4; rfl
                  · rw [zu_ne _ a4, zu_ne _ a4]
                    by_cases a5 : a = 165
                    · subst a5; rfl
                    · rw [zu_ne _ a5, zu_ne _ a5, zu_ne _ a1]
          rw [ee]
          exact keep_fr hfr (by decide) hS2.2.2.2.2.2.1 (by decide)
      · refine g_if_eq (nx := 32) 59 F dX12_gain_29 rfl (by decide) (fun c_29 => absurd c_29 (by decide)) (fun c_29 => ?_)
        refine g_aload_n (nx := 33) 0 F dX12_gain_32 rfl rfl rfl ?_
        refine g_getV (nx := 36) (nI p2) F dX12_gain_33 rfl fl_RX12_193 rfl (by decide) (by decide) rfl rfl (hS2.2.1.1) ?_
        refine g_aload_n (nx := 37) 0 F dX12_gain_36 rfl rfl rfl ?_
        refine g_getV (nx := 40) (nI N) F dX12_gain_37 rfl fl_RX12_196 rfl (by decide) (by decide) rfl rfl (hS2.2.1.2.1) ?_
        refine g_icmp_eq (nx := 43) 55 F dX12_gain_40 rfl (by decide) (fun c_40 => absurd c_40 (by exact fun zq => hend ((nI_eq (by have := hS2.2.2.2.1; omega) (by omega)).mp zq))) (fun c_40 => ?_)
        refine g_aload_n (nx := 44) 0 F dX12_gain_43 rfl rfl rfl ?_
        refine g_iconst (nx := 45) (1) F dX12_gain_44 rfl rfl ?_
        refine g_aload_n (nx := 46) 0 F dX12_gain_45 rfl rfl rfl ?_
        refine g_getV (nx := 49) (nI p2) F dX12_gain_46 rfl fl_RX12_193 rfl (by decide) (by decide) rfl rfl (hS2.2.1.1) ?_
        refine g_callV (nx := 52) 2 0 [.int 1, .int (nI p2)] F dX12_gain_49 rfl ml_RX12_206 mo_X12_wrong rfl rfl rfl rfl (Nat.le_of_ble_eq_true rfl) (by first | decide | omega) (k_wrong N _ _ _ 1 c _ _ 1 _ hS2 rfl) (fun r_49 τ_49 q_49 => ?_)
        obtain ⟨rfl, hF_49, hf_49⟩ := q_49
        dsimp only [Option.toList, List.append, List.cons_append, List.nil_append]
        refine g_if_eq (nx := 55) 59 F dX12_gain_52 rfl (by decide) (fun c_52 => ?_) (fun c_52 => absurd c_52 (by exact fun zq => zq rfl))
        refine g_iconst (nx := 60) (0) F dX12_gain_59 rfl rfl ?_
        refine g_istore_n (nx := 61) 2 F dX12_gain_60 rfl rfl (by decide) ?_
        try dsimp only [List.set]
        refine g_aload_n (nx := 62) 0 F dX12_gain_61 rfl rfl rfl ?_
        refine g_iconst (nx := 63) (0) F dX12_gain_62 rfl rfl ?_
        refine g_putI (nx := 66) F dX12_gain_63 rfl fl_RX12_186 fi_11_24 rfl (by decide) (by decide) rfl rfl ?_
        refine g_iload_n (nx := 67) 2 F dX12_gain_66 rfl rfl rfl ?_
        refine g_if_ne (nx := 70) 75 F dX12_gain_67 rfl (by decide) (fun c_67 => absurd c_67 (by exact fun zq => zq rfl)) (fun c_67 => ?_)
        refine g_aload_n (nx := 71) 0 F dX12_gain_70 rfl rfl rfl ?_
        refine g_getV (nx := 74) (fltI 1 p2) F dX12_gain_71 rfl fl_RX12_203 rfl (by decide) (by decide) rfl rfl (hF_49) ?_
        refine g_iret F E dX12_gain_74 ?_
        refine Or.inl ⟨by rw [hNi]; exact hA, N, rfl, Or.inr ⟨_, _, _, (hR2 _ _).tr (s17_bad (by have := hS2.1.1.1 p2 (by have := hS2.2.2.2.1; omega); omega)), rfl, fun a a1 a2 => ?_, fun k hk => ?_, rfl⟩⟩
        · rw [zu_ne _ a1]
          exact ((hf0.tr hf2.Y).tr hf_49.Y).1 a a1 a2
        · rw [zu_off _ _ _ _ _ (by omega)]
          exact ((hf0.tr hf2.Y).tr hf_49.Y).2 k (by omega)
    · dsimp only [Option.toList, List.append, List.cons_append, List.nil_append]
      refine g_if_eq (nx := 32) 59 F dX12_gain_29 rfl (by decide) (fun c_29 => ?_) (fun c_29 => absurd c_29 (by exact fun zq => zq rfl))
      refine g_iconst (nx := 60) (0) F dX12_gain_59 rfl rfl ?_
      refine g_istore_n (nx := 61) 2 F dX12_gain_60 rfl rfl (by decide) ?_
      try dsimp only [List.set]
      refine g_aload_n (nx := 62) 0 F dX12_gain_61 rfl rfl rfl ?_
      refine g_iconst (nx := 63) (0) F dX12_gain_62 rfl rfl ?_
      refine g_putI (nx := 66) F dX12_gain_63 rfl fl_RX12_186 fi_11_24 rfl (by decide) (by decide) rfl rfl ?_
      refine g_iload_n (nx := 67) 2 F dX12_gain_66 rfl rfl rfl ?_
      refine g_if_ne (nx := 70) 75 F dX12_gain_67 rfl (by decide) (fun c_67 => absurd c_67 (by exact fun zq => zq rfl)) (fun c_67 => ?_)
      refine g_aload_n (nx := 71) 0 F dX12_gain_70 rfl rfl rfl ?_
      refine g_getV (nx := 74) (fltI f2 e2.1) F dX12_gain_71 rfl fl_RX12_203 rfl (by decide) (by decide) rfl rfl (hF2) ?_
      refine g_iret F E dX12_gain_74 ?_
      refine Or.inl ⟨by rw [hNi]; exact hA, N, rfl, Or.inr ⟨_, _, _, hR2 _ _, rfl, fun a a1 a2 => ?_, fun k hk => ?_, rfl⟩⟩
      · rw [zu_ne _ a1]
        exact (hf0.tr hf2.Y).1 a a1 a2
      · rw [zu_off _ _ _ _ _ (by omega)]
        exact (hf0.tr hf2.Y).2 k (by omega)
  · refine g_iload_n (nx := 1) 1 F dX12_gain_0 rfl rfl rfl ?_
    refine g_iconst (nx := 2) (1) F dX12_gain_1 rfl rfl ?_
    refine g_bipush (nx := 4) (60) F dX12_gain_2 rfl (by decide) ?_
    refine g_callS (nx := 7) 3 0 [.int n, .int 1, .int 60] F dX12_gain_4 rfl ml_RX12_174 mo_X12_in rfl rfl (Nat.le_of_ble_eq_true rfl) (by first | decide | omega) (k_in n 1 60 _) (fun r_4 τ_4 q_4 => ?_)
    obtain ⟨rfl, et_4⟩ := q_4
    have et_4 := et_4.symm
    subst et_4
    dsimp only [Option.toList, List.append, List.cons_append, List.nil_append]
    refine g_if_eq (nx := 10) 18 F dX12_gain_7 rfl (by decide) (fun c_7 => ?_) (fun c_7 => ?_)
    · refine g_iconst (nx := 19) (-1) F dX12_gain_18 rfl rfl ?_
      refine g_iret F E dX12_gain_19 ?_
      exact Or.inr ⟨hA, rfl, rfl⟩
    · refine g_iload_n (nx := 11) 1 F dX12_gain_10 rfl rfl rfl ?_
      refine g_aload_n (nx := 12) 0 F dX12_gain_11 rfl rfl rfl ?_
      refine g_getV (nx := 15) (nI u) F dX12_gain_12 rfl fl_RX12_186 rfl (by decide) (by decide) rfl rfl (hu) ?_
      refine g_icmp_le (nx := 18) 20 F dX12_gain_15 rfl (by decide) (fun c_15 => ?_) (fun c_15 => ?_)
      · exfalso
        clear F E
        have hui : (nI u).toInt = u := nI_toInt (by omega)
        simp only [bI_0, bI_n0, ne_eq, fa_le, hui, Int32.reduceToInt, Decidable.not_not] at *
        omega
      · refine g_iconst (nx := 19) (-1) F dX12_gain_18 rfl rfl ?_
        refine g_iret F E dX12_gain_19 ?_
        exact Or.inr ⟨hA, rfl, rfl⟩
