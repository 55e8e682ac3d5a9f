def frX (t : Nat) (σ τ : zSt) : Prop := (∀ a, a ≠ 16 → (a < t ∨ t + 5 < a) → τ a = σ a) ∧ τ 16 1 = σ 16 1
theorem frX.tr {t : Nat} {σ τ ρ : zSt} (h : frX t σ τ) (g : frX t τ ρ) : frX t σ ρ := ⟨fun a a1 a2 => (g.1 a a1 a2).trans (h.1 a a1 a2), g.2.trans h.2⟩
theorem frC.X {t : Nat} {σ τ : zSt} (h : frC t σ τ) : frX t σ τ := ⟨fun a a1 a2 => h.1 a a1 (by omega) (by omega), h.2.2⟩
theorem frX.u {t : Nat} (σ : zSt) (a k : Nat) (x : Int32) (h : t ≤ a ∧ a ≤ t + 5) (h2 : a ≠ 16) : frX t σ (zu σ a k x) := ⟨fun b _ b2 => zu_ne _ (by omega) _ _, by rw [zu_ne _ (Ne.symm h2)]⟩
def clS (σ : zSt) (t : Nat) (z : CS) : Prop := match z with
  | (m, h, sf, cf, en) => m ≤ 12 ∧ σ t 6 = nI m ∧ ∀ j, j < m → σ (t + 2) j = nI (h j) ∧ σ (t + 3) j = nI (sf j) ∧ σ (t + 4) j = nI (cf j) ∧ σ (t + 5) j = nI (en j)
def clW (z : CS) (op vl : Nat → Nat) (l : Nat) : Prop := match z with
  | (m, h, sf, cf, en) => ∀ j, j < m → en j ≤ l ∧ wfE op vl (sf j) (cf j) 15 ∧ wfB op vl (cf j) (en j) ∧ h j < 256
theorem clS_fin {σ τ : zSt} {t m a b d e : Nat} {h sf cf en : Nat → Nat} (H : clS σ t (m, h, sf, cf, en)) (hm : m < 12) (h2 : τ (t + 2) = upd (σ (t + 2)) m (nI a)) (h3 : τ (t + 3) = upd (σ (t + 3)) m (nI b)) (h4 : τ (t + 4) = upd (σ (t + 4)) m (nI d)) (h5 : τ (t + 5) = upd (σ (t + 5)) m (nI e)) (h6 : τ t 6 = nI (m + 1)) : clS τ t (m + 1, updN h m a, updN sf m b, updN cf m d, updN en m e) := by
  refine ⟨hm, h6, fun j hj => ?_⟩
  rw [h2, h3, h4, h5]
  unfold upd updN
  by_cases ez : j = m
  · simp only [if_pos ez]
    refine ⟨?_, ?_, ?_, ?_⟩ <;> first | rfl | trivial
  · simp only [if_neg ez]
    exact H.2.2 j (by omega)
theorem clW_fin {m a b d l0 l e : Nat} {h sf cf en op vl op2 vl2 : Nat → Nat} (H : clW (m, h, sf, cf, en) op vl l0) (hk : ∀ k, k < l0 → op2 k = op k ∧ vl2 k = vl k) (hl : l0 ≤ l) (he : e ≤ l) (h1 : wfE op2 vl2 b d 15) (h2 : wfB op2 vl2 d e) (h3 : a < 256) : clW (m + 1, updN h m a, updN sf m b, updN cf m d, updN en m e) op2 vl2 l := by
  intro j hj
  unfold updN
  by_cases ez : j = m
  · simp only [if_pos ez]
    exact ⟨he, h1, h2, h3⟩
  · simp only [if_neg ez]
    obtain ⟨a1, a2, a3, a4⟩ := H j (by omega)
    have := a3.1
    exact ⟨by omega, wfE_congr a2 (fun k hk2 => hk k (by omega)), wfB_congr a3 (fun k _ hk2 => hk k (by omega)), a4⟩
theorem pcS_far {σ τ : zSt} {t n : Nat} {c : Nat → Nat} {e : ES} (H : pcS σ t c n e) (h2 : τ 2 = σ 2) (h16 : τ 16 = σ 16) (ht : τ t 1 = σ t 1) (ht1 : τ (t + 1) = σ (t + 1)) : pcS τ t c n e := by
  obtain ⟨p, o, l, op, vl⟩ := e
  unfold pcS at *
  rw [h2, h16, ht, ht1]
  exact H
set_option maxHeartbeats 4000000 in
set_option maxRecDepth 100000 in
theorem c_wipe (t : Nat) (σ : zSt) (ht : isT t) : Con mX10_wipe 0 [.ref t] σ (fun r τ => r = none ∧ τ = zu (zu σ t 1 0) t 6 0) := by
  refine Con.of (lv := [.ref t]) mk_X10_wipe rfl (Nat.le_of_ble_eq_true rfl) rfl (fun X F E => ?_)
  refine g_aload_n (nx := 1) 0 F dX10_wipe_0 rfl rfl rfl ?_
  refine g_iconst (nx := 2) (0) F dX10_wipe_1 rfl rfl ?_
  refine g_putI (nx := 5) F dX10_wipe_2 rfl fl_RX10_27 fi_9_1 (tx_k ht) (by decide) (by decide) (tx_1 ht) rfl ?_
  refine g_aload_n (nx := 6) 0 F dX10_wipe_5 rfl rfl rfl ?_
  refine g_iconst (nx := 7) (0) F dX10_wipe_6 rfl rfl ?_
  refine g_putI (nx := 10) F dX10_wipe_7 rfl fl_RX10_31 fi_9_6 (tx_k ht) (by decide) (by decide) (tx_6 ht) rfl ?_
  refine g_vret F E dX10_wipe_10 ?_
  exact ⟨rfl, rfl⟩
set_option maxHeartbeats 4000000 in
set_option maxRecDepth 100000 in
theorem c_beginT (t n : Nat) (c op vl h sf cf en : Nat → Nat) (σ : zSt) (ht : isT t) (hT : (σ 16 1).toNatClampNeg = t) (hin : inC c n) (hn : n ≤ 160) (hb : ∀ q, q < n → σ 2 q &&& 255 = nI (c q)) : Con mX5_begin 2 [.ref 16, .int (nI n)] σ (fun r τ => r = none ∧ pcS τ t c n (0, 0, 0, op, vl) ∧ clS τ t (0, h, sf, cf, en) ∧ frX t σ τ) := by
  refine Con.of (lv := [.ref 16, .int (nI n)]) mk_X5_begin rfl (Nat.le_of_ble_eq_true rfl) rfl (fun X F E => ?_)
  have hr := tx_rng ht
  refine g_aload_n (nx := 1) 0 F dX5_begin_0 rfl rfl rfl ?_
  refine g_iload_n (nx := 2) 1 F dX5_begin_1 rfl rfl rfl ?_
  refine g_putI (nx := 5) F dX5_begin_2 rfl fl_RX5_56 fi_4_2 rfl (by decide) (by decide) rfl rfl ?_
  refine g_aload_n (nx := 6) 0 F dX5_begin_5 rfl rfl rfl ?_
  refine g_iconst (nx := 7) (0) F dX5_begin_6 rfl rfl ?_
  refine g_putI (nx := 10) F dX5_begin_7 rfl fl_RX5_59 fi_4_5 rfl (by decide) (by decide) rfl rfl ?_
  refine g_aload_n (nx := 11) 0 F dX5_begin_10 rfl rfl rfl ?_
  refine g_iconst (nx := 12) (0) F dX5_begin_11 rfl rfl ?_
  refine g_putI (nx := 15) F dX5_begin_12 rfl fl_RX5_38 fi_4_6 rfl (by decide) (by decide) rfl rfl ?_
  refine g_aload_n (nx := 16) 0 F dX5_begin_15 rfl rfl rfl ?_
  refine g_getD (nx := 19) F dX5_begin_16 rfl fl_RX5_12 rfl (by decide) (by decide) rfl rfl ?_
  rw [show (zu (zu (zu σ 16 2 (nI n)) 16 5 0) 16 6 0) 16 1 = σ 16 1 from rfl, hT]
  refine g_callV (nx := 22) 0 0 [] F dX5_begin_19 rfl ml_RX5_62 mo_X10_wipe (tx_k ht) rfl rfl rfl (Nat.le_of_ble_eq_true rfl) (by first | decide | omega) (c_wipe t _ ht) (fun r_19 τ_19 q_19 => ?_)
  obtain ⟨rfl, et_19⟩ := q_19
  dsimp only [Option.toList, List.append, List.cons_append, List.nil_append]
  refine g_aload_n (nx := 23) 0 F dX5_begin_22 rfl rfl rfl ?_
  refine g_iconst (nx := 24) (-1) F dX5_begin_23 rfl rfl ?_
  refine g_putI (nx := 27) F dX5_begin_24 rfl fl_RX5_65 fi_4_3 rfl (by decide) (by decide) rfl rfl ?_
  have hb1 : (zu τ_19 16 3 (-1)) 16 3 + 1 = nI 0 := by
    rw [zu_same]
    rfl
  have hb2 : (zu τ_19 16 3 (-1)) 16 2 = nI n := by
    show τ_19 16 2 = nI n
    rw [et_19, zu_ne _ (by omega), zu_ne _ (by omega)]
    rfl
  have hb3 : ∀ q, q < n → (zu τ_19 16 3 (-1)) 2 q &&& 255 = nI (c q) := fun q hq => by
    show τ_19 2 q &&& 255 = _
    rw [et_19, zu_ne _ (by omega), zu_ne _ (by omega)]
    exact hb q hq
  refine g_aload_n (nx := 28) 0 F dX5_begin_27 rfl rfl rfl ?_
  refine g_callV (nx := 31) 0 1 [] F dX5_begin_28 rfl ml_RX5_68 mo_X5_advance rfl rfl rfl rfl (Nat.le_of_ble_eq_true rfl) (by first | decide | omega) (c_advance0 0 n c _ hb1 hb2 (Nat.zero_le n) hn hin hb3) (fun r_28 τ_28 q_28 => ?_)
  obtain ⟨rfl, et_28⟩ := q_28
  dsimp only [Option.toList, List.append, List.cons_append, List.nil_append]
  refine g_vret F E dX5_begin_31 ?_
  have e16 : ∀ k, τ_19 16 k = (zu (zu (zu σ 16 2 (nI n)) 16 5 0) 16 6 0) 16 k := fun k => by rw [et_19, zu_ne _ (by omega), zu_ne _ (by omega)]
  have eo : ∀ a, a ≠ 16 → a ≠ t → τ_28 a = σ a := fun a h1 h2 => by rw [et_28, zu_ne _ h1, zu_ne _ h1, zu_ne _ h1, et_19, zu_ne _ h2, zu_ne _ h2, zu_ne _ h1, zu_ne _ h1, zu_ne _ h1]
  have et : τ_28 t = upd (upd (σ t) 1 0) 6 0 := by rw [et_28, zu_ne _ (by omega), zu_ne _ (by omega), zu_ne _ (by omega), et_19, zu_at, zu_at, zu_ne _ (by omega), zu_ne _ (by omega), zu_ne _ (by omega)]
  have f1 : τ_28 16 1 = σ 16 1 := by rw [et_28]; exact e16 1
  have f2 : τ_28 16 2 = nI n := by rw [et_28]; exact e16 2
  have f5 : τ_28 16 5 = nI 0 := by rw [et_28]; exact e16 5
  have f6 : τ_28 16 6 = 0 := by rw [et_28]; exact e16 6
  refine ⟨rfl, ⟨⟨ht, hin, hn, fun q hq => by rw [eo 2 (by decide) (by omega)]; exact hb q hq⟩, ⟨by rw [f1]; exact hT, f2, by rw [et_28]; rfl, by rw [et_28]; rfl, f5, f6⟩, ⟨by rw [et]; rfl, fun k hk => absurd hk (Nat.not_lt_zero k)⟩, Nat.zero_le _, Nat.le_refl _, Nat.zero_le _⟩, ⟨Nat.zero_le _, by rw [et]; rfl, fun j hj => absurd hj (Nat.not_lt_zero j)⟩, ⟨fun a h1 h2 => eo a h1 (by omega), f1⟩⟩
/-- what reading a CLAUSE says -/
def pQ (t n : Nat) (c : Nat → Nat) (hd : Nat → Bool) (σ : zSt) (p l : Nat) (op vl : Nat → Nat) (z : CS) (r : Option Value) (τ : zSt) : Prop :=
  (r = some (.int 1) ∧ ∃ (p2 l2 : Nat) (op2 vl2 : Nat → Nat) (z2 : CS), pcS τ t c n (p2, 0, l2, op2, vl2) ∧ clS τ t z2 ∧ z2.1 = z.1 + 1 ∧ clW z2 op2 vl2 l2 ∧ frX t σ τ ∧ p < p2 ∧ ∀ K, Rn c hd ((13, 0) :: K, (p, 0, l, op, vl), z) (K, (p2, 0, l2, op2, vl2), z2)) ∨
  (r = some (.int 0) ∧ ∃ (f : Nat) (e : ES) (z2 : CS), pcF τ t n f e.1 ∧ frX t σ τ ∧ ∀ K, Rn c hd ((13, 0) :: K, (p, 0, l, op, vl), z) ([(99, f)], e, z2))
set_option maxHeartbeats 4000000 in
set_option maxRecDepth 100000 in
theorem c_readClause (ks t n p l m : Nat) (c op vl h sf cf en : Nat → Nat) (hd : Nat → Bool) (σ : zSt) (H : pcS σ t c n (p, 0, l, op, vl)) (HZ : clS σ t (m, h, sf, cf, en)) (HW : clW (m, h, sf, cf, en) op vl l) (hks : ks < 6) (hsee : ∀ x, x < 256 → (0 ≤ (ixS ks (nI x)).toInt ↔ hd x = true)) (hd300 : hd 300 = false) : Con mX5_readClause 30 [.ref 16, .int (nI m), .ref (1000 + ks)] σ (pQ t n c hd σ p l op vl (m, h, sf, cf, en)) := by
  refine Con.of (lv := [.ref 16, .int (nI m), .ref (1000 + ks)]) mk_X5_readClause rfl (Nat.le_of_ble_eq_true rfl) rfl (fun X F E => ?_)
  have ht := H.1.1
  have hr := tx_rng ht
  have hm12 := HZ.1
  by_cases hA : hd (c p) = true
  · have hlt : c p < 256 := by
      rcases inC_or H.1.2.1 p with z | z
      · exact z
      · rw [z, hd300] at hA
        exact absurd hA (by decide)
    have hpn := inC_lt (p := p) H.1.2.1 (by omega)
    have hsg : sgI (c p) = nI (c p) := if_neg (by omega)
    by_cases hM : m = 12
    · refine g_aload_n (nx := 1) 0 F dX5_readClause_0 rfl rfl rfl ?_
      refine g_aload_n (nx := 2) 2 F dX5_readClause_1 rfl rfl rfl ?_
      refine g_callV (nx := 5) 1 4 [.ref (1000 + ks)] F dX5_readClause_2 rfl ml_RX5_82 mo_X5_sees rfl rfl rfl rfl (Nat.le_of_ble_eq_true rfl) (by first | decide | omega) (c_sees ks t n p 0 l c op vl _ H hks) (fun r_2 τ_2 q_2 => ?_)
      obtain ⟨rfl, et_2⟩ := q_2
      have et_2 := et_2.symm
      subst et_2
      dsimp only [Option.toList, List.append, List.cons_append, List.nil_append]
      refine g_if_ne (nx := 8) 14 F dX5_readClause_5 rfl (by decide) (fun c_5 => ?_) (fun c_5 => absurd c_5 (by exact bI_n0.mpr ⟨hlt, (hsee _ hlt).mpr hA⟩))
      refine g_iload_n (nx := 15) 1 F dX5_readClause_14 rfl rfl rfl ?_
      refine g_bipush (nx := 17) (12) F dX5_readClause_15 rfl (by decide) ?_
      refine g_icmp_lt (nx := 20) 26 F dX5_readClause_17 rfl (by decide) (fun c_17 => absurd c_17 (by exact nI_nlt (b := 12) (by omega) (by omega))) (fun c_17 => ?_)
      refine g_aload_n (nx := 21) 0 F dX5_readClause_20 rfl rfl rfl ?_
      refine g_iconst (nx := 22) (4) F dX5_readClause_21 rfl rfl ?_
      show Gs X 22 _ (.int (nI 4) :: .ref 16 :: []) _
      refine g_callV (nx := 25) 1 0 [.int (nI 4)] F dX5_readClause_22 rfl ml_RX5_52 mo_X5_fail rfl rfl rfl rfl (Nat.le_of_ble_eq_true rfl) (by first | decide | omega) (c_fail t n _ _ _ 4 c _ _ _ H (by decide)) (fun r_22 τ_22 q_22 => ?_)
      obtain ⟨rfl, hF_22, hf_22⟩ := q_22
      dsimp only [Option.toList, List.append, List.cons_append, List.nil_append]
      refine g_zret F E dX5_readClause_25 (by first | rfl | assumption) ?_
      exact Or.inr ⟨rfl, 4, (p, 0, l, op, vl), (m, h, sf, cf, en), hF_22, hf_22.X, fun K => s13_many hA hM⟩
    · refine g_aload_n (nx := 1) 0 F dX5_readClause_0 rfl rfl rfl ?_
      refine g_aload_n (nx := 2) 2 F dX5_readClause_1 rfl rfl rfl ?_
      refine g_callV (nx := 5) 1 4 [.ref (1000 + ks)] F dX5_readClause_2 rfl ml_RX5_82 mo_X5_sees rfl rfl rfl rfl (Nat.le_of_ble_eq_true rfl) (by first | decide | omega) (c_sees ks t n p 0 l c op vl _ H hks) (fun r_2 τ_2 q_2 => ?_)
      obtain ⟨rfl, et_2⟩ := q_2
      have et_2 := et_2.symm
      subst et_2
      dsimp only [Option.toList, List.append, List.cons_append, List.nil_append]
      refine g_if_ne (nx := 8) 14 F dX5_readClause_5 rfl (by decide) (fun c_5 => ?_) (fun c_5 => absurd c_5 (by exact bI_n0.mpr ⟨hlt, (hsee _ hlt).mpr hA⟩))
      refine g_iload_n (nx := 15) 1 F dX5_readClause_14 rfl rfl rfl ?_
      refine g_bipush (nx := 17) (12) F dX5_readClause_15 rfl (by decide) ?_
      refine g_icmp_lt (nx := 20) 26 F dX5_readClause_17 rfl (by decide) (fun c_17 => ?_) (fun c_17 => absurd c_17 (by exact fun zq => zq (nI_lt (b := 12) (by omega) (by omega))))
      refine g_aload_n (nx := 27) 0 F dX5_readClause_26 rfl rfl rfl ?_
      refine g_getD (nx := 30) F dX5_readClause_27 rfl fl_RX5_12 rfl (by decide) (by decide) rfl rfl ?_
      rw [H.2.1.1]
      refine g_getR (nx := 33) F dX5_readClause_30 rfl fl_RX5_86 (tx_k ht) (by decide) (by decide) (tx_2 ht) ?_
      refine g_iload_n (nx := 34) 1 F dX5_readClause_33 rfl rfl rfl ?_
      refine g_aload_n (nx := 35) 0 F dX5_readClause_34 rfl rfl rfl ?_
      refine g_getV (nx := 38) (sgI (c p)) F dX5_readClause_35 rfl fl_RX5_30 rfl (by decide) (by decide) rfl rfl (H.2.1.2.2.2.1) ?_
      rw [hsg]
      refine g_iastN (nx := 39) (m) F dX5_readClause_38 rfl (tx_k2 ht) (by omega) ?_
      obtain ⟨σ1, e_σ1⟩ : ∃ s, s = zu σ (t + 2) m (nI (c p)) := ⟨_, rfl⟩
      rw [← e_σ1]
      have H1 := pcS_far (τ := σ1) H (by rw [e_σ1, zu_ne _ (by omega)]) (by rw [e_σ1, zu_ne _ (by omega)]) (by rw [e_σ1, zu_ne _ (by omega)]) (by rw [e_σ1, zu_ne _ (by omega)])
      have hx1 : frX t σ σ1 := by rw [e_σ1]; exact frX.u _ (t + 2) m _ (by omega) (by omega)
      refine g_aload_n (nx := 40) 0 F dX5_readClause_39 rfl rfl rfl ?_
      refine g_getD (nx := 43) F dX5_readClause_40 rfl fl_RX5_12 rfl (by decide) (by decide) rfl rfl ?_
      rw [H1.2.1.1]
      refine g_getR (nx := 46) F dX5_readClause_43 rfl fl_RX5_90 (tx_k ht) (by decide) (by decide) (tx_3 ht) ?_
      refine g_iload_n (nx := 47) 1 F dX5_readClause_46 rfl rfl rfl ?_
      refine g_aload_n (nx := 48) 0 F dX5_readClause_47 rfl rfl rfl ?_
      refine g_getD (nx := 51) F dX5_readClause_48 rfl fl_RX5_12 rfl (by decide) (by decide) rfl rfl ?_
      rw [H1.2.1.1]
      refine g_getV (nx := 54) (nI l) F dX5_readClause_51 rfl fl_RX5_93 (tx_k ht) (by decide) (by decide) (tx_1 ht) rfl (H1.2.2.1.1) ?_
      refine g_iastN (nx := 55) (m) F dX5_readClause_54 rfl (tx_k3 ht) (by omega) ?_
      obtain ⟨σ2, e_σ2⟩ : ∃ s, s = zu σ1 (t + 3) m (nI l) := ⟨_, rfl⟩
      rw [← e_σ2]
      have H2 := pcS_far (τ := σ2) H1 (by rw [e_σ2, zu_ne _ (by omega)]) (by rw [e_σ2, zu_ne _ (by omega)]) (by rw [e_σ2, zu_ne _ (by omega)]) (by rw [e_σ2, zu_ne _ (by omega)])
      have hx2 : frX t σ σ2 := hx1.tr (by rw [e_σ2]; exact frX.u _ (t + 3) m _ (by omega) (by omega))
      refine g_aload_n (nx := 56) 0 F dX5_readClause_55 rfl rfl rfl ?_
      refine g_callV (nx := 59) 0 1 [] F dX5_readClause_56 rfl ml_RX5_68 mo_X5_advance rfl rfl rfl rfl (Nat.le_of_ble_eq_true rfl) (by first | decide | omega) (c_advance t n _ _ _ c _ _ _ H2 (hpn)) (fun r_56 τ_56 q_56 => ?_)
      obtain ⟨rfl, hS_56, hf_56⟩ := q_56
      dsimp only [Option.toList, List.append, List.cons_append, List.nil_append]
      refine g_aload_n (nx := 60) 0 F dX5_readClause_59 rfl rfl rfl ?_
      refine g_callV (nx := 63) 0 26 [] F dX5_readClause_60 rfl ml_RX5_48 mo_X5_readTerms rfl rfl rfl rfl (Nat.le_of_ble_eq_true rfl) (by first | decide | omega) (c_terms t n c hd 6 _ _ _ _ _ _ hS_56 rfl) (fun r_60 τ_60 q_60 => ?_)
      skip
      rcases q_60 with ⟨rfl, p2, l2, op2, vl2, hS2, hf2, hp2, hl2, hk2, hw2, hR2⟩ | ⟨rfl, f2, e2, hF2, hf2, hR2⟩
      · dsimp only [Option.toList, List.append, List.cons_append, List.nil_append]
        refine g_if_ne (nx := 66) 68 F dX5_readClause_63 rfl (by decide) (fun c_63 => ?_) (fun c_63 => absurd c_63 (by decide))
        refine g_aload_n (nx := 69) 0 F dX5_readClause_68 rfl rfl rfl ?_
        refine g_getD (nx := 72) F dX5_readClause_69 rfl fl_RX5_12 rfl (by decide) (by decide) rfl rfl ?_
        rw [hS2.2.1.1]
        refine g_getR (nx := 75) F dX5_readClause_72 rfl fl_RX5_94 (tx_k ht) (by decide) (by decide) (tx_4 ht) ?_
        refine g_iload_n (nx := 76) 1 F dX5_readClause_75 rfl rfl rfl ?_
        refine g_aload_n (nx := 77) 0 F dX5_readClause_76 rfl rfl rfl ?_
        refine g_getD (nx := 80) F dX5_readClause_77 rfl fl_RX5_12 rfl (by decide) (by decide) rfl rfl ?_
        rw [hS2.2.1.1]
        refine g_getV (nx := 83) (nI l2) F dX5_readClause_80 rfl fl_RX5_93 (tx_k ht) (by decide) (by decide) (tx_1 ht) rfl (hS2.2.2.1.1) ?_
        refine g_iastN (nx := 84) (m) F dX5_readClause_83 rfl (tx_k4 ht) (by omega) ?_
        obtain ⟨σ3, e_σ3⟩ : ∃ s, s = zu τ_60 (t + 4) m (nI l2) := ⟨_, rfl⟩
        rw [← e_σ3]
        have H3 := pcS_far (τ := σ3) hS2 (by rw [e_σ3, zu_ne _ (by omega)]) (by rw [e_σ3, zu_ne _ (by omega)]) (by rw [e_σ3, zu_ne _ (by omega)]) (by rw [e_σ3, zu_ne _ (by omega)])
        have hx5 := ((hx2.tr hf_56.X).tr hf2.X).tr (show frX t _ σ3 by rw [e_σ3]; exact frX.u _ (t + 4) m _ (by omega) (by omega))
        have hor2 := inC_or H3.1.2.1 p2
        by_cases hB : c p2 = 40
        · refine g_aload_n (nx := 85) 0 F dX5_readClause_84 rfl rfl rfl ?_
          refine g_getV (nx := 88) (sgI (c p2)) F dX5_readClause_85 rfl fl_RX5_30 rfl (by decide) (by decide) rfl rfl (H3.2.1.2.2.2.1) ?_
          refine g_bipush (nx := 90) (40) F dX5_readClause_88 rfl (by decide) ?_
          refine g_icmp_eq (nx := 93) 99 F dX5_readClause_90 rfl (by decide) (fun c_90 => ?_) (fun c_90 => absurd c_90 (by exact fun zq => zq ((sgI_eq hor2 (by decide)).mpr hB)))
          refine g_aload_n (nx := 100) 0 F dX5_readClause_99 rfl rfl rfl ?_
          refine g_callV (nx := 103) 0 2 [] F dX5_readClause_100 rfl ml_RX5_97 mo_X5_enter rfl rfl rfl rfl (Nat.le_of_ble_eq_true rfl) (by first | decide | omega) (c_enter t n p2 0 l2 c op2 vl2 _ H3 (inC_lt H3.1.2.1 (by omega))) (fun r_100 τ_100 q_100 => ?_)
          skip
          rcases q_100 with ⟨rfl, ho6, hSe, hfe⟩ | ⟨rfl, ho6, hFe, hfe⟩
          · dsimp only [Option.toList, List.append, List.cons_append, List.nil_append]
            refine g_if_eq (nx := 106) 122 F dX5_readClause_103 rfl (by decide) (fun c_103 => absurd c_103 (by decide)) (fun c_103 => ?_)
            refine g_aload_n (nx := 107) 0 F dX5_readClause_106 rfl rfl rfl ?_
            refine g_callV (nx := 110) 0 29 [] F dX5_readClause_107 rfl ml_RX5_100 mo_X5_readParts rfl rfl rfl rfl (Nat.le_of_ble_eq_true rfl) (by first | decide | omega) ((c_parts t n c hd 5).2 _ _ _ _ _ _ hSe rfl) (fun r_107 τ_107 q_107 => ?_)
            skip
            rcases q_107 with ⟨rfl, p3, l3, op3, vl3, hS3, hf3, hp3, hl3, hk3, hw3, hR3⟩ | ⟨rfl, f3, e3, hF3, hf3, hR3⟩
            · dsimp only [Option.toList, List.append, List.cons_append, List.nil_append]
              refine g_if_eq (nx := 113) 122 F dX5_readClause_110 rfl (by decide) (fun c_110 => absurd c_110 (by decide)) (fun c_110 => ?_)
              refine g_aload_n (nx := 114) 0 F dX5_readClause_113 rfl rfl rfl ?_
              refine g_bipush (nx := 116) (41) F dX5_readClause_114 rfl (by decide) ?_
              show Gs X 116 _ (.int (nI 41) :: .ref 16 :: []) _
              refine g_callV (nx := 119) 1 2 [.int (nI 41)] F dX5_readClause_116 rfl ml_RX5_34 mo_X5_take rfl rfl rfl rfl (Nat.le_of_ble_eq_true rfl) (by first | decide | omega) (c_take 41 t n p3 (0 + 1) l3 c op3 vl3 _ hS3 (by decide)) (fun r_116 τ_116 q_116 => ?_)
              skip
              rcases q_116 with ⟨rfl, h4, hS4, hf4⟩ | ⟨rfl, h4, hF4, hf4⟩
              · dsimp only [Option.toList, List.append, List.cons_append, List.nil_append]
                refine g_if_ne (nx := 122) 124 F dX5_readClause_119 rfl (by decide) (fun c_119 => ?_) (fun c_119 => absurd c_119 (by decide))
                refine g_aload_n (nx := 125) 0 F dX5_readClause_124 rfl rfl rfl ?_
                refine g_dup (nx := 126) F dX5_readClause_125 rfl rfl ?_
                refine g_getV (nx := 129) (nI (0 + 1)) F dX5_readClause_126 rfl fl_RX5_59 rfl (by decide) (by decide) rfl rfl (hS4.2.1.2.2.2.2.1) ?_
                refine g_iconst (nx := 130) (1) F dX5_readClause_129 rfl rfl ?_
                refine g_isub (nx := 131) F dX5_readClause_130 rfl ?_
                rw [nI_pred]
                refine g_putI (nx := 134) F dX5_readClause_131 rfl fl_RX5_59 fi_4_5 rfl (by decide) (by decide) rfl rfl ?_
                obtain ⟨σ5, e_σ5⟩ : ∃ s, s = zu τ_116 16 5 (nI 0) := ⟨_, rfl⟩
                rw [← e_σ5]
                have h5 := pcS_dn (o := 0) hS4
                rw [← e_σ5] at h5
                have hS5 := h5.1
                have hf5 := hf4.tr h5.2
                refine g_aload_n (nx := 135) 0 F dX5_readClause_134 rfl rfl rfl ?_
                refine g_getD (nx := 138) F dX5_readClause_135 rfl fl_RX5_12 rfl (by decide) (by decide) rfl rfl ?_
                rw [hS5.2.1.1]
                refine g_getR (nx := 141) F dX5_readClause_138 rfl fl_RX5_103 (tx_k ht) (by decide) (by decide) (tx_5 ht) ?_
                refine g_iload_n (nx := 142) 1 F dX5_readClause_141 rfl rfl rfl ?_
                refine g_aload_n (nx := 143) 0 F dX5_readClause_142 rfl rfl rfl ?_
                refine g_getD (nx := 146) F dX5_readClause_143 rfl fl_RX5_12 rfl (by decide) (by decide) rfl rfl ?_
                rw [hS5.2.1.1]
                refine g_getV (nx := 149) (nI l3) F dX5_readClause_146 rfl fl_RX5_93 (tx_k ht) (by decide) (by decide) (tx_1 ht) rfl (hS5.2.2.1.1) ?_
                refine g_iastN (nx := 150) (m) F dX5_readClause_149 rfl (tx_k5 ht) (by omega) ?_
                obtain ⟨σ4, e_σ4⟩ : ∃ s, s = zu σ5 (t + 5) m (nI l3) := ⟨_, rfl⟩
                rw [← e_σ4]
                have H5 := pcS_far (τ := σ4) hS5 (by rw [e_σ4, zu_ne _ (by omega)]) (by rw [e_σ4, zu_ne _ (by omega)]) (by rw [e_σ4, zu_ne _ (by omega)]) (by rw [e_σ4, zu_ne _ (by omega)])
                have hx9 := ((((hx5.tr hfe.X).tr hf3.X).tr hf5.X).tr (show frX t _ σ4 by rw [e_σ4]; exact frX.u _ (t + 5) m _ (by omega) (by omega)))
                refine g_aload_n (nx := 151) 0 F dX5_readClause_150 rfl rfl rfl ?_
                refine g_getD (nx := 154) F dX5_readClause_151 rfl fl_RX5_12 rfl (by decide) (by decide) rfl rfl ?_
                rw [H5.2.1.1]
                refine g_iload_n (nx := 155) 1 F dX5_readClause_154 rfl rfl rfl ?_
                refine g_iconst (nx := 156) (1) F dX5_readClause_155 rfl rfl ?_
                refine g_iadd (nx := 157) F dX5_readClause_156 rfl ?_
                rw [nI_1]
                refine g_putI (nx := 160) F dX5_readClause_157 rfl fl_RX5_41 fi_9_6 (tx_k ht) (by decide) (by decide) (tx_6 ht) rfl ?_
                refine g_iconst (nx := 161) (1) F dX5_readClause_160 rfl rfl ?_
                refine g_zret F E dX5_readClause_161 (by first | rfl | assumption) ?_
                have e2 : (zu σ4 t 6 (nI (m + 1))) (t + 2) = upd (σ (t + 2)) m (nI (c p)) := by rw [zu_ne _ (by omega), e_σ4, zu_ne _ (by omega), hf5.1 (t + 2) (by omega) (by omega) (by omega), hf3.1 (t + 2) (by omega) (by omega) (by omega), hfe.1 (t + 2) (by omega) (by omega) (by omega), e_σ3, zu_ne _ (by omega), hf2.1 (t + 2) (by omega) (by omega) (by omega), hf_56.1 (t + 2) (by omega) (by omega) (by omega), e_σ2, zu_ne _ (by omega), e_σ1, zu_at]
                have e3 : (zu σ4 t 6 (nI (m + 1))) (t + 3) = upd (σ (t + 3)) m (nI l) := by rw [zu_ne _ (by omega), e_σ4, zu_ne _ (by omega), hf5.1 (t + 3) (by omega) (by omega) (by omega), hf3.1 (t + 3) (by omega) (by omega) (by omega), hfe.1 (t + 3) (by omega) (by omega) (by omega), e_σ3, zu_ne _ (by omega), hf2.1 (t + 3) (by omega) (by omega) (by omega), hf_56.1 (t + 3) (by omega) (by omega) (by omega), e_σ2, zu_at, e_σ1, zu_ne _ (by omega)]
                have e4 : (zu σ4 t 6 (nI (m + 1))) (t + 4) = upd (σ (t + 4)) m (nI l2) := by rw [zu_ne _ (by omega), e_σ4, zu_ne _ (by omega), hf5.1 (t + 4) (by omega) (by omega) (by omega), hf3.1 (t + 4) (by omega) (by omega) (by omega), hfe.1 (t + 4) (by omega) (by omega) (by omega), e_σ3, zu_at, hf2.1 (t + 4) (by omega) (by omega) (by omega), hf_56.1 (t + 4) (by omega) (by omega) (by omega), e_σ2, zu_ne _ (by omega), e_σ1, zu_ne _ (by omega)]
                have e5 : (zu σ4 t 6 (nI (m + 1))) (t + 5) = upd (σ (t + 5)) m (nI l3) := by rw [zu_ne _ (by omega), e_σ4, zu_at, hf5.1 (t + 5) (by omega) (by omega) (by omega), hf3.1 (t + 5) (by omega) (by omega) (by omega), hfe.1 (t + 5) (by omega) (by omega) (by omega), e_σ3, zu_ne _ (by omega), hf2.1 (t + 5) (by omega) (by omega) (by omega), hf_56.1 (t + 5) (by omega) (by omega) (by omega), e_σ2, zu_ne _ (by omega), e_σ1, zu_ne _ (by omega)]
                have hw2l : l < l2 := hw2.1
                have hw3l : l2 < l3 := hw3.1
                exact Or.inl ⟨rfl, p3 + 1, l3, op3, vl3, (m + 1, updN h m (c p), updN sf m l, updN cf m l2, updN en m l3), pcS_far H5 (zu_ne _ (by omega) _ _) (zu_ne _ (by omega) _ _) (zu_off _ _ _ _ _ (by decide)) (zu_ne _ (by omega) _ _), clS_fin HZ (by omega) e2 e3 e4 e5 (zu_same _ _ _ _), rfl, clW_fin HW (fun k hk => ⟨(hk3 k (by omega)).1.trans (hk2 k hk).1, (hk3 k (by omega)).2.trans (hk2 k hk).2⟩) (by omega) (Nat.le_refl _) (wfE_congr hw2 (fun k hk => hk3 k hk)) hw3 hlt, hx9.tr (frX.u σ4 t 6 _ (by omega) (by omega)), by omega, fun K => (((((s13_go hA hM).tr (hR2 _ _)).tr (s14_go hB)).tr (hR3 _ _)).tr (s10_go h4)).tr s15⟩
              · dsimp only [Option.toList, List.append, List.cons_append, List.nil_append]
                refine g_if_ne (nx := 122) 124 F dX5_readClause_119 rfl (by decide) (fun c_119 => absurd c_119 (by exact fun zq => zq rfl)) (fun c_119 => ?_)
                refine g_iconst (nx := 123) (0) F dX5_readClause_122 rfl rfl ?_
                refine g_zret F E dX5_readClause_123 (by first | rfl | assumption) ?_
                exact Or.inr ⟨rfl, 1, (p3, 1, l3, op3, vl3), (m, updN h m (c p), updN sf m l, updN cf m l2, en), hF4, ((hx5.tr hfe.X).tr hf3.X).tr hf4.X, fun K => ((((s13_go hA hM).tr (hR2 _ _)).tr (s14_go hB)).tr (hR3 _ _)).tr (s10_bad h4)⟩
            · dsimp only [Option.toList, List.append, List.cons_append, List.nil_append]
              refine g_if_eq (nx := 113) 122 F dX5_readClause_110 rfl (by decide) (fun c_110 => ?_) (fun c_110 => absurd c_110 (by exact fun zq => zq rfl))
              refine g_iconst (nx := 123) (0) F dX5_readClause_122 rfl rfl ?_
              refine g_zret F E dX5_readClause_123 (by first | rfl | assumption) ?_
              exact Or.inr ⟨rfl, f3, e3, (m, updN h m (c p), updN sf m l, updN cf m l2, en), hF3, (hx5.tr hfe.X).tr hf3.X, fun K => (((s13_go hA hM).tr (hR2 _ _)).tr (s14_go hB)).tr (hR3 _ _)⟩
          · dsimp only [Option.toList, List.append, List.cons_append, List.nil_append]
            exact absurd (by decide) ho6
        · refine g_aload_n (nx := 85) 0 F dX5_readClause_84 rfl rfl rfl ?_
          refine g_getV (nx := 88) (sgI (c p2)) F dX5_readClause_85 rfl fl_RX5_30 rfl (by decide) (by decide) rfl rfl (H3.2.1.2.2.2.1) ?_
          refine g_bipush (nx := 90) (40) F dX5_readClause_88 rfl (by decide) ?_
          refine g_icmp_eq (nx := 93) 99 F dX5_readClause_90 rfl (by decide) (fun c_90 => absurd c_90 (by exact fun zq => hB ((sgI_eq hor2 (by decide)).mp zq))) (fun c_90 => ?_)
          refine g_aload_n (nx := 94) 0 F dX5_readClause_93 rfl rfl rfl ?_
          refine g_iconst (nx := 95) (1) F dX5_readClause_94 rfl rfl ?_
          show Gs X 95 _ (.int (nI 1) :: .ref 16 :: []) _
          refine g_callV (nx := 98) 1 0 [.int (nI 1)] F dX5_readClause_95 rfl ml_RX5_52 mo_X5_fail rfl rfl rfl rfl (Nat.le_of_ble_eq_true rfl) (by first | decide | omega) (c_fail t n _ _ _ 1 c _ _ _ H3 (by decide)) (fun r_95 τ_95 q_95 => ?_)
          obtain ⟨rfl, hF_95, hf_95⟩ := q_95
          dsimp only [Option.toList, List.append, List.cons_append, List.nil_append]
          refine g_zret F E dX5_readClause_98 (by first | rfl | assumption) ?_
          exact Or.inr ⟨rfl, 1, (p2, 0, l2, op2, vl2), (m, updN h m (c p), updN sf m l, updN cf m l2, en), hF_95, hx5.tr hf_95.X, fun K => ((s13_go hA hM).tr (hR2 _ _)).tr (s14_bad hB)⟩
      · dsimp only [Option.toList, List.append, List.cons_append, List.nil_append]
        refine g_if_ne (nx := 66) 68 F dX5_readClause_63 rfl (by decide) (fun c_63 => absurd c_63 (by exact fun zq => zq rfl)) (fun c_63 => ?_)
        refine g_iconst (nx := 67) (0) F dX5_readClause_66 rfl rfl ?_
        refine g_zret F E dX5_readClause_67 (by first | rfl | assumption) ?_
        exact Or.inr ⟨rfl, f2, e2, (m, updN h m (c p), updN sf m l, cf, en), hF2, (hx2.tr hf_56.X).tr hf2.X, fun K => (s13_go hA hM).tr (hR2 _ _)⟩
  · refine g_aload_n (nx := 1) 0 F dX5_readClause_0 rfl rfl rfl ?_
    refine g_aload_n (nx := 2) 2 F dX5_readClause_1 rfl rfl rfl ?_
    refine g_callV (nx := 5) 1 4 [.ref (1000 + ks)] F dX5_readClause_2 rfl ml_RX5_82 mo_X5_sees rfl rfl rfl rfl (Nat.le_of_ble_eq_true rfl) (by first | decide | omega) (c_sees ks t n p 0 l c op vl _ H hks) (fun r_2 τ_2 q_2 => ?_)
    obtain ⟨rfl, et_2⟩ := q_2
    have et_2 := et_2.symm
    subst et_2
    dsimp only [Option.toList, List.append, List.cons_append, List.nil_append]
    refine g_if_ne (nx := 8) 14 F dX5_readClause_5 rfl (by decide) (fun c_5 => absurd c_5 (by exact fun zq => zq (bI_f (fun z => hA ((hsee _ z.1).mp z.2))))) (fun c_5 => ?_)
    refine g_aload_n (nx := 9) 0 F dX5_readClause_8 rfl rfl rfl ?_
    refine g_iconst (nx := 10) (1) F dX5_readClause_9 rfl rfl ?_
    show Gs X 10 _ (.int (nI 1) :: .ref 16 :: []) _
    refine g_callV (nx := 13) 1 0 [.int (nI 1)] F dX5_readClause_10 rfl ml_RX5_52 mo_X5_fail rfl rfl rfl rfl (Nat.le_of_ble_eq_true rfl) (by first | decide | omega) (c_fail t n _ _ _ 1 c _ _ _ H (by decide)) (fun r_10 τ_10 q_10 => ?_)
    obtain ⟨rfl, hF_10, hf_10⟩ := q_10
    dsimp only [Option.toList, List.append, List.cons_append, List.nil_append]
    refine g_zret F E dX5_readClause_13 (by first | rfl | assumption) ?_
    exact Or.inr ⟨rfl, 1, (p, 0, l, op, vl), (m, h, sf, cf, en), hF_10, hf_10.X, fun K => s13_bad hA⟩
