/-! HANDS: the best price, told once for all rows with the same values -/
def cw (w : Nat → Nat) (n v : Nat) : Nat := fb_ct (fun q => decide (v ≤ w q)) n
def IsBest (w : Nat → Nat) (n o p : Nat) : Prop :=
  (p = 0 ∧ ∀ k, k < n → w k ≤ o) ∨ ∃ k, k < n ∧ o < w k ∧ p = w k - o ∧ ∀ j, j < n → o < w j → (w j - o) * cw w n (w j) ≤ p * cw w n (w k) ∧ ((w j - o) * cw w n (w j) = p * cw w n (w k) → p ≤ w j - o)
theorem IsBest_one {w u : Nat → Nat} {n o p q : Nat} (hc : ∀ P : Nat → Bool, fb_ct (fun k => P (w k)) n = fb_ct (fun k => P (u k)) n) (h1 : IsBest w n o p) (h2 : IsBest u n o q) : p = q := by
  have hcw : ∀ v, cw w n v = cw u n v := fun v => hc (fun a => decide (v ≤ a))
  have hmem : ∀ {a b : Nat → Nat}, (∀ P : Nat → Bool, fb_ct (fun k => P (a k)) n = fb_ct (fun k => P (b k)) n) → ∀ k, k < n → ∃ j, j < n ∧ b j = a k := by
    intro a b hab k hk
    have : 0 < fb_ct (fun j => decide (b j = a k)) n := by
      rw [← hab (fun z => decide (z = a k))]
      exact fb_ct_pos.mpr ⟨k, hk, by simp⟩
    obtain ⟨j, j1, j2⟩ := fb_ct_pos.mp this
    exact ⟨j, j1, of_decide_eq_true j2⟩
  have hc' : ∀ P : Nat → Bool, fb_ct (fun k => P (u k)) n = fb_ct (fun k => P (w k)) n := fun P => (hc P).symm
  rcases h1 with ⟨a1, a2⟩ | ⟨k, k1, k2, k3, k4⟩
  · rcases h2 with ⟨b1, b2⟩ | ⟨i, i1, i2, i3, i4⟩
    · omega
    · obtain ⟨j, j1, j2⟩ := hmem hc' i i1
      have := a2 j j1
      omega
  · obtain ⟨k', kb1, kb2⟩ := hmem hc k k1
    rcases h2 with ⟨b1, b2⟩ | ⟨i, i1, i2, i3, i4⟩
    · have := b2 k' kb1
      omega
    · obtain ⟨i', ib1, ib2⟩ := hmem hc' i i1
      have x1 := k4 i' ib1 (by omega)
      have x2 := i4 k' kb1 (by omega)
      rw [ib2, hcw, hcw, ← i3] at x1
      rw [kb2, ← k3] at x2
      have e : q * cw u n (u i) = p * cw u n (w k) := Nat.le_antisymm x1.1 x2.1
      have y1 := x1.2 e
      have y2 := x2.2 e.symm
      omega
noncomputable def bpX (w : Nat → Nat) (n o : Nat) : Nat := Classical.epsilon (fun p => IsBest w n o p)
theorem bpX_eq {w : Nat → Nat} {n o p : Nat} (h : IsBest w n o p) : bpX w n o = p := by
  exact IsBest_one (fun _ => rfl) (Classical.epsilon_spec (p := fun p => IsBest w n o p) ⟨p, h⟩) h
theorem bpX_congr {w u : Nat → Nat} {n o p : Nat} (hc : ∀ P : Nat → Bool, fb_ct (fun k => P (w k)) n = fb_ct (fun k => P (u k)) n) (h : IsBest w n o p) (h2 : IsBest u n o (bpX u n o)) : bpX w n o = bpX u n o := by
  rw [bpX_eq h]
  exact IsBest_one hc h h2
theorem IsBest_le {w : Nat → Nat} {n o p M : Nat} (h : IsBest w n o p) (hM : ∀ k, k < n → w k ≤ M) : p = 0 ∨ o + p ≤ M := by
  rcases h with ⟨a1, _⟩ | ⟨k, k1, k2, k3, _⟩
  · exact Or.inl a1
  · have := hM k k1
    omega
/-- the greatest first -/
def srd (w : Nat → Nat) (n : Nat) : Prop := ∀ i j, i < j → j < n → w j ≤ w i
theorem srd_cw_le {w : Nat → Nat} {n k : Nat} (h : srd w n) (hk : k < n) : k + 1 ≤ cw w n (w k) := by
  have h1 : fb_ct (fun q => decide (w k ≤ w q)) (k + 1) ≤ cw w n (w k) := fb_ct_mono _ (by omega)
  have h2 : fb_ct (fun q => decide (w k ≤ w q)) (k + 1) = k + 1 := fb_ct_all.mpr (fun q hq => decide_eq_true (by
    rcases Nat.lt_or_ge q k with z | z
    · exact h q k z hk
    · rw [show q = k by omega]; exact Nat.le_refl _))
  omega
/-- the last of like ones: there the count is its place -/
theorem srd_last {w : Nat → Nat} {n k : Nat} (h : srd w n) (hk : k < n) : ∃ j, j < n ∧ w j = w k ∧ cw w n (w k) = j + 1 := by
  have hc := srd_cw_le h hk
  have hle := fb_ct_le (fun q => decide (w k ≤ w q)) n
  obtain ⟨j, j1, j2, j3⟩ := fb_last (p := fun q => w k ≤ w q) ⟨k, hk, Nat.le_refl _⟩
  have e : cw w n (w k) = j + 1 := by
    have h0 : ∀ m, j + 1 + m ≤ n → fb_ct (fun q => decide (w k ≤ w q)) (j + 1 + m) = fb_ct (fun q => decide (w k ≤ w q)) (j + 1) := by
      intro m
      induction m with
      | zero => intro _; rfl
      | succ m ih =>
        intro hm
        have hz := j3 (j + 1 + m) (by omega) (by omega)
        rw [← Nat.add_assoc, fb_ct_succ, ih (by omega)]
        simp only [decide_eq_false hz]
        rfl
    have h1 := h0 (n - (j + 1)) (by omega)
    rw [show j + 1 + (n - (j + 1)) = n by omega] at h1
    unfold cw
    rw [h1]
    refine fb_ct_all.mpr (fun q hq => decide_eq_true ?_)
    rcases Nat.lt_or_ge q j with z | z
    · have := h q j z j1
      omega
    · rw [show q = j by omega]; exact j2
  refine ⟨j, j1, ?_, e⟩
  rcases Nat.lt_trichotomy j k with z | z | z
  · exact absurd (Nat.le_refl (w k)) (j3 k z hk)
  · rw [z]
  · exact Nat.le_antisymm (h k j z j1) j2
set_option maxHeartbeats 4000000 in
set_option maxRecDepth 100000 in
theorem c_addValue (n : Nat) (x : Int32) (σ : zSt) (hn : σ 49 1 = nI n) (h : n < 20) : Con mX1_addValue 0 [.ref 49, .int x] σ (fun r τ => ∃ p, p ≤ n ∧ (∀ k, p ≤ k → k < n → σ 50 k < x) ∧ (p = 0 ∨ x ≤ σ 50 (p - 1)) ∧ r = some (.int (nI (n + 1))) ∧ τ = zu (zs σ 50 (insF (σ 50) p n x)) 49 1 (nI (n + 1))) := by
  refine Con.of (lv := [.ref 49, .int x, .long 0]) mk_X1_addValue rfl (Nat.le_of_ble_eq_true rfl) rfl (fun X F E => ?_)
  have L : ∀ p, p ≤ n → (∀ k, p ≤ k → k < n → σ 50 k < x) → Gs X 16 [.ref 49, .int x, .int (nI p)] [] (zs σ 50 (shF (σ 50) p n)) := by
    intro p
    induction p with
    | zero =>
      intro hp hk
      refine g_iload_n (nx := 17) 2 F dX1_addValue_16 rfl rfl rfl ?_
      refine g_if_le (nx := 20) 52 F dX1_addValue_17 rfl (by decide) (fun c_17 => ?_) (fun c_17 => absurd c_17 (by decide))
      refine g_aload_n (nx := 53) 0 F dX1_addValue_52 rfl rfl rfl ?_
      refine g_getR (nx := 56) F dX1_addValue_53 rfl fl_RX1_11 rfl (by decide) (by decide) rfl ?_
      refine g_iload_n (nx := 57) 2 F dX1_addValue_56 rfl rfl rfl ?_
      refine g_iload_n (nx := 58) 1 F dX1_addValue_57 rfl rfl rfl ?_
      refine g_iastN (nx := 59) (0) F dX1_addValue_58 rfl rfl (by omega) ?_
      refine g_aload_n (nx := 60) 0 F dX1_addValue_59 rfl rfl rfl ?_
      refine g_dup (nx := 61) F dX1_addValue_60 rfl rfl ?_
      refine g_getV (nx := 64) (nI n) F dX1_addValue_61 rfl fl_RX1_18 rfl (by decide) (by decide) rfl rfl (hn) ?_
      refine g_iconst (nx := 65) (1) F dX1_addValue_64 rfl rfl ?_
      refine g_iadd (nx := 66) F dX1_addValue_65 rfl ?_
      rw [nI_1]
      refine g_putI (nx := 69) F dX1_addValue_66 rfl fl_RX1_18 fi_1_1 rfl (by decide) (by decide) rfl rfl ?_
      refine g_aload_n (nx := 70) 0 F dX1_addValue_69 rfl rfl rfl ?_
      refine g_getV (nx := 73) (nI (n + 1)) F dX1_addValue_70 rfl fl_RX1_18 rfl (by decide) (by decide) rfl rfl (rfl) ?_
      refine g_iret F E dX1_addValue_73 ?_
      refine ⟨0, by omega, hk, ?_, rfl, ?_⟩
      · first | exact Or.inl rfl | exact Or.inr c_29
      · rw [zs_zu]
        rfl
    | succ p ih =>
      intro hp hk
      refine g_iload_n (nx := 17) 2 F dX1_addValue_16 rfl rfl rfl ?_
      refine g_if_le (nx := 20) 52 F dX1_addValue_17 rfl (by decide) (fun c_17 => absurd c_17 (by exact nI_nle (by omega) (by omega))) (fun c_17 => ?_)
      refine g_aload_n (nx := 21) 0 F dX1_addValue_20 rfl rfl rfl ?_
      refine g_getR (nx := 24) F dX1_addValue_21 rfl fl_RX1_11 rfl (by decide) (by decide) rfl ?_
      refine g_iload_n (nx := 25) 2 F dX1_addValue_24 rfl rfl rfl ?_
      refine g_iconst (nx := 26) (1) F dX1_addValue_25 rfl rfl ?_
      refine g_isub (nx := 27) F dX1_addValue_26 rfl ?_
      rw [nI_pred]
      refine g_ialdN (nx := 28) (p) (σ 50 p) F dX1_addValue_27 rfl rfl (by omega) (shF_low _ (by omega)) ?_
      refine g_iload_n (nx := 29) 1 F dX1_addValue_28 rfl rfl rfl ?_
      refine g_icmp_ge (nx := 32) 52 F dX1_addValue_29 rfl (by decide) (fun c_29 => ?_) (fun c_29 => ?_)
      · refine g_aload_n (nx := 53) 0 F dX1_addValue_52 rfl rfl rfl ?_
        refine g_getR (nx := 56) F dX1_addValue_53 rfl fl_RX1_11 rfl (by decide) (by decide) rfl ?_
        refine g_iload_n (nx := 57) 2 F dX1_addValue_56 rfl rfl rfl ?_
        refine g_iload_n (nx := 58) 1 F dX1_addValue_57 rfl rfl rfl ?_
        refine g_iastN (nx := 59) (p + 1) F dX1_addValue_58 rfl rfl (by omega) ?_
        refine g_aload_n (nx := 60) 0 F dX1_addValue_59 rfl rfl rfl ?_
        refine g_dup (nx := 61) F dX1_addValue_60 rfl rfl ?_
        refine g_getV (nx := 64) (nI n) F dX1_addValue_61 rfl fl_RX1_18 rfl (by decide) (by decide) rfl rfl (hn) ?_
        refine g_iconst (nx := 65) (1) F dX1_addValue_64 rfl rfl ?_
        refine g_iadd (nx := 66) F dX1_addValue_65 rfl ?_
        rw [nI_1]
        refine g_putI (nx := 69) F dX1_addValue_66 rfl fl_RX1_18 fi_1_1 rfl (by decide) (by decide) rfl rfl ?_
        refine g_aload_n (nx := 70) 0 F dX1_addValue_69 rfl rfl rfl ?_
        refine g_getV (nx := 73) (nI (n + 1)) F dX1_addValue_70 rfl fl_RX1_18 rfl (by decide) (by decide) rfl rfl (rfl) ?_
        refine g_iret F E dX1_addValue_73 ?_
        refine ⟨p + 1, by omega, hk, ?_, rfl, ?_⟩
        · first | exact Or.inl rfl | exact Or.inr c_29
        · rw [zs_zu]
          rfl
      · refine g_aload_n (nx := 33) 0 F dX1_addValue_32 rfl rfl rfl ?_
        refine g_getR (nx := 36) F dX1_addValue_33 rfl fl_RX1_11 rfl (by decide) (by decide) rfl ?_
        refine g_iload_n (nx := 37) 2 F dX1_addValue_36 rfl rfl rfl ?_
        refine g_aload_n (nx := 38) 0 F dX1_addValue_37 rfl rfl rfl ?_
        refine g_getR (nx := 41) F dX1_addValue_38 rfl fl_RX1_11 rfl (by decide) (by decide) rfl ?_
        refine g_iload_n (nx := 42) 2 F dX1_addValue_41 rfl rfl rfl ?_
        refine g_iconst (nx := 43) (1) F dX1_addValue_42 rfl rfl ?_
        refine g_isub (nx := 44) F dX1_addValue_43 rfl ?_
        rw [nI_pred]
        refine g_ialdN (nx := 45) (p) (σ 50 p) F dX1_addValue_44 rfl rfl (by omega) (shF_low _ (by omega)) ?_
        refine g_iastN (nx := 46) (p + 1) F dX1_addValue_45 rfl rfl (by omega) ?_
        refine g_iinc (nx := 49) (-1) F dX1_addValue_46 rfl rfl (by decide) (by decide) ?_
        try dsimp only [List.set]
        rw [pk_m1]
        refine g_goto 16 F dX1_addValue_49 (by decide) ?_
        rw [zs_zu, shF_step _ (by omega)]
        refine ih (by omega) (fun k k1 k2 => ?_)
        rcases Nat.lt_or_ge p k with z | z
        · exact hk k (by omega) k2
        · rw [show k = p by omega]
          exact not_le_I.mp c_29
  refine g_aload_n (nx := 1) 0 F dX1_addValue_0 rfl rfl rfl ?_
  refine g_getV (nx := 4) (nI n) F dX1_addValue_1 rfl fl_RX1_18 rfl (by decide) (by decide) rfl rfl (hn) ?_
  refine g_bipush (nx := 6) (20) F dX1_addValue_4 rfl (by decide) ?_
  refine g_icmp_lt (nx := 9) 11 F dX1_addValue_6 rfl (by decide) (fun c_6 => ?_) (fun c_6 => absurd c_6 (by exact fun zq => zq (nI_lt (a := n) (b := 20) (by omega) (by omega))))
  refine g_aload_n (nx := 12) 0 F dX1_addValue_11 rfl rfl rfl ?_
  refine g_getV (nx := 15) (nI n) F dX1_addValue_12 rfl fl_RX1_18 rfl (by decide) (by decide) rfl rfl (hn) ?_
  refine g_istore_n (nx := 16) 2 F dX1_addValue_15 rfl rfl (by decide) ?_
  try dsimp only [List.set]
  refine g_st (zs σ 50 (shF (σ 50) n n)) ?_ (L n (Nat.le_refl n) (fun k k1 k2 => by omega))
  rw [shF_n, zs_id σ 50 _ rfl]
set_option maxHeartbeats 4000000 in
set_option maxRecDepth 100000 in
theorem c_addValueN (n : Nat) (x : Int32) (σ : zSt) (hn : σ 49 1 = nI n) (h : n = 20) : Con mX1_addValue 0 [.ref 49, .int x] σ (fun r τ => r = some (.int (-1)) ∧ τ = σ) := by
  refine Con.of (lv := [.ref 49, .int x, .long 0]) mk_X1_addValue rfl (Nat.le_of_ble_eq_true rfl) rfl (fun X F E => ?_)
  refine g_aload_n (nx := 1) 0 F dX1_addValue_0 rfl rfl rfl ?_
  refine g_getV (nx := 4) (nI n) F dX1_addValue_1 rfl fl_RX1_18 rfl (by decide) (by decide) rfl rfl (hn) ?_
  refine g_bipush (nx := 6) (20) F dX1_addValue_4 rfl (by decide) ?_
  refine g_icmp_lt (nx := 9) 11 F dX1_addValue_6 rfl (by decide) (fun c_6 => absurd c_6 (by exact nI_nlt (a := n) (b := 20) (by omega) (by omega))) (fun c_6 => ?_)
  refine g_iconst (nx := 10) (-1) F dX1_addValue_9 rfl rfl ?_
  refine g_iret F E dX1_addValue_10 ?_
  exact ⟨rfl, rfl⟩
set_option maxHeartbeats 4000000 in
set_option maxRecDepth 100000 in
theorem c_value (n : Nat) (x : Int32) (σ : zSt) (hn : σ 49 1 = nI n) (h : n ≤ 20) : Con mX11_value 1 [.ref 0, .int x] σ (fun r τ => ((isin x 10000 ∧ n < 20) ∧ ∃ p, p ≤ n ∧ (∀ k, p ≤ k → k < n → σ 50 k < x) ∧ (p = 0 ∨ x ≤ σ 50 (p - 1)) ∧ r = some (.int (nI (n + 1))) ∧ τ = zu (zs σ 50 (insF (σ 50) p n x)) 49 1 (nI (n + 1))) ∨ (¬ (isin x 10000 ∧ n < 20) ∧ r = some (.int (-1)) ∧ τ = σ)) := by
  refine Con.of (lv := [.ref 0, .int x]) mk_X11_value rfl (Nat.le_of_ble_eq_true rfl) rfl (fun X F E => ?_)
  by_cases hA : isin x 10000 ∧ n < 20
  · refine g_iload_n (nx := 1) 1 F dX11_value_0 rfl rfl rfl ?_
    refine g_sipush (nx := 4) (10000) F dX11_value_1 rfl (by decide) ?_
    refine g_callS (nx := 7) 2 0 [.int x, .int 10000] F dX11_value_4 rfl ml_RX11_79 mo_X11_isOutside rfl rfl (Nat.le_of_ble_eq_true rfl) (by first | decide | omega) (c_isOutside x 10000 _) (fun r_4 τ_4 q_4 => ?_)
    obtain ⟨rfl, et_4⟩ := q_4
    have et_4 := et_4.symm
    subst et_4
    dsimp only [Option.toList, List.append, List.cons_append, List.nil_append]
    refine g_if_eq (nx := 10) 14 F dX11_value_7 rfl (by decide) (fun c_7 => ?_) (fun c_7 => absurd c_7 (by exact fun q => q (bI_f (by simp only [Int32.reduceToInt]; omega))))
    refine g_aload_n (nx := 15) 0 F dX11_value_14 rfl rfl rfl ?_
    refine g_getR (nx := 18) F dX11_value_15 rfl fl_RX11_61 rfl (by decide) (by decide) rfl ?_
    refine g_iload_n (nx := 19) 1 F dX11_value_18 rfl rfl rfl ?_
    refine g_callV (nx := 22) 1 0 [.int x] F dX11_value_19 rfl ml_RX11_259 mo_X1_addValue rfl rfl rfl rfl (Nat.le_of_ble_eq_true rfl) (by first | decide | omega) (c_addValue n x _ hn hA.2) (fun r_19 τ_19 q_19 => ?_)
    obtain ⟨p, g1, g2, g3, rfl, g4⟩ := q_19
    dsimp only [Option.toList, List.append, List.cons_append, List.nil_append]
    refine g_iret F E dX11_value_22 ?_
    exact Or.inl ⟨hA, p, g1, g2, g3, rfl, g4⟩
  · refine g_iload_n (nx := 1) 1 F dX11_value_0 rfl rfl rfl ?_
    refine g_sipush (nx := 4) (10000) F dX11_value_1 rfl (by decide) ?_
    refine g_callS (nx := 7) 2 0 [.int x, .int 10000] F dX11_value_4 rfl ml_RX11_79 mo_X11_isOutside rfl rfl (Nat.le_of_ble_eq_true rfl) (by first | decide | omega) (c_isOutside x 10000 _) (fun r_4 τ_4 q_4 => ?_)
    obtain ⟨rfl, et_4⟩ := q_4
    have et_4 := et_4.symm
    subst et_4
    dsimp only [Option.toList, List.append, List.cons_append, List.nil_append]
    refine g_if_eq (nx := 10) 14 F dX11_value_7 rfl (by decide) (fun c_7 => ?_) (fun c_7 => ?_)
    · have hfull : n = 20 := by
        clear F E
        have e_n : (nI n).toInt = n := nI_toInt (by omega)
        simp only [isin, bI_0, bI_n0, ne_eq, Decidable.not_not] at *
        (try simp only [fa_eq, fa_lt, fa_le, Int32.reduceToInt, Int32.toInt_zero] at *)
        omega
      refine g_aload_n (nx := 15) 0 F dX11_value_14 rfl rfl rfl ?_
      refine g_getR (nx := 18) F dX11_value_15 rfl fl_RX11_61 rfl (by decide) (by decide) rfl ?_
      refine g_iload_n (nx := 19) 1 F dX11_value_18 rfl rfl rfl ?_
      refine g_callV (nx := 22) 1 0 [.int x] F dX11_value_19 rfl ml_RX11_259 mo_X1_addValue rfl rfl rfl rfl (Nat.le_of_ble_eq_true rfl) (by first | decide | omega) (c_addValueN n x _ hn hfull) (fun r_19 τ_19 q_19 => ?_)
      obtain ⟨rfl, et_19⟩ := q_19
      have et_19 := et_19.symm
      subst et_19
      dsimp only [Option.toList, List.append, List.cons_append, List.nil_append]
      refine g_iret F E dX11_value_22 ?_
      exact Or.inr ⟨hA, rfl, rfl⟩
    · refine g_iconst (nx := 11) (-1) F dX11_value_10 rfl rfl ?_
      refine g_goto 22 F dX11_value_11 (by decide) ?_
      refine g_iret F E dX11_value_22 ?_
      exact Or.inr ⟨hA, rfl, rfl⟩
set_option maxHeartbeats 4000000 in
set_option maxRecDepth 100000 in
theorem c_brings (n a : Nat) (w : Nat → Nat) (σ : zSt) (hn : σ 49 1 = nI n) (h : n ≤ 20) (ha : a ≤ 10000) (hw : ∀ k, k < n → σ 50 k = nI (w k) ∧ w k ≤ 10000) (hs : srd w n) : Con mX1_brings 0 [.ref 49, .int (nI a)] σ (fun r τ => r = some (.int (nI (a * cw w n a))) ∧ τ = σ) := by
  refine Con.of (lv := [.ref 49, .int (nI a), .long 0, .long 0]) mk_X1_brings rfl (Nat.le_of_ble_eq_true rfl) rfl (fun X F E => ?_)
  have L : ∀ (q j : Nat), j + q = n → (∀ k, k < j → a ≤ w k) → Gs X 4 [.ref 49, .int (nI a), .int (nI (j * a)), .int (nI j)] [] σ := by
    intro q
    induction q with
    | zero =>
      intro j hj hk
      have hj : j = n := hj
      subst hj
      refine g_iload_n (nx := 5) 3 F dX1_brings_4 rfl rfl rfl ?_
      refine g_aload_n (nx := 6) 0 F dX1_brings_5 rfl rfl rfl ?_
      refine g_getV (nx := 9) (nI j) F dX1_brings_6 rfl fl_RX1_18 rfl (by decide) (by decide) rfl rfl (hn) ?_
      refine g_icmp_ge (nx := 12) 32 F dX1_brings_9 rfl (by decide) (fun c_9 => ?_) (fun c_9 => absurd c_9 (by exact fun zq => zq (nI_le (a := j) (b := j) (by omega) (by omega))))
      refine g_iload_n (nx := 33) 2 F dX1_brings_32 rfl rfl rfl ?_
      refine g_iret F E dX1_brings_33 ?_
      refine ⟨congrArg (fun z => some (Value.int (nI z))) ?_, rfl⟩
      rw [Nat.mul_comm, cw, fb_ct_all.mpr (fun k hk2 => decide_eq_true (hk k hk2))]
    | succ q ih =>
      intro j hj hk
      refine g_iload_n (nx := 5) 3 F dX1_brings_4 rfl rfl rfl ?_
      refine g_aload_n (nx := 6) 0 F dX1_brings_5 rfl rfl rfl ?_
      refine g_getV (nx := 9) (nI n) F dX1_brings_6 rfl fl_RX1_18 rfl (by decide) (by decide) rfl rfl (hn) ?_
      refine g_icmp_ge (nx := 12) 32 F dX1_brings_9 rfl (by decide) (fun c_9 => absurd c_9 (by exact nI_ge (a := j) (b := n) (by omega) (by omega))) (fun c_9 => ?_)
      refine g_aload_n (nx := 13) 0 F dX1_brings_12 rfl rfl rfl ?_
      refine g_getR (nx := 16) F dX1_brings_13 rfl fl_RX1_11 rfl (by decide) (by decide) rfl ?_
      refine g_iload_n (nx := 17) 3 F dX1_brings_16 rfl rfl rfl ?_
      refine g_ialdN (nx := 18) (j) (nI (w j)) F dX1_brings_17 rfl rfl (by omega) ((hw j (by omega)).1) ?_
      refine g_iload_n (nx := 19) 1 F dX1_brings_18 rfl rfl rfl ?_
      have hwj := (hw j (by omega)).2
      refine g_icmp_lt (nx := 22) 32 F dX1_brings_19 rfl (by decide) (fun c_19 => ?_) (fun c_19 => ?_)
      · refine g_iload_n (nx := 33) 2 F dX1_brings_32 rfl rfl rfl ?_
        refine g_iret F E dX1_brings_33 ?_
        refine ⟨congrArg (fun z => some (Value.int (nI z))) ?_, rfl⟩
        have hlt : w j < a := (nI_ltI (by omega) (by omega)).mp c_19
        rw [Nat.mul_comm]
        congr 1
        have h0 : ∀ m, j + m ≤ n → fb_ct (fun q => decide (a ≤ w q)) (j + m) = j := by
          intro m
          induction m with
          | zero => intro _; exact fb_ct_all.mpr (fun k hk2 => decide_eq_true (hk k hk2))
          | succ m ih2 =>
            intro hm
            have hz : ¬ a ≤ w (j + m) := by
              rcases Nat.eq_zero_or_pos m with e | e
              · subst e; rw [Nat.add_zero]; omega
              · have := hs j (j + m) (by omega) (by omega); omega
            rw [← Nat.add_assoc, fb_ct_succ, ih2 (by omega)]
            simp only [decide_eq_false hz]
            rfl
        have h1 := h0 (n - j) (by omega)
        rw [show j + (n - j) = n by omega] at h1
        exact h1.symm
      · refine g_iload_n (nx := 23) 2 F dX1_brings_22 rfl rfl rfl ?_
        refine g_iload_n (nx := 24) 1 F dX1_brings_23 rfl rfl rfl ?_
        refine g_iadd (nx := 25) F dX1_brings_24 rfl ?_
        refine g_istore_n (nx := 26) 2 F dX1_brings_25 rfl rfl (by decide) ?_
        try dsimp only [List.set]
        refine g_iinc (nx := 29) (1) F dX1_brings_26 rfl rfl (by decide) (by decide) ?_
        try dsimp only [List.set]
        refine g_goto 4 F dX1_brings_29 (by decide) ?_
        rw [nI_1, nI_add, ← Nat.succ_mul]
        refine ih (j + 1) (by omega) (fun k k1 => ?_)
        rcases Nat.lt_or_ge k j with z | z
        · exact hk k z
        · rw [show k = j by omega]
          exact (nI_leI (by omega) (by omega)).mp (not_lt_I.mp c_19)
  refine g_iconst (nx := 1) (0) F dX1_brings_0 rfl rfl ?_
  refine g_istore_n (nx := 2) 2 F dX1_brings_1 rfl rfl (by decide) ?_
  try dsimp only [List.set]
  refine g_iconst (nx := 3) (0) F dX1_brings_2 rfl rfl ?_
  refine g_istore_n (nx := 4) 3 F dX1_brings_3 rfl rfl (by decide) ?_
  try dsimp only [List.set]
  have hh := L n 0 (by omega) (fun k k1 => absurd k1 (Nat.not_lt_zero k))
  rw [Nat.zero_mul] at hh
  exact hh
set_option maxHeartbeats 4000000 in
set_option maxRecDepth 100000 in
theorem k_whoPay (n a : Nat) (w : Nat → Nat) (σ : zSt) (hn : σ 145 51 = nI n) (h : n ≤ 20) (ha : a ≤ 10000) (hw : ∀ k, k < n → σ 177 k = nI (w k) ∧ w k ≤ 10000) : Con mX12_whoPay 0 [.ref 145, .int (nI a)] σ (fun r τ => r = some (.int (nI (cw w n a))) ∧ τ = σ) := by
  refine Con.of (lv := [.ref 145, .int (nI a), .long 0, .long 0]) mk_X12_whoPay rfl (Nat.le_of_ble_eq_true rfl) rfl (fun X F E => ?_)
  have L : ∀ (q j : Nat), j + q = n → Gs X 4 [.ref 145, .int (nI a), .int (nI (fb_ct (fun k => decide (a ≤ w k)) j)), .int (nI j)] [] σ := by
    intro q
    induction q with
    | zero =>
      intro j hj
      have hj : j = n := hj
      subst hj
      refine g_iload_n (nx := 5) 3 F dX12_whoPay_4 rfl rfl rfl ?_
      refine g_aload_n (nx := 6) 0 F dX12_whoPay_5 rfl rfl rfl ?_
      refine g_getV (nx := 9) (nI j) F dX12_whoPay_6 rfl fl_RX12_374 rfl (by decide) (by decide) rfl rfl (hn) ?_
      refine g_icmp_ge (nx := 12) 36 F dX12_whoPay_9 rfl (by decide) (fun c_9 => ?_) (fun c_9 => absurd c_9 (by exact fun zq => zq (nI_le (a := j) (b := j) (by omega) (by omega))))
      refine g_iload_n (nx := 37) 2 F dX12_whoPay_36 rfl rfl rfl ?_
      refine g_iret F E dX12_whoPay_37 ?_
      exact ⟨rfl, rfl⟩
    | succ q ih =>
      intro j hj
      have hh := ih (j + 1) (by omega)
      rw [fb_ct_succ] at hh
      have hwj := (hw j (by omega)).2
      refine g_iload_n (nx := 5) 3 F dX12_whoPay_4 rfl rfl rfl ?_
      refine g_aload_n (nx := 6) 0 F dX12_whoPay_5 rfl rfl rfl ?_
      refine g_getV (nx := 9) (nI n) F dX12_whoPay_6 rfl fl_RX12_374 rfl (by decide) (by decide) rfl rfl (hn) ?_
      refine g_icmp_ge (nx := 12) 36 F dX12_whoPay_9 rfl (by decide) (fun c_9 => absurd c_9 (by exact nI_ge (a := j) (b := n) (by omega) (by omega))) (fun c_9 => ?_)
      refine g_iload_n (nx := 13) 2 F dX12_whoPay_12 rfl rfl rfl ?_
      refine g_aload_n (nx := 14) 0 F dX12_whoPay_13 rfl rfl rfl ?_
      refine g_getR (nx := 17) F dX12_whoPay_14 rfl fl_RX12_104 rfl (by decide) (by decide) rfl ?_
      refine g_iload_n (nx := 18) 3 F dX12_whoPay_17 rfl rfl rfl ?_
      refine g_ialdN (nx := 19) (j) (nI (w j)) F dX12_whoPay_18 rfl rfl (by omega) ((hw j (by omega)).1) ?_
      refine g_iload_n (nx := 20) 1 F dX12_whoPay_19 rfl rfl rfl ?_
      refine g_icmp_lt (nx := 23) 27 F dX12_whoPay_20 rfl (by decide) (fun c_20 => ?_) (fun c_20 => ?_)
      · refine g_iconst (nx := 28) (0) F dX12_whoPay_27 rfl rfl ?_
        refine g_iadd (nx := 29) F dX12_whoPay_28 rfl ?_
        refine g_istore_n (nx := 30) 2 F dX12_whoPay_29 rfl rfl (by decide) ?_
        try dsimp only [List.set]
        refine g_iinc (nx := 33) (1) F dX12_whoPay_30 rfl rfl (by decide) (by decide) ?_
        try dsimp only [List.set]
        refine g_goto 4 F dX12_whoPay_33 (by decide) ?_
        rw [nI_1]
        first
          | (rw [if_pos (decide_eq_true ((nI_leI (by omega) (by omega)).mp (not_lt_I.mp c_20)))] at hh; rw [show (1 : Int32) = nI 1 from rfl, nI_add]; exact hh)
          | (rw [if_neg (by rw [decide_eq_true_eq]; have := (nI_ltI (by omega) (by omega)).mp c_20; omega), Nat.add_zero] at hh; rw [show (0 : Int32) = nI 0 from rfl, nI_add, Nat.add_zero]; exact hh)
      · refine g_iconst (nx := 24) (1) F dX12_whoPay_23 rfl rfl ?_
        refine g_goto 28 F dX12_whoPay_24 (by decide) ?_
        refine g_iadd (nx := 29) F dX12_whoPay_28 rfl ?_
        refine g_istore_n (nx := 30) 2 F dX12_whoPay_29 rfl rfl (by decide) ?_
        try dsimp only [List.set]
        refine g_iinc (nx := 33) (1) F dX12_whoPay_30 rfl rfl (by decide) (by decide) ?_
        try dsimp only [List.set]
        refine g_goto 4 F dX12_whoPay_33 (by decide) ?_
        rw [nI_1]
        first
          | (rw [if_pos (decide_eq_true ((nI_leI (by omega) (by omega)).mp (not_lt_I.mp c_20)))] at hh; rw [show (1 : Int32) = nI 1 from rfl, nI_add]; exact hh)
          | (rw [if_neg (by rw [decide_eq_true_eq]; have := (nI_ltI (by omega) (by omega)).mp c_20; omega), Nat.add_zero] at hh; rw [show (0 : Int32) = nI 0 from rfl, nI_add, Nat.add_zero]; exact hh)
  refine g_iconst (nx := 1) (0) F dX12_whoPay_0 rfl rfl ?_
  refine g_istore_n (nx := 2) 2 F dX12_whoPay_1 rfl rfl (by decide) ?_
  try dsimp only [List.set]
  refine g_iconst (nx := 3) (0) F dX12_whoPay_2 rfl rfl ?_
  refine g_istore_n (nx := 4) 3 F dX12_whoPay_3 rfl rfl (by decide) ?_
  try dsimp only [List.set]
  exact L n 0 (by omega)
/-- what the class knows at place k: the best so far and what it brings by places -/
def bpC (w : Nat → Nat) (o k best most : Nat) : Prop := (∀ j, j < k → o < w j) ∧ ((k = 0 ∧ best = 0 ∧ most = 0) ∨ ∃ i, i < k ∧ best = w i - o ∧ most = best * (i + 1) ∧ ∀ j, j < k → (w j - o) * (j + 1) ≤ most ∧ ((w j - o) * (j + 1) = most → best ≤ w j - o))
theorem bpC_end {w : Nat → Nat} {n o k best most : Nat} (hs : srd w n) (hk : k ≤ n) (he : ∀ j, k ≤ j → j < n → w j ≤ o) (h : bpC w o k best most) : IsBest w n o best := by
  obtain ⟨h1, h2⟩ := h
  rcases h2 with ⟨a1, a2, a3⟩ | ⟨i, i1, i2, i3, i4⟩
  · exact Or.inl ⟨a2, fun j hj => he j (by omega) hj⟩
  · have hin : i < n := by omega
    have hwi := h1 i i1
    have hlast : ∀ j, j < n → o < w j → ∃ q, q < k ∧ w q = w j ∧ cw w n (w j) = q + 1 := by
      intro j hj hoj
      obtain ⟨q, q1, q2, q3⟩ := srd_last hs hj
      refine ⟨q, ?_, q2, q3⟩
      rcases Nat.lt_or_ge q k with z | z
      · exact z
      · have := he q z q1
        omega
    have hci : best * cw w n (w i) = most := by
      obtain ⟨q, q1, q2, q3⟩ := hlast i hin hwi
      have a := (i4 q q1).1
      rw [q2, ← i2] at a
      have b := srd_cw_le hs hin
      rw [q3] at b ⊢
      have c : best * (i + 1) ≤ best * (q + 1) := Nat.mul_le_mul_left _ b
      omega
    refine Or.inr ⟨i, hin, hwi, i2, fun j hj hoj => ?_⟩
    obtain ⟨q, q1, q2, q3⟩ := hlast j hj hoj
    have a := i4 q q1
    rw [q2] at a
    rw [q3, hci]
    exact a
theorem bpC_step {w : Nat → Nat} {n o k best most : Nat} (hs : srd w n) (hk : k < n) (ho : o < w k) (h : bpC w o k best most) : (most ≤ (w k - o) * (k + 1) → bpC w o (k + 1) (w k - o) ((w k - o) * (k + 1))) ∧ ((w k - o) * (k + 1) < most → bpC w o (k + 1) best most) := by
  obtain ⟨h1, h2⟩ := h
  have h1' : ∀ j, j < k + 1 → o < w j := fun j hj => by
    rcases Nat.lt_or_ge j k with z | z
    · exact h1 j z
    · rw [show j = k by omega]; exact ho
  refine ⟨fun hm => ⟨h1', Or.inr ⟨k, by omega, rfl, rfl, fun j hj => ?_⟩⟩, fun hm => ⟨h1', ?_⟩⟩
  · rcases Nat.lt_or_ge j k with z | z
    · rcases h2 with ⟨a1, _⟩ | ⟨i, i1, i2, i3, i4⟩
      · omega
      · refine ⟨Nat.le_trans (i4 j z).1 hm, fun _ => ?_⟩
        have := hs j k z hk
        omega
    · rw [show j = k by omega]
      exact ⟨Nat.le_refl _, fun _ => Nat.le_refl _⟩
  · rcases h2 with ⟨a1, a2, a3⟩ | ⟨i, i1, i2, i3, i4⟩
    · omega
    · refine Or.inr ⟨i, by omega, i2, i3, fun j hj => ?_⟩
      rcases Nat.lt_or_ge j k with z | z
      · exact i4 j z
      · rw [show j = k by omega]
        exact ⟨Nat.le_of_lt hm, fun e => by omega⟩
set_option maxHeartbeats 4000000 in
set_option maxRecDepth 100000 in
theorem c_bestPrice (n o : Nat) (w : Nat → Nat) (σ : zSt) (hn : σ 49 1 = nI n) (h : n ≤ 20) (ho : o ≤ 10000) (hw : ∀ k, k < n → σ 50 k = nI (w k) ∧ w k ≤ 10000) (hs : srd w n) : Con mX1_bestPrice 0 [.ref 49, .int (nI o)] σ (fun r τ => ∃ p, r = some (.int (nI (bpX w n o))) ∧ τ = σ ∧ IsBest w n o p) := by
  refine Con.of (lv := [.ref 49, .int (nI o), .long 0, .long 0, .long 0, .long 0, .long 0]) mk_X1_bestPrice rfl (Nat.le_of_ble_eq_true rfl) rfl (fun X F E => ?_)
  have L : ∀ (q k best most : Nat) (z1 z2 : Value), k + q = n → bpC w o k best most → best ≤ 10000 → most ≤ 200000 → Gs X 7 [.ref 49, .int (nI o), .int (nI best), .int (nI most), .int (nI k), z1, z2] [] σ := by
    intro q
    induction q with
    | zero =>
      intro k best most z1 z2 hk hb h1 h2
      have hk : k = n := hk
      subst hk
      refine g_iload (nx := 9) F dX1_bestPrice_7 rfl rfl ?_
      refine g_aload_n (nx := 10) 0 F dX1_bestPrice_9 rfl rfl rfl ?_
      refine g_getV (nx := 13) (nI k) F dX1_bestPrice_10 rfl fl_RX1_18 rfl (by decide) (by decide) rfl rfl (hn) ?_
      refine g_icmp_ge (nx := 16) 65 F dX1_bestPrice_13 rfl (by decide) (fun c_13 => ?_) (fun c_13 => absurd c_13 (by exact fun zq => zq (nI_le (a := k) (b := k) (by omega) (by omega))))
      refine g_iload_n (nx := 66) 2 F dX1_bestPrice_65 rfl rfl rfl ?_
      refine g_iret F E dX1_bestPrice_66 ?_
      have hB := bpC_end hs (Nat.le_refl k) (fun j j1 j2 => by omega) hb
      exact ⟨best, by rw [bpX_eq hB], rfl, hB⟩
    | succ q ih =>
      intro k best most z1 z2 hk hb h1 h2
      have hwk := (hw k (by omega)).2
      refine g_iload (nx := 9) F dX1_bestPrice_7 rfl rfl ?_
      refine g_aload_n (nx := 10) 0 F dX1_bestPrice_9 rfl rfl rfl ?_
      refine g_getV (nx := 13) (nI n) F dX1_bestPrice_10 rfl fl_RX1_18 rfl (by decide) (by decide) rfl rfl (hn) ?_
      refine g_icmp_ge (nx := 16) 65 F dX1_bestPrice_13 rfl (by decide) (fun c_13 => absurd c_13 (by exact nI_ge (a := k) (b := n) (by omega) (by omega))) (fun c_13 => ?_)
      refine g_aload_n (nx := 17) 0 F dX1_bestPrice_16 rfl rfl rfl ?_
      refine g_getR (nx := 20) F dX1_bestPrice_17 rfl fl_RX1_11 rfl (by decide) (by decide) rfl ?_
      refine g_iload (nx := 22) F dX1_bestPrice_20 rfl rfl ?_
      refine g_ialdN (nx := 23) (k) (nI (w k)) F dX1_bestPrice_22 rfl rfl (by omega) ((hw k (by omega)).1) ?_
      refine g_iload_n (nx := 24) 1 F dX1_bestPrice_23 rfl rfl rfl ?_
      refine g_icmp_le (nx := 27) 65 F dX1_bestPrice_24 rfl (by decide) (fun c_24 => ?_) (fun c_24 => ?_)
      · refine g_iload_n (nx := 66) 2 F dX1_bestPrice_65 rfl rfl rfl ?_
        refine g_iret F E dX1_bestPrice_66 ?_
        have hle : w k ≤ o := (nI_leI (by omega) (by omega)).mp c_24
        have hB := bpC_end hs (by omega) (fun j j1 j2 => by
          rcases Nat.lt_or_ge k j with z | z
          · have := hs k j z j2; omega
          · rw [show j = k by omega]; exact hle) hb
        exact ⟨best, by rw [bpX_eq hB], rfl, hB⟩
      · have hok : o < w k := (nI_ltI (by omega) (by omega)).mp (not_le_I.mp c_24)
        have hst := bpC_step hs (by omega) hok hb
        have hmul : (w k - o) * (k + 1) ≤ 10000 * 20 := Nat.mul_le_mul (by omega) (by omega)
        refine g_aload_n (nx := 28) 0 F dX1_bestPrice_27 rfl rfl rfl ?_
        refine g_getR (nx := 31) F dX1_bestPrice_28 rfl fl_RX1_11 rfl (by decide) (by decide) rfl ?_
        refine g_iload (nx := 33) F dX1_bestPrice_31 rfl rfl ?_
        refine g_ialdN (nx := 34) (k) (nI (w k)) F dX1_bestPrice_33 rfl rfl (by omega) ((hw k (by omega)).1) ?_
        refine g_iload_n (nx := 35) 1 F dX1_bestPrice_34 rfl rfl rfl ?_
        refine g_isub (nx := 36) F dX1_bestPrice_35 rfl ?_
        rw [pk_sub (by omega)]
        refine g_istore (nx := 38) F dX1_bestPrice_36 rfl (by decide) ?_
        try dsimp only [List.set]
        refine g_iload (nx := 40) F dX1_bestPrice_38 rfl rfl ?_
        refine g_iload (nx := 42) F dX1_bestPrice_40 rfl rfl ?_
        refine g_iconst (nx := 43) (1) F dX1_bestPrice_42 rfl rfl ?_
        refine g_iadd (nx := 44) F dX1_bestPrice_43 rfl ?_
        rw [nI_1]
        refine g_imul (nx := 45) F dX1_bestPrice_44 rfl ?_
        rw [pk_mul]
        refine g_istore (nx := 47) F dX1_bestPrice_45 rfl (by decide) ?_
        try dsimp only [List.set]
        refine g_iload (nx := 49) F dX1_bestPrice_47 rfl rfl ?_
        refine g_iload_n (nx := 50) 3 F dX1_bestPrice_49 rfl rfl rfl ?_
        refine g_icmp_lt (nx := 53) 59 F dX1_bestPrice_50 rfl (by decide) (fun c_50 => ?_) (fun c_50 => ?_)
        · refine g_iinc (nx := 62) (1) F dX1_bestPrice_59 rfl rfl (by decide) (by decide) ?_
          try dsimp only [List.set]
          refine g_goto 7 F dX1_bestPrice_62 (by decide) ?_
          rw [nI_1]
          first
            | exact ih (k + 1) (w k - o) ((w k - o) * (k + 1)) _ _ (by omega) (hst.1 ((nI_leI (by omega) (by omega)).mp (not_lt_I.mp c_50))) (by omega) (by omega)
            | exact ih (k + 1) best most _ _ (by omega) (hst.2 ((nI_ltI (by omega) (by omega)).mp c_50)) h1 h2
        · refine g_iload (nx := 55) F dX1_bestPrice_53 rfl rfl ?_
          refine g_istore_n (nx := 56) 2 F dX1_bestPrice_55 rfl rfl (by decide) ?_
          try dsimp only [List.set]
          refine g_iload (nx := 58) F dX1_bestPrice_56 rfl rfl ?_
          refine g_istore_n (nx := 59) 3 F dX1_bestPrice_58 rfl rfl (by decide) ?_
          try dsimp only [List.set]
          refine g_iinc (nx := 62) (1) F dX1_bestPrice_59 rfl rfl (by decide) (by decide) ?_
          try dsimp only [List.set]
          refine g_goto 7 F dX1_bestPrice_62 (by decide) ?_
          rw [nI_1]
          first
            | exact ih (k + 1) (w k - o) ((w k - o) * (k + 1)) _ _ (by omega) (hst.1 ((nI_leI (by omega) (by omega)).mp (not_lt_I.mp c_50))) (by omega) (by omega)
            | exact ih (k + 1) best most _ _ (by omega) (hst.2 ((nI_ltI (by omega) (by omega)).mp c_50)) h1 h2
  refine g_iconst (nx := 1) (0) F dX1_bestPrice_0 rfl rfl ?_
  refine g_istore_n (nx := 2) 2 F dX1_bestPrice_1 rfl rfl (by decide) ?_
  try dsimp only [List.set]
  refine g_iconst (nx := 3) (0) F dX1_bestPrice_2 rfl rfl ?_
  refine g_istore_n (nx := 4) 3 F dX1_bestPrice_3 rfl rfl (by decide) ?_
  try dsimp only [List.set]
  refine g_iconst (nx := 5) (0) F dX1_bestPrice_4 rfl rfl ?_
  refine g_istore (nx := 7) F dX1_bestPrice_5 rfl (by decide) ?_
  try dsimp only [List.set]
  exact L n 0 0 0 _ _ (by omega) ⟨fun j hj => absurd hj (Nat.not_lt_zero j), Or.inl ⟨rfl, rfl, rfl⟩⟩ (by omega) (by omega)
def bpK (w : Nat → Nat) (n o k best most : Nat) : Prop := (best = 0 ∧ most = 0 ∧ ∀ j, j < k → w j ≤ o) ∨ ∃ i, i < k ∧ o < w i ∧ best = w i - o ∧ most = best * cw w n (w i) ∧ ∀ j, j < k → o < w j → (w j - o) * cw w n (w j) ≤ most ∧ ((w j - o) * cw w n (w j) = most → best ≤ w j - o)
theorem bpK_end {w : Nat → Nat} {n o best most : Nat} (h : bpK w n o n best most) : IsBest w n o best := by
  rcases h with ⟨a1, _, a3⟩ | ⟨i, i1, i2, i3, i4, i5⟩
  · exact Or.inl ⟨a1, a3⟩
  · exact Or.inr ⟨i, i1, i2, i3, fun j hj hoj => by rw [← i4]; exact i5 j hj hoj⟩
theorem bpK_skip {w : Nat → Nat} {n o k best most : Nat} (ho : w k ≤ o) (h : bpK w n o k best most) : bpK w n o (k + 1) best most := by
  have hj : ∀ j, j < k + 1 → j < k ∨ j = k := fun j hj => by omega
  rcases h with ⟨a1, a2, a3⟩ | ⟨i, i1, i2, i3, i4, i5⟩
  · exact Or.inl ⟨a1, a2, fun j q => by rcases hj j q with z | rfl; exact a3 j z; exact ho⟩
  · exact Or.inr ⟨i, by omega, i2, i3, i4, fun j q hoj => by rcases hj j q with z | rfl; exact i5 j z hoj; omega⟩
theorem bpK_keep {w : Nat → Nat} {n o k best most : Nat} (hpos : 0 < cw w n (w k)) (ho : o < w k) (h : bpK w n o k best most) (hm : (w k - o) * cw w n (w k) < most ∨ ((w k - o) * cw w n (w k) = most ∧ best ≤ w k - o)) : bpK w n o (k + 1) best most := by
  have hj : ∀ j, j < k + 1 → j < k ∨ j = k := fun j hj => by omega
  have hp : 0 < (w k - o) * cw w n (w k) := Nat.mul_pos (by omega) hpos
  rcases h with ⟨a1, a2, a3⟩ | ⟨i, i1, i2, i3, i4, i5⟩
  · omega
  · refine Or.inr ⟨i, by omega, i2, i3, i4, fun j q hoj => ?_⟩
    rcases hj j q with z | rfl
    · exact i5 j z hoj
    · exact ⟨by omega, fun e => by omega⟩
theorem bpK_new {w : Nat → Nat} {n o k best most : Nat} (ho : o < w k) (h : bpK w n o k best most) (hm : most < (w k - o) * cw w n (w k) ∨ (most = (w k - o) * cw w n (w k) ∧ w k - o < best)) : bpK w n o (k + 1) (w k - o) ((w k - o) * cw w n (w k)) := by
  have hj : ∀ j, j < k + 1 → j < k ∨ j = k := fun j hj => by omega
  refine Or.inr ⟨k, by omega, ho, rfl, rfl, fun j q hoj => ?_⟩
  rcases hj j q with z | rfl
  · rcases h with ⟨a1, a2, a3⟩ | ⟨i, i1, i2, i3, i4, i5⟩
    · have := a3 j z; omega
    · have := i5 j z hoj
      exact ⟨by omega, fun e => by have := this.2; omega⟩
  · exact ⟨Nat.le_refl _, fun _ => Nat.le_refl _⟩
set_option maxHeartbeats 4000000 in
set_option maxRecDepth 100000 in
theorem k_bestPrice (n o : Nat) (w : Nat → Nat) (σ : zSt) (hn : σ 145 51 = nI n) (h : n ≤ 20) (ho : o ≤ 10000) (hw : ∀ k, k < n → σ 177 k = nI (w k) ∧ w k ≤ 10000) : Con mX12_bestPrice 1 [.ref 145, .int (nI o)] σ (fun r τ => ∃ p, r = some (.int (nI (bpX w n o))) ∧ τ = σ ∧ IsBest w n o p) := by
  refine Con.of (lv := [.ref 145, .int (nI o), .long 0, .long 0, .long 0, .long 0, .long 0]) mk_X12_bestPrice rfl (Nat.le_of_ble_eq_true rfl) rfl (fun X F E => ?_)
  have L : ∀ (q k best most : Nat) (z1 z2 : Value), k + q = n → bpK w n o k best most → best ≤ 10000 → most ≤ 200000 → Gs X 7 [.ref 145, .int (nI o), .int (nI best), .int (nI most), .int (nI k), z1, z2] [] σ := by
    intro q
    induction q with
    | zero =>
      intro k best most z1 z2 hk hb h1 h2
      have hk : k = n := hk
      subst hk
      refine g_iload (nx := 9) F dX12_bestPrice_7 rfl rfl ?_
      refine g_aload_n (nx := 10) 0 F dX12_bestPrice_9 rfl rfl rfl ?_
      refine g_getV (nx := 13) (nI k) F dX12_bestPrice_10 rfl fl_RX12_374 rfl (by decide) (by decide) rfl rfl (hn) ?_
      refine g_icmp_ge (nx := 16) 84 F dX12_bestPrice_13 rfl (by decide) (fun c_13 => ?_) (fun c_13 => absurd c_13 (by exact fun zq => zq (nI_le (a := k) (b := k) (by omega) (by omega))))
      refine g_iload_n (nx := 85) 2 F dX12_bestPrice_84 rfl rfl rfl ?_
      refine g_iret F E dX12_bestPrice_85 ?_
      have hB := bpK_end hb
      exact ⟨best, by rw [bpX_eq hB], rfl, hB⟩
    | succ q ih =>
      intro k best most z1 z2 hk hb h1 h2
      have hwk := (hw k (by omega)).2
      have hcp : 0 < cw w n (w k) := fb_ct_pos.mpr ⟨k, by omega, decide_eq_true (Nat.le_refl _)⟩
      have hcl : cw w n (w k) ≤ n := fb_ct_le _ n
      rcases Nat.lt_or_ge o (w k) with hok | hok
      · have hmul : (w k - o) * cw w n (w k) ≤ 10000 * 20 := Nat.mul_le_mul (by omega) (by omega)
        refine g_iload (nx := 9) F dX12_bestPrice_7 rfl rfl ?_
        refine g_aload_n (nx := 10) 0 F dX12_bestPrice_9 rfl rfl rfl ?_
        refine g_getV (nx := 13) (nI n) F dX12_bestPrice_10 rfl fl_RX12_374 rfl (by decide) (by decide) rfl rfl (hn) ?_
        refine g_icmp_ge (nx := 16) 84 F dX12_bestPrice_13 rfl (by decide) (fun c_13 => absurd c_13 (by exact nI_ge (a := k) (b := n) (by omega) (by omega))) (fun c_13 => ?_)
        refine g_aload_n (nx := 17) 0 F dX12_bestPrice_16 rfl rfl rfl ?_
        refine g_getR (nx := 20) F dX12_bestPrice_17 rfl fl_RX12_104 rfl (by decide) (by decide) rfl ?_
        refine g_iload (nx := 22) F dX12_bestPrice_20 rfl rfl ?_
        refine g_ialdN (nx := 23) (k) (nI (w k)) F dX12_bestPrice_22 rfl rfl (by omega) ((hw k (by omega)).1) ?_
        refine g_iload_n (nx := 24) 1 F dX12_bestPrice_23 rfl rfl rfl ?_
        refine g_isub (nx := 25) F dX12_bestPrice_24 rfl ?_
        rw [pk_sub (by omega)]
        refine g_istore (nx := 27) F dX12_bestPrice_25 rfl (by decide) ?_
        try dsimp only [List.set]
        refine g_iload (nx := 29) F dX12_bestPrice_27 rfl rfl ?_
        refine g_if_gt (nx := 32) 35 F dX12_bestPrice_29 rfl (by decide) (fun c_29 => ?_) (fun c_29 => absurd c_29 (by rw [show (0 : Int32) = nI 0 from rfl]; exact fun zq => zq (nI_lt (by omega) (by omega))))
        refine g_iload (nx := 37) F dX12_bestPrice_35 rfl rfl ?_
        refine g_aload_n (nx := 38) 0 F dX12_bestPrice_37 rfl rfl rfl ?_
        refine g_aload_n (nx := 39) 0 F dX12_bestPrice_38 rfl rfl rfl ?_
        refine g_getR (nx := 42) F dX12_bestPrice_39 rfl fl_RX12_104 rfl (by decide) (by decide) rfl ?_
        refine g_iload (nx := 44) F dX12_bestPrice_42 rfl rfl ?_
        refine g_ialdN (nx := 45) (k) (nI (w k)) F dX12_bestPrice_44 rfl rfl (by omega) ((hw k (by omega)).1) ?_
        refine g_callV (nx := 48) 1 0 [.int (nI (w k))] F dX12_bestPrice_45 rfl ml_RX12_377 mo_X12_whoPay rfl rfl rfl rfl (Nat.le_of_ble_eq_true rfl) (by first | decide | omega) (k_whoPay n (w k) w _ hn h (by omega) hw) (fun r_45 τ_45 q_45 => ?_)
        obtain ⟨rfl, et_45⟩ := q_45
        have et_45 := et_45.symm
        subst et_45
        dsimp only [Option.toList, List.append, List.cons_append, List.nil_append]
        refine g_imul (nx := 49) F dX12_bestPrice_48 rfl ?_
        rw [pk_mul]
        refine g_istore (nx := 51) F dX12_bestPrice_49 rfl (by decide) ?_
        try dsimp only [List.set]
        refine g_iload (nx := 53) F dX12_bestPrice_51 rfl rfl ?_
        refine g_iload_n (nx := 54) 3 F dX12_bestPrice_53 rfl rfl rfl ?_
        refine g_icmp_lt (nx := 57) 78 F dX12_bestPrice_54 rfl (by decide) (fun c_54 => ?_) (fun c_54 => ?_)
        · refine g_iinc (nx := 81) (1) F dX12_bestPrice_78 rfl rfl (by decide) (by decide) ?_
          try dsimp only [List.set]
          refine g_goto 7 F dX12_bestPrice_81 (by decide) ?_
          rw [nI_1]
          first
            | exact ih (k + 1) best most _ _ (by omega) (bpK_keep hcp hok hb (Or.inl ((nI_ltI (by omega) (by omega)).mp c_54))) h1 h2
            | exact ih (k + 1) best most _ _ (by omega) (bpK_keep hcp hok hb (Or.inr ⟨(nI_eq (by omega) (by omega)).mp c_60, (nI_leI (by omega) (by omega)).mp (not_lt_I.mp c_66)⟩)) h1 h2
            | exact ih (k + 1) (w k - o) ((w k - o) * cw w n (w k)) _ _ (by omega) (bpK_new hok hb (Or.inr ⟨((nI_eq (by omega) (by omega)).mp c_60).symm, (nI_ltI (by omega) (by omega)).mp c_66⟩)) (by omega) (by omega)
            | exact ih (k + 1) (w k - o) ((w k - o) * cw w n (w k)) _ _ (by omega) (bpK_new hok hb (Or.inl (by have a1 := (nI_leI (by omega) (by omega)).mp (not_lt_I.mp c_54); have a2 : (w k - o) * cw w n (w k) ≠ most := fun e => c_60 (by rw [e]); omega))) (by omega) (by omega)
        · refine g_iload (nx := 59) F dX12_bestPrice_57 rfl rfl ?_
          refine g_iload_n (nx := 60) 3 F dX12_bestPrice_59 rfl rfl rfl ?_
          refine g_icmp_ne (nx := 63) 72 F dX12_bestPrice_60 rfl (by decide) (fun c_60 => ?_) (fun c_60 => ?_)
          · refine g_iload (nx := 74) F dX12_bestPrice_72 rfl rfl ?_
            refine g_istore_n (nx := 75) 2 F dX12_bestPrice_74 rfl rfl (by decide) ?_
            try dsimp only [List.set]
            refine g_iload (nx := 77) F dX12_bestPrice_75 rfl rfl ?_
            refine g_istore_n (nx := 78) 3 F dX12_bestPrice_77 rfl rfl (by decide) ?_
            try dsimp only [List.set]
            refine g_iinc (nx := 81) (1) F dX12_bestPrice_78 rfl rfl (by decide) (by decide) ?_
            try dsimp only [List.set]
            refine g_goto 7 F dX12_bestPrice_81 (by decide) ?_
            rw [nI_1]
            first
              | exact ih (k + 1) best most _ _ (by omega) (bpK_keep hcp hok hb (Or.inl ((nI_ltI (by omega) (by omega)).mp c_54))) h1 h2
              | exact ih (k + 1) best most _ _ (by omega) (bpK_keep hcp hok hb (Or.inr ⟨(nI_eq (by omega) (by omega)).mp c_60, (nI_leI (by omega) (by omega)).mp (not_lt_I.mp c_66)⟩)) h1 h2
              | exact ih (k + 1) (w k - o) ((w k - o) * cw w n (w k)) _ _ (by omega) (bpK_new hok hb (Or.inr ⟨((nI_eq (by omega) (by omega)).mp c_60).symm, (nI_ltI (by omega) (by omega)).mp c_66⟩)) (by omega) (by omega)
              | exact ih (k + 1) (w k - o) ((w k - o) * cw w n (w k)) _ _ (by omega) (bpK_new hok hb (Or.inl (by have a1 := (nI_leI (by omega) (by omega)).mp (not_lt_I.mp c_54); have a2 : (w k - o) * cw w n (w k) ≠ most := fun e => c_60 (by rw [e]); omega))) (by omega) (by omega)
          · refine g_iload (nx := 65) F dX12_bestPrice_63 rfl rfl ?_
            refine g_iload_n (nx := 66) 2 F dX12_bestPrice_65 rfl rfl rfl ?_
            refine g_icmp_lt (nx := 69) 72 F dX12_bestPrice_66 rfl (by decide) (fun c_66 => ?_) (fun c_66 => ?_)
            · refine g_iload (nx := 74) F dX12_bestPrice_72 rfl rfl ?_
              refine g_istore_n (nx := 75) 2 F dX12_bestPrice_74 rfl rfl (by decide) ?_
              try dsimp only [List.set]
              refine g_iload (nx := 77) F dX12_bestPrice_75 rfl rfl ?_
              refine g_istore_n (nx := 78) 3 F dX12_bestPrice_77 rfl rfl (by decide) ?_
              try dsimp only [List.set]
              refine g_iinc (nx := 81) (1) F dX12_bestPrice_78 rfl rfl (by decide) (by decide) ?_
              try dsimp only [List.set]
              refine g_goto 7 F dX12_bestPrice_81 (by decide) ?_
              rw [nI_1]
              first
                | exact ih (k + 1) best most _ _ (by omega) (bpK_keep hcp hok hb (Or.inl ((nI_ltI (by omega) (by omega)).mp c_54))) h1 h2
                | exact ih (k + 1) best most _ _ (by omega) (bpK_keep hcp hok hb (Or.inr ⟨(nI_eq (by omega) (by omega)).mp c_60, (nI_leI (by omega) (by omega)).mp (not_lt_I.mp c_66)⟩)) h1 h2
                | exact ih (k + 1) (w k - o) ((w k - o) * cw w n (w k)) _ _ (by omega) (bpK_new hok hb (Or.inr ⟨((nI_eq (by omega) (by omega)).mp c_60).symm, (nI_ltI (by omega) (by omega)).mp c_66⟩)) (by omega) (by omega)
                | exact ih (k + 1) (w k - o) ((w k - o) * cw w n (w k)) _ _ (by omega) (bpK_new hok hb (Or.inl (by have a1 := (nI_leI (by omega) (by omega)).mp (not_lt_I.mp c_54); have a2 : (w k - o) * cw w n (w k) ≠ most := fun e => c_60 (by rw [e]); omega))) (by omega) (by omega)
            · refine g_goto 78 F dX12_bestPrice_69 (by decide) ?_
              refine g_iinc (nx := 81) (1) F dX12_bestPrice_78 rfl rfl (by decide) (by decide) ?_
              try dsimp only [List.set]
              refine g_goto 7 F dX12_bestPrice_81 (by decide) ?_
              rw [nI_1]
              first
                | exact ih (k + 1) best most _ _ (by omega) (bpK_keep hcp hok hb (Or.inl ((nI_ltI (by omega) (by omega)).mp c_54))) h1 h2
                | exact ih (k + 1) best most _ _ (by omega) (bpK_keep hcp hok hb (Or.inr ⟨(nI_eq (by omega) (by omega)).mp c_60, (nI_leI (by omega) (by omega)).mp (not_lt_I.mp c_66)⟩)) h1 h2
                | exact ih (k + 1) (w k - o) ((w k - o) * cw w n (w k)) _ _ (by omega) (bpK_new hok hb (Or.inr ⟨((nI_eq (by omega) (by omega)).mp c_60).symm, (nI_ltI (by omega) (by omega)).mp c_66⟩)) (by omega) (by omega)
                | exact ih (k + 1) (w k - o) ((w k - o) * cw w n (w k)) _ _ (by omega) (bpK_new hok hb (Or.inl (by have a1 := (nI_leI (by omega) (by omega)).mp (not_lt_I.mp c_54); have a2 : (w k - o) * cw w n (w k) ≠ most := fun e => c_60 (by rw [e]); omega))) (by omega) (by omega)
      · have hle : nI (w k) - nI o ≤ 0 := by
          rw [fa_le, pk_sub_toInt (by omega) (by omega)]
          simp only [Int32.toInt_zero]
          omega
        refine g_iload (nx := 9) F dX12_bestPrice_7 rfl rfl ?_
        refine g_aload_n (nx := 10) 0 F dX12_bestPrice_9 rfl rfl rfl ?_
        refine g_getV (nx := 13) (nI n) F dX12_bestPrice_10 rfl fl_RX12_374 rfl (by decide) (by decide) rfl rfl (hn) ?_
        refine g_icmp_ge (nx := 16) 84 F dX12_bestPrice_13 rfl (by decide) (fun c_13 => absurd c_13 (by exact nI_ge (a := k) (b := n) (by omega) (by omega))) (fun c_13 => ?_)
        refine g_aload_n (nx := 17) 0 F dX12_bestPrice_16 rfl rfl rfl ?_
        refine g_getR (nx := 20) F dX12_bestPrice_17 rfl fl_RX12_104 rfl (by decide) (by decide) rfl ?_
        refine g_iload (nx := 22) F dX12_bestPrice_20 rfl rfl ?_
        refine g_ialdN (nx := 23) (k) (nI (w k)) F dX12_bestPrice_22 rfl rfl (by omega) ((hw k (by omega)).1) ?_
        refine g_iload_n (nx := 24) 1 F dX12_bestPrice_23 rfl rfl rfl ?_
        refine g_isub (nx := 25) F dX12_bestPrice_24 rfl ?_
        refine g_istore (nx := 27) F dX12_bestPrice_25 rfl (by decide) ?_
        try dsimp only [List.set]
        refine g_iload (nx := 29) F dX12_bestPrice_27 rfl rfl ?_
        refine g_if_gt (nx := 32) 35 F dX12_bestPrice_29 rfl (by decide) (fun c_29 => absurd c_29 (by exact not_lt_I.mpr hle)) (fun c_29 => ?_)
        refine g_goto 78 F dX12_bestPrice_32 (by decide) ?_
        refine g_iinc (nx := 81) (1) F dX12_bestPrice_78 rfl rfl (by decide) (by decide) ?_
        try dsimp only [List.set]
        refine g_goto 7 F dX12_bestPrice_81 (by decide) ?_
        rw [nI_1]
        exact ih (k + 1) best most _ _ (by omega) (bpK_skip hok hb) h1 h2
  refine g_iconst (nx := 1) (0) F dX12_bestPrice_0 rfl rfl ?_
  refine g_istore_n (nx := 2) 2 F dX12_bestPrice_1 rfl rfl (by decide) ?_
  try dsimp only [List.set]
  refine g_iconst (nx := 3) (0) F dX12_bestPrice_2 rfl rfl ?_
  refine g_istore_n (nx := 4) 3 F dX12_bestPrice_3 rfl rfl (by decide) ?_
  try dsimp only [List.set]
  refine g_iconst (nx := 5) (0) F dX12_bestPrice_4 rfl rfl ?_
  refine g_istore (nx := 7) F dX12_bestPrice_5 rfl (by decide) ?_
  try dsimp only [List.set]
  exact L n 0 0 0 _ _ (by omega) (Or.inl ⟨rfl, rfl, fun j hj => absurd hj (Nat.not_lt_zero j)⟩) (by omega) (by omega)
