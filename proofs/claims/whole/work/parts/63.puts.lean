theorem cd_enc {v k : Nat} (hk : k < 256) (hv : v < 1000000) : nI v <<< ((8 : Int32) &&& 31) ||| nI k = nI (256 * v + k) := by
  rw [pk_shlN _ 8 rfl (by omega), show v * 2 ^ 8 = 2 ^ 8 * v by omega, fa_or_sum v (show k < 2 ^ 8 from hk)]
theorem pcS_put {σ : zSt} {t n p o l o2 v : Nat} {c op vl : Nat → Nat} (H : pcS σ t c n (p, o, l, op, vl)) (hl : l < p) (hv : v < 1000000) (ho : o2 < 13) : pcS (zu (zu σ (t + 1) l (nI (256 * v + ck o2))) t 1 (nI (l + 1))) t c n (p, o, l + 1, updN op l o2, updN vl l v) ∧ frC t σ (zu (zu σ (t + 1) l (nI (256 * v + ck o2))) t 1 (nI (l + 1))) := by
  obtain ⟨⟨a1, a2, a3, a4⟩, ⟨b1, b2, b3, b4, b5, b6⟩, ⟨c1, c2⟩, d1, d2, d3⟩ := H
  have hr := tx_rng a1
  have h16 : (zu (zu σ (t + 1) l (nI (256 * v + ck o2))) t 1 (nI (l + 1))) 16 = σ 16 := by rw [zu_ne _ (by omega), zu_ne _ (by omega)]
  refine ⟨⟨⟨a1, a2, a3, fun q hq => by rw [zu_ne _ (by omega), zu_ne _ (by omega)]; exact a4 q hq⟩, by rw [h16]; exact ⟨b1, b2, b3, b4, b5, b6⟩, ⟨zu_same _ _ _ _, fun k hk => ?_⟩, d1, by omega, d3⟩, ⟨fun a _ h2 h3 => by rw [zu_ne _ h2, zu_ne _ h3], fun k hk => by rw [zu_off _ _ _ _ _ hk, zu_ne _ (by omega)], by rw [h16]⟩⟩
  rw [zu_ne _ (by omega)]
  by_cases e : k = l
  · subst e
    rw [zu_same, updN_at, updN_at]
    exact ⟨rfl, hv, ho⟩
  · rw [zu_off _ _ _ _ _ e, updN_ne _ _ e, updN_ne _ _ e]
    exact c2 k (by omega)
theorem pcS_aim {σ : zSt} {t n p o l j : Nat} {c op vl : Nat → Nat} (H : pcS σ t c n (p, o, l, op, vl)) (hj : j < l) : pcS (zu σ (t + 1) j (nI (256 * l + ck (op j)))) t c n (p, o, l, op, updN vl j l) ∧ frC t σ (zu σ (t + 1) j (nI (256 * l + ck (op j)))) := by
  obtain ⟨⟨a1, a2, a3, a4⟩, ⟨b1, b2, b3, b4, b5, b6⟩, ⟨c1, c2⟩, d1, d2, d3⟩ := H
  have hr := tx_rng a1
  have h16 : (zu σ (t + 1) j (nI (256 * l + ck (op j)))) 16 = σ 16 := by rw [zu_ne _ (by omega)]
  refine ⟨⟨⟨a1, a2, a3, fun q hq => by rw [zu_ne _ (by omega)]; exact a4 q hq⟩, by rw [h16]; exact ⟨b1, b2, b3, b4, b5, b6⟩, ⟨by rw [zu_ne _ (by omega)]; exact c1, fun k hk => ?_⟩, d1, d2, d3⟩, ⟨fun a _ h2 h3 => by rw [zu_ne _ h3], fun k hk => by rw [zu_ne _ (by omega)], by rw [h16]⟩⟩
  by_cases e : k = j
  · subst e
    rw [zu_same, updN_at]
    exact ⟨rfl, by omega, (c2 k hk).2.2⟩
  · rw [zu_off _ _ _ _ _ e, updN_ne _ _ e]
    exact c2 k hk
theorem pcF_t {σ τ : zSt} {t n f p : Nat} (H : pcF σ t n f p) (h : ∀ a, a ≠ t → a ≠ t + 1 → τ a = σ a) (h1 : ∃ l, l ≤ 160 ∧ τ t 1 = nI l) (h2 : ∀ k, k ≠ 1 → τ t k = σ t k) : pcF τ t n f p ∧ frC t σ τ := by
  obtain ⟨a1, a2, a3, a4, a5, a6, a7, a8, a9, a10⟩ := H
  have hr := tx_rng a1
  have h16 := h 16 (by omega) (by omega)
  exact ⟨⟨a1, by rw [h16]; exact a2, by rw [h16]; exact a3, a4, by rw [h16]; exact a5, a6, by rw [h16]; exact a7, a8, a9, h1⟩, ⟨fun a _ b1 b2 => h a b1 b2, h2, by rw [h16]⟩⟩
set_option maxHeartbeats 4000000 in
set_option maxRecDepth 100000 in
theorem c_put (t n p o l o2 v : Nat) (c op vl : Nat → Nat) (σ : zSt) (H : pcS σ t c n (p, o, l, op, vl)) (hl : l < p) (hv : v < 1000000) (ho : o2 < 13) : Con mX10_put 0 [.ref t, .int (nI (ck o2)), .int (nI v)] σ (fun r τ => r = some (.int (nI l)) ∧ pcS τ t c n (p, o, l + 1, updN op l o2, updN vl l v) ∧ frC t σ τ) := by
  refine Con.of (lv := [.ref t, .int (nI (ck o2)), .int (nI v)]) mk_X10_put rfl (Nat.le_of_ble_eq_true rfl) rfl (fun X F E => ?_)
  have ht := H.1.1
  have hr := tx_rng ht
  have hl1 : σ t 1 = nI l := H.2.2.1.1
  have hn160 := H.1.2.2.1
  have hpn := H.2.2.2.1
  have hl160 : l < 160 := by omega
  have hP := pcS_put (v := v) (o2 := o2) H hl hv ho
  refine g_aload_n (nx := 1) 0 F dX10_put_0 rfl rfl rfl ?_
  refine g_getV (nx := 4) (nI l) F dX10_put_1 rfl fl_RX10_27 (tx_k ht) (by decide) (by decide) (tx_1 ht) rfl (hl1) ?_
  refine g_aload_n (nx := 5) 0 F dX10_put_4 rfl rfl rfl ?_
  refine g_getR (nx := 8) F dX10_put_5 rfl fl_RX10_9 (tx_k ht) (by decide) (by decide) (tx_0 ht) ?_
  refine g_alen (nx := 9) F dX10_put_8 rfl (tx_k1 ht) (Or.inr rfl) ?_
  refine g_icmp_lt (nx := 12) 17 F dX10_put_9 rfl (by decide) (fun c_9 => ?_) (fun c_9 => absurd c_9 (by exact fun zq => zq (nI_lt (b := 160) hl160 (by omega))))
  refine g_aload_n (nx := 18) 0 F dX10_put_17 rfl rfl rfl ?_
  refine g_getR (nx := 21) F dX10_put_18 rfl fl_RX10_9 (tx_k ht) (by decide) (by decide) (tx_0 ht) ?_
  refine g_aload_n (nx := 22) 0 F dX10_put_21 rfl rfl rfl ?_
  refine g_getV (nx := 25) (nI l) F dX10_put_22 rfl fl_RX10_27 (tx_k ht) (by decide) (by decide) (tx_1 ht) rfl (hl1) ?_
  refine g_iload_n (nx := 26) 2 F dX10_put_25 rfl rfl rfl ?_
  refine g_bipush (nx := 28) (8) F dX10_put_26 rfl (by decide) ?_
  refine g_ishl (nx := 29) F dX10_put_28 rfl ?_
  refine g_iload_n (nx := 30) 1 F dX10_put_29 rfl rfl rfl ?_
  refine g_ior (nx := 31) F dX10_put_30 rfl ?_
  refine g_top (nI (256 * v + ck o2)) (cd_enc (ck_lt o2) hv) ?_
  refine g_iastN (nx := 32) (l) F dX10_put_31 rfl (tx_k1 ht) (hl160) ?_
  refine g_aload_n (nx := 33) 0 F dX10_put_32 rfl rfl rfl ?_
  refine g_dup (nx := 34) F dX10_put_33 rfl rfl ?_
  refine g_getV (nx := 37) (nI l) F dX10_put_34 rfl fl_RX10_27 (tx_k ht) (by decide) (by decide) (tx_1 ht) rfl ((zur _ (show t ≠ t + 1 by omega) _ _ _).trans hl1) ?_
  refine g_iconst (nx := 38) (1) F dX10_put_37 rfl rfl ?_
  refine g_iadd (nx := 39) F dX10_put_38 rfl ?_
  rw [nI_1]
  refine g_putI (nx := 42) F dX10_put_39 rfl fl_RX10_27 fi_9_1 (tx_k ht) (by decide) (by decide) (tx_1 ht) rfl ?_
  refine g_aload_n (nx := 43) 0 F dX10_put_42 rfl rfl rfl ?_
  refine g_getV (nx := 46) (nI (l + 1)) F dX10_put_43 rfl fl_RX10_27 (tx_k ht) (by decide) (by decide) (tx_1 ht) rfl (zu_same _ _ _ _) ?_
  refine g_iconst (nx := 47) (1) F dX10_put_46 rfl rfl ?_
  refine g_isub (nx := 48) F dX10_put_47 rfl ?_
  refine g_iret F E dX10_put_48 ?_
  exact ⟨by rw [nI_pred], hP⟩
set_option maxHeartbeats 4000000 in
set_option maxRecDepth 100000 in
theorem c_putF (t n f p : Nat) (a b : Int32) (σ : zSt) (H : pcF σ t n f p) : Con mX10_put 0 [.ref t, .int a, .int b] σ (fun r τ => (∃ x : Int32, r = some (.int x)) ∧ pcF τ t n f p ∧ frC t σ τ) := by
  refine Con.of (lv := [.ref t, .int a, .int b]) mk_X10_put rfl (Nat.le_of_ble_eq_true rfl) rfl (fun X F E => ?_)
  have H0 := H
  obtain ⟨ht, a2, a3, a4, a5, a6, a7, a8, a9, l, hl0, hl1⟩ := H
  have hr := tx_rng ht
  rcases Nat.lt_or_ge l 160 with hl160 | hge
  · refine g_aload_n (nx := 1) 0 F dX10_put_0 rfl rfl rfl ?_
    refine g_getV (nx := 4) (nI l) F dX10_put_1 rfl fl_RX10_27 (tx_k ht) (by decide) (by decide) (tx_1 ht) rfl (hl1) ?_
    refine g_aload_n (nx := 5) 0 F dX10_put_4 rfl rfl rfl ?_
    refine g_getR (nx := 8) F dX10_put_5 rfl fl_RX10_9 (tx_k ht) (by decide) (by decide) (tx_0 ht) ?_
    refine g_alen (nx := 9) F dX10_put_8 rfl (tx_k1 ht) (Or.inr rfl) ?_
    refine g_icmp_lt (nx := 12) 17 F dX10_put_9 rfl (by decide) (fun c_9 => ?_) (fun c_9 => absurd c_9 (by exact fun zq => zq (nI_lt (b := 160) hl160 (by omega))))
    refine g_aload_n (nx := 18) 0 F dX10_put_17 rfl rfl rfl ?_
    refine g_getR (nx := 21) F dX10_put_18 rfl fl_RX10_9 (tx_k ht) (by decide) (by decide) (tx_0 ht) ?_
    refine g_aload_n (nx := 22) 0 F dX10_put_21 rfl rfl rfl ?_
    refine g_getV (nx := 25) (nI l) F dX10_put_22 rfl fl_RX10_27 (tx_k ht) (by decide) (by decide) (tx_1 ht) rfl (hl1) ?_
    refine g_iload_n (nx := 26) 2 F dX10_put_25 rfl rfl rfl ?_
    refine g_bipush (nx := 28) (8) F dX10_put_26 rfl (by decide) ?_
    refine g_ishl (nx := 29) F dX10_put_28 rfl ?_
    refine g_iload_n (nx := 30) 1 F dX10_put_29 rfl rfl rfl ?_
    refine g_ior (nx := 31) F dX10_put_30 rfl ?_
    refine g_iastN (nx := 32) (l) F dX10_put_31 rfl (tx_k1 ht) (hl160) ?_
    refine g_aload_n (nx := 33) 0 F dX10_put_32 rfl rfl rfl ?_
    refine g_dup (nx := 34) F dX10_put_33 rfl rfl ?_
    refine g_getV (nx := 37) (nI l) F dX10_put_34 rfl fl_RX10_27 (tx_k ht) (by decide) (by decide) (tx_1 ht) rfl ((zur _ (show t ≠ t + 1 by omega) _ _ _).trans hl1) ?_
    refine g_iconst (nx := 38) (1) F dX10_put_37 rfl rfl ?_
    refine g_iadd (nx := 39) F dX10_put_38 rfl ?_
    rw [nI_1]
    refine g_putI (nx := 42) F dX10_put_39 rfl fl_RX10_27 fi_9_1 (tx_k ht) (by decide) (by decide) (tx_1 ht) rfl ?_
    refine g_aload_n (nx := 43) 0 F dX10_put_42 rfl rfl rfl ?_
    refine g_getV (nx := 46) (nI (l + 1)) F dX10_put_43 rfl fl_RX10_27 (tx_k ht) (by decide) (by decide) (tx_1 ht) rfl (zu_same _ _ _ _) ?_
    refine g_iconst (nx := 47) (1) F dX10_put_46 rfl rfl ?_
    refine g_isub (nx := 48) F dX10_put_47 rfl ?_
    refine g_iret F E dX10_put_48 ?_
    exact ⟨⟨_, rfl⟩, pcF_t H0 (fun a b1 b2 => by rw [zu_ne _ b1, zu_ne _ b2]) ⟨l + 1, by omega, zu_same _ _ _ _⟩ (fun k hk => by rw [zu_off _ _ _ _ _ hk, zu_ne _ (by omega)])⟩
  · refine g_aload_n (nx := 1) 0 F dX10_put_0 rfl rfl rfl ?_
    refine g_getV (nx := 4) (nI l) F dX10_put_1 rfl fl_RX10_27 (tx_k ht) (by decide) (by decide) (tx_1 ht) rfl (hl1) ?_
    refine g_aload_n (nx := 5) 0 F dX10_put_4 rfl rfl rfl ?_
    refine g_getR (nx := 8) F dX10_put_5 rfl fl_RX10_9 (tx_k ht) (by decide) (by decide) (tx_0 ht) ?_
    refine g_alen (nx := 9) F dX10_put_8 rfl (tx_k1 ht) (Or.inr rfl) ?_
    refine g_icmp_lt (nx := 12) 17 F dX10_put_9 rfl (by decide) (fun c_9 => absurd c_9 (by exact nI_nlt (b := 160) hge (by omega))) (fun c_9 => ?_)
    refine g_aload_n (nx := 13) 0 F dX10_put_12 rfl rfl rfl ?_
    refine g_getI (nx := 16) F dX10_put_13 rfl fl_RX10_27 (tx_k ht) (by decide) (by decide) (tx_1 ht) rfl ?_
    refine g_iret F E dX10_put_16 ?_
    exact ⟨⟨_, rfl⟩, H0, frC.rf t σ⟩
set_option maxHeartbeats 4000000 in
set_option maxRecDepth 100000 in
theorem c_aim (t n p o l j : Nat) (c op vl : Nat → Nat) (σ : zSt) (H : pcS σ t c n (p, o, l, op, vl)) (hj : j < l) : Con mX10_aim 0 [.ref t, .int (nI j)] σ (fun r τ => r = none ∧ pcS τ t c n (p, o, l, op, updN vl j l) ∧ frC t σ τ) := by
  refine Con.of (lv := [.ref t, .int (nI j)]) mk_X10_aim rfl (Nat.le_of_ble_eq_true rfl) rfl (fun X F E => ?_)
  have ht := H.1.1
  have hr := tx_rng ht
  have hl1 : σ t 1 = nI l := H.2.2.1.1
  have hn160 := H.1.2.2.1
  have hpn := H.2.2.2.1
  have hlp := H.2.2.2.2.1
  have hcj := H.2.2.1.2 j hj
  have hP := pcS_aim H hj
  refine g_iload_n (nx := 1) 1 F dX10_aim_0 rfl rfl rfl ?_
  refine g_if_lt (nx := 4) 36 F dX10_aim_1 rfl (by decide) (fun c_1 => absurd c_1 (by exact nI_pos (by omega))) (fun c_1 => ?_)
  refine g_iload_n (nx := 5) 1 F dX10_aim_4 rfl rfl rfl ?_
  refine g_aload_n (nx := 6) 0 F dX10_aim_5 rfl rfl rfl ?_
  refine g_getV (nx := 9) (nI l) F dX10_aim_6 rfl fl_RX10_27 (tx_k ht) (by decide) (by decide) (tx_1 ht) rfl (hl1) ?_
  refine g_icmp_ge (nx := 12) 36 F dX10_aim_9 rfl (by decide) (fun c_9 => absurd c_9 (by exact nI_ge hj (by omega))) (fun c_9 => ?_)
  refine g_aload_n (nx := 13) 0 F dX10_aim_12 rfl rfl rfl ?_
  refine g_getR (nx := 16) F dX10_aim_13 rfl fl_RX10_9 (tx_k ht) (by decide) (by decide) (tx_0 ht) ?_
  refine g_iload_n (nx := 17) 1 F dX10_aim_16 rfl rfl rfl ?_
  refine g_aload_n (nx := 18) 0 F dX10_aim_17 rfl rfl rfl ?_
  refine g_getV (nx := 21) (nI l) F dX10_aim_18 rfl fl_RX10_27 (tx_k ht) (by decide) (by decide) (tx_1 ht) rfl (hl1) ?_
  refine g_bipush (nx := 23) (8) F dX10_aim_21 rfl (by decide) ?_
  refine g_ishl (nx := 24) F dX10_aim_23 rfl ?_
  refine g_aload_n (nx := 25) 0 F dX10_aim_24 rfl rfl rfl ?_
  refine g_getR (nx := 28) F dX10_aim_25 rfl fl_RX10_9 (tx_k ht) (by decide) (by decide) (tx_0 ht) ?_
  refine g_iload_n (nx := 29) 1 F dX10_aim_28 rfl rfl rfl ?_
  refine g_ialdN (nx := 30) (j) (nI (256 * vl j + ck (op j))) F dX10_aim_29 rfl (tx_k1 ht) (by omega) (hcj.1) ?_
  refine g_sipush (nx := 33) (255) F dX10_aim_30 rfl (by decide) ?_
  refine g_iand (nx := 34) F dX10_aim_33 rfl ?_
  rw [cd_kind (ck_lt _) hcj.2.1]
  refine g_ior (nx := 35) F dX10_aim_34 rfl ?_
  refine g_top (nI (256 * l + ck (op j))) (cd_enc (ck_lt _) (by omega)) ?_
  refine g_iastN (nx := 36) (j) F dX10_aim_35 rfl (tx_k1 ht) (by omega) ?_
  refine g_vret F E dX10_aim_36 ?_
  exact ⟨rfl, hP⟩
set_option maxHeartbeats 4000000 in
set_option maxRecDepth 100000 in
theorem c_aimF (t n f p : Nat) (j : Int32) (σ : zSt) (H : pcF σ t n f p) : Con mX10_aim 0 [.ref t, .int j] σ (fun r τ => r = none ∧ pcF τ t n f p ∧ frC t σ τ) := by
  refine Con.of (lv := [.ref t, .int j]) mk_X10_aim rfl (Nat.le_of_ble_eq_true rfl) rfl (fun X F E => ?_)
  have H0 := H
  obtain ⟨ht, a2, a3, a4, a5, a6, a7, a8, a9, l, hl0, hl1⟩ := H
  have hr := tx_rng ht
  refine g_iload_n (nx := 1) 1 F dX10_aim_0 rfl rfl rfl ?_
  refine g_if_lt (nx := 4) 36 F dX10_aim_1 rfl (by decide) (fun c_1 => ?_) (fun c_1 => ?_)
  · refine g_vret F E dX10_aim_36 ?_
    first
      | exact ⟨rfl, H0, frC.rf t σ⟩
      | exact ⟨rfl, pcF_t H0 (fun a b1 b2 => by rw [zu_ne _ b2]) ⟨l, hl0, (zur _ (show t ≠ t + 1 by omega) _ _ _).trans hl1⟩ (fun k hk => by rw [zu_ne _ (by omega)])⟩
  · refine g_iload_n (nx := 5) 1 F dX10_aim_4 rfl rfl rfl ?_
    refine g_aload_n (nx := 6) 0 F dX10_aim_5 rfl rfl rfl ?_
    refine g_getV (nx := 9) (nI l) F dX10_aim_6 rfl fl_RX10_27 (tx_k ht) (by decide) (by decide) (tx_1 ht) rfl (hl1) ?_
    refine g_icmp_ge (nx := 12) 36 F dX10_aim_9 rfl (by decide) (fun c_9 => ?_) (fun c_9 => ?_)
    · refine g_vret F E dX10_aim_36 ?_
      first
        | exact ⟨rfl, H0, frC.rf t σ⟩
        | exact ⟨rfl, pcF_t H0 (fun a b1 b2 => by rw [zu_ne _ b2]) ⟨l, hl0, (zur _ (show t ≠ t + 1 by omega) _ _ _).trans hl1⟩ (fun k hk => by rw [zu_ne _ (by omega)])⟩
    · obtain ⟨J, hJ, rfl⟩ : ∃ J : Nat, J < l ∧ j = nI J := by
        have h1 := not_lt_I.mp c_1
        have h2 := not_le_I.mp c_9
        rw [fa_le] at h1
        rw [fa_lt, nI_toInt (by omega)] at h2
        exact nI_ofr ⟨h1, h2⟩
      refine g_aload_n (nx := 13) 0 F dX10_aim_12 rfl rfl rfl ?_
      refine g_getR (nx := 16) F dX10_aim_13 rfl fl_RX10_9 (tx_k ht) (by decide) (by decide) (tx_0 ht) ?_
      refine g_iload_n (nx := 17) 1 F dX10_aim_16 rfl rfl rfl ?_
      refine g_aload_n (nx := 18) 0 F dX10_aim_17 rfl rfl rfl ?_
      refine g_getV (nx := 21) (nI l) F dX10_aim_18 rfl fl_RX10_27 (tx_k ht) (by decide) (by decide) (tx_1 ht) rfl (hl1) ?_
      refine g_bipush (nx := 23) (8) F dX10_aim_21 rfl (by decide) ?_
      refine g_ishl (nx := 24) F dX10_aim_23 rfl ?_
      refine g_aload_n (nx := 25) 0 F dX10_aim_24 rfl rfl rfl ?_
      refine g_getR (nx := 28) F dX10_aim_25 rfl fl_RX10_9 (tx_k ht) (by decide) (by decide) (tx_0 ht) ?_
      refine g_iload_n (nx := 29) 1 F dX10_aim_28 rfl rfl rfl ?_
      refine g_ialdN (nx := 30) (J) (_) F dX10_aim_29 rfl (tx_k1 ht) (by omega) (rfl) ?_
      refine g_sipush (nx := 33) (255) F dX10_aim_30 rfl (by decide) ?_
      refine g_iand (nx := 34) F dX10_aim_33 rfl ?_
      refine g_ior (nx := 35) F dX10_aim_34 rfl ?_
      refine g_iastN (nx := 36) (J) F dX10_aim_35 rfl (tx_k1 ht) (by omega) ?_
      refine g_vret F E dX10_aim_36 ?_
      first
        | exact ⟨rfl, H0, frC.rf t σ⟩
        | exact ⟨rfl, pcF_t H0 (fun a b1 b2 => by rw [zu_ne _ b2]) ⟨l, hl0, (zur _ (show t ≠ t + 1 by omega) _ _ _).trans hl1⟩ (fun k hk => by rw [zu_ne _ (by omega)])⟩
/-- what reading the tasks X says: it reads on to another state, or finds a FAULT -/
def pE (t n : Nat) (c : Nat → Nat) (hd : Nat → Bool) (X : TK) (σ : zSt) (p o l : Nat) (op vl : Nat → Nat) (W : (Nat → Nat) → (Nat → Nat) → Nat → Nat → Prop) (r : Option Value) (τ : zSt) : Prop :=
  (r = some (.int 1) ∧ ∃ p2 l2 op2 vl2, pcS τ t c n (p2, o, l2, op2, vl2) ∧ frC t σ τ ∧ p < p2 ∧ l2 + p ≤ l + p2 ∧ (∀ k, k < l → op2 k = op k ∧ vl2 k = vl k) ∧ W op2 vl2 l l2 ∧ ∀ K z, Rn c hd (X ++ K, (p, o, l, op, vl), z) (K, (p2, o, l2, op2, vl2), z)) ∨
  (r = some (.int 0) ∧ ∃ (f : Nat) (e : ES), pcF τ t n f e.1 ∧ frC t σ τ ∧ ∀ K z, Rn c hd (X ++ K, (p, o, l, op, vl), z) ([(99, f)], e, z))
set_option maxHeartbeats 4000000 in
set_option maxRecDepth 100000 in
theorem c_readNumber (t n p o l : Nat) (c op vl : Nat → Nat) (hd : Nat → Bool) (σ : zSt) (H : pcS σ t c n (p, o, l, op, vl)) (hd0 : dg (c p) = true) : Con mX5_readNumber 2 [.ref 16] σ (pE t n c hd [(0, 0)] σ p o l op vl (fun a b x y => wfE a b x y 1)) := by
  refine Con.of (lv := [.ref 16, .long 0, .long 0]) mk_X5_readNumber rfl (Nat.le_of_ble_eq_true rfl) rfl (fun X F E => ?_)
  have ht := H.1.1
  have hlp := H.2.2.2.2.1
  have M : ∀ (q v k : Nat) (τ : zSt), pcS τ t c n (q, o, l, op, vl) → frC t σ τ → numF c 5 p 0 = (q, v) → Gs X 39 [.ref 16, .int (nI v), .int (nI k)] [] τ := by
    intro q v k τ H2 hf hN
    have hq : p < q := by have := num_pos (q := 4) (v := 0) hd0; rw [hN] at this; exact this
    have hv : v < 100000 := by have := (num_rng (c := c) 5 p 0).1; rw [hN] at this; exact this
    have hcl := H2.2.1.1
    by_cases hA : dg (c q) = true
    · refine g_aload_n (nx := 40) 0 F dX5_readNumber_39 rfl rfl rfl ?_
      refine g_callV (nx := 43) 0 0 [] F dX5_readNumber_40 rfl ml_RX5_131 mo_X5_seesDigit rfl rfl rfl rfl (Nat.le_of_ble_eq_true rfl) (by first | decide | omega) (c_seesDigit t n _ _ _ c _ _ _ H2) (fun r_40 τ_40 q_40 => ?_)
      obtain ⟨rfl, et_40⟩ := q_40
      have et_40 := et_40.symm
      subst et_40
      dsimp only [Option.toList, List.append, List.cons_append, List.nil_append]
      refine g_if_eq (nx := 46) 52 F dX5_readNumber_43 rfl (by decide) (fun c_43 => absurd c_43 (by exact bI_n0.mpr hA)) (fun c_43 => ?_)
      refine g_aload_n (nx := 47) 0 F dX5_readNumber_46 rfl rfl rfl ?_
      refine g_iconst (nx := 48) (2) F dX5_readNumber_47 rfl rfl ?_
      show Gs X 48 _ (.int (nI 2) :: .ref 16 :: []) _
      refine g_callV (nx := 51) 1 0 [.int (nI 2)] F dX5_readNumber_48 rfl ml_RX5_52 mo_X5_fail rfl rfl rfl rfl (Nat.le_of_ble_eq_true rfl) (by first | decide | omega) (c_fail t n _ _ _ 2 c _ _ _ H2 (by decide)) (fun r_48 τ_48 q_48 => ?_)
      obtain ⟨rfl, hF_48, hf_48⟩ := q_48
      dsimp only [Option.toList, List.append, List.cons_append, List.nil_append]
      refine g_zret F E dX5_readNumber_51 (by first | rfl | assumption) ?_
      exact Or.inr ⟨rfl, 2, (q, o, l, op, vl), hF_48, hf.tr hf_48, fun K z => by have h1 := s0_six (c := c) (hd := hd) (K := K) (z := z) (a := 0) (o := o) (l := l) (op := op) (vl := vl) hd0 (by rw [hN]; exact hA); rw [hN] at h1; exact h1⟩
    · refine g_aload_n (nx := 40) 0 F dX5_readNumber_39 rfl rfl rfl ?_
      refine g_callV (nx := 43) 0 0 [] F dX5_readNumber_40 rfl ml_RX5_131 mo_X5_seesDigit rfl rfl rfl rfl (Nat.le_of_ble_eq_true rfl) (by first | decide | omega) (c_seesDigit t n _ _ _ c _ _ _ H2) (fun r_40 τ_40 q_40 => ?_)
      obtain ⟨rfl, et_40⟩ := q_40
      have et_40 := et_40.symm
      subst et_40
      dsimp only [Option.toList, List.append, List.cons_append, List.nil_append]
      refine g_if_eq (nx := 46) 52 F dX5_readNumber_43 rfl (by decide) (fun c_43 => ?_) (fun c_43 => absurd c_43 (by exact fun zq => zq (bI_f hA)))
      refine g_aload_n (nx := 53) 0 F dX5_readNumber_52 rfl rfl rfl ?_
      refine g_getD (nx := 56) F dX5_readNumber_53 rfl fl_RX5_12 rfl (by decide) (by decide) rfl rfl ?_
      rw [hcl]
      refine g_bipush (nx := 58) (48) F dX5_readNumber_56 rfl (by decide) ?_
      refine g_iload_n (nx := 59) 1 F dX5_readNumber_58 rfl rfl rfl ?_
      refine g_callV (nx := 62) 2 0 [.int (nI (ck 0)), .int (nI v)] F dX5_readNumber_59 rfl ml_RX5_109 mo_X10_put (tx_k H2.1.1) rfl rfl rfl (Nat.le_of_ble_eq_true rfl) (by first | decide | omega) (c_put t n _ _ _ 0 v c _ _ _ H2 (by omega) (by omega) (by omega)) (fun r_59 τ_59 q_59 => ?_)
      obtain ⟨rfl, hS_59, hf_59⟩ := q_59
      dsimp only [Option.toList, List.append, List.cons_append, List.nil_append]
      refine g_pop (nx := 63) F dX5_readNumber_62 rfl rfl ?_
      refine g_iconst (nx := 64) (1) F dX5_readNumber_63 rfl rfl ?_
      refine g_zret F E dX5_readNumber_64 (by first | rfl | assumption) ?_
      refine Or.inl ⟨rfl, q, l + 1, updN op l 0, updN vl l v, hS_59, hf.tr hf_59, hq, by omega, fun k hk => ⟨updN_ne _ _ (by omega), updN_ne _ _ (by omega)⟩, wfE_num (Or.inl ⟨updN_at _ _ _, by rw [updN_at]; exact hv⟩), fun K z => ?_⟩
      have h1 := s0_num (c := c) (hd := hd) (K := K) (z := z) (a := 0) (o := o) (l := l) (op := op) (vl := vl) hd0 (by rw [hN]; exact hA)
      rw [hN] at h1
      exact h1
  have L : ∀ (r k q v : Nat) (τ : zSt), k + r = 5 → pcS τ t c n (q, o, l, op, vl) → frC t σ τ → numF c r q v = numF c 5 p 0 → Gs X 4 [.ref 16, .int (nI v), .int (nI k)] [] τ := by
    intro r
    induction r with
    | zero =>
      intro k q v τ hk H2 hf hN
      have hk : k = 5 := hk
      subst hk
      refine g_iload_n (nx := 5) 2 F dX5_readNumber_4 rfl rfl rfl ?_
      refine g_iconst (nx := 6) (5) F dX5_readNumber_5 rfl rfl ?_
      refine g_icmp_ge (nx := 9) 39 F dX5_readNumber_6 rfl (by decide) (fun c_6 => ?_) (fun c_6 => absurd c_6 (by decide))
      exact M q v 5 τ H2 hf hN.symm
    | succ r ih =>
      intro k q v τ hk H2 hf hN
      rw [numF] at hN
      by_cases hA : dg (c q) = true
      · have hg := of_decide_eq_true hA
        have hlt := inC_lt (p := q) H2.1.2.1 (by omega)
        refine g_iload_n (nx := 5) 2 F dX5_readNumber_4 rfl rfl rfl ?_
        refine g_iconst (nx := 6) (5) F dX5_readNumber_5 rfl rfl ?_
        refine g_icmp_ge (nx := 9) 39 F dX5_readNumber_6 rfl (by decide) (fun c_6 => absurd c_6 (by exact nI_ge (b := 5) (by omega) (by omega))) (fun c_6 => ?_)
        refine g_aload_n (nx := 10) 0 F dX5_readNumber_9 rfl rfl rfl ?_
        refine g_callV (nx := 13) 0 0 [] F dX5_readNumber_10 rfl ml_RX5_131 mo_X5_seesDigit rfl rfl rfl rfl (Nat.le_of_ble_eq_true rfl) (by first | decide | omega) (c_seesDigit t n _ _ _ c _ _ _ H2) (fun r_10 τ_10 q_10 => ?_)
        obtain ⟨rfl, et_10⟩ := q_10
        have et_10 := et_10.symm
        subst et_10
        dsimp only [Option.toList, List.append, List.cons_append, List.nil_append]
        refine g_if_eq (nx := 16) 39 F dX5_readNumber_13 rfl (by decide) (fun c_13 => absurd c_13 (by exact bI_n0.mpr hA)) (fun c_13 => ?_)
        refine g_bipush (nx := 18) (10) F dX5_readNumber_16 rfl (by decide) ?_
        refine g_iload_n (nx := 19) 1 F dX5_readNumber_18 rfl rfl rfl ?_
        refine g_imul (nx := 20) F dX5_readNumber_19 rfl ?_
        refine g_aload_n (nx := 21) 0 F dX5_readNumber_20 rfl rfl rfl ?_
        refine g_getV (nx := 24) (sgI (c q)) F dX5_readNumber_21 rfl fl_RX5_30 rfl (by decide) (by decide) rfl rfl (H2.2.1.2.2.2.1) ?_
        refine g_iadd (nx := 25) F dX5_readNumber_24 rfl ?_
        refine g_bipush (nx := 27) (48) F dX5_readNumber_25 rfl (by decide) ?_
        refine g_isub (nx := 28) F dX5_readNumber_27 rfl ?_
        refine g_top (nI (10 * v + (c q - 48))) (by rw [show sgI (c q) = nI (c q) from if_neg (by omega), show (10 : Int32) = nI 10 from rfl, show (48 : Int32) = nI 48 from rfl, pk_mul, nI_add, pk_sub (by omega)]; exact congrArg nI (by omega)) ?_
        refine g_istore_n (nx := 29) 1 F dX5_readNumber_28 rfl rfl (by decide) ?_
        try dsimp only [List.set]
        refine g_aload_n (nx := 30) 0 F dX5_readNumber_29 rfl rfl rfl ?_
        refine g_callV (nx := 33) 0 1 [] F dX5_readNumber_30 rfl ml_RX5_68 mo_X5_advance rfl rfl rfl rfl (Nat.le_of_ble_eq_true rfl) (by first | decide | omega) (c_advance t n _ _ _ c _ _ _ H2 (hlt)) (fun r_30 τ_30 q_30 => ?_)
        obtain ⟨rfl, hS_30, hf_30⟩ := q_30
        dsimp only [Option.toList, List.append, List.cons_append, List.nil_append]
        refine g_iinc (nx := 36) (1) F dX5_readNumber_33 rfl rfl (by decide) (by decide) ?_
        try dsimp only [List.set]
        refine g_goto 4 F dX5_readNumber_36 (by decide) ?_
        rw [nI_1]
        rw [if_pos hA] at hN
        exact ih (k + 1) (q + 1) _ _ (by omega) hS_30 (hf.tr hf_30) hN
      · refine g_iload_n (nx := 5) 2 F dX5_readNumber_4 rfl rfl rfl ?_
        refine g_iconst (nx := 6) (5) F dX5_readNumber_5 rfl rfl ?_
        refine g_icmp_ge (nx := 9) 39 F dX5_readNumber_6 rfl (by decide) (fun c_6 => absurd c_6 (by exact nI_ge (b := 5) (by omega) (by omega))) (fun c_6 => ?_)
        refine g_aload_n (nx := 10) 0 F dX5_readNumber_9 rfl rfl rfl ?_
        refine g_callV (nx := 13) 0 0 [] F dX5_readNumber_10 rfl ml_RX5_131 mo_X5_seesDigit rfl rfl rfl rfl (Nat.le_of_ble_eq_true rfl) (by first | decide | omega) (c_seesDigit t n _ _ _ c _ _ _ H2) (fun r_10 τ_10 q_10 => ?_)
        obtain ⟨rfl, et_10⟩ := q_10
        have et_10 := et_10.symm
        subst et_10
        dsimp only [Option.toList, List.append, List.cons_append, List.nil_append]
        refine g_if_eq (nx := 16) 39 F dX5_readNumber_13 rfl (by decide) (fun c_13 => ?_) (fun c_13 => absurd c_13 (by exact fun zq => zq (bI_f hA)))
        rw [if_neg hA] at hN
        exact M q v k _ H2 hf hN.symm
  refine g_iconst (nx := 1) (0) F dX5_readNumber_0 rfl rfl ?_
  refine g_istore_n (nx := 2) 1 F dX5_readNumber_1 rfl rfl (by decide) ?_
  try dsimp only [List.set]
  refine g_iconst (nx := 3) (0) F dX5_readNumber_2 rfl rfl ?_
  refine g_istore_n (nx := 4) 2 F dX5_readNumber_3 rfl rfl (by decide) ?_
  try dsimp only [List.set]
  exact L 5 0 p 0 σ (by omega) H (frC.rf t σ) rfl
