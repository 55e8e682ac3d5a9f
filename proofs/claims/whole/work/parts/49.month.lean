theorem cp_top {c e : Nat} {pr wt : Nat → Int32} (h : c < 2 ^ e) : ∀ (q i : Nat) (best : Option Nat) (p w : Int32), e ≤ i → cpF c pr wt q i best p w = best
  | 0, _, _, _, _, _ => rfl
  | q + 1, i, best, p, w, hi => by
    rw [cpF, if_neg (fun z => absurd (bit_lt h z.1) (by omega))]
    exact cp_top h q (i + 1) best p w (by omega)
theorem cp_ten {c e : Nat} {pr wt : Nat → Int32} (h : c < 2 ^ e) : ∀ (q i m : Nat) (best : Option Nat) (p w : Int32), i + q = e → cpF c pr wt (q + m) i best p w = cpF c pr wt q i best p w
  | 0, i, m, best, p, w, hi => by
    rw [Nat.zero_add, cp_top h m i best p w (by omega)]
    rfl
  | q + 1, i, m, best, p, w, hi => by
    rw [show q + 1 + m = (q + m) + 1 by omega, cpF, cpF, cp_ten h q (i + 1) m _ _ _ (by omega), cp_ten h q (i + 1) m _ _ _ (by omega)]
set_option maxHeartbeats 4000000 in
set_option maxRecDepth 100000 in
theorem k_server (T : Nat → TXT) (D P σ0 : zSt) (n f s e a : Nat) (o y : Int32) (j : Nat) (σ : zSt) (he : EnvK σ0 D T s e) (hr : KR σ0 σ P) (hth : thK σ0 n f y) (ho : σ0 145 6 = o) (hj : j < n) (ha : a < s) (hP : P 0 j = nI a) (hD : okD D s e) (hx : ∃ x, x < 65536 ∧ P 8 0 = nI x) : Con mX12_server 4 [.ref 145, .int (nI j)] σ (fun r τ => r = some (.int (nI (srvI T D n o y P j))) ∧ KR σ0 τ (srvQ D P j)) := by
  have heσ := KR_env hr he
  have hs8 := heσ.2.2.2.2.2.2.2.1
  have hnf := hth.1
  have hf40 := hth.2.1
  have htσ := KR_th hr hth
  obtain ⟨c, hDc, hc0, hc10, hce, hcw, hst, hsi, _⟩ := srvI_ok (T := T) (n := n) (o := o) (y := y) hD ha hs8 hP
  have he10 := hD.1
  have hb10 := bcN_le c hc10
  have hb0 := bc_pos c hc10 hc0
  obtain ⟨x, hx, hPx⟩ := hx
  have hnx : nxN (P 8 0) = (25173 * x + 13849) % 65536 := by unfold nxN; rw [hPx, nI_tn (by omega)]
  have hix : (25173 : Int32) * nI x + 13849 - (25173 * nI x + 13849) / 65536 * 65536 = nI (nxN (P 8 0)) := by
    rw [show (25173 : Int32) = nI 25173 from rfl, show (13849 : Int32) = nI 13849 from rfl, show (65536 : Int32) = nI 65536 from rfl, pk_mul, nI_add, pk_rem (by omega) (by decide) (by decide), hnx]
  have hix2 : nI (nxN (P 8 0)) - nI (nxN (P 8 0)) / nI (bcN c) * nI (bcN c) = nI (nxN (P 8 0) % bcN c) := pk_rem (by rw [hnx]; omega) hb0 (by omega)
  have hcp : cpF c (fun i => prP T D P n o y i j) (fun i => wtP T D P n o y i j) 10 0 none 0 0 = cpF c (fun i => prP T D P n o y i j) (fun i => wtP T D P n o y i j) e 0 none 0 0 := by
    have := cp_ten (pr := (fun i => prP T D P n o y i j)) (wt := (fun i => wtP T D P n o y i j)) hce e 0 (10 - e) none 0 0 (by omega)
    rw [show e + (10 - e) = 10 by omega] at this
    exact this
  have hsome : ∃ k, cpF c (fun i => prP T D P n o y i j) (fun i => wtP T D P n o y i j) e 0 none 0 0 = some k := by
    have := cp_ok (c := c) (pr := (fun i => prP T D P n o y i j)) (wt := (fun i => wtP T D P n o y i j)) 10 0 none 0 0 (fun k hk => by cases hk)
    obtain ⟨k, k1, k2⟩ := bit_ex c hc10 hc0
    have hn := this.2 (Or.inr ⟨k, by omega, by omega, k2⟩)
    rw [hcp] at hn
    cases h : cpF c (fun i => prP T D P n o y i j) (fun i => wtP T D P n o y i j) e 0 none 0 0 with
    | none => exact absurd h hn
    | some k => exact ⟨k, rfl⟩
  have hsI : srvI T D n o y P j = if D 3 a = 0 then loF c 10 0 0 else if D 3 a = 2 then loF c 10 0 (nxN (P 8 0) % bcN c) else (cpF c (fun i => prP T D P n o y i j) (fun i => wtP T D P n o y i j) e 0 none 0 0).getD 0 := by unfold srvI; rw [hcw, hst, hcp]
  have hsQ : srvQ D P j = if D 3 a = 2 then zu P 8 0 (nI (nxN (P 8 0))) else P := by unfold srvQ; rw [hst]
  have hlt : nxN (P 8 0) % bcN c < bcN c := Nat.mod_lt _ hb0
  rw [hsI, hsQ]
  refine Con.of (lv := [.ref 145, .int (nI j), .long 0, .long 0, .long 0, .long 0, .long 0, .long 0]) mk_X12_server rfl (Nat.le_of_ble_eq_true rfl) rfl (fun X F E => ?_)
  have L : ∀ (q i : Nat) (best : Option Nat) (p w : Int32) (τ : zSt), i + q = e → (∀ k, best = some k → k < 10) → KR σ0 τ P → cpF c (fun i => prP T D P n o y i j) (fun i => wtP T D P n o y i j) q i best p w = cpF c (fun i => prP T D P n o y i j) (fun i => wtP T D P n o y i j) e 0 none 0 0 → D 3 a ≠ 0 → D 3 a ≠ 2 → Gs X 87 [.ref 145, .int (nI j), .int (nI c), .int (D 3 a), .int (bO best), .int p, .int w, .int (nI i)] [] τ := by
    intro q
    induction q with
    | zero =>
      intro i best p w τ hi hb hr hA s0 s2
      have hi : i = e := hi
      subst hi
      have heτ := KR_env hr he
      obtain ⟨k, hk⟩ := hsome
      refine g_iload (nx := 89) F dX12_server_87 rfl rfl ?_
      refine g_aload_n (nx := 90) 0 F dX12_server_89 rfl rfl rfl ?_
      refine g_getV (nx := 93) (nI i) F dX12_server_90 rfl fl_RX12_165 rfl (by decide) (by decide) rfl rfl (heτ.2.2.2.2.2.2.2.2.1) ?_
      refine g_icmp_ge (nx := 96) 173 F dX12_server_93 rfl (by decide) (fun c_93 => ?_) (fun c_93 => absurd c_93 (by exact fun zq => zq (nI_le (Nat.le_refl i) (by omega))))
      refine g_iload (nx := 175) F dX12_server_173 rfl rfl ?_
      refine g_iret F E dX12_server_175 ?_
      rw [if_neg s0, if_neg s2, if_neg s2, hk]
      have hA : best = _ := hA
      rw [hk] at hA
      exact ⟨by rw [hA]; rfl, hr⟩
    | succ q ih =>
      intro i best p w τ hi hb hr hA s0 s2
      have ih := fun i2 b2 p2 w2 τ2 z1 z2 z3 z4 => ih i2 b2 p2 w2 τ2 z1 z2 z3 z4 s0 s2
      have hbit := bit_ok c hc10 i (by omega)
      have heτ := KR_env hr he
      have htτ := KR_th hr hth
      rw [cpF] at hA
      refine g_iload (nx := 89) F dX12_server_87 rfl rfl ?_
      refine g_aload_n (nx := 90) 0 F dX12_server_89 rfl rfl rfl ?_
      refine g_getV (nx := 93) (nI e) F dX12_server_90 rfl fl_RX12_165 rfl (by decide) (by decide) rfl rfl (heτ.2.2.2.2.2.2.2.2.1) ?_
      refine g_icmp_ge (nx := 96) 173 F dX12_server_93 rfl (by decide) (fun c_93 => absurd c_93 (by exact nI_ge (by omega) (by omega))) (fun c_93 => ?_)
      refine g_iload_n (nx := 97) 2 F dX12_server_96 rfl rfl rfl ?_
      refine g_iload (nx := 99) F dX12_server_97 rfl rfl ?_
      refine g_ishr (nx := 100) F dX12_server_99 rfl ?_
      refine g_iconst (nx := 101) (1) F dX12_server_100 rfl rfl ?_
      refine g_iand (nx := 102) F dX12_server_101 rfl ?_
      rw [hbit]
      refine g_if_ne (nx := 105) 108 F dX12_server_102 rfl (by decide) (fun c_102 => ?_) (fun c_102 => ?_)
      · refine g_aload_n (nx := 109) 0 F dX12_server_108 rfl rfl rfl ?_
        refine g_iload (nx := 111) F dX12_server_109 rfl rfl ?_
        refine g_iload_n (nx := 112) 1 F dX12_server_111 rfl rfl rfl ?_
        refine g_callV (nx := 115) 2 3 [.int (nI i), .int (nI j)] F dX12_server_112 rfl ml_RX12_331 mo_X12_asksOf rfl rfl rfl rfl (Nat.le_of_ble_eq_true rfl) (by first | decide | omega) (k_asksOf T D P σ0 n f s e a o y i j _ heτ hr htτ ho (by omega) hj (by omega) hP) (fun r_112 τ_112 q_112 => ?_)
        obtain ⟨rfl, hr3, hp3, hw3⟩ := q_112
        dsimp only [Option.toList, List.append, List.cons_append, List.nil_append]
        refine g_iload (nx := 117) F dX12_server_115 rfl rfl ?_
        refine g_iconst (nx := 118) (-1) F dX12_server_117 rfl rfl ?_
        refine g_icmp_eq (nx := 121) 151 F dX12_server_118 rfl (by decide) (fun c_118 => ?_) (fun c_118 => ?_)
        · refine g_iload (nx := 153) F dX12_server_151 rfl rfl ?_
          refine g_istore (nx := 155) F dX12_server_153 rfl (by decide) ?_
          try dsimp only [List.set]
          refine g_aload_n (nx := 156) 0 F dX12_server_155 rfl rfl rfl ?_
          refine g_getV (nx := 159) (prP T D P n o y i j) F dX12_server_156 rfl fl_RX12_318 rfl (by decide) (by decide) rfl rfl (hp3) ?_
          refine g_istore (nx := 161) F dX12_server_159 rfl (by decide) ?_
          try dsimp only [List.set]
          refine g_aload_n (nx := 162) 0 F dX12_server_161 rfl rfl rfl ?_
          refine g_getV (nx := 165) (wtP T D P n o y i j) F dX12_server_162 rfl fl_RX12_321 rfl (by decide) (by decide) rfl rfl (hw3) ?_
          refine g_istore (nx := 167) F dX12_server_165 rfl (by decide) ?_
          try dsimp only [List.set]
          refine g_iinc (nx := 170) (1) F dX12_server_167 rfl rfl (by decide) (by decide) ?_
          try dsimp only [List.set]
          refine g_goto 87 F dX12_server_170 (by decide) ?_
          rw [nI_1]
          first
            | (have hq : ¬ (c / 2 ^ i % 2 = 1 ∧ (best = none ∨ prP T D P n o y i j < p ∨ (prP T D P n o y i j = p ∧ wtP T D P n o y i j < w))) := fun z0 => (bt_0 _).mp c_102 z0.1; rw [if_neg hq] at hA; exact ih (i + 1) best p w _ (by omega) hb hr hA)
            | (have hq : c / 2 ^ i % 2 = 1 ∧ (best = none ∨ prP T D P n o y i j < p ∨ (prP T D P n o y i j = p ∧ wtP T D P n o y i j < w)) := ⟨(Classical.byContradiction (fun z0 => c_102 ((bt_0 _).mpr z0))), Or.inl (bO_none hb c_118)⟩; rw [if_pos hq] at hA; exact ih (i + 1) (some i) _ _ _ (by omega) (fun k hk => by cases hk; omega) hr3 hA)
            | (have hq : ¬ (c / 2 ^ i % 2 = 1 ∧ (best = none ∨ prP T D P n o y i j < p ∨ (prP T D P n o y i j = p ∧ wtP T D P n o y i j < w))) := fun z0 => z0.2.elim (fun z1 => c_118 (congrArg bO z1)) (fun z1 => z1.elim (fun z2 => absurd (fa_of_lt c_127).2.2.1 (fun z3 => z3 z2)) (fun z2 => (fa_of_lt c_127).2.2.2.2 z2.1)); rw [if_neg hq] at hA; exact ih (i + 1) best p w _ (by omega) hb hr3 hA)
            | (have hq : c / 2 ^ i % 2 = 1 ∧ (best = none ∨ prP T D P n o y i j < p ∨ (prP T D P n o y i j = p ∧ wtP T D P n o y i j < w)) := ⟨(Classical.byContradiction (fun z0 => c_102 ((bt_0 _).mpr z0))), Or.inr (Or.inl (fa_le_ne (not_lt_I.mp c_127) c_136))⟩; rw [if_pos hq] at hA; exact ih (i + 1) (some i) _ _ _ (by omega) (fun k hk => by cases hk; omega) hr3 hA)
            | (have hq : c / 2 ^ i % 2 = 1 ∧ (best = none ∨ prP T D P n o y i j < p ∨ (prP T D P n o y i j = p ∧ wtP T D P n o y i j < w)) := ⟨(Classical.byContradiction (fun z0 => c_102 ((bt_0 _).mpr z0))), Or.inr (Or.inr ⟨c_136, c_145⟩)⟩; rw [if_pos hq] at hA; exact ih (i + 1) (some i) _ _ _ (by omega) (fun k hk => by cases hk; omega) hr3 hA)
            | (have hq : ¬ (c / 2 ^ i % 2 = 1 ∧ (best = none ∨ prP T D P n o y i j < p ∨ (prP T D P n o y i j = p ∧ wtP T D P n o y i j < w))) := fun z0 => z0.2.elim (fun z1 => c_118 (congrArg bO z1)) (fun z1 => z1.elim (fun z2 => absurd (show prP T D P n o y i j = p from c_136) (fa_of_lt z2).2.2.2.1) (fun z2 => c_145 z2.2)); rw [if_neg hq] at hA; exact ih (i + 1) best p w _ (by omega) hb hr3 hA)
        · refine g_aload_n (nx := 122) 0 F dX12_server_121 rfl rfl rfl ?_
          refine g_getV (nx := 125) (prP T D P n o y i j) F dX12_server_122 rfl fl_RX12_318 rfl (by decide) (by decide) rfl rfl (hp3) ?_
          refine g_iload (nx := 127) F dX12_server_125 rfl rfl ?_
          refine g_icmp_gt (nx := 130) 167 F dX12_server_127 rfl (by decide) (fun c_127 => ?_) (fun c_127 => ?_)
          · refine g_iinc (nx := 170) (1) F dX12_server_167 rfl rfl (by decide) (by decide) ?_
            try dsimp only [List.set]
            refine g_goto 87 F dX12_server_170 (by decide) ?_
            rw [nI_1]
            first
              | (have hq : ¬ (c / 2 ^ i % 2 = 1 ∧ (best = none ∨ prP T D P n o y i j < p ∨ (prP T D P n o y i j = p ∧ wtP T D P n o y i j < w))) := fun z0 => (bt_0 _).mp c_102 z0.1; rw [if_neg hq] at hA; exact ih (i + 1) best p w _ (by omega) hb hr hA)
              | (have hq : c / 2 ^ i % 2 = 1 ∧ (best = none ∨ prP T D P n o y i j < p ∨ (prP T D P n o y i j = p ∧ wtP T D P n o y i j < w)) := ⟨(Classical.byContradiction (fun z0 => c_102 ((bt_0 _).mpr z0))), Or.inl (bO_none hb c_118)⟩; rw [if_pos hq] at hA; exact ih (i + 1) (some i) _ _ _ (by omega) (fun k hk => by cases hk; omega) hr3 hA)
              | (have hq : ¬ (c / 2 ^ i % 2 = 1 ∧ (best = none ∨ prP T D P n o y i j < p ∨ (prP T D P n o y i j = p ∧ wtP T D P n o y i j < w))) := fun z0 => z0.2.elim (fun z1 => c_118 (congrArg bO z1)) (fun z1 => z1.elim (fun z2 => absurd (fa_of_lt c_127).2.2.1 (fun z3 => z3 z2)) (fun z2 => (fa_of_lt c_127).2.2.2.2 z2.1)); rw [if_neg hq] at hA; exact ih (i + 1) best p w _ (by omega) hb hr3 hA)
              | (have hq : c / 2 ^ i % 2 = 1 ∧ (best = none ∨ prP T D P n o y i j < p ∨ (prP T D P n o y i j = p ∧ wtP T D P n o y i j < w)) := ⟨(Classical.byContradiction (fun z0 => c_102 ((bt_0 _).mpr z0))), Or.inr (Or.inl (fa_le_ne (not_lt_I.mp c_127) c_136))⟩; rw [if_pos hq] at hA; exact ih (i + 1) (some i) _ _ _ (by omega) (fun k hk => by cases hk; omega) hr3 hA)
              | (have hq : c / 2 ^ i % 2 = 1 ∧ (best = none ∨ prP T D P n o y i j < p ∨ (prP T D P n o y i j = p ∧ wtP T D P n o y i j < w)) := ⟨(Classical.byContradiction (fun z0 => c_102 ((bt_0 _).mpr z0))), Or.inr (Or.inr ⟨c_136, c_145⟩)⟩; rw [if_pos hq] at hA; exact ih (i + 1) (some i) _ _ _ (by omega) (fun k hk => by cases hk; omega) hr3 hA)
              | (have hq : ¬ (c / 2 ^ i % 2 = 1 ∧ (best = none ∨ prP T D P n o y i j < p ∨ (prP T D P n o y i j = p ∧ wtP T D P n o y i j < w))) := fun z0 => z0.2.elim (fun z1 => c_118 (congrArg bO z1)) (fun z1 => z1.elim (fun z2 => absurd (show prP T D P n o y i j = p from c_136) (fa_of_lt z2).2.2.2.1) (fun z2 => c_145 z2.2)); rw [if_neg hq] at hA; exact ih (i + 1) best p w _ (by omega) hb hr3 hA)
          · refine g_aload_n (nx := 131) 0 F dX12_server_130 rfl rfl rfl ?_
            refine g_getV (nx := 134) (prP T D P n o y i j) F dX12_server_131 rfl fl_RX12_318 rfl (by decide) (by decide) rfl rfl (hp3) ?_
            refine g_iload (nx := 136) F dX12_server_134 rfl rfl ?_
            refine g_icmp_ne (nx := 139) 151 F dX12_server_136 rfl (by decide) (fun c_136 => ?_) (fun c_136 => ?_)
            · refine g_iload (nx := 153) F dX12_server_151 rfl rfl ?_
              refine g_istore (nx := 155) F dX12_server_153 rfl (by decide) ?_
              try dsimp only [List.set]
              refine g_aload_n (nx := 156) 0 F dX12_server_155 rfl rfl rfl ?_
              refine g_getV (nx := 159) (prP T D P n o y i j) F dX12_server_156 rfl fl_RX12_318 rfl (by decide) (by decide) rfl rfl (hp3) ?_
              refine g_istore (nx := 161) F dX12_server_159 rfl (by decide) ?_
              try dsimp only [List.set]
              refine g_aload_n (nx := 162) 0 F dX12_server_161 rfl rfl rfl ?_
              refine g_getV (nx := 165) (wtP T D P n o y i j) F dX12_server_162 rfl fl_RX12_321 rfl (by decide) (by decide) rfl rfl (hw3) ?_
              refine g_istore (nx := 167) F dX12_server_165 rfl (by decide) ?_
              try dsimp only [List.set]
              refine g_iinc (nx := 170) (1) F dX12_server_167 rfl rfl (by decide) (by decide) ?_
              try dsimp only [List.set]
              refine g_goto 87 F dX12_server_170 (by decide) ?_
              rw [nI_1]
              first
                | (have hq : ¬ (c / 2 ^ i % 2 = 1 ∧ (best = none ∨ prP T D P n o y i j < p ∨ (prP T D P n o y i j = p ∧ wtP T D P n o y i j < w))) := fun z0 => (bt_0 _).mp c_102 z0.1; rw [if_neg hq] at hA; exact ih (i + 1) best p w _ (by omega) hb hr hA)
                | (have hq : c / 2 ^ i % 2 = 1 ∧ (best = none ∨ prP T D P n o y i j < p ∨ (prP T D P n o y i j = p ∧ wtP T D P n o y i j < w)) := ⟨(Classical.byContradiction (fun z0 => c_102 ((bt_0 _).mpr z0))), Or.inl (bO_none hb c_118)⟩; rw [if_pos hq] at hA; exact ih (i + 1) (some i) _ _ _ (by omega) (fun k hk => by cases hk; omega) hr3 hA)
                | (have hq : ¬ (c / 2 ^ i % 2 = 1 ∧ (best = none ∨ prP T D P n o y i j < p ∨ (prP T D P n o y i j = p ∧ wtP T D P n o y i j < w))) := fun z0 => z0.2.elim (fun z1 => c_118 (congrArg bO z1)) (fun z1 => z1.elim (fun z2 => absurd (fa_of_lt c_127).2.2.1 (fun z3 => z3 z2)) (fun z2 => (fa_of_lt c_127).2.2.2.2 z2.1)); rw [if_neg hq] at hA; exact ih (i + 1) best p w _ (by omega) hb hr3 hA)
                | (have hq : c / 2 ^ i % 2 = 1 ∧ (best = none ∨ prP T D P n o y i j < p ∨ (prP T D P n o y i j = p ∧ wtP T D P n o y i j < w)) := ⟨(Classical.byContradiction (fun z0 => c_102 ((bt_0 _).mpr z0))), Or.inr (Or.inl (fa_le_ne (not_lt_I.mp c_127) c_136))⟩; rw [if_pos hq] at hA; exact ih (i + 1) (some i) _ _ _ (by omega) (fun k hk => by cases hk; omega) hr3 hA)
                | (have hq : c / 2 ^ i % 2 = 1 ∧ (best = none ∨ prP T D P n o y i j < p ∨ (prP T D P n o y i j = p ∧ wtP T D P n o y i j < w)) := ⟨(Classical.byContradiction (fun z0 => c_102 ((bt_0 _).mpr z0))), Or.inr (Or.inr ⟨c_136, c_145⟩)⟩; rw [if_pos hq] at hA; exact ih (i + 1) (some i) _ _ _ (by omega) (fun k hk => by cases hk; omega) hr3 hA)
                | (have hq : ¬ (c / 2 ^ i % 2 = 1 ∧ (best = none ∨ prP T D P n o y i j < p ∨ (prP T D P n o y i j = p ∧ wtP T D P n o y i j < w))) := fun z0 => z0.2.elim (fun z1 => c_118 (congrArg bO z1)) (fun z1 => z1.elim (fun z2 => absurd (show prP T D P n o y i j = p from c_136) (fa_of_lt z2).2.2.2.1) (fun z2 => c_145 z2.2)); rw [if_neg hq] at hA; exact ih (i + 1) best p w _ (by omega) hb hr3 hA)
            · refine g_aload_n (nx := 140) 0 F dX12_server_139 rfl rfl rfl ?_
              refine g_getV (nx := 143) (wtP T D P n o y i j) F dX12_server_140 rfl fl_RX12_321 rfl (by decide) (by decide) rfl rfl (hw3) ?_
              refine g_iload (nx := 145) F dX12_server_143 rfl rfl ?_
              refine g_icmp_lt (nx := 148) 151 F dX12_server_145 rfl (by decide) (fun c_145 => ?_) (fun c_145 => ?_)
              · refine g_iload (nx := 153) F dX12_server_151 rfl rfl ?_
                refine g_istore (nx := 155) F dX12_server_153 rfl (by decide) ?_
                try dsimp only [List.set]
                refine g_aload_n (nx := 156) 0 F dX12_server_155 rfl rfl rfl ?_
                refine g_getV (nx := 159) (prP T D P n o y i j) F dX12_server_156 rfl fl_RX12_318 rfl (by decide) (by decide) rfl rfl (hp3) ?_
                refine g_istore (nx := 161) F dX12_server_159 rfl (by decide) ?_
                try dsimp only [List.set]
                refine g_aload_n (nx := 162) 0 F dX12_server_161 rfl rfl rfl ?_
                refine g_getV (nx := 165) (wtP T D P n o y i j) F dX12_server_162 rfl fl_RX12_321 rfl (by decide) (by decide) rfl rfl (hw3) ?_
                refine g_istore (nx := 167) F dX12_server_165 rfl (by decide) ?_
                try dsimp only [List.set]
                refine g_iinc (nx := 170) (1) F dX12_server_167 rfl rfl (by decide) (by decide) ?_
                try dsimp only [List.set]
                refine g_goto 87 F dX12_server_170 (by decide) ?_
                rw [nI_1]
                first
                  | (have hq : ¬ (c / 2 ^ i % 2 = 1 ∧ (best = none ∨ prP T D P n o y i j < p ∨ (prP T D P n o y i j = p ∧ wtP T D P n o y i j < w))) := fun z0 => (bt_0 _).mp c_102 z0.1; rw [if_neg hq] at hA; exact ih (i + 1) best p w _ (by omega) hb hr hA)
                  | (have hq : c / 2 ^ i % 2 = 1 ∧ (best = none ∨ prP T D P n o y i j < p ∨ (prP T D P n o y i j = p ∧ wtP T D P n o y i j < w)) := ⟨(Classical.byContradiction (fun z0 => c_102 ((bt_0 _).mpr z0))), Or.inl (bO_none hb c_118)⟩; rw [if_pos hq] at hA; exact ih (i + 1) (some i) _ _ _ (by omega) (fun k hk => by cases hk; omega) hr3 hA)
                  | (have hq : ¬ (c / 2 ^ i % 2 = 1 ∧ (best = none ∨ prP T D P n o y i j < p ∨ (prP T D P n o y i j = p ∧ wtP T D P n o y i j < w))) := fun z0 => z0.2.elim (fun z1 => c_118 (congrArg bO z1)) (fun z1 => z1.elim (fun z2 => absurd (fa_of_lt c_127).2.2.1 (fun z3 => z3 z2)) (fun z2 => (fa_of_lt c_127).2.2.2.2 z2.1)); rw [if_neg hq] at hA; exact ih (i + 1) best p w _ (by omega) hb hr3 hA)
                  | (have hq : c / 2 ^ i % 2 = 1 ∧ (best = none ∨ prP T D P n o y i j < p ∨ (prP T D P n o y i j = p ∧ wtP T D P n o y i j < w)) := ⟨(Classical.byContradiction (fun z0 => c_102 ((bt_0 _).mpr z0))), Or.inr (Or.inl (fa_le_ne (not_lt_I.mp c_127) c_136))⟩; rw [if_pos hq] at hA; exact ih (i + 1) (some i) _ _ _ (by omega) (fun k hk => by cases hk; omega) hr3 hA)
                  | (have hq : c / 2 ^ i % 2 = 1 ∧ (best = none ∨ prP T D P n o y i j < p ∨ (prP T D P n o y i j = p ∧ wtP T D P n o y i j < w)) := ⟨(Classical.byContradiction (fun z0 => c_102 ((bt_0 _).mpr z0))), Or.inr (Or.inr ⟨c_136, c_145⟩)⟩; rw [if_pos hq] at hA; exact ih (i + 1) (some i) _ _ _ (by omega) (fun k hk => by cases hk; omega) hr3 hA)
                  | (have hq : ¬ (c / 2 ^ i % 2 = 1 ∧ (best = none ∨ prP T D P n o y i j < p ∨ (prP T D P n o y i j = p ∧ wtP T D P n o y i j < w))) := fun z0 => z0.2.elim (fun z1 => c_118 (congrArg bO z1)) (fun z1 => z1.elim (fun z2 => absurd (show prP T D P n o y i j = p from c_136) (fa_of_lt z2).2.2.2.1) (fun z2 => c_145 z2.2)); rw [if_neg hq] at hA; exact ih (i + 1) best p w _ (by omega) hb hr3 hA)
              · refine g_goto 167 F dX12_server_148 (by decide) ?_
                refine g_iinc (nx := 170) (1) F dX12_server_167 rfl rfl (by decide) (by decide) ?_
                try dsimp only [List.set]
                refine g_goto 87 F dX12_server_170 (by decide) ?_
                rw [nI_1]
                first
                  | (have hq : ¬ (c / 2 ^ i % 2 = 1 ∧ (best = none ∨ prP T D P n o y i j < p ∨ (prP T D P n o y i j = p ∧ wtP T D P n o y i j < w))) := fun z0 => (bt_0 _).mp c_102 z0.1; rw [if_neg hq] at hA; exact ih (i + 1) best p w _ (by omega) hb hr hA)
                  | (have hq : c / 2 ^ i % 2 = 1 ∧ (best = none ∨ prP T D P n o y i j < p ∨ (prP T D P n o y i j = p ∧ wtP T D P n o y i j < w)) := ⟨(Classical.byContradiction (fun z0 => c_102 ((bt_0 _).mpr z0))), Or.inl (bO_none hb c_118)⟩; rw [if_pos hq] at hA; exact ih (i + 1) (some i) _ _ _ (by omega) (fun k hk => by cases hk; omega) hr3 hA)
                  | (have hq : ¬ (c / 2 ^ i % 2 = 1 ∧ (best = none ∨ prP T D P n o y i j < p ∨ (prP T D P n o y i j = p ∧ wtP T D P n o y i j < w))) := fun z0 => z0.2.elim (fun z1 => c_118 (congrArg bO z1)) (fun z1 => z1.elim (fun z2 => absurd (fa_of_lt c_127).2.2.1 (fun z3 => z3 z2)) (fun z2 => (fa_of_lt c_127).2.2.2.2 z2.1)); rw [if_neg hq] at hA; exact ih (i + 1) best p w _ (by omega) hb hr3 hA)
                  | (have hq : c / 2 ^ i % 2 = 1 ∧ (best = none ∨ prP T D P n o y i j < p ∨ (prP T D P n o y i j = p ∧ wtP T D P n o y i j < w)) := ⟨(Classical.byContradiction (fun z0 => c_102 ((bt_0 _).mpr z0))), Or.inr (Or.inl (fa_le_ne (not_lt_I.mp c_127) c_136))⟩; rw [if_pos hq] at hA; exact ih (i + 1) (some i) _ _ _ (by omega) (fun k hk => by cases hk; omega) hr3 hA)
                  | (have hq : c / 2 ^ i % 2 = 1 ∧ (best = none ∨ prP T D P n o y i j < p ∨ (prP T D P n o y i j = p ∧ wtP T D P n o y i j < w)) := ⟨(Classical.byContradiction (fun z0 => c_102 ((bt_0 _).mpr z0))), Or.inr (Or.inr ⟨c_136, c_145⟩)⟩; rw [if_pos hq] at hA; exact ih (i + 1) (some i) _ _ _ (by omega) (fun k hk => by cases hk; omega) hr3 hA)
                  | (have hq : ¬ (c / 2 ^ i % 2 = 1 ∧ (best = none ∨ prP T D P n o y i j < p ∨ (prP T D P n o y i j = p ∧ wtP T D P n o y i j < w))) := fun z0 => z0.2.elim (fun z1 => c_118 (congrArg bO z1)) (fun z1 => z1.elim (fun z2 => absurd (show prP T D P n o y i j = p from c_136) (fa_of_lt z2).2.2.2.1) (fun z2 => c_145 z2.2)); rw [if_neg hq] at hA; exact ih (i + 1) best p w _ (by omega) hb hr3 hA)
      · refine g_goto 167 F dX12_server_105 (by decide) ?_
        refine g_iinc (nx := 170) (1) F dX12_server_167 rfl rfl (by decide) (by decide) ?_
        try dsimp only [List.set]
        refine g_goto 87 F dX12_server_170 (by decide) ?_
        rw [nI_1]
        first
          | (have hq : ¬ (c / 2 ^ i % 2 = 1 ∧ (best = none ∨ prP T D P n o y i j < p ∨ (prP T D P n o y i j = p ∧ wtP T D P n o y i j < w))) := fun z0 => (bt_0 _).mp c_102 z0.1; rw [if_neg hq] at hA; exact ih (i + 1) best p w _ (by omega) hb hr hA)
          | (have hq : c / 2 ^ i % 2 = 1 ∧ (best = none ∨ prP T D P n o y i j < p ∨ (prP T D P n o y i j = p ∧ wtP T D P n o y i j < w)) := ⟨(Classical.byContradiction (fun z0 => c_102 ((bt_0 _).mpr z0))), Or.inl (bO_none hb c_118)⟩; rw [if_pos hq] at hA; exact ih (i + 1) (some i) _ _ _ (by omega) (fun k hk => by cases hk; omega) hr3 hA)
          | (have hq : ¬ (c / 2 ^ i % 2 = 1 ∧ (best = none ∨ prP T D P n o y i j < p ∨ (prP T D P n o y i j = p ∧ wtP T D P n o y i j < w))) := fun z0 => z0.2.elim (fun z1 => c_118 (congrArg bO z1)) (fun z1 => z1.elim (fun z2 => absurd (fa_of_lt c_127).2.2.1 (fun z3 => z3 z2)) (fun z2 => (fa_of_lt c_127).2.2.2.2 z2.1)); rw [if_neg hq] at hA; exact ih (i + 1) best p w _ (by omega) hb hr3 hA)
          | (have hq : c / 2 ^ i % 2 = 1 ∧ (best = none ∨ prP T D P n o y i j < p ∨ (prP T D P n o y i j = p ∧ wtP T D P n o y i j < w)) := ⟨(Classical.byContradiction (fun z0 => c_102 ((bt_0 _).mpr z0))), Or.inr (Or.inl (fa_le_ne (not_lt_I.mp c_127) c_136))⟩; rw [if_pos hq] at hA; exact ih (i + 1) (some i) _ _ _ (by omega) (fun k hk => by cases hk; omega) hr3 hA)
          | (have hq : c / 2 ^ i % 2 = 1 ∧ (best = none ∨ prP T D P n o y i j < p ∨ (prP T D P n o y i j = p ∧ wtP T D P n o y i j < w)) := ⟨(Classical.byContradiction (fun z0 => c_102 ((bt_0 _).mpr z0))), Or.inr (Or.inr ⟨c_136, c_145⟩)⟩; rw [if_pos hq] at hA; exact ih (i + 1) (some i) _ _ _ (by omega) (fun k hk => by cases hk; omega) hr3 hA)
          | (have hq : ¬ (c / 2 ^ i % 2 = 1 ∧ (best = none ∨ prP T D P n o y i j < p ∨ (prP T D P n o y i j = p ∧ wtP T D P n o y i j < w))) := fun z0 => z0.2.elim (fun z1 => c_118 (congrArg bO z1)) (fun z1 => z1.elim (fun z2 => absurd (show prP T D P n o y i j = p from c_136) (fa_of_lt z2).2.2.2.1) (fun z2 => c_145 z2.2)); rw [if_neg hq] at hA; exact ih (i + 1) best p w _ (by omega) hb hr3 hA)
  refine g_aload_n (nx := 1) 0 F dX12_server_0 rfl rfl rfl ?_
  refine g_getR (nx := 4) F dX12_server_1 rfl fl_RX12_22 rfl (by decide) (by decide) rfl ?_
  refine g_aload_n (nx := 5) 0 F dX12_server_4 rfl rfl rfl ?_
  refine g_getR (nx := 8) F dX12_server_5 rfl fl_RX12_40 rfl (by decide) (by decide) rfl ?_
  refine g_iload_n (nx := 9) 1 F dX12_server_8 rfl rfl rfl ?_
  refine g_ialdN (nx := 10) (j) (nI a) F dX12_server_9 rfl rfl (by omega) ((congrFun (hr.2.2.2.2.2 0 (by decide)) j).trans hP) ?_
  refine g_ialdN (nx := 11) (a) (nI c) F dX12_server_10 rfl rfl (by omega) ((congrFun heσ.2.2.1 a).trans hDc) ?_
  refine g_istore_n (nx := 12) 2 F dX12_server_11 rfl rfl (by decide) ?_
  try dsimp only [List.set]
  refine g_aload_n (nx := 13) 0 F dX12_server_12 rfl rfl rfl ?_
  refine g_getR (nx := 16) F dX12_server_13 rfl fl_RX12_25 rfl (by decide) (by decide) rfl ?_
  refine g_aload_n (nx := 17) 0 F dX12_server_16 rfl rfl rfl ?_
  refine g_getR (nx := 20) F dX12_server_17 rfl fl_RX12_40 rfl (by decide) (by decide) rfl ?_
  refine g_iload_n (nx := 21) 1 F dX12_server_20 rfl rfl rfl ?_
  refine g_ialdN (nx := 22) (j) (nI a) F dX12_server_21 rfl rfl (by omega) ((congrFun (hr.2.2.2.2.2 0 (by decide)) j).trans hP) ?_
  refine g_ialdN (nx := 23) (a) (D 3 a) F dX12_server_22 rfl rfl (by omega) (congrFun heσ.2.2.2.1 a) ?_
  refine g_istore_n (nx := 24) 3 F dX12_server_23 rfl rfl (by decide) ?_
  try dsimp only [List.set]
  refine g_iload_n (nx := 25) 3 F dX12_server_24 rfl rfl rfl ?_
  refine g_if_ne (nx := 28) 35 F dX12_server_25 rfl (by decide) (fun c_25 => ?_) (fun c_25 => ?_)
  · refine g_iload_n (nx := 36) 3 F dX12_server_35 rfl rfl rfl ?_
    refine g_iconst (nx := 37) (2) F dX12_server_36 rfl rfl ?_
    refine g_icmp_ne (nx := 40) 75 F dX12_server_37 rfl (by decide) (fun c_37 => ?_) (fun c_37 => ?_)
    · refine g_iconst (nx := 76) (-1) F dX12_server_75 rfl rfl ?_
      refine g_istore (nx := 78) F dX12_server_76 rfl (by decide) ?_
      try dsimp only [List.set]
      refine g_iconst (nx := 79) (0) F dX12_server_78 rfl rfl ?_
      refine g_istore (nx := 81) F dX12_server_79 rfl (by decide) ?_
      try dsimp only [List.set]
      refine g_iconst (nx := 82) (0) F dX12_server_81 rfl rfl ?_
      refine g_istore (nx := 84) F dX12_server_82 rfl (by decide) ?_
      try dsimp only [List.set]
      refine g_iconst (nx := 85) (0) F dX12_server_84 rfl rfl ?_
      refine g_istore (nx := 87) F dX12_server_85 rfl (by decide) ?_
      try dsimp only [List.set]
      exact L e 0 none 0 0 _ (by omega) (fun k hk => by cases hk) hr rfl c_25 c_37
    · refine g_aload_n (nx := 41) 0 F dX12_server_40 rfl rfl rfl ?_
      refine g_sipush (nx := 44) (25173) F dX12_server_41 rfl (by decide) ?_
      refine g_aload_n (nx := 45) 0 F dX12_server_44 rfl rfl rfl ?_
      refine g_getV (nx := 48) (nI x) F dX12_server_45 rfl fl_RX12_162 rfl (by decide) (by decide) rfl rfl (hr.2.2.1.trans hPx) ?_
      refine g_imul (nx := 49) F dX12_server_48 rfl ?_
      refine g_sipush (nx := 52) (13849) F dX12_server_49 rfl (by decide) ?_
      refine g_iadd (nx := 53) F dX12_server_52 rfl ?_
      refine g_ldcw (nx := 56) (65536) F dX12_server_53 rfl co_RX12_327 ?_
      refine g_irem (nx := 57) F dX12_server_56 rfl (by decide) ?_
      rw [hix]
      refine g_putI (nx := 60) F dX12_server_57 rfl fl_RX12_162 fi_11_5 rfl (by decide) (by decide) rfl rfl ?_
      refine g_aload_n (nx := 61) 0 F dX12_server_60 rfl rfl rfl ?_
      refine g_iload_n (nx := 62) 2 F dX12_server_61 rfl rfl rfl ?_
      refine g_aload_n (nx := 63) 0 F dX12_server_62 rfl rfl rfl ?_
      refine g_getV (nx := 66) (nI (nxN (P 8 0))) F dX12_server_63 rfl fl_RX12_162 rfl (by decide) (by decide) rfl rfl (rfl) ?_
      refine g_iload_n (nx := 67) 2 F dX12_server_66 rfl rfl rfl ?_
      refine g_callS (nx := 70) 1 0 [.int (nI c)] F dX12_server_67 rfl ml_RX12_328 mo_X12_bits rfl rfl (Nat.le_of_ble_eq_true rfl) (by first | decide | omega) (k_bits c _ hc10) (fun r_67 τ_67 q_67 => ?_)
      obtain ⟨rfl, et_67⟩ := q_67
      have et_67 := et_67.symm
      subst et_67
      dsimp only [Option.toList, List.append, List.cons_append, List.nil_append]
      refine g_irem (nx := 71) F dX12_server_70 rfl (by exact nI_ne0 hb0 (by omega)) ?_
      rw [hix2]
      refine g_callV (nx := 74) 2 0 [.int (nI c), .int (nI (nxN (P 8 0) % bcN c))] F dX12_server_71 rfl ml_RX12_324 mo_X12_lowest rfl rfl rfl rfl (Nat.le_of_ble_eq_true rfl) (by first | decide | omega) (k_lowest e c (nxN (P 8 0) % bcN c) _ heσ.2.2.2.2.2.2.2.2.1 he10 hce hlt) (fun r_71 τ_71 q_71 => ?_)
      obtain ⟨rfl, et_71⟩ := q_71
      have et_71 := et_71.symm
      subst et_71
      dsimp only [Option.toList, List.append, List.cons_append, List.nil_append]
      refine g_iret F E dX12_server_74 ?_
      rw [if_neg c_25, if_pos c_37, if_pos c_37]
      exact ⟨rfl, KR_fld 5 0 _ (by decide) hr⟩
  · refine g_aload_n (nx := 29) 0 F dX12_server_28 rfl rfl rfl ?_
    refine g_iload_n (nx := 30) 2 F dX12_server_29 rfl rfl rfl ?_
    refine g_iconst (nx := 31) (0) F dX12_server_30 rfl rfl ?_
    refine g_callV (nx := 34) 2 0 [.int (nI c), .int (nI 0)] F dX12_server_31 rfl ml_RX12_324 mo_X12_lowest rfl rfl rfl rfl (Nat.le_of_ble_eq_true rfl) (by first | decide | omega) (k_lowest e c 0 _ heσ.2.2.2.2.2.2.2.2.1 he10 hce hb0) (fun r_31 τ_31 q_31 => ?_)
    obtain ⟨rfl, et_31⟩ := q_31
    have et_31 := et_31.symm
    subst et_31
    dsimp only [Option.toList, List.append, List.cons_append, List.nil_append]
    refine g_iret F E dX12_server_34 ?_
    rw [if_pos c_25, if_neg (by rw [c_25]; decide)]
    exact ⟨rfl, hr⟩
set_option maxHeartbeats 4000000 in
set_option maxRecDepth 100000 in
theorem k_pays (T : Nat → TXT) (D P σ0 : zSt) (n f s e a : Nat) (o y : Int32) (j : Nat) (i : Nat) (p : Int32) (σ : zSt) (he : EnvK σ0 D T s e) (hr : KR σ0 σ P) (hth : thK σ0 n f y) (ho : σ0 145 6 = o) (hj : j < n) (ha : a < s) (hP : P 0 j = nI a) (hi : i < 10) (hp : σ 145 47 = p) : Con mX12_pays 3 [.ref 145, .int (nI i), .int (nI j)] σ (fun r τ => r = none ∧ KR σ0 τ (giveP P i j p (lwP T D P n o y i j p 103) (lwP T D P n o y i j p 107) (lwP T D P n o y i j p 98))) := by
  have heσ := KR_env hr he
  have hs8 := heσ.2.2.2.2.2.2.2.1
  have hnf := hth.1
  have hf40 := hth.2.1
  have htσ := KR_th hr hth
  refine Con.of (lv := [.ref 145, .int (nI i), .int (nI j), .long 0, .long 0, .long 0]) mk_X12_pays rfl (Nat.le_of_ble_eq_true rfl) rfl (fun X F E => ?_)
  refine g_aload_n (nx := 1) 0 F dX12_pays_0 rfl rfl rfl ?_
  refine g_iload_n (nx := 2) 1 F dX12_pays_1 rfl rfl rfl ?_
  refine g_iload_n (nx := 3) 2 F dX12_pays_2 rfl rfl rfl ?_
  refine g_aload_n (nx := 4) 0 F dX12_pays_3 rfl rfl rfl ?_
  refine g_getV (nx := 7) (p) F dX12_pays_4 rfl fl_RX12_318 rfl (by decide) (by decide) rfl rfl (hp) ?_
  refine g_callV (nx := 10) 3 1 [.int (nI i), .int (nI j), .int p] F dX12_pays_7 rfl ml_RX12_311 mo_X12_feels rfl rfl rfl rfl (Nat.le_of_ble_eq_true rfl) (by first | decide | omega) (k_feels i j a n f p y _ hi (by omega) ((congrFun (hr.2.2.2.2.2 0 (by decide)) j).trans hP) htσ) (fun r_7 τ_7 q_7 => ?_)
  obtain ⟨rfl, g_4, et_7, hg_4⟩ := q_7
  subst et_7
  dsimp only [Option.toList, List.append, List.cons_append, List.nil_append]
  refine g_aload_n (nx := 11) 0 F dX12_pays_10 rfl rfl rfl ?_
  refine g_bipush (nx := 13) (10) F dX12_pays_11 rfl (by decide) ?_
  refine g_bipush (nx := 15) (103) F dX12_pays_13 rfl (by decide) ?_
  refine g_sipush (nx := 18) (10000) F dX12_pays_15 rfl (by decide) ?_
  refine g_callV (nx := 21) 3 2 [.int (nI 10), .int (nI 103), .int 10000] F dX12_pays_18 rfl ml_RX12_315 mo_X12_byText rfl rfl rfl rfl (Nat.le_of_ble_eq_true rfl) (by first | decide | omega) (k_byTextT 10 103 (T 10) 10000 _ (by omega) (heσ.2.2.2.2.2.2.2.2.2.2 10 (by omega)) (txK_congr (fun b b1 b2 => by (repeat rw [zs_ne _ (by omega)])) (heσ.2.2.2.2.2.2.2.2.2.1 10 (by omega))) (by decide)) (fun r_18 τ_18 q_18 => ?_)
  obtain ⟨⟨g_18, et_18⟩, rfl⟩ := q_18
  subst et_18
  dsimp only [Option.toList, List.append, List.cons_append, List.nil_append]
  refine g_top (lwP T D P n o y i j p 103) (pkF_congr (heσ.2.2.2.2.2.2.2.2.2.2 10 (by omega)).1 (fun k hk => (hg_4 k hk).trans (congrFun (fcK heσ hr htσ ho hP) k))) ?_
  refine g_istore_n (nx := 22) 3 F dX12_pays_21 rfl rfl (by decide) ?_
  try dsimp only [List.set]
  refine g_aload_n (nx := 23) 0 F dX12_pays_22 rfl rfl rfl ?_
  refine g_bipush (nx := 25) (10) F dX12_pays_23 rfl (by decide) ?_
  refine g_bipush (nx := 27) (107) F dX12_pays_25 rfl (by decide) ?_
  refine g_sipush (nx := 30) (10000) F dX12_pays_27 rfl (by decide) ?_
  refine g_callV (nx := 33) 3 2 [.int (nI 10), .int (nI 107), .int 10000] F dX12_pays_30 rfl ml_RX12_315 mo_X12_byText rfl rfl rfl rfl (Nat.le_of_ble_eq_true rfl) (by first | decide | omega) (k_byTextT 10 107 (T 10) 10000 _ (by omega) (heσ.2.2.2.2.2.2.2.2.2.2 10 (by omega)) (txK_congr (fun b b1 b2 => by (repeat rw [zs_ne _ (by omega)])) (heσ.2.2.2.2.2.2.2.2.2.1 10 (by omega))) (by decide)) (fun r_30 τ_30 q_30 => ?_)
  obtain ⟨⟨g_30, et_30⟩, rfl⟩ := q_30
  subst et_30
  dsimp only [Option.toList, List.append, List.cons_append, List.nil_append]
  rw [zs_zs]
  refine g_top (lwP T D P n o y i j p 107) (pkF_congr (heσ.2.2.2.2.2.2.2.2.2.2 10 (by omega)).1 (fun k hk => (hg_4 k hk).trans (congrFun (fcK heσ hr htσ ho hP) k))) ?_
  refine g_istore (nx := 35) F dX12_pays_33 rfl (by decide) ?_
  try dsimp only [List.set]
  refine g_aload_n (nx := 36) 0 F dX12_pays_35 rfl rfl rfl ?_
  refine g_bipush (nx := 38) (10) F dX12_pays_36 rfl (by decide) ?_
  refine g_bipush (nx := 40) (98) F dX12_pays_38 rfl (by decide) ?_
  refine g_sipush (nx := 43) (10000) F dX12_pays_40 rfl (by decide) ?_
  refine g_callV (nx := 46) 3 2 [.int (nI 10), .int (nI 98), .int 10000] F dX12_pays_43 rfl ml_RX12_315 mo_X12_byText rfl rfl rfl rfl (Nat.le_of_ble_eq_true rfl) (by first | decide | omega) (k_byTextT 10 98 (T 10) 10000 _ (by omega) (heσ.2.2.2.2.2.2.2.2.2.2 10 (by omega)) (txK_congr (fun b b1 b2 => by (repeat rw [zs_ne _ (by omega)])) (heσ.2.2.2.2.2.2.2.2.2.1 10 (by omega))) (by decide)) (fun r_43 τ_43 q_43 => ?_)
  obtain ⟨⟨g_43, et_43⟩, rfl⟩ := q_43
  subst et_43
  dsimp only [Option.toList, List.append, List.cons_append, List.nil_append]
  rw [zs_zs]
  refine g_top (lwP T D P n o y i j p 98) (pkF_congr (heσ.2.2.2.2.2.2.2.2.2.2 10 (by omega)).1 (fun k hk => (hg_4 k hk).trans (congrFun (fcK heσ hr htσ ho hP) k))) ?_
  refine g_istore (nx := 48) F dX12_pays_46 rfl (by decide) ?_
  try dsimp only [List.set]
  refine g_aload_n (nx := 49) 0 F dX12_pays_48 rfl rfl rfl ?_
  refine g_getR (nx := 52) F dX12_pays_49 rfl fl_RX12_43 rfl (by decide) (by decide) rfl ?_
  refine g_iload_n (nx := 53) 2 F dX12_pays_52 rfl rfl rfl ?_
  refine g_aload_n (nx := 54) 0 F dX12_pays_53 rfl rfl rfl ?_
  refine g_getR (nx := 57) F dX12_pays_54 rfl fl_RX12_43 rfl (by decide) (by decide) rfl ?_
  refine g_iload_n (nx := 58) 2 F dX12_pays_57 rfl rfl rfl ?_
  refine g_ialdN (nx := 59) (j) (P 1 j) F dX12_pays_58 rfl rfl (by omega) (congrFun (hr.2.2.2.2.2 1 (by decide)) j) ?_
  refine g_aload_n (nx := 60) 0 F dX12_pays_59 rfl rfl rfl ?_
  refine g_getV (nx := 63) (p) F dX12_pays_60 rfl fl_RX12_318 rfl (by decide) (by decide) rfl rfl (hp) ?_
  refine g_isub (nx := 64) F dX12_pays_63 rfl ?_
  refine g_iastN (nx := 65) (j) F dX12_pays_64 rfl rfl (by omega) ?_
  refine g_aload_n (nx := 66) 0 F dX12_pays_65 rfl rfl rfl ?_
  refine g_getR (nx := 69) F dX12_pays_66 rfl fl_RX12_49 rfl (by decide) (by decide) rfl ?_
  refine g_iload_n (nx := 70) 2 F dX12_pays_69 rfl rfl rfl ?_
  refine g_aload_n (nx := 71) 0 F dX12_pays_70 rfl rfl rfl ?_
  refine g_getR (nx := 74) F dX12_pays_71 rfl fl_RX12_49 rfl (by decide) (by decide) rfl ?_
  refine g_iload_n (nx := 75) 2 F dX12_pays_74 rfl rfl rfl ?_
  refine g_ialdN (nx := 76) (j) (P 3 j) F dX12_pays_75 rfl rfl (by omega) (congrFun (hr.2.2.2.2.2 3 (by decide)) j) ?_
  refine g_aload_n (nx := 77) 0 F dX12_pays_76 rfl rfl rfl ?_
  refine g_getV (nx := 80) (p) F dX12_pays_77 rfl fl_RX12_318 rfl (by decide) (by decide) rfl rfl (hp) ?_
  refine g_iadd (nx := 81) F dX12_pays_80 rfl ?_
  refine g_iastN (nx := 82) (j) F dX12_pays_81 rfl rfl (by omega) ?_
  refine g_aload_n (nx := 83) 0 F dX12_pays_82 rfl rfl rfl ?_
  refine g_aload_n (nx := 84) 0 F dX12_pays_83 rfl rfl rfl ?_
  refine g_getV (nx := 87) (P 8 2) F dX12_pays_84 rfl fl_RX12_334 rfl (by decide) (by decide) rfl rfl (hr.2.2.2.2.1) ?_
  refine g_aload_n (nx := 88) 0 F dX12_pays_87 rfl rfl rfl ?_
  refine g_getV (nx := 91) (p) F dX12_pays_88 rfl fl_RX12_318 rfl (by decide) (by decide) rfl rfl (hp) ?_
  refine g_iadd (nx := 92) F dX12_pays_91 rfl ?_
  refine g_putI (nx := 95) F dX12_pays_92 rfl fl_RX12_334 fi_11_49 rfl (by decide) (by decide) rfl rfl ?_
  refine g_aload_n (nx := 96) 0 F dX12_pays_95 rfl rfl rfl ?_
  refine g_getR (nx := 99) F dX12_pays_96 rfl fl_RX12_16 rfl (by decide) (by decide) rfl ?_
  refine g_iload_n (nx := 100) 1 F dX12_pays_99 rfl rfl rfl ?_
  refine g_aload_n (nx := 101) 0 F dX12_pays_100 rfl rfl rfl ?_
  refine g_getR (nx := 104) F dX12_pays_101 rfl fl_RX12_16 rfl (by decide) (by decide) rfl ?_
  refine g_iload_n (nx := 105) 1 F dX12_pays_104 rfl rfl rfl ?_
  refine g_ialdN (nx := 106) (i) (P 6 i) F dX12_pays_105 rfl rfl (by omega) (congrFun (hr.2.2.2.2.2 6 (by decide)) i) ?_
  refine g_aload_n (nx := 107) 0 F dX12_pays_106 rfl rfl rfl ?_
  refine g_getV (nx := 110) (p) F dX12_pays_107 rfl fl_RX12_318 rfl (by decide) (by decide) rfl rfl (hp) ?_
  refine g_iadd (nx := 111) F dX12_pays_110 rfl ?_
  refine g_iastN (nx := 112) (i) F dX12_pays_111 rfl rfl (by omega) ?_
  refine g_aload_n (nx := 113) 0 F dX12_pays_112 rfl rfl rfl ?_
  refine g_getR (nx := 116) F dX12_pays_113 rfl fl_RX12_19 rfl (by decide) (by decide) rfl ?_
  refine g_iload_n (nx := 117) 1 F dX12_pays_116 rfl rfl rfl ?_
  refine g_aload_n (nx := 118) 0 F dX12_pays_117 rfl rfl rfl ?_
  refine g_getR (nx := 121) F dX12_pays_118 rfl fl_RX12_19 rfl (by decide) (by decide) rfl ?_
  refine g_iload_n (nx := 122) 1 F dX12_pays_121 rfl rfl rfl ?_
  refine g_ialdN (nx := 123) (i) (P 7 i) F dX12_pays_122 rfl rfl (by omega) (congrFun (hr.2.2.2.2.2 7 (by decide)) i) ?_
  refine g_iconst (nx := 124) (1) F dX12_pays_123 rfl rfl ?_
  refine g_iadd (nx := 125) F dX12_pays_124 rfl ?_
  refine g_iastN (nx := 126) (i) F dX12_pays_125 rfl rfl (by omega) ?_
  refine g_aload_n (nx := 127) 0 F dX12_pays_126 rfl rfl rfl ?_
  refine g_aload_n (nx := 128) 0 F dX12_pays_127 rfl rfl rfl ?_
  refine g_getV (nx := 131) (P 8 1) F dX12_pays_128 rfl fl_RX12_337 rfl (by decide) (by decide) rfl rfl (hr.2.2.2.1) ?_
  refine g_iconst (nx := 132) (1) F dX12_pays_131 rfl rfl ?_
  refine g_iload_n (nx := 133) 1 F dX12_pays_132 rfl rfl rfl ?_
  refine g_ishl (nx := 134) F dX12_pays_133 rfl ?_
  refine g_ior (nx := 135) F dX12_pays_134 rfl ?_
  refine g_putI (nx := 138) F dX12_pays_135 rfl fl_RX12_337 fi_11_50 rfl (by decide) (by decide) rfl rfl ?_
  refine g_iload (nx := 140) F dX12_pays_138 rfl rfl ?_
  refine g_iload_n (nx := 141) 3 F dX12_pays_140 rfl rfl rfl ?_
  refine g_icmp_gt (nx := 144) 145 F dX12_pays_141 rfl (by decide) (fun c_141 => ?_) (fun c_141 => ?_)
  · refine g_aload_n (nx := 146) 0 F dX12_pays_145 rfl rfl rfl ?_
    refine g_getR (nx := 149) F dX12_pays_146 rfl fl_RX12_52 rfl (by decide) (by decide) rfl ?_
    refine g_iload_n (nx := 150) 2 F dX12_pays_149 rfl rfl rfl ?_
    refine g_aload_n (nx := 151) 0 F dX12_pays_150 rfl rfl rfl ?_
    refine g_getR (nx := 154) F dX12_pays_151 rfl fl_RX12_52 rfl (by decide) (by decide) rfl ?_
    refine g_iload_n (nx := 155) 2 F dX12_pays_154 rfl rfl rfl ?_
    refine g_ialdN (nx := 156) (j) (P 4 j) F dX12_pays_155 rfl rfl (by omega) (congrFun (hr.2.2.2.2.2 4 (by decide)) j) ?_
    refine g_iconst (nx := 157) (1) F dX12_pays_156 rfl rfl ?_
    refine g_iadd (nx := 158) F dX12_pays_157 rfl ?_
    refine g_iastN (nx := 159) (j) F dX12_pays_158 rfl rfl (by omega) ?_
    refine g_aload_n (nx := 160) 0 F dX12_pays_159 rfl rfl rfl ?_
    refine g_getR (nx := 163) F dX12_pays_160 rfl fl_RX12_43 rfl (by decide) (by decide) rfl ?_
    refine g_iload_n (nx := 164) 2 F dX12_pays_163 rfl rfl rfl ?_
    refine g_aload_n (nx := 165) 0 F dX12_pays_164 rfl rfl rfl ?_
    refine g_getR (nx := 168) F dX12_pays_165 rfl fl_RX12_43 rfl (by decide) (by decide) rfl ?_
    refine g_iload_n (nx := 169) 2 F dX12_pays_168 rfl rfl rfl ?_
    refine g_ialdN (nx := 170) (j) (P 1 j - p) F dX12_pays_169 rfl rfl (by omega) (if_pos rfl) ?_
    refine g_iload_n (nx := 171) 3 F dX12_pays_170 rfl rfl rfl ?_
    refine g_isub (nx := 172) F dX12_pays_171 rfl ?_
    refine g_iload (nx := 174) F dX12_pays_172 rfl rfl ?_
    refine g_iadd (nx := 175) F dX12_pays_174 rfl ?_
    refine g_iastN (nx := 176) (j) F dX12_pays_175 rfl rfl (by omega) ?_
    refine g_aload_n (nx := 177) 0 F dX12_pays_176 rfl rfl rfl ?_
    refine g_getR (nx := 180) F dX12_pays_177 rfl fl_RX12_16 rfl (by decide) (by decide) rfl ?_
    refine g_iload_n (nx := 181) 1 F dX12_pays_180 rfl rfl rfl ?_
    refine g_aload_n (nx := 182) 0 F dX12_pays_181 rfl rfl rfl ?_
    refine g_getR (nx := 185) F dX12_pays_182 rfl fl_RX12_16 rfl (by decide) (by decide) rfl ?_
    refine g_iload_n (nx := 186) 1 F dX12_pays_185 rfl rfl rfl ?_
    refine g_ialdN (nx := 187) (i) (P 6 i + p) F dX12_pays_186 rfl rfl (by omega) (if_pos rfl) ?_
    refine g_iload (nx := 189) F dX12_pays_187 rfl rfl ?_
    refine g_isub (nx := 190) F dX12_pays_189 rfl ?_
    refine g_iload (nx := 192) F dX12_pays_190 rfl rfl ?_
    refine g_isub (nx := 193) F dX12_pays_192 rfl ?_
    refine g_iastN (nx := 194) (i) F dX12_pays_193 rfl rfl (by omega) ?_
    refine g_vret F E dX12_pays_194 ?_
    have hr2 : KR σ0 (zs (zs σ 176 g_4) 175 g_43) P := KR_free hr (fun b b1 b2 b3 => by rw [zs_ne _ b2, zs_ne _ b3]) (fun k k1 k2 => by rw [zs_ne _ (by decide), zs_ne _ (by decide)])
    refine ⟨rfl, ?_⟩
    unfold giveP
    rw [if_pos c_141, show P 1 j - p - (lwP T D P n o y i j p 103) + (lwP T D P n o y i j p 98) = P 1 j - p + ((lwP T D P n o y i j p 98) - (lwP T D P n o y i j p 103)) by grind, show P 6 i + p - (lwP T D P n o y i j p 98) - (lwP T D P n o y i j p 107) = P 6 i + p - ((lwP T D P n o y i j p 98) + (lwP T D P n o y i j p 107)) from sub_sub_I _ _ _]
    exact KR_upd 6 i _ (by decide) (KR_upd 1 j _ (by decide) (KR_upd 4 j _ (by decide) (KR_fld 50 1 _ (by decide) (KR_upd 7 i _ (by decide) (KR_upd 6 i _ (by decide) (KR_fld 49 2 _ (by decide) (KR_upd 3 j _ (by decide) (KR_upd 1 j _ (by decide) hr2))))))))
  · refine g_vret F E dX12_pays_144 ?_
    have hr2 : KR σ0 (zs (zs σ 176 g_4) 175 g_43) P := KR_free hr (fun b b1 b2 b3 => by rw [zs_ne _ b2, zs_ne _ b3]) (fun k k1 k2 => by rw [zs_ne _ (by decide), zs_ne _ (by decide)])
    refine ⟨rfl, ?_⟩
    unfold giveP
    rw [if_neg c_141]
    exact KR_fld 50 1 _ (by decide) (KR_upd 7 i _ (by decide) (KR_upd 6 i _ (by decide) (KR_fld 49 2 _ (by decide) (KR_upd 3 j _ (by decide) (KR_upd 1 j _ (by decide) hr2)))))
set_option maxHeartbeats 4000000 in
set_option maxRecDepth 100000 in
theorem k_goesOn (P σ0 : zSt) (s a : Nat) (y : Int32) (j : Nat) (σ : zSt) (hr : KR σ0 σ P) (hy : σ0 145 0 = y) (hj : j < 40) (hP : P 0 j = nI a) (hs3 : σ 145 2 = nI s) : Con mX12_goesOn 0 [.ref 145, .int (nI j)] σ (fun r τ => r = none ∧ KR σ0 τ (goOnP s y P j)) := by
  refine Con.of (lv := [.ref 145, .int (nI j)]) mk_X12_goesOn rfl (Nat.le_of_ble_eq_true rfl) rfl (fun X F E => ?_)
  refine g_aload_n (nx := 1) 0 F dX12_goesOn_0 rfl rfl rfl ?_
  refine g_getR (nx := 4) F dX12_goesOn_1 rfl fl_RX12_40 rfl (by decide) (by decide) rfl ?_
  refine g_iload_n (nx := 5) 1 F dX12_goesOn_4 rfl rfl rfl ?_
  refine g_aload_n (nx := 6) 0 F dX12_goesOn_5 rfl rfl rfl ?_
  refine g_getR (nx := 9) F dX12_goesOn_6 rfl fl_RX12_40 rfl (by decide) (by decide) rfl ?_
  refine g_iload_n (nx := 10) 1 F dX12_goesOn_9 rfl rfl rfl ?_
  refine g_ialdN (nx := 11) (j) (nI a) F dX12_goesOn_10 rfl rfl (by omega) ((congrFun (hr.2.2.2.2.2 0 (by decide)) j).trans hP) ?_
  refine g_iconst (nx := 12) (1) F dX12_goesOn_11 rfl rfl ?_
  refine g_iadd (nx := 13) F dX12_goesOn_12 rfl ?_
  rw [nI_1]
  refine g_iastN (nx := 14) (j) F dX12_goesOn_13 rfl rfl (by omega) ?_
  refine g_aload_n (nx := 15) 0 F dX12_goesOn_14 rfl rfl rfl ?_
  refine g_getR (nx := 18) F dX12_goesOn_15 rfl fl_RX12_46 rfl (by decide) (by decide) rfl ?_
  refine g_iload_n (nx := 19) 1 F dX12_goesOn_18 rfl rfl rfl ?_
  refine g_iconst (nx := 20) (0) F dX12_goesOn_19 rfl rfl ?_
  refine g_iastN (nx := 21) (j) F dX12_goesOn_20 rfl rfl (by omega) ?_
  refine g_aload_n (nx := 22) 0 F dX12_goesOn_21 rfl rfl rfl ?_
  refine g_getR (nx := 25) F dX12_goesOn_22 rfl fl_RX12_40 rfl (by decide) (by decide) rfl ?_
  refine g_iload_n (nx := 26) 1 F dX12_goesOn_25 rfl rfl rfl ?_
  refine g_ialdN (nx := 27) (j) (nI (a + 1)) F dX12_goesOn_26 rfl rfl (by omega) (if_pos rfl) ?_
  refine g_aload_n (nx := 28) 0 F dX12_goesOn_27 rfl rfl rfl ?_
  refine g_getV (nx := 31) (nI s) F dX12_goesOn_28 rfl fl_RX12_168 rfl (by decide) (by decide) rfl rfl (hs3) ?_
  refine g_icmp_ne (nx := 34) 44 F dX12_goesOn_31 rfl (by decide) (fun c_31 => ?_) (fun c_31 => ?_)
  · refine g_vret F E dX12_goesOn_44 ?_
    refine ⟨rfl, ?_⟩
    unfold goOnP
    rw [hP, show nI a + 1 = nI (a + 1) by rw [nI_1]]
    first
      | (rw [if_neg c_31]; exact KR_upd 2 j _ (by decide) (KR_upd 0 j _ (by decide) hr))
      | (rw [if_pos c_31]; exact KR_upd 5 j _ (by decide) (KR_upd 2 j _ (by decide) (KR_upd 0 j _ (by decide) hr)))
  · refine g_aload_n (nx := 35) 0 F dX12_goesOn_34 rfl rfl rfl ?_
    refine g_getR (nx := 38) F dX12_goesOn_35 rfl fl_RX12_55 rfl (by decide) (by decide) rfl ?_
    refine g_iload_n (nx := 39) 1 F dX12_goesOn_38 rfl rfl rfl ?_
    refine g_aload_n (nx := 40) 0 F dX12_goesOn_39 rfl rfl rfl ?_
    refine g_getV (nx := 43) (y) F dX12_goesOn_40 rfl fl_RX12_183 rfl (by decide) (by decide) rfl rfl ((hr.2.1 0 (by decide) (by decide)).trans hy) ?_
    refine g_iastN (nx := 44) (j) F dX12_goesOn_43 rfl rfl (by omega) ?_
    refine g_vret F E dX12_goesOn_44 ?_
    refine ⟨rfl, ?_⟩
    unfold goOnP
    rw [hP, show nI a + 1 = nI (a + 1) by rw [nI_1]]
    first
      | (rw [if_neg c_31]; exact KR_upd 2 j _ (by decide) (KR_upd 0 j _ (by decide) hr))
      | (rw [if_pos c_31]; exact KR_upd 5 j _ (by decide) (KR_upd 2 j _ (by decide) (KR_upd 0 j _ (by decide) hr)))
