/-- how many of step s come ahead of k, by sums, then by places -/
def rkP (f g : Nat → Int32) (s : Int32) (k q : Nat) : Bool := decide (g q = s ∧ (f q < f k ∨ (f q = f k ∧ q < k)))
def rk (f g : Nat → Int32) (s : Int32) (n k : Nat) : Nat := fb_ct (rkP f g s k) n
theorem rk_lt {f g : Nat → Int32} {s : Int32} {n k : Nat} (hk : k < n) (hg : g k = s) : rk f g s n k < fb_ct (fun q => decide (g q = s)) n := by
  have h1 : fb_ct (fun q => rkP f g s k q || decide (q = k)) n = rk f g s n k + fb_ct (fun q => decide (q = k)) n := by
    refine fb_ct_or (fun q _ z => ?_)
    simp only [rkP, decide_eq_true_eq] at z
    obtain ⟨⟨_, z1⟩, rfl⟩ := z
    rcases z1 with z1 | z1
    · rw [fa_lt] at z1; omega
    · omega
  have h2 : 0 < fb_ct (fun q => decide (q = k)) n := fb_ct_pos.mpr ⟨k, hk, by simp⟩
  have h3 : fb_ct (fun q => rkP f g s k q || decide (q = k)) n ≤ fb_ct (fun q => decide (g q = s)) n := by
    refine fb_ct_sub (fun q _ z => ?_)
    simp only [rkP, Bool.or_eq_true, decide_eq_true_eq] at z ⊢
    rcases z with z | rfl
    · exact z.1
    · exact hg
  omega
theorem rk_mono {f g : Nat → Int32} {s : Int32} {n i j : Nat} (hi : i < n) (gi : g i = s) (h : f i < f j ∨ (f i = f j ∧ i < j)) : rk f g s n i < rk f g s n j := by
  have h1 : fb_ct (fun q => rkP f g s i q || decide (q = i)) n = rk f g s n i + fb_ct (fun q => decide (q = i)) n := by
    refine fb_ct_or (fun q _ z => ?_)
    simp only [rkP, decide_eq_true_eq] at z
    obtain ⟨⟨_, z1⟩, rfl⟩ := z
    rcases z1 with z1 | z1
    · rw [fa_lt] at z1; omega
    · omega
  have h2 : 0 < fb_ct (fun q => decide (q = i)) n := fb_ct_pos.mpr ⟨i, hi, by simp⟩
  have h3 : fb_ct (fun q => rkP f g s i q || decide (q = i)) n ≤ rk f g s n j := by
    refine fb_ct_sub (fun q _ z => ?_)
    simp only [rkP, Bool.or_eq_true, decide_eq_true_eq] at z ⊢
    rcases z with ⟨z1, z2⟩ | rfl
    · refine ⟨z1, ?_⟩
      simp only [fa_lt, fa_eq] at *
      omega
    · exact ⟨gi, h⟩
  omega
theorem rk_inj {f g : Nat → Int32} {s : Int32} {n i j : Nat} (hi : i < n) (hj : j < n) (gi : g i = s) (gj : g j = s) (e : rk f g s n i = rk f g s n j) : i = j := by
  rcases fa_three (f i) (f j) with h | h | h
  · have := rk_mono hi gi (Or.inl h); omega
  · rcases Nat.lt_trichotomy i j with z | z | z
    · have := rk_mono hi gi (Or.inr ⟨h, z⟩); omega
    · exact z
    · have := rk_mono hj gj (Or.inr ⟨h.symm, z⟩); omega
  · have := rk_mono hj gj (Or.inl h); omega
theorem rk_onto {f g : Nat → Int32} {s : Int32} {n pl : Nat} (h : pl < fb_ct (fun q => decide (g q = s)) n) : ∃ k, k < n ∧ g k = s ∧ rk f g s n k = pl := by
  have h0 : ∀ i, ∃ k, i < fb_ct (fun q => decide (g q = s)) n → k < n ∧ g k = s ∧ fb_ct (fun q => decide (g q = s)) k = i := by
    intro i
    by_cases hi : i < fb_ct (fun q => decide (g q = s)) n
    · obtain ⟨k, h1, h2, h3⟩ := fb_ct_kth hi
      exact ⟨k, fun _ => ⟨h1, of_decide_eq_true h2, h3⟩⟩
    · exact ⟨0, fun z => absurd z hi⟩
  obtain ⟨w, hw⟩ := Classical.axiomOfChoice h0
  obtain ⟨i, hi, e⟩ := fb_onto (n := fb_ct (fun q => decide (g q = s)) n) (f := fun i => rk f g s n (w i)) (fun i hi => rk_lt (hw i hi).1 (hw i hi).2.1) (fun i j hij hj e => by
    have e2 := rk_inj (hw i (by omega)).1 (hw j hj).1 (hw i (by omega)).2.1 (hw j hj).2.1 e
    have a1 := (hw i (by omega)).2.2
    have a2 := (hw j hj).2.2
    rw [e2] at a1
    omega) h
  exact ⟨w i, (hw i hi).1, (hw i hi).2.1, e⟩
theorem rk_sel {f g : Nat → Int32} {s : Int32} {n k : Nat} (hk : k < n) (hg : g k = s) : Sel f g n s (rk f g s n k) (f k) := by
  refine ⟨fb_ct_sub (fun q _ z => ?_), ?_⟩
  · have z := of_decide_eq_true z
    exact decide_eq_true ⟨z.1, Or.inl z.2⟩
  · have h1 : fb_ct (fun q => rkP f g s k q || decide (q = k)) n = rk f g s n k + fb_ct (fun q => decide (q = k)) n := by
      refine fb_ct_or (fun q _ z => ?_)
      simp only [rkP, decide_eq_true_eq] at z
      obtain ⟨⟨_, z1⟩, rfl⟩ := z
      rcases z1 with z1 | z1
      · rw [fa_lt] at z1; omega
      · omega
    have h2 : 0 < fb_ct (fun q => decide (q = k)) n := fb_ct_pos.mpr ⟨k, hk, by simp⟩
    have h3 : fb_ct (fun q => rkP f g s k q || decide (q = k)) n ≤ fb_ct (fun q => decide (g q = s ∧ f q ≤ f k)) n := by
      refine fb_ct_sub (fun q _ z => ?_)
      simp only [rkP, Bool.or_eq_true, decide_eq_true_eq] at z ⊢
      rcases z with ⟨z1, z2⟩ | rfl
      · refine ⟨z1, ?_⟩
        simp only [fa_lt, fa_eq, fa_le] at *
        omega
      · exact ⟨hg, Int32.le_refl _⟩
    omega
set_option maxHeartbeats 4000000 in
set_option maxRecDepth 100000 in
theorem k_sumAt (n pl : Nat) (s : Int32) (σ : zSt) (hn : σ 145 52 = nI n) (h : n ≤ 60) (hpl : pl < fb_ct (fun k => decide (σ 178 k = s)) n) : Con mX12_sumAt 0 [.ref 145, .int s, .int (nI pl)] σ (fun r τ => τ = σ ∧ ∃ v, r = some (.int v) ∧ Sel (σ 179) (σ 178) n s pl v) := by
  refine Con.of (lv := [.ref 145, .int s, .int (nI pl), .long 0, .long 0, .long 0]) mk_X12_sumAt rfl (Nat.le_of_ble_eq_true rfl) rfl (fun X F E => ?_)
  have L : ∀ (f j : Nat) (z1 z2 : Value), j + f = n → (∀ k, k < j → ¬ (σ 178 k = s ∧ rk (σ 179) (σ 178) s n k = pl)) → Gs X 2 [.ref 145, .int s, .int (nI pl), .int (nI j), z1, z2] [] σ := by
    intro f
    induction f with
    | zero =>
      intro j z1 z2 hj hk
      exfalso
      obtain ⟨k, k1, k2, k3⟩ := rk_onto (f := σ 179) hpl
      exact hk k (by omega) ⟨k2, k3⟩
    | succ f ih =>
      intro j z1 z2 hj hk
      have LI : σ 178 j = s → ∀ (r q : Nat), q + r = n → Gs X 29 [.ref 145, .int s, .int (nI pl), .int (nI j), .int (nI (fb_ct (rkP (σ 179) (σ 178) s j) q)), .int (nI q)] [] σ := by
        intro c_17 r
        induction r with
        | zero =>
          intro q hq
          have hq : q = n := hq
          subst hq
          refine g_iload (nx := 31) F dX12_sumAt_29 rfl rfl ?_
          refine g_aload_n (nx := 32) 0 F dX12_sumAt_31 rfl rfl rfl ?_
          refine g_getV (nx := 35) (nI q) F dX12_sumAt_32 rfl fl_RX12_389 rfl (by decide) (by decide) rfl rfl (hn) ?_
          refine g_icmp_ge (nx := 38) 103 F dX12_sumAt_35 rfl (by decide) (fun c_35 => ?_) (fun c_35 => absurd c_35 (by exact fun zq => zq (nI_le (a := q) (b := q) (by omega) (by omega))))
          refine g_iload (nx := 105) F dX12_sumAt_103 rfl rfl ?_
          refine g_iload_n (nx := 106) 2 F dX12_sumAt_105 rfl rfl rfl ?_
          refine g_icmp_ne (nx := 109) 116 F dX12_sumAt_106 rfl (by decide) (fun c_106 => ?_) (fun c_106 => ?_)
          · refine g_iinc (nx := 119) (1) F dX12_sumAt_116 rfl rfl (by decide) (by decide) ?_
            try dsimp only [List.set]
            refine g_goto 2 F dX12_sumAt_119 (by decide) ?_
            rw [nI_1]
            refine ih (j + 1) _ _ (by omega) (fun k k1 k2 => ?_)
            rcases Nat.lt_or_ge k j with z | z
            · exact hk k z k2
            · have e : k = j := by omega
              subst e
              exact c_106 (congrArg nI k2.2)
          · refine g_aload_n (nx := 110) 0 F dX12_sumAt_109 rfl rfl rfl ?_
            refine g_getR (nx := 113) F dX12_sumAt_110 rfl fl_RX12_110 rfl (by decide) (by decide) rfl ?_
            refine g_iload_n (nx := 114) 3 F dX12_sumAt_113 rfl rfl rfl ?_
            refine g_ialdN (nx := 115) (j) (_) F dX12_sumAt_114 rfl rfl (by omega) (rfl) ?_
            refine g_iret F E dX12_sumAt_115 ?_
            have hse := rk_sel (f := σ 179) (g := σ 178) (n := q) (show j < q by omega) c_17
            have hpl2 := fb_ct_le (fun k => decide (σ 178 k = s)) q
            have e := (nI_eq (by have := rk_lt (f := σ 179) (show j < q by omega) c_17; have := fb_ct_le (fun k => decide (σ 178 k = s)) q; unfold rk at *; omega) (by omega)).mp c_106
            rw [show rk (σ 179) (σ 178) s q j = pl from e] at hse
            exact ⟨rfl, σ 179 j, rfl, hse⟩
        | succ r ihr =>
          intro q hq
          have hh := ihr (q + 1) (by omega)
          rw [fb_ct_succ] at hh
          simp only [rkP, decide_eq_true_eq] at hh
          refine g_iload (nx := 31) F dX12_sumAt_29 rfl rfl ?_
          refine g_aload_n (nx := 32) 0 F dX12_sumAt_31 rfl rfl rfl ?_
          refine g_getV (nx := 35) (nI n) F dX12_sumAt_32 rfl fl_RX12_389 rfl (by decide) (by decide) rfl rfl (hn) ?_
          refine g_icmp_ge (nx := 38) 103 F dX12_sumAt_35 rfl (by decide) (fun c_35 => absurd c_35 (by exact nI_ge (a := q) (b := n) (by omega) (by omega))) (fun c_35 => ?_)
          refine g_iload (nx := 40) F dX12_sumAt_38 rfl rfl ?_
          refine g_aload_n (nx := 41) 0 F dX12_sumAt_40 rfl rfl rfl ?_
          refine g_getR (nx := 44) F dX12_sumAt_41 rfl fl_RX12_107 rfl (by decide) (by decide) rfl ?_
          refine g_iload (nx := 46) F dX12_sumAt_44 rfl rfl ?_
          refine g_ialdN (nx := 47) (q) (_) F dX12_sumAt_46 rfl rfl (by omega) (rfl) ?_
          refine g_iload_n (nx := 48) 1 F dX12_sumAt_47 rfl rfl rfl ?_
          refine g_icmp_ne (nx := 51) 93 F dX12_sumAt_48 rfl (by decide) (fun c_48 => ?_) (fun c_48 => ?_)
          · refine g_iconst (nx := 94) (0) F dX12_sumAt_93 rfl rfl ?_
            refine g_iadd (nx := 95) F dX12_sumAt_94 rfl ?_
            refine g_istore (nx := 97) F dX12_sumAt_95 rfl (by decide) ?_
            try dsimp only [List.set]
            refine g_iinc (nx := 100) (1) F dX12_sumAt_97 rfl rfl (by decide) (by decide) ?_
            try dsimp only [List.set]
            refine g_goto 29 F dX12_sumAt_100 (by decide) ?_
            rw [nI_1]
            first
              | (rw [if_pos (by refine ⟨by assumption, ?_⟩; first | exact Or.inl (by assumption) | exact Or.inr ⟨by assumption, (nI_ltI (by omega) (by omega)).mp (not_le_I.mp (by assumption))⟩)] at hh; rw [show (1 : Int32) = nI 1 from rfl, nI_add]; exact hh)
              | (rw [if_neg (by rintro ⟨w1, w2⟩; first | exact absurd w1 (by assumption) | (rcases w2 with w2 | w2; exact absurd w2 (by assumption); first | exact absurd w2.1 (by assumption) | exact absurd (nI_lt w2.2 (by omega)) (not_lt_I.mpr (by assumption))))] at hh; rw [show (0 : Int32) = nI 0 from rfl, nI_add]; exact hh)
          · refine g_aload_n (nx := 52) 0 F dX12_sumAt_51 rfl rfl rfl ?_
            refine g_getR (nx := 55) F dX12_sumAt_52 rfl fl_RX12_110 rfl (by decide) (by decide) rfl ?_
            refine g_iload (nx := 57) F dX12_sumAt_55 rfl rfl ?_
            refine g_ialdN (nx := 58) (q) (_) F dX12_sumAt_57 rfl rfl (by omega) (rfl) ?_
            refine g_aload_n (nx := 59) 0 F dX12_sumAt_58 rfl rfl rfl ?_
            refine g_getR (nx := 62) F dX12_sumAt_59 rfl fl_RX12_110 rfl (by decide) (by decide) rfl ?_
            refine g_iload_n (nx := 63) 3 F dX12_sumAt_62 rfl rfl rfl ?_
            refine g_ialdN (nx := 64) (j) (_) F dX12_sumAt_63 rfl rfl (by omega) (rfl) ?_
            refine g_icmp_lt (nx := 67) 89 F dX12_sumAt_64 rfl (by decide) (fun c_64 => ?_) (fun c_64 => ?_)
            · refine g_iconst (nx := 90) (1) F dX12_sumAt_89 rfl rfl ?_
              refine g_goto 94 F dX12_sumAt_90 (by decide) ?_
              refine g_iadd (nx := 95) F dX12_sumAt_94 rfl ?_
              refine g_istore (nx := 97) F dX12_sumAt_95 rfl (by decide) ?_
              try dsimp only [List.set]
              refine g_iinc (nx := 100) (1) F dX12_sumAt_97 rfl rfl (by decide) (by decide) ?_
              try dsimp only [List.set]
              refine g_goto 29 F dX12_sumAt_100 (by decide) ?_
              rw [nI_1]
              first
                | (rw [if_pos (by refine ⟨by assumption, ?_⟩; first | exact Or.inl (by assumption) | exact Or.inr ⟨by assumption, (nI_ltI (by omega) (by omega)).mp (not_le_I.mp (by assumption))⟩)] at hh; rw [show (1 : Int32) = nI 1 from rfl, nI_add]; exact hh)
                | (rw [if_neg (by rintro ⟨w1, w2⟩; first | exact absurd w1 (by assumption) | (rcases w2 with w2 | w2; exact absurd w2 (by assumption); first | exact absurd w2.1 (by assumption) | exact absurd (nI_lt w2.2 (by omega)) (not_lt_I.mpr (by assumption))))] at hh; rw [show (0 : Int32) = nI 0 from rfl, nI_add]; exact hh)
            · refine g_aload_n (nx := 68) 0 F dX12_sumAt_67 rfl rfl rfl ?_
              refine g_getR (nx := 71) F dX12_sumAt_68 rfl fl_RX12_110 rfl (by decide) (by decide) rfl ?_
              refine g_iload (nx := 73) F dX12_sumAt_71 rfl rfl ?_
              refine g_ialdN (nx := 74) (q) (_) F dX12_sumAt_73 rfl rfl (by omega) (rfl) ?_
              refine g_aload_n (nx := 75) 0 F dX12_sumAt_74 rfl rfl rfl ?_
              refine g_getR (nx := 78) F dX12_sumAt_75 rfl fl_RX12_110 rfl (by decide) (by decide) rfl ?_
              refine g_iload_n (nx := 79) 3 F dX12_sumAt_78 rfl rfl rfl ?_
              refine g_ialdN (nx := 80) (j) (_) F dX12_sumAt_79 rfl rfl (by omega) (rfl) ?_
              refine g_icmp_ne (nx := 83) 93 F dX12_sumAt_80 rfl (by decide) (fun c_80 => ?_) (fun c_80 => ?_)
              · refine g_iconst (nx := 94) (0) F dX12_sumAt_93 rfl rfl ?_
                refine g_iadd (nx := 95) F dX12_sumAt_94 rfl ?_
                refine g_istore (nx := 97) F dX12_sumAt_95 rfl (by decide) ?_
                try dsimp only [List.set]
                refine g_iinc (nx := 100) (1) F dX12_sumAt_97 rfl rfl (by decide) (by decide) ?_
                try dsimp only [List.set]
                refine g_goto 29 F dX12_sumAt_100 (by decide) ?_
                rw [nI_1]
                first
                  | (rw [if_pos (by refine ⟨by assumption, ?_⟩; first | exact Or.inl (by assumption) | exact Or.inr ⟨by assumption, (nI_ltI (by omega) (by omega)).mp (not_le_I.mp (by assumption))⟩)] at hh; rw [show (1 : Int32) = nI 1 from rfl, nI_add]; exact hh)
                  | (rw [if_neg (by rintro ⟨w1, w2⟩; first | exact absurd w1 (by assumption) | (rcases w2 with w2 | w2; exact absurd w2 (by assumption); first | exact absurd w2.1 (by assumption) | exact absurd (nI_lt w2.2 (by omega)) (not_lt_I.mpr (by assumption))))] at hh; rw [show (0 : Int32) = nI 0 from rfl, nI_add]; exact hh)
              · refine g_iload (nx := 85) F dX12_sumAt_83 rfl rfl ?_
                refine g_iload_n (nx := 86) 3 F dX12_sumAt_85 rfl rfl rfl ?_
                refine g_icmp_ge (nx := 89) 93 F dX12_sumAt_86 rfl (by decide) (fun c_86 => ?_) (fun c_86 => ?_)
                · refine g_iconst (nx := 94) (0) F dX12_sumAt_93 rfl rfl ?_
                  refine g_iadd (nx := 95) F dX12_sumAt_94 rfl ?_
                  refine g_istore (nx := 97) F dX12_sumAt_95 rfl (by decide) ?_
                  try dsimp only [List.set]
                  refine g_iinc (nx := 100) (1) F dX12_sumAt_97 rfl rfl (by decide) (by decide) ?_
                  try dsimp only [List.set]
                  refine g_goto 29 F dX12_sumAt_100 (by decide) ?_
                  rw [nI_1]
                  first
                    | (rw [if_pos (by refine ⟨by assumption, ?_⟩; first | exact Or.inl (by assumption) | exact Or.inr ⟨by assumption, (nI_ltI (by omega) (by omega)).mp (not_le_I.mp (by assumption))⟩)] at hh; rw [show (1 : Int32) = nI 1 from rfl, nI_add]; exact hh)
                    | (rw [if_neg (by rintro ⟨w1, w2⟩; first | exact absurd w1 (by assumption) | (rcases w2 with w2 | w2; exact absurd w2 (by assumption); first | exact absurd w2.1 (by assumption) | exact absurd (nI_lt w2.2 (by omega)) (not_lt_I.mpr (by assumption))))] at hh; rw [show (0 : Int32) = nI 0 from rfl, nI_add]; exact hh)
                · refine g_iconst (nx := 90) (1) F dX12_sumAt_89 rfl rfl ?_
                  refine g_goto 94 F dX12_sumAt_90 (by decide) ?_
                  refine g_iadd (nx := 95) F dX12_sumAt_94 rfl ?_
                  refine g_istore (nx := 97) F dX12_sumAt_95 rfl (by decide) ?_
                  try dsimp only [List.set]
                  refine g_iinc (nx := 100) (1) F dX12_sumAt_97 rfl rfl (by decide) (by decide) ?_
                  try dsimp only [List.set]
                  refine g_goto 29 F dX12_sumAt_100 (by decide) ?_
                  rw [nI_1]
                  first
                    | (rw [if_pos (by refine ⟨by assumption, ?_⟩; first | exact Or.inl (by assumption) | exact Or.inr ⟨by assumption, (nI_ltI (by omega) (by omega)).mp (not_le_I.mp (by assumption))⟩)] at hh; rw [show (1 : Int32) = nI 1 from rfl, nI_add]; exact hh)
                    | (rw [if_neg (by rintro ⟨w1, w2⟩; first | exact absurd w1 (by assumption) | (rcases w2 with w2 | w2; exact absurd w2 (by assumption); first | exact absurd w2.1 (by assumption) | exact absurd (nI_lt w2.2 (by omega)) (not_lt_I.mpr (by assumption))))] at hh; rw [show (0 : Int32) = nI 0 from rfl, nI_add]; exact hh)
      refine g_iload_n (nx := 3) 3 F dX12_sumAt_2 rfl rfl rfl ?_
      refine g_aload_n (nx := 4) 0 F dX12_sumAt_3 rfl rfl rfl ?_
      refine g_getV (nx := 7) (nI n) F dX12_sumAt_4 rfl fl_RX12_389 rfl (by decide) (by decide) rfl rfl (hn) ?_
      refine g_icmp_ge (nx := 10) 122 F dX12_sumAt_7 rfl (by decide) (fun c_7 => absurd c_7 (by exact nI_ge (a := j) (b := n) (by omega) (by omega))) (fun c_7 => ?_)
      refine g_aload_n (nx := 11) 0 F dX12_sumAt_10 rfl rfl rfl ?_
      refine g_getR (nx := 14) F dX12_sumAt_11 rfl fl_RX12_107 rfl (by decide) (by decide) rfl ?_
      refine g_iload_n (nx := 15) 3 F dX12_sumAt_14 rfl rfl rfl ?_
      refine g_ialdN (nx := 16) (j) (_) F dX12_sumAt_15 rfl rfl (by omega) (rfl) ?_
      refine g_iload_n (nx := 17) 1 F dX12_sumAt_16 rfl rfl rfl ?_
      refine g_icmp_eq (nx := 20) 23 F dX12_sumAt_17 rfl (by decide) (fun c_17 => ?_) (fun c_17 => ?_)
      · refine g_iconst (nx := 24) (0) F dX12_sumAt_23 rfl rfl ?_
        refine g_istore (nx := 26) F dX12_sumAt_24 rfl (by decide) ?_
        try dsimp only [List.set]
        refine g_iconst (nx := 27) (0) F dX12_sumAt_26 rfl rfl ?_
        refine g_istore (nx := 29) F dX12_sumAt_27 rfl (by decide) ?_
        try dsimp only [List.set]
        exact LI c_17 n 0 (by omega)
      · refine g_goto 116 F dX12_sumAt_20 (by decide) ?_
        refine g_iinc (nx := 119) (1) F dX12_sumAt_116 rfl rfl (by decide) (by decide) ?_
        try dsimp only [List.set]
        refine g_goto 2 F dX12_sumAt_119 (by decide) ?_
        rw [nI_1]
        refine ih (j + 1) _ _ (by omega) (fun k k1 k2 => ?_)
        rcases Nat.lt_or_ge k j with z | z
        · exact hk k z k2
        · have e : k = j := by omega
          subst e
          exact c_17 k2.1
  refine g_iconst (nx := 1) (0) F dX12_sumAt_0 rfl rfl ?_
  refine g_istore_n (nx := 2) 3 F dX12_sumAt_1 rfl rfl (by decide) ?_
  try dsimp only [List.set]
  exact L n 0 _ _ (by omega) (fun k k1 => absurd k1 (Nat.not_lt_zero k))
def MidP (f g : Nat → Int32) (n : Nat) (st s li w r : Int32) : Prop :=
  (¬ ((0 ≤ s.toInt ∧ s.toInt < st.toInt) ∧ isin li 60 ∧ isin w 1) ∧ r = -1) ∨
  (((0 ≤ s.toInt ∧ s.toInt < st.toInt) ∧ isin li 60 ∧ isin w 1) ∧ ∃ a l : Nat, a = fb_ct (fun k => decide (g k = s)) n ∧ li = nI l ∧ l ≤ 60 ∧
    ((a = 0 ∧ r = -2) ∨ (a ≠ 0 ∧ w = 0 ∧ a / 2 < l ∧ r = 0) ∨ (a ≠ 0 ∧ w = 0 ∧ l ≤ a / 2 ∧ Sel f g n s (a / 2 - l) r) ∨ (a ≠ 0 ∧ w ≠ 0 ∧ a ≤ a / 2 + l ∧ r = 10000) ∨ (a ≠ 0 ∧ w ≠ 0 ∧ a / 2 + l < a ∧ Sel f g n s (a / 2 + l) r)))
theorem MidP_one {f g f2 g2 : Nat → Int32} {n : Nat} {st s li w r r2 : Int32} (hc : ∀ P : Int32 → Int32 → Bool, fb_ct (fun k => P (f k) (g k)) n = fb_ct (fun k => P (f2 k) (g2 k)) n) (h1 : MidP f g n st s li w r) (h2 : MidP f2 g2 n st s li w r2) : r = r2 := by
  have ec := hc (fun _ b => decide (b = s))
  rcases h1 with ⟨a1, a2⟩ | ⟨a1, a, l, ea, el, hl, h1⟩
  · rcases h2 with ⟨b1, b2⟩ | ⟨b1, b2⟩
    · rw [a2, b2]
    · exact absurd b1 a1
  · rcases h2 with ⟨b1, b2⟩ | ⟨b1, b, l2, eb, el2, hl2, h2⟩
    · exact absurd a1 b1
    · have e1 : l = l2 := (nI_eq (by omega) (by omega)).mp (el.symm.trans el2)
      have e2 : b = a := by rw [ea, eb, ec]
      subst e1 e2
      rcases h1 with ⟨c1, c2⟩ | ⟨c1, c2, c3, c4⟩ | ⟨c1, c2, c3, c4⟩ | ⟨c1, c2, c3, c4⟩ | ⟨c1, c2, c3, c4⟩ <;> rcases h2 with ⟨d1, d2⟩ | ⟨d1, d2, d3, d4⟩ | ⟨d1, d2, d3, d4⟩ | ⟨d1, d2, d3, d4⟩ | ⟨d1, d2, d3, d4⟩ <;>
        first | exact absurd d1 c1 | exact absurd c1 d1 | exact absurd c2 d2 | exact absurd d2 c2 | (exfalso; omega) | (rw [c2, d2]; done) | (rw [c4, d4]; done) | exact Sel_one hc c4 d4
set_option maxHeartbeats 4000000 in
set_option maxRecDepth 100000 in
theorem c_middle (n : Nat) (s li w : Int32) (σ : zSt) (hn : σ 52 2 = nI n) (h : n ≤ 60) (hsrt : srt (σ 53) n) : Con mX11_middle 1 [.ref 0, .int s, .int li, .int w] σ (fun r τ => τ = σ ∧ ∃ v, r = some (.int v) ∧ MidP (σ 53) (σ 54) n (σ 3 6) s li w v) := by
  refine Con.of (lv := [.ref 0, .int s, .int li, .int w, .long 0, .long 0]) mk_X11_middle rfl (Nat.le_of_ble_eq_true rfl) rfl (fun X F E => ?_)
  by_cases hA : (0 ≤ s.toInt ∧ s.toInt < (σ 3 6).toInt) ∧ isin li 60 ∧ isin w 1
  · obtain ⟨l, hl, el⟩ := nI_rng (n := 60) (x := li) (by omega) (by omega)
    subst el
    have hct := fb_ct_le (fun k => decide (σ 54 k = s)) n
    obtain ⟨a, ea⟩ : ∃ a, a = fb_ct (fun k => decide (σ 54 k = s)) n := ⟨_, rfl⟩
    rw [← ea] at hct
    refine g_aload_n (nx := 1) 0 F dX11_middle_0 rfl rfl rfl ?_
    refine g_getR (nx := 4) F dX11_middle_1 rfl fl_RX11_19 rfl (by decide) (by decide) rfl ?_
    refine g_iload_n (nx := 5) 1 F dX11_middle_4 rfl rfl rfl ?_
    refine g_callV (nx := 8) 1 0 [.int s] F dX11_middle_5 rfl ml_RX11_269 mo_X2_isStep rfl rfl rfl rfl (Nat.le_of_ble_eq_true rfl) (by first | decide | omega) (c_isStep s _) (fun r_5 τ_5 q_5 => ?_)
    obtain ⟨rfl, et_5⟩ := q_5
    have et_5 := et_5.symm
    subst et_5
    dsimp only [Option.toList, List.append, List.cons_append, List.nil_append]
    refine g_if_eq (nx := 11) 28 F dX11_middle_8 rfl (by decide) (fun c_8 => absurd c_8 (by exact bI_n0.mpr hA.1)) (fun c_8 => ?_)
    refine g_iload_n (nx := 12) 2 F dX11_middle_11 rfl rfl rfl ?_
    refine g_bipush (nx := 14) (60) F dX11_middle_12 rfl (by decide) ?_
    refine g_callS (nx := 17) 2 0 [.int (nI l), .int 60] F dX11_middle_14 rfl ml_RX11_79 mo_X11_isOutside rfl rfl (Nat.le_of_ble_eq_true rfl) (by first | decide | omega) (c_isOutside (nI l) 60 _) (fun r_14 τ_14 q_14 => ?_)
    obtain ⟨rfl, et_14⟩ := q_14
    have et_14 := et_14.symm
    subst et_14
    dsimp only [Option.toList, List.append, List.cons_append, List.nil_append]
    refine g_if_ne (nx := 20) 28 F dX11_middle_17 rfl (by decide) (fun c_17 => absurd c_17 (by exact fun q => q (bI_f (by simp only [Int32.reduceToInt]; omega)))) (fun c_17 => ?_)
    refine g_iload_n (nx := 21) 3 F dX11_middle_20 rfl rfl rfl ?_
    refine g_iconst (nx := 22) (1) F dX11_middle_21 rfl rfl ?_
    refine g_callS (nx := 25) 2 0 [.int w, .int 1] F dX11_middle_22 rfl ml_RX11_79 mo_X11_isOutside rfl rfl (Nat.le_of_ble_eq_true rfl) (by first | decide | omega) (c_isOutside w 1 _) (fun r_22 τ_22 q_22 => ?_)
    obtain ⟨rfl, et_22⟩ := q_22
    have et_22 := et_22.symm
    subst et_22
    dsimp only [Option.toList, List.append, List.cons_append, List.nil_append]
    refine g_if_eq (nx := 28) 30 F dX11_middle_25 rfl (by decide) (fun c_25 => ?_) (fun c_25 => absurd c_25 (by exact fun q => q (bI_f (by simp only [Int32.reduceToInt]; omega))))
    refine g_aload_n (nx := 31) 0 F dX11_middle_30 rfl rfl rfl ?_
    refine g_getR (nx := 34) F dX11_middle_31 rfl fl_RX11_68 rfl (by decide) (by decide) rfl ?_
    refine g_iload_n (nx := 35) 1 F dX11_middle_34 rfl rfl rfl ?_
    refine g_callV (nx := 38) 1 0 [.int s] F dX11_middle_35 rfl ml_RX11_281 mo_X4_entriesOf rfl rfl rfl rfl (Nat.le_of_ble_eq_true rfl) (by first | decide | omega) (c_entriesOf n s _ hn h) (fun r_35 τ_35 q_35 => ?_)
    obtain ⟨rfl, et_35⟩ := q_35
    have et_35 := et_35.symm
    subst et_35
    dsimp only [Option.toList, List.append, List.cons_append, List.nil_append]
    rw [← ea]
    refine g_istore (nx := 40) F dX11_middle_38 rfl (by decide) ?_
    try dsimp only [List.set]
    refine g_iload (nx := 42) F dX11_middle_40 rfl rfl ?_
    refine g_if_ne (nx := 45) 48 F dX11_middle_42 rfl (by decide) (fun c_42 => ?_) (fun c_42 => ?_)
    · refine g_iload_n (nx := 49) 3 F dX11_middle_48 rfl rfl rfl ?_
      refine g_if_ne (nx := 52) 61 F dX11_middle_49 rfl (by decide) (fun c_49 => ?_) (fun c_49 => ?_)
      · refine g_iload (nx := 63) F dX11_middle_61 rfl rfl ?_
        refine g_iconst (nx := 64) (2) F dX11_middle_63 rfl rfl ?_
        refine g_idiv (nx := 65) F dX11_middle_64 rfl (by decide) ?_
        refine g_iload_n (nx := 66) 2 F dX11_middle_65 rfl rfl rfl ?_
        rw [show (2 : Int32) = nI 2 from rfl, pk_div (by omega) (by omega) (by omega)]
        refine g_iadd (nx := 67) F dX11_middle_66 rfl ?_
        refine g_istore (nx := 69) F dX11_middle_67 rfl (by decide) ?_
        try dsimp only [List.set]
        have ha : a ≠ 0 := fun z => c_42 (by rw [z]; rfl)
        first
          | (by_cases hlt : a / 2 < l
             · refine g_aload_n (nx := 70) 0 F dX11_middle_69 rfl rfl rfl ?_
               refine g_getR (nx := 73) F dX11_middle_70 rfl fl_RX11_68 rfl (by decide) (by decide) rfl ?_
               refine g_iload_n (nx := 74) 1 F dX11_middle_73 rfl rfl rfl ?_
               refine g_iload (nx := 76) F dX11_middle_74 rfl rfl ?_
               refine g_callV (nx := 79) 2 0 [.int s, .int (nI (a / 2) - nI l)] F dX11_middle_76 rfl ml_RX11_284 mo_X4_sumAt rfl rfl rfl rfl (Nat.le_of_ble_eq_true rfl) (by first | decide | omega) (c_sumAt_neg s _ _ (pk_sneg (by omega) hlt)) (fun r_76 τ_76 q_76 => ?_)
               obtain ⟨rfl, rfl⟩ := q_76
               dsimp only [Option.toList, List.append, List.cons_append, List.nil_append]
               refine g_iret F E dX11_middle_79 ?_
               exact ⟨rfl, _, rfl, Or.inr ⟨hA, a, l, ea, rfl, hl, Or.inr (Or.inl ⟨ha, c_49, hlt, rfl⟩)⟩⟩
             · rw [pk_sub (by omega)]
               refine g_aload_n (nx := 70) 0 F dX11_middle_69 rfl rfl rfl ?_
               refine g_getR (nx := 73) F dX11_middle_70 rfl fl_RX11_68 rfl (by decide) (by decide) rfl ?_
               refine g_iload_n (nx := 74) 1 F dX11_middle_73 rfl rfl rfl ?_
               refine g_iload (nx := 76) F dX11_middle_74 rfl rfl ?_
               refine g_callV (nx := 79) 2 0 [.int s, .int (nI (a / 2 - l))] F dX11_middle_76 rfl ml_RX11_284 mo_X4_sumAt rfl rfl rfl rfl (Nat.le_of_ble_eq_true rfl) (by first | decide | omega) (c_sumAt n (a / 2 - l) s _ hn h (by omega) hsrt) (fun r_76 τ_76 q_76 => ?_)
               obtain ⟨rfl, ⟨_, v, rfl, hv⟩ | ⟨hv, _⟩⟩ := q_76
               · dsimp only [Option.toList, List.append, List.cons_append, List.nil_append]
                 refine g_iret F E dX11_middle_79 ?_
                 exact ⟨rfl, _, rfl, Or.inr ⟨hA, a, l, ea, rfl, hl, Or.inr (Or.inr (Or.inl ⟨ha, c_49, by omega, hv⟩))⟩⟩
               · exfalso
                 omega)
          | (rw [nI_add]
             refine g_aload_n (nx := 70) 0 F dX11_middle_69 rfl rfl rfl ?_
             refine g_getR (nx := 73) F dX11_middle_70 rfl fl_RX11_68 rfl (by decide) (by decide) rfl ?_
             refine g_iload_n (nx := 74) 1 F dX11_middle_73 rfl rfl rfl ?_
             refine g_iload (nx := 76) F dX11_middle_74 rfl rfl ?_
             refine g_callV (nx := 79) 2 0 [.int s, .int (nI (a / 2 + l))] F dX11_middle_76 rfl ml_RX11_284 mo_X4_sumAt rfl rfl rfl rfl (Nat.le_of_ble_eq_true rfl) (by first | decide | omega) (c_sumAt n (a / 2 + l) s _ hn h (by omega) hsrt) (fun r_76 τ_76 q_76 => ?_)
             obtain ⟨rfl, ⟨hp, v, rfl, hv⟩ | ⟨hp, rfl⟩⟩ := q_76
             · dsimp only [Option.toList, List.append, List.cons_append, List.nil_append]
               refine g_iret F E dX11_middle_79 ?_
               exact ⟨rfl, _, rfl, Or.inr ⟨hA, a, l, ea, rfl, hl, Or.inr (Or.inr (Or.inr (Or.inr ⟨ha, c_49, by omega, hv⟩)))⟩⟩
             · dsimp only [Option.toList, List.append, List.cons_append, List.nil_append]
               refine g_iret F E dX11_middle_79 ?_
               exact ⟨rfl, _, rfl, Or.inr ⟨hA, a, l, ea, rfl, hl, Or.inr (Or.inr (Or.inr (Or.inl ⟨ha, c_49, by omega, rfl⟩)))⟩⟩)
      · refine g_iload (nx := 54) F dX11_middle_52 rfl rfl ?_
        refine g_iconst (nx := 55) (2) F dX11_middle_54 rfl rfl ?_
        refine g_idiv (nx := 56) F dX11_middle_55 rfl (by decide) ?_
        refine g_iload_n (nx := 57) 2 F dX11_middle_56 rfl rfl rfl ?_
        rw [show (2 : Int32) = nI 2 from rfl, pk_div (by omega) (by omega) (by omega)]
        refine g_isub (nx := 58) F dX11_middle_57 rfl ?_
        refine g_goto 67 F dX11_middle_58 (by decide) ?_
        refine g_istore (nx := 69) F dX11_middle_67 rfl (by decide) ?_
        try dsimp only [List.set]
        have ha : a ≠ 0 := fun z => c_42 (by rw [z]; rfl)
        first
          | (by_cases hlt : a / 2 < l
             · refine g_aload_n (nx := 70) 0 F dX11_middle_69 rfl rfl rfl ?_
               refine g_getR (nx := 73) F dX11_middle_70 rfl fl_RX11_68 rfl (by decide) (by decide) rfl ?_
               refine g_iload_n (nx := 74) 1 F dX11_middle_73 rfl rfl rfl ?_
               refine g_iload (nx := 76) F dX11_middle_74 rfl rfl ?_
               refine g_callV (nx := 79) 2 0 [.int s, .int (nI (a / 2) - nI l)] F dX11_middle_76 rfl ml_RX11_284 mo_X4_sumAt rfl rfl rfl rfl (Nat.le_of_ble_eq_true rfl) (by first | decide | omega) (c_sumAt_neg s _ _ (pk_sneg (by omega) hlt)) (fun r_76 τ_76 q_76 => ?_)
               obtain ⟨rfl, rfl⟩ := q_76
               dsimp only [Option.toList, List.append, List.cons_append, List.nil_append]
               refine g_iret F E dX11_middle_79 ?_
               exact ⟨rfl, _, rfl, Or.inr ⟨hA, a, l, ea, rfl, hl, Or.inr (Or.inl ⟨ha, c_49, hlt, rfl⟩)⟩⟩
             · rw [pk_sub (by omega)]
               refine g_aload_n (nx := 70) 0 F dX11_middle_69 rfl rfl rfl ?_
               refine g_getR (nx := 73) F dX11_middle_70 rfl fl_RX11_68 rfl (by decide) (by decide) rfl ?_
               refine g_iload_n (nx := 74) 1 F dX11_middle_73 rfl rfl rfl ?_
               refine g_iload (nx := 76) F dX11_middle_74 rfl rfl ?_
               refine g_callV (nx := 79) 2 0 [.int s, .int (nI (a / 2 - l))] F dX11_middle_76 rfl ml_RX11_284 mo_X4_sumAt rfl rfl rfl rfl (Nat.le_of_ble_eq_true rfl) (by first | decide | omega) (c_sumAt n (a / 2 - l) s _ hn h (by omega) hsrt) (fun r_76 τ_76 q_76 => ?_)
               obtain ⟨rfl, ⟨_, v, rfl, hv⟩ | ⟨hv, _⟩⟩ := q_76
               · dsimp only [Option.toList, List.append, List.cons_append, List.nil_append]
                 refine g_iret F E dX11_middle_79 ?_
                 exact ⟨rfl, _, rfl, Or.inr ⟨hA, a, l, ea, rfl, hl, Or.inr (Or.inr (Or.inl ⟨ha, c_49, by omega, hv⟩))⟩⟩
               · exfalso
                 omega)
          | (rw [nI_add]
             refine g_aload_n (nx := 70) 0 F dX11_middle_69 rfl rfl rfl ?_
             refine g_getR (nx := 73) F dX11_middle_70 rfl fl_RX11_68 rfl (by decide) (by decide) rfl ?_
             refine g_iload_n (nx := 74) 1 F dX11_middle_73 rfl rfl rfl ?_
             refine g_iload (nx := 76) F dX11_middle_74 rfl rfl ?_
             refine g_callV (nx := 79) 2 0 [.int s, .int (nI (a / 2 + l))] F dX11_middle_76 rfl ml_RX11_284 mo_X4_sumAt rfl rfl rfl rfl (Nat.le_of_ble_eq_true rfl) (by first | decide | omega) (c_sumAt n (a / 2 + l) s _ hn h (by omega) hsrt) (fun r_76 τ_76 q_76 => ?_)
             obtain ⟨rfl, ⟨hp, v, rfl, hv⟩ | ⟨hp, rfl⟩⟩ := q_76
             · dsimp only [Option.toList, List.append, List.cons_append, List.nil_append]
               refine g_iret F E dX11_middle_79 ?_
               exact ⟨rfl, _, rfl, Or.inr ⟨hA, a, l, ea, rfl, hl, Or.inr (Or.inr (Or.inr (Or.inr ⟨ha, c_49, by omega, hv⟩)))⟩⟩
             · dsimp only [Option.toList, List.append, List.cons_append, List.nil_append]
               refine g_iret F E dX11_middle_79 ?_
               exact ⟨rfl, _, rfl, Or.inr ⟨hA, a, l, ea, rfl, hl, Or.inr (Or.inr (Or.inr (Or.inl ⟨ha, c_49, by omega, rfl⟩)))⟩⟩)
    · refine g_bipush (nx := 47) (-2) F dX11_middle_45 rfl (by decide) ?_
      refine g_iret F E dX11_middle_47 ?_
      exact ⟨rfl, _, rfl, Or.inr ⟨hA, a, l, ea, rfl, hl, Or.inl ⟨by have := (nI_eq (b := 0) (by omega) (by omega)).mp c_42; exact this, rfl⟩⟩⟩
  · refine g_aload_n (nx := 1) 0 F dX11_middle_0 rfl rfl rfl ?_
    refine g_getR (nx := 4) F dX11_middle_1 rfl fl_RX11_19 rfl (by decide) (by decide) rfl ?_
    refine g_iload_n (nx := 5) 1 F dX11_middle_4 rfl rfl rfl ?_
    refine g_callV (nx := 8) 1 0 [.int s] F dX11_middle_5 rfl ml_RX11_269 mo_X2_isStep rfl rfl rfl rfl (Nat.le_of_ble_eq_true rfl) (by first | decide | omega) (c_isStep s _) (fun r_5 τ_5 q_5 => ?_)
    obtain ⟨rfl, et_5⟩ := q_5
    have et_5 := et_5.symm
    subst et_5
    dsimp only [Option.toList, List.append, List.cons_append, List.nil_append]
    refine g_if_eq (nx := 11) 28 F dX11_middle_8 rfl (by decide) (fun c_8 => ?_) (fun c_8 => ?_)
    · refine g_iconst (nx := 29) (-1) F dX11_middle_28 rfl rfl ?_
      refine g_iret F E dX11_middle_29 ?_
      exact ⟨rfl, _, rfl, Or.inl ⟨hA, rfl⟩⟩
    · refine g_iload_n (nx := 12) 2 F dX11_middle_11 rfl rfl rfl ?_
      refine g_bipush (nx := 14) (60) F dX11_middle_12 rfl (by decide) ?_
      refine g_callS (nx := 17) 2 0 [.int li, .int 60] F dX11_middle_14 rfl ml_RX11_79 mo_X11_isOutside rfl rfl (Nat.le_of_ble_eq_true rfl) (by first | decide | omega) (c_isOutside li 60 _) (fun r_14 τ_14 q_14 => ?_)
      obtain ⟨rfl, et_14⟩ := q_14
      have et_14 := et_14.symm
      subst et_14
      dsimp only [Option.toList, List.append, List.cons_append, List.nil_append]
      refine g_if_ne (nx := 20) 28 F dX11_middle_17 rfl (by decide) (fun c_17 => ?_) (fun c_17 => ?_)
      · refine g_iconst (nx := 29) (-1) F dX11_middle_28 rfl rfl ?_
        refine g_iret F E dX11_middle_29 ?_
        exact ⟨rfl, _, rfl, Or.inl ⟨hA, rfl⟩⟩
      · refine g_iload_n (nx := 21) 3 F dX11_middle_20 rfl rfl rfl ?_
        refine g_iconst (nx := 22) (1) F dX11_middle_21 rfl rfl ?_
        refine g_callS (nx := 25) 2 0 [.int w, .int 1] F dX11_middle_22 rfl ml_RX11_79 mo_X11_isOutside rfl rfl (Nat.le_of_ble_eq_true rfl) (by first | decide | omega) (c_isOutside w 1 _) (fun r_22 τ_22 q_22 => ?_)
        obtain ⟨rfl, et_22⟩ := q_22
        have et_22 := et_22.symm
        subst et_22
        dsimp only [Option.toList, List.append, List.cons_append, List.nil_append]
        refine g_if_eq (nx := 28) 30 F dX11_middle_25 rfl (by decide) (fun c_25 => ?_) (fun c_25 => ?_)
        · exfalso
          clear F E
          simp only [isin, bI_0, bI_n0, ne_eq, Decidable.not_not] at *
          (try simp only [fa_eq, fa_lt, fa_le, Int32.reduceToInt, Int32.toInt_zero] at *)
          omega
        · refine g_iconst (nx := 29) (-1) F dX11_middle_28 rfl rfl ?_
          refine g_iret F E dX11_middle_29 ?_
          exact ⟨rfl, _, rfl, Or.inl ⟨hA, rfl⟩⟩
set_option maxHeartbeats 4000000 in
set_option maxRecDepth 100000 in
theorem k_middle (n : Nat) (s li w : Int32) (σ : zSt) (hn : σ 145 52 = nI n) (h : n ≤ 60) : Con mX12_middle 1 [.ref 145, .int s, .int li, .int w] σ (fun r τ => τ = σ ∧ ∃ v, r = some (.int v) ∧ MidP (σ 179) (σ 178) n (σ 145 2) s li w v) := by
  refine Con.of (lv := [.ref 145, .int s, .int li, .int w, .long 0, .long 0]) mk_X12_middle rfl (Nat.le_of_ble_eq_true rfl) rfl (fun X F E => ?_)
  by_cases hA : (0 ≤ s.toInt ∧ s.toInt < (σ 145 2).toInt) ∧ isin li 60 ∧ isin w 1
  · obtain ⟨l, hl, el⟩ := nI_rng (n := 60) (x := li) (by omega) (by omega)
    subst el
    have hct := fb_ct_le (fun k => decide (σ 178 k = s)) n
    obtain ⟨a, ea⟩ : ∃ a, a = fb_ct (fun k => decide (σ 178 k = s)) n := ⟨_, rfl⟩
    rw [← ea] at hct
    have L : ∀ (q j : Nat), j + q = n → Gs X 35 [.ref 145, .int s, .int (nI l), .int w, .int (nI (fb_ct (fun k => decide (σ 178 k = s)) j)), .int (nI j)] [] σ := by
      intro q
      induction q with
      | zero =>
        intro j hj
        have hj : j = n := hj
        subst hj
        rw [← ea]
        refine g_iload (nx := 37) F dX12_middle_35 rfl rfl ?_
        refine g_aload_n (nx := 38) 0 F dX12_middle_37 rfl rfl rfl ?_
        refine g_getV (nx := 41) (nI j) F dX12_middle_38 rfl fl_RX12_389 rfl (by decide) (by decide) rfl rfl (hn) ?_
        refine g_icmp_ge (nx := 44) 71 F dX12_middle_41 rfl (by decide) (fun c_41 => ?_) (fun c_41 => absurd c_41 (by exact fun zq => zq (nI_le (a := j) (b := j) (by omega) (by omega))))
        refine g_iload (nx := 73) F dX12_middle_71 rfl rfl ?_
        refine g_iconst (nx := 74) (2) F dX12_middle_73 rfl rfl ?_
        refine g_idiv (nx := 75) F dX12_middle_74 rfl (by decide) ?_
        rw [show (2 : Int32) = nI 2 from rfl, pk_div (by omega) (by omega) (by omega)]
        refine g_istore (nx := 77) F dX12_middle_75 rfl (by decide) ?_
        try dsimp only [List.set]
        refine g_iload (nx := 79) F dX12_middle_77 rfl rfl ?_
        refine g_if_ne (nx := 82) 85 F dX12_middle_79 rfl (by decide) (fun c_79 => ?_) (fun c_79 => ?_)
        · refine g_iload_n (nx := 86) 3 F dX12_middle_85 rfl rfl rfl ?_
          refine g_if_ne (nx := 89) 110 F dX12_middle_86 rfl (by decide) (fun c_86 => ?_) (fun c_86 => ?_)
          · refine g_iload (nx := 112) F dX12_middle_110 rfl rfl ?_
            refine g_iload_n (nx := 113) 2 F dX12_middle_112 rfl rfl rfl ?_
            refine g_iadd (nx := 114) F dX12_middle_113 rfl ?_
            refine g_iload (nx := 116) F dX12_middle_114 rfl rfl ?_
            have ha : a ≠ 0 := fun z => c_79 (by rw [z]; rfl)
            rw [nI_add]
            refine g_icmp_lt (nx := 119) 125 F dX12_middle_116 rfl (by decide) (fun c_116 => ?_) (fun c_116 => ?_)
            · refine g_aload_n (nx := 126) 0 F dX12_middle_125 rfl rfl rfl ?_
              refine g_iload_n (nx := 127) 1 F dX12_middle_126 rfl rfl rfl ?_
              refine g_iload (nx := 129) F dX12_middle_127 rfl rfl ?_
              refine g_iload_n (nx := 130) 2 F dX12_middle_129 rfl rfl rfl ?_
              refine g_iadd (nx := 131) F dX12_middle_130 rfl ?_
              rw [nI_add]
              refine g_callV (nx := 134) 2 0 [.int s, .int (nI (a / 2 + l))] F dX12_middle_131 rfl ml_RX12_392 mo_X12_sumAt rfl rfl rfl rfl (Nat.le_of_ble_eq_true rfl) (by first | decide | omega) (k_sumAt j (a / 2 + l) s _ hn h (by have := (nI_ltI (by omega) (by omega)).mp c_116; omega)) (fun r_131 τ_131 q_131 => ?_)
              obtain ⟨rfl, v, rfl, hv⟩ := q_131
              dsimp only [Option.toList, List.append, List.cons_append, List.nil_append]
              refine g_iret F E dX12_middle_134 ?_
              first
                | exact ⟨rfl, _, rfl, Or.inr ⟨hA, a, l, ea, rfl, hl, Or.inr (Or.inr (Or.inr (Or.inr ⟨ha, c_86, (nI_ltI (by omega) (by omega)).mp c_116, hv⟩)))⟩⟩
                | exact ⟨rfl, _, rfl, Or.inr ⟨hA, a, l, ea, rfl, hl, Or.inr (Or.inr (Or.inr (Or.inl ⟨ha, c_86, by rcases Nat.lt_or_ge (a / 2 + l) a with z | z; exact absurd (nI_lt z (by omega)) c_116; exact z, rfl⟩)))⟩⟩
            · refine g_sipush (nx := 122) (10000) F dX12_middle_119 rfl (by decide) ?_
              refine g_goto 134 F dX12_middle_122 (by decide) ?_
              refine g_iret F E dX12_middle_134 ?_
              first
                | exact ⟨rfl, _, rfl, Or.inr ⟨hA, a, l, ea, rfl, hl, Or.inr (Or.inr (Or.inr (Or.inr ⟨ha, c_86, (nI_ltI (by omega) (by omega)).mp c_116, hv⟩)))⟩⟩
                | exact ⟨rfl, _, rfl, Or.inr ⟨hA, a, l, ea, rfl, hl, Or.inr (Or.inr (Or.inr (Or.inl ⟨ha, c_86, by rcases Nat.lt_or_ge (a / 2 + l) a with z | z; exact absurd (nI_lt z (by omega)) c_116; exact z, rfl⟩)))⟩⟩
          · refine g_iload (nx := 91) F dX12_middle_89 rfl rfl ?_
            refine g_iload_n (nx := 92) 2 F dX12_middle_91 rfl rfl rfl ?_
            refine g_isub (nx := 93) F dX12_middle_92 rfl ?_
            have ha : a ≠ 0 := fun z => c_79 (by rw [z]; rfl)
            refine g_if_ge (nx := 96) 100 F dX12_middle_93 rfl (by decide) (fun c_93 => ?_) (fun c_93 => ?_)
            · refine g_aload_n (nx := 101) 0 F dX12_middle_100 rfl rfl rfl ?_
              refine g_iload_n (nx := 102) 1 F dX12_middle_101 rfl rfl rfl ?_
              refine g_iload (nx := 104) F dX12_middle_102 rfl rfl ?_
              refine g_iload_n (nx := 105) 2 F dX12_middle_104 rfl rfl rfl ?_
              refine g_isub (nx := 106) F dX12_middle_105 rfl ?_
              have hlt : l ≤ a / 2 := by rcases Nat.lt_or_ge (a / 2) l with z | z; exact absurd c_93 (not_le_I.mpr (pk_sneg (by omega) z)); exact z
              rw [pk_sub hlt]
              refine g_callV (nx := 109) 2 0 [.int s, .int (nI (a / 2 - l))] F dX12_middle_106 rfl ml_RX12_392 mo_X12_sumAt rfl rfl rfl rfl (Nat.le_of_ble_eq_true rfl) (by first | decide | omega) (k_sumAt j (a / 2 - l) s _ hn h (by omega)) (fun r_106 τ_106 q_106 => ?_)
              obtain ⟨rfl, v, rfl, hv⟩ := q_106
              dsimp only [Option.toList, List.append, List.cons_append, List.nil_append]
              refine g_iret F E dX12_middle_109 ?_
              first
                | exact ⟨rfl, _, rfl, Or.inr ⟨hA, a, l, ea, rfl, hl, Or.inr (Or.inl ⟨ha, c_86, by rcases Nat.lt_or_ge (a / 2) l with z | z; exact z; exact absurd (by rw [pk_sub z]; exact nI_pos' (by omega)) c_93, rfl⟩)⟩⟩
                | exact ⟨rfl, _, rfl, Or.inr ⟨hA, a, l, ea, rfl, hl, Or.inr (Or.inr (Or.inl ⟨ha, c_86, hlt, hv⟩))⟩⟩
            · refine g_iconst (nx := 97) (0) F dX12_middle_96 rfl rfl ?_
              refine g_goto 109 F dX12_middle_97 (by decide) ?_
              refine g_iret F E dX12_middle_109 ?_
              first
                | exact ⟨rfl, _, rfl, Or.inr ⟨hA, a, l, ea, rfl, hl, Or.inr (Or.inl ⟨ha, c_86, by rcases Nat.lt_or_ge (a / 2) l with z | z; exact z; exact absurd (by rw [pk_sub z]; exact nI_pos' (by omega)) c_93, rfl⟩)⟩⟩
                | exact ⟨rfl, _, rfl, Or.inr ⟨hA, a, l, ea, rfl, hl, Or.inr (Or.inr (Or.inl ⟨ha, c_86, hlt, hv⟩))⟩⟩
        · refine g_bipush (nx := 84) (-2) F dX12_middle_82 rfl (by decide) ?_
          refine g_iret F E dX12_middle_84 ?_
          exact ⟨rfl, _, rfl, Or.inr ⟨hA, a, l, ea, rfl, hl, Or.inl ⟨by have := (nI_eq (b := 0) (by omega) (by omega)).mp c_79; exact this, rfl⟩⟩⟩
      | succ q ih =>
        intro j hj
        have hh := ih (j + 1) (by omega)
        rw [fb_ct_succ] at hh
        refine g_iload (nx := 37) F dX12_middle_35 rfl rfl ?_
        refine g_aload_n (nx := 38) 0 F dX12_middle_37 rfl rfl rfl ?_
        refine g_getV (nx := 41) (nI n) F dX12_middle_38 rfl fl_RX12_389 rfl (by decide) (by decide) rfl rfl (hn) ?_
        refine g_icmp_ge (nx := 44) 71 F dX12_middle_41 rfl (by decide) (fun c_41 => absurd c_41 (by exact nI_ge (a := j) (b := n) (by omega) (by omega))) (fun c_41 => ?_)
        refine g_iload (nx := 46) F dX12_middle_44 rfl rfl ?_
        refine g_aload_n (nx := 47) 0 F dX12_middle_46 rfl rfl rfl ?_
        refine g_getR (nx := 50) F dX12_middle_47 rfl fl_RX12_107 rfl (by decide) (by decide) rfl ?_
        refine g_iload (nx := 52) F dX12_middle_50 rfl rfl ?_
        refine g_ialdN (nx := 53) (j) (_) F dX12_middle_52 rfl rfl (by omega) (rfl) ?_
        refine g_iload_n (nx := 54) 1 F dX12_middle_53 rfl rfl rfl ?_
        refine g_icmp_ne (nx := 57) 61 F dX12_middle_54 rfl (by decide) (fun c_54 => ?_) (fun c_54 => ?_)
        · refine g_iconst (nx := 62) (0) F dX12_middle_61 rfl rfl ?_
          refine g_iadd (nx := 63) F dX12_middle_62 rfl ?_
          refine g_istore (nx := 65) F dX12_middle_63 rfl (by decide) ?_
          try dsimp only [List.set]
          refine g_iinc (nx := 68) (1) F dX12_middle_65 rfl rfl (by decide) (by decide) ?_
          try dsimp only [List.set]
          refine g_goto 35 F dX12_middle_68 (by decide) ?_
          rw [nI_1]
          first
            | (rw [if_pos (by simp only [decide_eq_true_eq]; assumption)] at hh; rw [show (1 : Int32) = nI 1 from rfl, nI_add]; exact hh)
            | (rw [if_neg (by simp only [decide_eq_true_eq]; assumption), Nat.add_zero] at hh; rw [show (0 : Int32) = nI 0 from rfl, nI_add, Nat.add_zero]; exact hh)
        · refine g_iconst (nx := 58) (1) F dX12_middle_57 rfl rfl ?_
          refine g_goto 62 F dX12_middle_58 (by decide) ?_
          refine g_iadd (nx := 63) F dX12_middle_62 rfl ?_
          refine g_istore (nx := 65) F dX12_middle_63 rfl (by decide) ?_
          try dsimp only [List.set]
          refine g_iinc (nx := 68) (1) F dX12_middle_65 rfl rfl (by decide) (by decide) ?_
          try dsimp only [List.set]
          refine g_goto 35 F dX12_middle_68 (by decide) ?_
          rw [nI_1]
          first
            | (rw [if_pos (by simp only [decide_eq_true_eq]; assumption)] at hh; rw [show (1 : Int32) = nI 1 from rfl, nI_add]; exact hh)
            | (rw [if_neg (by simp only [decide_eq_true_eq]; assumption), Nat.add_zero] at hh; rw [show (0 : Int32) = nI 0 from rfl, nI_add, Nat.add_zero]; exact hh)
    refine g_aload_n (nx := 1) 0 F dX12_middle_0 rfl rfl rfl ?_
    refine g_iload_n (nx := 2) 1 F dX12_middle_1 rfl rfl rfl ?_
    refine g_callV (nx := 5) 1 0 [.int s] F dX12_middle_2 rfl ml_RX12_383 mo_X12_isStep rfl rfl rfl rfl (Nat.le_of_ble_eq_true rfl) (by first | decide | omega) (k_isStep s _) (fun r_2 τ_2 q_2 => ?_)
    obtain ⟨rfl, et_2⟩ := q_2
    have et_2 := et_2.symm
    subst et_2
    dsimp only [Option.toList, List.append, List.cons_append, List.nil_append]
    refine g_if_eq (nx := 8) 27 F dX12_middle_5 rfl (by decide) (fun c_5 => absurd c_5 (by exact bI_n0.mpr hA.1)) (fun c_5 => ?_)
    refine g_iload_n (nx := 9) 2 F dX12_middle_8 rfl rfl rfl ?_
    refine g_iconst (nx := 10) (0) F dX12_middle_9 rfl rfl ?_
    refine g_bipush (nx := 12) (60) F dX12_middle_10 rfl (by decide) ?_
    refine g_callS (nx := 15) 3 0 [.int (nI l), .int 0, .int 60] F dX12_middle_12 rfl ml_RX12_174 mo_X12_in rfl rfl (Nat.le_of_ble_eq_true rfl) (by first | decide | omega) (k_in (nI l) 0 60 _) (fun r_12 τ_12 q_12 => ?_)
    obtain ⟨rfl, et_12⟩ := q_12
    have et_12 := et_12.symm
    subst et_12
    dsimp only [Option.toList, List.append, List.cons_append, List.nil_append]
    refine g_if_eq (nx := 18) 27 F dX12_middle_15 rfl (by decide) (fun c_15 => absurd c_15 (by exact bI_n0.mpr (by simp only [Int32.reduceToInt]; omega))) (fun c_15 => ?_)
    refine g_iload_n (nx := 19) 3 F dX12_middle_18 rfl rfl rfl ?_
    refine g_iconst (nx := 20) (0) F dX12_middle_19 rfl rfl ?_
    refine g_iconst (nx := 21) (1) F dX12_middle_20 rfl rfl ?_
    refine g_callS (nx := 24) 3 0 [.int w, .int 0, .int 1] F dX12_middle_21 rfl ml_RX12_174 mo_X12_in rfl rfl (Nat.le_of_ble_eq_true rfl) (by first | decide | omega) (k_in w 0 1 _) (fun r_21 τ_21 q_21 => ?_)
    obtain ⟨rfl, et_21⟩ := q_21
    have et_21 := et_21.symm
    subst et_21
    dsimp only [Option.toList, List.append, List.cons_append, List.nil_append]
    refine g_if_ne (nx := 27) 29 F dX12_middle_24 rfl (by decide) (fun c_24 => ?_) (fun c_24 => absurd c_24 (by exact bI_n0.mpr (by simp only [Int32.reduceToInt]; omega)))
    refine g_iconst (nx := 30) (0) F dX12_middle_29 rfl rfl ?_
    refine g_istore (nx := 32) F dX12_middle_30 rfl (by decide) ?_
    try dsimp only [List.set]
    refine g_iconst (nx := 33) (0) F dX12_middle_32 rfl rfl ?_
    refine g_istore (nx := 35) F dX12_middle_33 rfl (by decide) ?_
    try dsimp only [List.set]
    exact L n 0 (by omega)
  · refine g_aload_n (nx := 1) 0 F dX12_middle_0 rfl rfl rfl ?_
    refine g_iload_n (nx := 2) 1 F dX12_middle_1 rfl rfl rfl ?_
    refine g_callV (nx := 5) 1 0 [.int s] F dX12_middle_2 rfl ml_RX12_383 mo_X12_isStep rfl rfl rfl rfl (Nat.le_of_ble_eq_true rfl) (by first | decide | omega) (k_isStep s _) (fun r_2 τ_2 q_2 => ?_)
    obtain ⟨rfl, et_2⟩ := q_2
    have et_2 := et_2.symm
    subst et_2
    dsimp only [Option.toList, List.append, List.cons_append, List.nil_append]
    refine g_if_eq (nx := 8) 27 F dX12_middle_5 rfl (by decide) (fun c_5 => ?_) (fun c_5 => ?_)
    · refine g_iconst (nx := 28) (-1) F dX12_middle_27 rfl rfl ?_
      refine g_iret F E dX12_middle_28 ?_
      exact ⟨rfl, _, rfl, Or.inl ⟨hA, rfl⟩⟩
    · refine g_iload_n (nx := 9) 2 F dX12_middle_8 rfl rfl rfl ?_
      refine g_iconst (nx := 10) (0) F dX12_middle_9 rfl rfl ?_
      refine g_bipush (nx := 12) (60) F dX12_middle_10 rfl (by decide) ?_
      refine g_callS (nx := 15) 3 0 [.int li, .int 0, .int 60] F dX12_middle_12 rfl ml_RX12_174 mo_X12_in rfl rfl (Nat.le_of_ble_eq_true rfl) (by first | decide | omega) (k_in li 0 60 _) (fun r_12 τ_12 q_12 => ?_)
      obtain ⟨rfl, et_12⟩ := q_12
      have et_12 := et_12.symm
      subst et_12
      dsimp only [Option.toList, List.append, List.cons_append, List.nil_append]
      refine g_if_eq (nx := 18) 27 F dX12_middle_15 rfl (by decide) (fun c_15 => ?_) (fun c_15 => ?_)
      · refine g_iconst (nx := 28) (-1) F dX12_middle_27 rfl rfl ?_
        refine g_iret F E dX12_middle_28 ?_
        exact ⟨rfl, _, rfl, Or.inl ⟨hA, rfl⟩⟩
      · refine g_iload_n (nx := 19) 3 F dX12_middle_18 rfl rfl rfl ?_
        refine g_iconst (nx := 20) (0) F dX12_middle_19 rfl rfl ?_
        refine g_iconst (nx := 21) (1) F dX12_middle_20 rfl rfl ?_
        refine g_callS (nx := 24) 3 0 [.int w, .int 0, .int 1] F dX12_middle_21 rfl ml_RX12_174 mo_X12_in rfl rfl (Nat.le_of_ble_eq_true rfl) (by first | decide | omega) (k_in w 0 1 _) (fun r_21 τ_21 q_21 => ?_)
        obtain ⟨rfl, et_21⟩ := q_21
        have et_21 := et_21.symm
        subst et_21
        dsimp only [Option.toList, List.append, List.cons_append, List.nil_append]
        refine g_if_ne (nx := 27) 29 F dX12_middle_24 rfl (by decide) (fun c_24 => ?_) (fun c_24 => ?_)
        · exfalso
          clear F E
          simp only [isin, bI_0, bI_n0, ne_eq, Decidable.not_not] at *
          (try simp only [fa_eq, fa_lt, fa_le, Int32.reduceToInt, Int32.toInt_zero] at *)
          omega
        · refine g_iconst (nx := 28) (-1) F dX12_middle_27 rfl rfl ?_
          refine g_iret F E dX12_middle_28 ?_
          exact ⟨rfl, _, rfl, Or.inl ⟨hA, rfl⟩⟩
