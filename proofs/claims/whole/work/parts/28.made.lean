theorem nI_m1 {k : Nat} (h : k < 2 ^ 31) : nI k ≠ -1 := by
  rw [ne_eq, fa_eq, nI_toInt h]
  simp only [Int32.reduceToInt]
  omega
/-! MADE TO WAIT -/
def wbL (sp ri co ha : Nat → Int32) (s m : Int32) : Nat → Int32
  | 0 => 0
  | j + 1 => if sp j = s ∧ ri j = 1 ∧ ¬ co j < ha j * m then wbL sp ri co ha s m j + ha j * m else wbL sp ri co ha s m j
theorem wbL_0 (sp ri co ha : Nat → Int32) (s : Int32) : ∀ n, wbL sp ri co ha s 0 n = 0
  | 0 => rfl
  | n + 1 => by
    rw [wbL, wbL_0 sp ri co ha s n, Int32.mul_zero]
    split <;> rfl
def bwL (W : Nat → Int32) : Nat → Nat
  | 0 => 0
  | k + 1 => if W (bwL W k) < W (k + 1) then k + 1 else bwL W k
theorem bwL_le (W : Nat → Int32) : ∀ k, bwL W k ≤ k
  | 0 => Nat.le_refl 0
  | k + 1 => by
    rw [bwL]
    have := bwL_le W k
    split <;> omega
def mdR (W : Nat → Int32) (w : Int32) : Int32 := if w = 0 then nI (bwL W 24) else W (bwL W 24)
set_option maxHeartbeats 4000000 in
set_option maxRecDepth 100000 in
theorem c_waitBrings (f : Nat) (s mo : Int32) (σ : zSt) (hf : σ 17 8 = nI f) (h : f ≤ 40) : Con mX6_waitBrings 0 [.ref 17, .int s, .int mo] σ (fun r τ => r = some (.int (wbL (σ 18) (σ 9) (σ 19) (σ 11) s mo f)) ∧ τ = σ) := by
  refine Con.of (lv := [.ref 17, .int s, .int mo, .long 0, .long 0, .long 0]) mk_X6_waitBrings rfl (Nat.le_of_ble_eq_true rfl) rfl (fun X F E => ?_)
  have L : ∀ (q j : Nat) (z : Value), j + q = f → Gs X 5 [.ref 17, .int s, .int mo, .int (wbL (σ 18) (σ 9) (σ 19) (σ 11) s mo j), .int (nI j), z] [] σ := by
    intro q
    induction q with
    | zero =>
      intro j z hj
      have hj : j = f := hj
      subst hj
      refine g_iload (nx := 7) F dX6_waitBrings_5 rfl rfl ?_
      refine g_aload_n (nx := 8) 0 F dX6_waitBrings_7 rfl rfl rfl ?_
      refine g_getV (nx := 11) (nI j) F dX6_waitBrings_8 rfl fl_RX6_51 rfl (by decide) (by decide) rfl rfl (hf) ?_
      refine g_icmp_ge (nx := 14) 76 F dX6_waitBrings_11 rfl (by decide) (fun c_11 => ?_) (fun c_11 => absurd c_11 (by exact fun zq => zq (nI_le (a := j) (b := j) (by omega) (by omega))))
      refine g_iload_n (nx := 77) 3 F dX6_waitBrings_76 rfl rfl rfl ?_
      refine g_iret F E dX6_waitBrings_77 ?_
      exact ⟨rfl, rfl⟩
    | succ q ih =>
      intro j z hj
      have hs : wbL (σ 18) (σ 9) (σ 19) (σ 11) s mo (j + 1) = if (σ 18 j = s ∧ σ 9 j = 1 ∧ ¬ σ 19 j < σ 11 j * mo) then wbL (σ 18) (σ 9) (σ 19) (σ 11) s mo j + σ 11 j * mo else wbL (σ 18) (σ 9) (σ 19) (σ 11) s mo j := rfl
      refine g_iload (nx := 7) F dX6_waitBrings_5 rfl rfl ?_
      refine g_aload_n (nx := 8) 0 F dX6_waitBrings_7 rfl rfl rfl ?_
      refine g_getV (nx := 11) (nI f) F dX6_waitBrings_8 rfl fl_RX6_51 rfl (by decide) (by decide) rfl rfl (hf) ?_
      refine g_icmp_ge (nx := 14) 76 F dX6_waitBrings_11 rfl (by decide) (fun c_11 => absurd c_11 (by exact nI_ge (a := j) (b := f) (by omega) (by omega))) (fun c_11 => ?_)
      refine g_aload_n (nx := 15) 0 F dX6_waitBrings_14 rfl rfl rfl ?_
      refine g_getR (nx := 18) F dX6_waitBrings_15 rfl fl_RX6_43 rfl (by decide) (by decide) rfl ?_
      refine g_getR (nx := 21) F dX6_waitBrings_18 rfl fl_RX6_153 rfl (by decide) (by decide) rfl ?_
      refine g_iload (nx := 23) F dX6_waitBrings_21 rfl rfl ?_
      refine g_ialdN (nx := 24) (j) (_) F dX6_waitBrings_23 rfl rfl (by omega) (rfl) ?_
      refine g_iload_n (nx := 25) 2 F dX6_waitBrings_24 rfl rfl rfl ?_
      refine g_imul (nx := 26) F dX6_waitBrings_25 rfl ?_
      refine g_istore (nx := 28) F dX6_waitBrings_26 rfl (by decide) ?_
      try dsimp only [List.set]
      refine g_aload_n (nx := 29) 0 F dX6_waitBrings_28 rfl rfl rfl ?_
      refine g_getR (nx := 32) F dX6_waitBrings_29 rfl fl_RX6_9 rfl (by decide) (by decide) rfl ?_
      refine g_iload (nx := 34) F dX6_waitBrings_32 rfl rfl ?_
      refine g_ialdN (nx := 35) (j) (_) F dX6_waitBrings_34 rfl rfl (by omega) (rfl) ?_
      refine g_iload_n (nx := 36) 1 F dX6_waitBrings_35 rfl rfl rfl ?_
      refine g_icmp_ne (nx := 39) 70 F dX6_waitBrings_36 rfl (by decide) (fun c_36 => ?_) (fun c_36 => ?_)
      · refine g_iinc (nx := 73) (1) F dX6_waitBrings_70 rfl rfl (by decide) (by decide) ?_
        try dsimp only [List.set]
        refine g_goto 5 F dX6_waitBrings_73 (by decide) ?_
        rw [nI_1]
        have hh := fun z => ih (j + 1) z (by omega)
        rw [hs] at hh
        first
          | (rw [if_pos ⟨by assumption, by assumption, by assumption⟩] at hh; exact hh _)
          | (rw [if_neg (by rintro ⟨z1, z2, z3⟩; first | exact absurd z1 (by assumption) | exact absurd z2 (by assumption) | exact z3 (by assumption))] at hh; exact hh _)
      · refine g_aload_n (nx := 40) 0 F dX6_waitBrings_39 rfl rfl rfl ?_
        refine g_getR (nx := 43) F dX6_waitBrings_40 rfl fl_RX6_43 rfl (by decide) (by decide) rfl ?_
        refine g_getR (nx := 46) F dX6_waitBrings_43 rfl fl_RX6_150 rfl (by decide) (by decide) rfl ?_
        refine g_iload (nx := 48) F dX6_waitBrings_46 rfl rfl ?_
        refine g_ialdN (nx := 49) (j) (_) F dX6_waitBrings_48 rfl rfl (by omega) (rfl) ?_
        refine g_iconst (nx := 50) (1) F dX6_waitBrings_49 rfl rfl ?_
        refine g_icmp_ne (nx := 53) 70 F dX6_waitBrings_50 rfl (by decide) (fun c_50 => ?_) (fun c_50 => ?_)
        · refine g_iinc (nx := 73) (1) F dX6_waitBrings_70 rfl rfl (by decide) (by decide) ?_
          try dsimp only [List.set]
          refine g_goto 5 F dX6_waitBrings_73 (by decide) ?_
          rw [nI_1]
          have hh := fun z => ih (j + 1) z (by omega)
          rw [hs] at hh
          first
            | (rw [if_pos ⟨by assumption, by assumption, by assumption⟩] at hh; exact hh _)
            | (rw [if_neg (by rintro ⟨z1, z2, z3⟩; first | exact absurd z1 (by assumption) | exact absurd z2 (by assumption) | exact z3 (by assumption))] at hh; exact hh _)
        · refine g_aload_n (nx := 54) 0 F dX6_waitBrings_53 rfl rfl rfl ?_
          refine g_getR (nx := 57) F dX6_waitBrings_54 rfl fl_RX6_15 rfl (by decide) (by decide) rfl ?_
          refine g_iload (nx := 59) F dX6_waitBrings_57 rfl rfl ?_
          refine g_ialdN (nx := 60) (j) (_) F dX6_waitBrings_59 rfl rfl (by omega) (rfl) ?_
          refine g_iload (nx := 62) F dX6_waitBrings_60 rfl rfl ?_
          refine g_icmp_lt (nx := 65) 70 F dX6_waitBrings_62 rfl (by decide) (fun c_62 => ?_) (fun c_62 => ?_)
          · refine g_iinc (nx := 73) (1) F dX6_waitBrings_70 rfl rfl (by decide) (by decide) ?_
            try dsimp only [List.set]
            refine g_goto 5 F dX6_waitBrings_73 (by decide) ?_
            rw [nI_1]
            have hh := fun z => ih (j + 1) z (by omega)
            rw [hs] at hh
            first
              | (rw [if_pos ⟨by assumption, by assumption, by assumption⟩] at hh; exact hh _)
              | (rw [if_neg (by rintro ⟨z1, z2, z3⟩; first | exact absurd z1 (by assumption) | exact absurd z2 (by assumption) | exact z3 (by assumption))] at hh; exact hh _)
          · refine g_iload_n (nx := 66) 3 F dX6_waitBrings_65 rfl rfl rfl ?_
            refine g_iload (nx := 68) F dX6_waitBrings_66 rfl rfl ?_
            refine g_iadd (nx := 69) F dX6_waitBrings_68 rfl ?_
            refine g_istore_n (nx := 70) 3 F dX6_waitBrings_69 rfl rfl (by decide) ?_
            try dsimp only [List.set]
            refine g_iinc (nx := 73) (1) F dX6_waitBrings_70 rfl rfl (by decide) (by decide) ?_
            try dsimp only [List.set]
            refine g_goto 5 F dX6_waitBrings_73 (by decide) ?_
            rw [nI_1]
            have hh := fun z => ih (j + 1) z (by omega)
            rw [hs] at hh
            first
              | (rw [if_pos ⟨by assumption, by assumption, by assumption⟩] at hh; exact hh _)
              | (rw [if_neg (by rintro ⟨z1, z2, z3⟩; first | exact absurd z1 (by assumption) | exact absurd z2 (by assumption) | exact z3 (by assumption))] at hh; exact hh _)
  refine g_iconst (nx := 1) (0) F dX6_waitBrings_0 rfl rfl ?_
  refine g_istore_n (nx := 2) 3 F dX6_waitBrings_1 rfl rfl (by decide) ?_
  try dsimp only [List.set]
  refine g_iconst (nx := 3) (0) F dX6_waitBrings_2 rfl rfl ?_
  refine g_istore (nx := 5) F dX6_waitBrings_3 rfl (by decide) ?_
  try dsimp only [List.set]
  exact L f 0 _ (by omega)
set_option maxHeartbeats 4000000 in
set_option maxRecDepth 100000 in
theorem k_broughtBy (f : Nat) (s mo : Int32) (σ : zSt) (hf : σ 145 3 = nI f) (h : f ≤ 40) : Con mX12_broughtBy 0 [.ref 145, .int s, .int mo] σ (fun r τ => r = some (.int (wbL (σ 156) (σ 152) (σ 157) (σ 154) s mo f)) ∧ τ = σ) := by
  refine Con.of (lv := [.ref 145, .int s, .int mo, .long 0, .long 0]) mk_X12_broughtBy rfl (Nat.le_of_ble_eq_true rfl) rfl (fun X F E => ?_)
  have L : ∀ (q j : Nat), j + q = f → Gs X 5 [.ref 145, .int s, .int mo, .int (wbL (σ 156) (σ 152) (σ 157) (σ 154) s mo j), .int (nI j)] [] σ := by
    intro q
    induction q with
    | zero =>
      intro j hj
      have hj : j = f := hj
      subst hj
      refine g_iload (nx := 7) F dX12_broughtBy_5 rfl rfl ?_
      refine g_aload_n (nx := 8) 0 F dX12_broughtBy_7 rfl rfl rfl ?_
      refine g_getV (nx := 11) (nI j) F dX12_broughtBy_8 rfl fl_RX12_171 rfl (by decide) (by decide) rfl rfl (hf) ?_
      refine g_icmp_ge (nx := 14) 73 F dX12_broughtBy_11 rfl (by decide) (fun c_11 => ?_) (fun c_11 => absurd c_11 (by exact fun zq => zq (nI_le (a := j) (b := j) (by omega) (by omega))))
      refine g_iload_n (nx := 74) 3 F dX12_broughtBy_73 rfl rfl rfl ?_
      refine g_iret F E dX12_broughtBy_74 ?_
      exact ⟨rfl, rfl⟩
    | succ q ih =>
      intro j hj
      have hs : wbL (σ 156) (σ 152) (σ 157) (σ 154) s mo (j + 1) = if (σ 156 j = s ∧ σ 152 j = 1 ∧ ¬ σ 157 j < σ 154 j * mo) then wbL (σ 156) (σ 152) (σ 157) (σ 154) s mo j + σ 154 j * mo else wbL (σ 156) (σ 152) (σ 157) (σ 154) s mo j := rfl
      refine g_iload (nx := 7) F dX12_broughtBy_5 rfl rfl ?_
      refine g_aload_n (nx := 8) 0 F dX12_broughtBy_7 rfl rfl rfl ?_
      refine g_getV (nx := 11) (nI f) F dX12_broughtBy_8 rfl fl_RX12_171 rfl (by decide) (by decide) rfl rfl (hf) ?_
      refine g_icmp_ge (nx := 14) 73 F dX12_broughtBy_11 rfl (by decide) (fun c_11 => absurd c_11 (by exact nI_ge (a := j) (b := f) (by omega) (by omega))) (fun c_11 => ?_)
      refine g_aload_n (nx := 15) 0 F dX12_broughtBy_14 rfl rfl rfl ?_
      refine g_getR (nx := 18) F dX12_broughtBy_15 rfl fl_RX12_40 rfl (by decide) (by decide) rfl ?_
      refine g_iload (nx := 20) F dX12_broughtBy_18 rfl rfl ?_
      refine g_ialdN (nx := 21) (j) (_) F dX12_broughtBy_20 rfl rfl (by omega) (rfl) ?_
      refine g_iload_n (nx := 22) 1 F dX12_broughtBy_21 rfl rfl rfl ?_
      refine g_icmp_ne (nx := 25) 67 F dX12_broughtBy_22 rfl (by decide) (fun c_22 => ?_) (fun c_22 => ?_)
      · refine g_iinc (nx := 70) (1) F dX12_broughtBy_67 rfl rfl (by decide) (by decide) ?_
        try dsimp only [List.set]
        refine g_goto 5 F dX12_broughtBy_70 (by decide) ?_
        rw [nI_1]
        have hh := fun (_ : Unit) => ih (j + 1) (by omega)
        rw [hs] at hh
        first
          | (rw [if_pos ⟨by assumption, by assumption, by assumption⟩] at hh; exact hh  ())
          | (rw [if_neg (by rintro ⟨z1, z2, z3⟩; first | exact absurd z1 (by assumption) | exact absurd z2 (by assumption) | exact z3 (by assumption))] at hh; exact hh  ())
      · refine g_aload_n (nx := 26) 0 F dX12_broughtBy_25 rfl rfl rfl ?_
        refine g_getR (nx := 29) F dX12_broughtBy_26 rfl fl_RX12_28 rfl (by decide) (by decide) rfl ?_
        refine g_iload (nx := 31) F dX12_broughtBy_29 rfl rfl ?_
        refine g_ialdN (nx := 32) (j) (_) F dX12_broughtBy_31 rfl rfl (by omega) (rfl) ?_
        refine g_iconst (nx := 33) (1) F dX12_broughtBy_32 rfl rfl ?_
        refine g_icmp_ne (nx := 36) 67 F dX12_broughtBy_33 rfl (by decide) (fun c_33 => ?_) (fun c_33 => ?_)
        · refine g_iinc (nx := 70) (1) F dX12_broughtBy_67 rfl rfl (by decide) (by decide) ?_
          try dsimp only [List.set]
          refine g_goto 5 F dX12_broughtBy_70 (by decide) ?_
          rw [nI_1]
          have hh := fun (_ : Unit) => ih (j + 1) (by omega)
          rw [hs] at hh
          first
            | (rw [if_pos ⟨by assumption, by assumption, by assumption⟩] at hh; exact hh  ())
            | (rw [if_neg (by rintro ⟨z1, z2, z3⟩; first | exact absurd z1 (by assumption) | exact absurd z2 (by assumption) | exact z3 (by assumption))] at hh; exact hh  ())
        · refine g_aload_n (nx := 37) 0 F dX12_broughtBy_36 rfl rfl rfl ?_
          refine g_getR (nx := 40) F dX12_broughtBy_37 rfl fl_RX12_43 rfl (by decide) (by decide) rfl ?_
          refine g_iload (nx := 42) F dX12_broughtBy_40 rfl rfl ?_
          refine g_ialdN (nx := 43) (j) (_) F dX12_broughtBy_42 rfl rfl (by omega) (rfl) ?_
          refine g_aload_n (nx := 44) 0 F dX12_broughtBy_43 rfl rfl rfl ?_
          refine g_getR (nx := 47) F dX12_broughtBy_44 rfl fl_RX12_34 rfl (by decide) (by decide) rfl ?_
          refine g_iload (nx := 49) F dX12_broughtBy_47 rfl rfl ?_
          refine g_ialdN (nx := 50) (j) (_) F dX12_broughtBy_49 rfl rfl (by omega) (rfl) ?_
          refine g_iload_n (nx := 51) 2 F dX12_broughtBy_50 rfl rfl rfl ?_
          refine g_imul (nx := 52) F dX12_broughtBy_51 rfl ?_
          refine g_icmp_lt (nx := 55) 67 F dX12_broughtBy_52 rfl (by decide) (fun c_52 => ?_) (fun c_52 => ?_)
          · refine g_iinc (nx := 70) (1) F dX12_broughtBy_67 rfl rfl (by decide) (by decide) ?_
            try dsimp only [List.set]
            refine g_goto 5 F dX12_broughtBy_70 (by decide) ?_
            rw [nI_1]
            have hh := fun (_ : Unit) => ih (j + 1) (by omega)
            rw [hs] at hh
            first
              | (rw [if_pos ⟨by assumption, by assumption, by assumption⟩] at hh; exact hh  ())
              | (rw [if_neg (by rintro ⟨z1, z2, z3⟩; first | exact absurd z1 (by assumption) | exact absurd z2 (by assumption) | exact z3 (by assumption))] at hh; exact hh  ())
          · refine g_iload_n (nx := 56) 3 F dX12_broughtBy_55 rfl rfl rfl ?_
            refine g_aload_n (nx := 57) 0 F dX12_broughtBy_56 rfl rfl rfl ?_
            refine g_getR (nx := 60) F dX12_broughtBy_57 rfl fl_RX12_34 rfl (by decide) (by decide) rfl ?_
            refine g_iload (nx := 62) F dX12_broughtBy_60 rfl rfl ?_
            refine g_ialdN (nx := 63) (j) (_) F dX12_broughtBy_62 rfl rfl (by omega) (rfl) ?_
            refine g_iload_n (nx := 64) 2 F dX12_broughtBy_63 rfl rfl rfl ?_
            refine g_imul (nx := 65) F dX12_broughtBy_64 rfl ?_
            refine g_iadd (nx := 66) F dX12_broughtBy_65 rfl ?_
            refine g_istore_n (nx := 67) 3 F dX12_broughtBy_66 rfl rfl (by decide) ?_
            try dsimp only [List.set]
            refine g_iinc (nx := 70) (1) F dX12_broughtBy_67 rfl rfl (by decide) (by decide) ?_
            try dsimp only [List.set]
            refine g_goto 5 F dX12_broughtBy_70 (by decide) ?_
            rw [nI_1]
            have hh := fun (_ : Unit) => ih (j + 1) (by omega)
            rw [hs] at hh
            first
              | (rw [if_pos ⟨by assumption, by assumption, by assumption⟩] at hh; exact hh  ())
              | (rw [if_neg (by rintro ⟨z1, z2, z3⟩; first | exact absurd z1 (by assumption) | exact absurd z2 (by assumption) | exact z3 (by assumption))] at hh; exact hh  ())
  refine g_iconst (nx := 1) (0) F dX12_broughtBy_0 rfl rfl ?_
  refine g_istore_n (nx := 2) 3 F dX12_broughtBy_1 rfl rfl (by decide) ?_
  try dsimp only [List.set]
  refine g_iconst (nx := 3) (0) F dX12_broughtBy_2 rfl rfl ?_
  refine g_istore (nx := 5) F dX12_broughtBy_3 rfl (by decide) ?_
  try dsimp only [List.set]
  exact L f 0 (by omega)
set_option maxHeartbeats 4000000 in
set_option maxRecDepth 100000 in
theorem c_bestWait (f : Nat) (s : Int32) (σ : zSt) (hf : σ 17 8 = nI f) (h : f ≤ 40) : Con mX6_bestWait 1 [.ref 17, .int s] σ (fun r τ => r = some (.int (nI (bwL (fun mo => wbL (σ 18) (σ 9) (σ 19) (σ 11) s (nI mo) f) 24))) ∧ τ = σ) := by
  refine Con.of (lv := [.ref 17, .int s, .long 0, .long 0, .long 0, .long 0]) mk_X6_bestWait rfl (Nat.le_of_ble_eq_true rfl) rfl (fun X F E => ?_)
  have hW0 : (fun mo => wbL (σ 18) (σ 9) (σ 19) (σ 11) s (nI mo) f) 0 = 0 := wbL_0 _ _ _ _ _ _
  have L : ∀ (q k : Nat) (z : Value), k + q = 24 → Gs X 7 [.ref 17, .int s, .int (nI (bwL (fun mo => wbL (σ 18) (σ 9) (σ 19) (σ 11) s (nI mo) f) k)), .int ((fun mo => wbL (σ 18) (σ 9) (σ 19) (σ 11) s (nI mo) f) (bwL (fun mo => wbL (σ 18) (σ 9) (σ 19) (σ 11) s (nI mo) f) k)), .int (nI (k + 1)), z] [] σ := by
    intro q
    induction q with
    | zero =>
      intro k z hk
      have hk : k = 24 := hk
      subst hk
      refine g_iload (nx := 9) F dX6_bestWait_7 rfl rfl ?_
      refine g_bipush (nx := 11) (24) F dX6_bestWait_9 rfl (by decide) ?_
      refine g_icmp_gt (nx := 14) 41 F dX6_bestWait_11 rfl (by decide) (fun c_11 => ?_) (fun c_11 => absurd c_11 (by decide))
      refine g_iload_n (nx := 42) 2 F dX6_bestWait_41 rfl rfl rfl ?_
      refine g_iret F E dX6_bestWait_42 ?_
      exact ⟨rfl, rfl⟩
    | succ q ih =>
      intro k z hk
      have hs : bwL (fun mo => wbL (σ 18) (σ 9) (σ 19) (σ 11) s (nI mo) f) (k + 1) = if (fun mo => wbL (σ 18) (σ 9) (σ 19) (σ 11) s (nI mo) f) (bwL (fun mo => wbL (σ 18) (σ 9) (σ 19) (σ 11) s (nI mo) f) k) < (fun mo => wbL (σ 18) (σ 9) (σ 19) (σ 11) s (nI mo) f) (k + 1) then k + 1 else bwL (fun mo => wbL (σ 18) (σ 9) (σ 19) (σ 11) s (nI mo) f) k := rfl
      refine g_iload (nx := 9) F dX6_bestWait_7 rfl rfl ?_
      refine g_bipush (nx := 11) (24) F dX6_bestWait_9 rfl (by decide) ?_
      show Gs X 11 _ (.int (nI 24) :: .int (nI (k + 1)) :: []) _
      refine g_icmp_gt (nx := 14) 41 F dX6_bestWait_11 rfl (by decide) (fun c_11 => absurd c_11 (by exact nI_nlt (a := 24) (b := k + 1) (by omega) (by omega))) (fun c_11 => ?_)
      refine g_aload_n (nx := 15) 0 F dX6_bestWait_14 rfl rfl rfl ?_
      refine g_iload_n (nx := 16) 1 F dX6_bestWait_15 rfl rfl rfl ?_
      refine g_iload (nx := 18) F dX6_bestWait_16 rfl rfl ?_
      refine g_callV (nx := 21) 2 0 [.int s, .int (nI (k + 1))] F dX6_bestWait_18 rfl ml_RX6_175 mo_X6_waitBrings rfl rfl rfl rfl (Nat.le_of_ble_eq_true rfl) (by first | decide | omega) (c_waitBrings f s (nI (k + 1)) _ hf h) (fun r_18 τ_18 q_18 => ?_)
      obtain ⟨rfl, et_18⟩ := q_18
      have et_18 := et_18.symm
      subst et_18
      dsimp only [Option.toList, List.append, List.cons_append, List.nil_append]
      refine g_istore (nx := 23) F dX6_bestWait_21 rfl (by decide) ?_
      try dsimp only [List.set]
      refine g_iload (nx := 25) F dX6_bestWait_23 rfl rfl ?_
      refine g_iload_n (nx := 26) 3 F dX6_bestWait_25 rfl rfl rfl ?_
      refine g_icmp_le (nx := 29) 35 F dX6_bestWait_26 rfl (by decide) (fun c_26 => ?_) (fun c_26 => ?_)
      · refine g_iinc (nx := 38) (1) F dX6_bestWait_35 rfl rfl (by decide) (by decide) ?_
        try dsimp only [List.set]
        refine g_goto 7 F dX6_bestWait_38 (by decide) ?_
        rw [nI_1]
        have hh := fun z => ih (k + 1) z (by omega)
        rw [hs] at hh
        first
          | (rw [if_pos (by first | exact not_le_I.mp (by assumption))] at hh; exact hh _)
          | (rw [if_neg (by first | exact not_lt_I.mpr (by assumption))] at hh; exact hh _)
      · refine g_iload (nx := 31) F dX6_bestWait_29 rfl rfl ?_
        refine g_istore_n (nx := 32) 2 F dX6_bestWait_31 rfl rfl (by decide) ?_
        try dsimp only [List.set]
        refine g_iload (nx := 34) F dX6_bestWait_32 rfl rfl ?_
        refine g_istore_n (nx := 35) 3 F dX6_bestWait_34 rfl rfl (by decide) ?_
        try dsimp only [List.set]
        refine g_iinc (nx := 38) (1) F dX6_bestWait_35 rfl rfl (by decide) (by decide) ?_
        try dsimp only [List.set]
        refine g_goto 7 F dX6_bestWait_38 (by decide) ?_
        rw [nI_1]
        have hh := fun z => ih (k + 1) z (by omega)
        rw [hs] at hh
        first
          | (rw [if_pos (by first | exact not_le_I.mp (by assumption))] at hh; exact hh _)
          | (rw [if_neg (by first | exact not_lt_I.mpr (by assumption))] at hh; exact hh _)
  refine g_iconst (nx := 1) (0) F dX6_bestWait_0 rfl rfl ?_
  refine g_istore_n (nx := 2) 2 F dX6_bestWait_1 rfl rfl (by decide) ?_
  try dsimp only [List.set]
  refine g_iconst (nx := 3) (0) F dX6_bestWait_2 rfl rfl ?_
  refine g_istore_n (nx := 4) 3 F dX6_bestWait_3 rfl rfl (by decide) ?_
  try dsimp only [List.set]
  refine g_iconst (nx := 5) (1) F dX6_bestWait_4 rfl rfl ?_
  refine g_istore (nx := 7) F dX6_bestWait_5 rfl (by decide) ?_
  try dsimp only [List.set]
  have hh := fun z => L 24 0 z (by omega)
  simp only [bwL] at hh
  rw [show wbL (σ 18) (σ 9) (σ 19) (σ 11) s (nI 0) f = 0 from hW0] at hh
  exact hh _
set_option maxHeartbeats 4000000 in
set_option maxRecDepth 100000 in
theorem c_made (f : Nat) (s w : Int32) (σ : zSt) (hf : σ 17 8 = nI f) (h : f ≤ 40) : Con mX11_made 2 [.ref 0, .int s, .int w] σ (fun r τ => τ = σ ∧ r = some (.int (if (0 ≤ s.toInt ∧ s.toInt < (σ 3 6).toInt) ∧ isin w 1 then mdR (fun mo => wbL (σ 18) (σ 9) (σ 19) (σ 11) s (nI mo) f) w else -1))) := by
  refine Con.of (lv := [.ref 0, .int s, .int w, .long 0]) mk_X11_made rfl (Nat.le_of_ble_eq_true rfl) rfl (fun X F E => ?_)
  by_cases hA : (0 ≤ s.toInt ∧ s.toInt < (σ 3 6).toInt) ∧ isin w 1
  · refine g_aload_n (nx := 1) 0 F dX11_made_0 rfl rfl rfl ?_
    refine g_getR (nx := 4) F dX11_made_1 rfl fl_RX11_19 rfl (by decide) (by decide) rfl ?_
    refine g_iload_n (nx := 5) 1 F dX11_made_4 rfl rfl rfl ?_
    refine g_callV (nx := 8) 1 0 [.int s] F dX11_made_5 rfl ml_RX11_269 mo_X2_isStep rfl rfl rfl rfl (Nat.le_of_ble_eq_true rfl) (by first | decide | omega) (c_isStep s _) (fun r_5 τ_5 q_5 => ?_)
    obtain ⟨rfl, et_5⟩ := q_5
    have et_5 := et_5.symm
    subst et_5
    dsimp only [Option.toList, List.append, List.cons_append, List.nil_append]
    refine g_if_eq (nx := 11) 19 F dX11_made_8 rfl (by decide) (fun c_8 => absurd c_8 (by exact bI_n0.mpr hA.1)) (fun c_8 => ?_)
    refine g_iload_n (nx := 12) 2 F dX11_made_11 rfl rfl rfl ?_
    refine g_iconst (nx := 13) (1) F dX11_made_12 rfl rfl ?_
    refine g_callS (nx := 16) 2 0 [.int w, .int 1] F dX11_made_13 rfl ml_RX11_79 mo_X11_isOutside rfl rfl (Nat.le_of_ble_eq_true rfl) (by first | decide | omega) (c_isOutside w 1 _) (fun r_13 τ_13 q_13 => ?_)
    obtain ⟨rfl, et_13⟩ := q_13
    have et_13 := et_13.symm
    subst et_13
    dsimp only [Option.toList, List.append, List.cons_append, List.nil_append]
    refine g_if_eq (nx := 19) 21 F dX11_made_16 rfl (by decide) (fun c_16 => ?_) (fun c_16 => absurd c_16 (by exact fun q => q (bI_f (by simp only [Int32.reduceToInt]; omega))))
    refine g_aload_n (nx := 22) 0 F dX11_made_21 rfl rfl rfl ?_
    refine g_getR (nx := 25) F dX11_made_22 rfl fl_RX11_44 rfl (by decide) (by decide) rfl ?_
    refine g_iload_n (nx := 26) 1 F dX11_made_25 rfl rfl rfl ?_
    refine g_callV (nx := 29) 1 1 [.int s] F dX11_made_26 rfl ml_RX11_272 mo_X6_bestWait rfl rfl rfl rfl (Nat.le_of_ble_eq_true rfl) (by first | decide | omega) (c_bestWait f s _ hf h) (fun r_26 τ_26 q_26 => ?_)
    obtain ⟨rfl, et_26⟩ := q_26
    have et_26 := et_26.symm
    subst et_26
    dsimp only [Option.toList, List.append, List.cons_append, List.nil_append]
    refine g_istore_n (nx := 30) 3 F dX11_made_29 rfl rfl (by decide) ?_
    try dsimp only [List.set]
    refine g_iload_n (nx := 31) 2 F dX11_made_30 rfl rfl rfl ?_
    refine g_if_ne (nx := 34) 38 F dX11_made_31 rfl (by decide) (fun c_31 => ?_) (fun c_31 => ?_)
    · refine g_aload_n (nx := 39) 0 F dX11_made_38 rfl rfl rfl ?_
      refine g_getR (nx := 42) F dX11_made_39 rfl fl_RX11_44 rfl (by decide) (by decide) rfl ?_
      refine g_iload_n (nx := 43) 1 F dX11_made_42 rfl rfl rfl ?_
      refine g_iload_n (nx := 44) 3 F dX11_made_43 rfl rfl rfl ?_
      refine g_callV (nx := 47) 2 0 [.int s, .int (nI (bwL _ 24))] F dX11_made_44 rfl ml_RX11_275 mo_X6_waitBrings rfl rfl rfl rfl (Nat.le_of_ble_eq_true rfl) (by first | decide | omega) (c_waitBrings f s _ _ hf h) (fun r_44 τ_44 q_44 => ?_)
      obtain ⟨rfl, et_44⟩ := q_44
      have et_44 := et_44.symm
      subst et_44
      dsimp only [Option.toList, List.append, List.cons_append, List.nil_append]
      refine g_iret F E dX11_made_47 ?_
      exact ⟨rfl, by rw [if_pos hA, mdR]; first | rw [if_pos (by assumption)] | rw [if_neg (by assumption)]⟩
    · refine g_iload_n (nx := 35) 3 F dX11_made_34 rfl rfl rfl ?_
      refine g_goto 47 F dX11_made_35 (by decide) ?_
      refine g_iret F E dX11_made_47 ?_
      exact ⟨rfl, by rw [if_pos hA, mdR]; first | rw [if_pos (by assumption)] | rw [if_neg (by assumption)]⟩
  · refine g_aload_n (nx := 1) 0 F dX11_made_0 rfl rfl rfl ?_
    refine g_getR (nx := 4) F dX11_made_1 rfl fl_RX11_19 rfl (by decide) (by decide) rfl ?_
    refine g_iload_n (nx := 5) 1 F dX11_made_4 rfl rfl rfl ?_
    refine g_callV (nx := 8) 1 0 [.int s] F dX11_made_5 rfl ml_RX11_269 mo_X2_isStep rfl rfl rfl rfl (Nat.le_of_ble_eq_true rfl) (by first | decide | omega) (c_isStep s _) (fun r_5 τ_5 q_5 => ?_)
    obtain ⟨rfl, et_5⟩ := q_5
    have et_5 := et_5.symm
    subst et_5
    dsimp only [Option.toList, List.append, List.cons_append, List.nil_append]
    refine g_if_eq (nx := 11) 19 F dX11_made_8 rfl (by decide) (fun c_8 => ?_) (fun c_8 => ?_)
    · refine g_iconst (nx := 20) (-1) F dX11_made_19 rfl rfl ?_
      refine g_iret F E dX11_made_20 ?_
      exact ⟨rfl, by rw [if_neg hA]⟩
    · refine g_iload_n (nx := 12) 2 F dX11_made_11 rfl rfl rfl ?_
      refine g_iconst (nx := 13) (1) F dX11_made_12 rfl rfl ?_
      refine g_callS (nx := 16) 2 0 [.int w, .int 1] F dX11_made_13 rfl ml_RX11_79 mo_X11_isOutside rfl rfl (Nat.le_of_ble_eq_true rfl) (by first | decide | omega) (c_isOutside w 1 _) (fun r_13 τ_13 q_13 => ?_)
      obtain ⟨rfl, et_13⟩ := q_13
      have et_13 := et_13.symm
      subst et_13
      dsimp only [Option.toList, List.append, List.cons_append, List.nil_append]
      refine g_if_eq (nx := 19) 21 F dX11_made_16 rfl (by decide) (fun c_16 => ?_) (fun c_16 => ?_)
      · exfalso
        clear F E
        simp only [isin, bI_0, bI_n0, ne_eq, Decidable.not_not] at *
        (try simp only [fa_eq, fa_lt, fa_le, Int32.reduceToInt, Int32.toInt_zero] at *)
        omega
      · refine g_iconst (nx := 20) (-1) F dX11_made_19 rfl rfl ?_
        refine g_iret F E dX11_made_20 ?_
        exact ⟨rfl, by rw [if_neg hA]⟩
set_option maxHeartbeats 4000000 in
set_option maxRecDepth 100000 in
theorem k_made (f : Nat) (s w : Int32) (σ : zSt) (hf : σ 145 3 = nI f) (h : f ≤ 40) : Con mX12_made 1 [.ref 145, .int s, .int w] σ (fun r τ => τ = σ ∧ r = some (.int (if (0 ≤ s.toInt ∧ s.toInt < (σ 145 2).toInt) ∧ isin w 1 then mdR (fun mo => wbL (σ 156) (σ 152) (σ 157) (σ 154) s (nI mo) f) w else -1))) := by
  refine Con.of (lv := [.ref 145, .int s, .int w, .long 0, .long 0]) mk_X12_made rfl (Nat.le_of_ble_eq_true rfl) rfl (fun X F E => ?_)
  by_cases hA : (0 ≤ s.toInt ∧ s.toInt < (σ 145 2).toInt) ∧ isin w 1
  · have L : ∀ (q k : Nat), k + q = 24 → Gs X 24 [.ref 145, .int s, .int w, .int (nI (bwL (fun mo => wbL (σ 156) (σ 152) (σ 157) (σ 154) s (nI mo) f) k)), .int (nI (k + 1))] [] σ := by
      intro q
      induction q with
      | zero =>
        intro k hk
        have hk : k = 24 := hk
        subst hk
        refine g_iload (nx := 26) F dX12_made_24 rfl rfl ?_
        refine g_bipush (nx := 28) (24) F dX12_made_26 rfl (by decide) ?_
        refine g_icmp_gt (nx := 31) 60 F dX12_made_28 rfl (by decide) (fun c_28 => ?_) (fun c_28 => absurd c_28 (by decide))
        refine g_iload_n (nx := 61) 2 F dX12_made_60 rfl rfl rfl ?_
        refine g_if_ne (nx := 64) 68 F dX12_made_61 rfl (by decide) (fun c_61 => ?_) (fun c_61 => ?_)
        · refine g_aload_n (nx := 69) 0 F dX12_made_68 rfl rfl rfl ?_
          refine g_iload_n (nx := 70) 1 F dX12_made_69 rfl rfl rfl ?_
          refine g_iload_n (nx := 71) 3 F dX12_made_70 rfl rfl rfl ?_
          refine g_callV (nx := 74) 2 0 [.int s, .int (nI (bwL _ 24))] F dX12_made_71 rfl ml_RX12_386 mo_X12_broughtBy rfl rfl rfl rfl (Nat.le_of_ble_eq_true rfl) (by first | decide | omega) (k_broughtBy f s _ _ hf h) (fun r_71 τ_71 q_71 => ?_)
          obtain ⟨rfl, et_71⟩ := q_71
          have et_71 := et_71.symm
          subst et_71
          dsimp only [Option.toList, List.append, List.cons_append, List.nil_append]
          refine g_iret F E dX12_made_74 ?_
          exact ⟨rfl, by rw [if_pos hA, mdR]; first | rw [if_pos (by assumption)] | rw [if_neg (by assumption)]⟩
        · refine g_iload_n (nx := 65) 3 F dX12_made_64 rfl rfl rfl ?_
          refine g_goto 74 F dX12_made_65 (by decide) ?_
          refine g_iret F E dX12_made_74 ?_
          exact ⟨rfl, by rw [if_pos hA, mdR]; first | rw [if_pos (by assumption)] | rw [if_neg (by assumption)]⟩
      | succ q ih =>
        intro k hk
        have hs : bwL (fun mo => wbL (σ 156) (σ 152) (σ 157) (σ 154) s (nI mo) f) (k + 1) = if (fun mo => wbL (σ 156) (σ 152) (σ 157) (σ 154) s (nI mo) f) (bwL (fun mo => wbL (σ 156) (σ 152) (σ 157) (σ 154) s (nI mo) f) k) < (fun mo => wbL (σ 156) (σ 152) (σ 157) (σ 154) s (nI mo) f) (k + 1) then k + 1 else bwL (fun mo => wbL (σ 156) (σ 152) (σ 157) (σ 154) s (nI mo) f) k := rfl
        refine g_iload (nx := 26) F dX12_made_24 rfl rfl ?_
        refine g_bipush (nx := 28) (24) F dX12_made_26 rfl (by decide) ?_
        show Gs X 28 _ (.int (nI 24) :: .int (nI (k + 1)) :: []) _
        refine g_icmp_gt (nx := 31) 60 F dX12_made_28 rfl (by decide) (fun c_28 => absurd c_28 (by exact nI_nlt (a := 24) (b := k + 1) (by omega) (by omega))) (fun c_28 => ?_)
        refine g_aload_n (nx := 32) 0 F dX12_made_31 rfl rfl rfl ?_
        refine g_iload_n (nx := 33) 1 F dX12_made_32 rfl rfl rfl ?_
        refine g_iload (nx := 35) F dX12_made_33 rfl rfl ?_
        refine g_callV (nx := 38) 2 0 [.int s, .int (nI (k + 1))] F dX12_made_35 rfl ml_RX12_386 mo_X12_broughtBy rfl rfl rfl rfl (Nat.le_of_ble_eq_true rfl) (by first | decide | omega) (k_broughtBy f s (nI (k + 1)) _ hf h) (fun r_35 τ_35 q_35 => ?_)
        obtain ⟨rfl, et_35⟩ := q_35
        have et_35 := et_35.symm
        subst et_35
        dsimp only [Option.toList, List.append, List.cons_append, List.nil_append]
        refine g_aload_n (nx := 39) 0 F dX12_made_38 rfl rfl rfl ?_
        refine g_iload_n (nx := 40) 1 F dX12_made_39 rfl rfl rfl ?_
        refine g_iload_n (nx := 41) 3 F dX12_made_40 rfl rfl rfl ?_
        refine g_callV (nx := 44) 2 0 [.int s, .int (nI (bwL _ k))] F dX12_made_41 rfl ml_RX12_386 mo_X12_broughtBy rfl rfl rfl rfl (Nat.le_of_ble_eq_true rfl) (by first | decide | omega) (k_broughtBy f s _ _ hf h) (fun r_41 τ_41 q_41 => ?_)
        obtain ⟨rfl, et_41⟩ := q_41
        have et_41 := et_41.symm
        subst et_41
        dsimp only [Option.toList, List.append, List.cons_append, List.nil_append]
        refine g_icmp_le (nx := 47) 52 F dX12_made_44 rfl (by decide) (fun c_44 => ?_) (fun c_44 => ?_)
        · refine g_iload_n (nx := 53) 3 F dX12_made_52 rfl rfl rfl ?_
          refine g_istore_n (nx := 54) 3 F dX12_made_53 rfl rfl (by decide) ?_
          try dsimp only [List.set]
          refine g_iinc (nx := 57) (1) F dX12_made_54 rfl rfl (by decide) (by decide) ?_
          try dsimp only [List.set]
          refine g_goto 24 F dX12_made_57 (by decide) ?_
          rw [nI_1]
          have hh := ih (k + 1) (by omega)
          rw [hs] at hh
          first
            | (rw [if_pos (by first | exact not_le_I.mp (by assumption))] at hh; exact hh)
            | (rw [if_neg (by first | exact not_lt_I.mpr (by assumption))] at hh; exact hh)
        · refine g_iload (nx := 49) F dX12_made_47 rfl rfl ?_
          refine g_goto 53 F dX12_made_49 (by decide) ?_
          refine g_istore_n (nx := 54) 3 F dX12_made_53 rfl rfl (by decide) ?_
          try dsimp only [List.set]
          refine g_iinc (nx := 57) (1) F dX12_made_54 rfl rfl (by decide) (by decide) ?_
          try dsimp only [List.set]
          refine g_goto 24 F dX12_made_57 (by decide) ?_
          rw [nI_1]
          have hh := ih (k + 1) (by omega)
          rw [hs] at hh
          first
            | (rw [if_pos (by first | exact not_le_I.mp (by assumption))] at hh; exact hh)
            | (rw [if_neg (by first | exact not_lt_I.mpr (by assumption))] at hh; exact hh)
    refine g_aload_n (nx := 1) 0 F dX12_made_0 rfl rfl rfl ?_
    refine g_iload_n (nx := 2) 1 F dX12_made_1 rfl rfl rfl ?_
    refine g_callV (nx := 5) 1 0 [.int s] F dX12_made_2 rfl ml_RX12_383 mo_X12_isStep rfl rfl rfl rfl (Nat.le_of_ble_eq_true rfl) (by first | decide | omega) (k_isStep s _) (fun r_2 τ_2 q_2 => ?_)
    obtain ⟨rfl, et_2⟩ := q_2
    have et_2 := et_2.symm
    subst et_2
    dsimp only [Option.toList, List.append, List.cons_append, List.nil_append]
    refine g_if_eq (nx := 8) 17 F dX12_made_5 rfl (by decide) (fun c_5 => absurd c_5 (by exact bI_n0.mpr hA.1)) (fun c_5 => ?_)
    refine g_iload_n (nx := 9) 2 F dX12_made_8 rfl rfl rfl ?_
    refine g_iconst (nx := 10) (0) F dX12_made_9 rfl rfl ?_
    refine g_iconst (nx := 11) (1) F dX12_made_10 rfl rfl ?_
    refine g_callS (nx := 14) 3 0 [.int w, .int 0, .int 1] F dX12_made_11 rfl ml_RX12_174 mo_X12_in rfl rfl (Nat.le_of_ble_eq_true rfl) (by first | decide | omega) (k_in w 0 1 _) (fun r_11 τ_11 q_11 => ?_)
    obtain ⟨rfl, et_11⟩ := q_11
    have et_11 := et_11.symm
    subst et_11
    dsimp only [Option.toList, List.append, List.cons_append, List.nil_append]
    refine g_if_ne (nx := 17) 19 F dX12_made_14 rfl (by decide) (fun c_14 => ?_) (fun c_14 => absurd c_14 (by exact bI_n0.mpr (by simp only [Int32.reduceToInt]; omega)))
    refine g_iconst (nx := 20) (0) F dX12_made_19 rfl rfl ?_
    refine g_istore_n (nx := 21) 3 F dX12_made_20 rfl rfl (by decide) ?_
    try dsimp only [List.set]
    refine g_iconst (nx := 22) (1) F dX12_made_21 rfl rfl ?_
    refine g_istore (nx := 24) F dX12_made_22 rfl (by decide) ?_
    try dsimp only [List.set]
    exact L 24 0 (by omega)
  · refine g_aload_n (nx := 1) 0 F dX12_made_0 rfl rfl rfl ?_
    refine g_iload_n (nx := 2) 1 F dX12_made_1 rfl rfl rfl ?_
    refine g_callV (nx := 5) 1 0 [.int s] F dX12_made_2 rfl ml_RX12_383 mo_X12_isStep rfl rfl rfl rfl (Nat.le_of_ble_eq_true rfl) (by first | decide | omega) (k_isStep s _) (fun r_2 τ_2 q_2 => ?_)
    obtain ⟨rfl, et_2⟩ := q_2
    have et_2 := et_2.symm
    subst et_2
    dsimp only [Option.toList, List.append, List.cons_append, List.nil_append]
    refine g_if_eq (nx := 8) 17 F dX12_made_5 rfl (by decide) (fun c_5 => ?_) (fun c_5 => ?_)
    · refine g_iconst (nx := 18) (-1) F dX12_made_17 rfl rfl ?_
      refine g_iret F E dX12_made_18 ?_
      exact ⟨rfl, by rw [if_neg hA]⟩
    · refine g_iload_n (nx := 9) 2 F dX12_made_8 rfl rfl rfl ?_
      refine g_iconst (nx := 10) (0) F dX12_made_9 rfl rfl ?_
      refine g_iconst (nx := 11) (1) F dX12_made_10 rfl rfl ?_
      refine g_callS (nx := 14) 3 0 [.int w, .int 0, .int 1] F dX12_made_11 rfl ml_RX12_174 mo_X12_in rfl rfl (Nat.le_of_ble_eq_true rfl) (by first | decide | omega) (k_in w 0 1 _) (fun r_11 τ_11 q_11 => ?_)
      obtain ⟨rfl, et_11⟩ := q_11
      have et_11 := et_11.symm
      subst et_11
      dsimp only [Option.toList, List.append, List.cons_append, List.nil_append]
      refine g_if_ne (nx := 17) 19 F dX12_made_14 rfl (by decide) (fun c_14 => ?_) (fun c_14 => ?_)
      · exfalso
        clear F E
        simp only [isin, bI_0, bI_n0, ne_eq, Decidable.not_not] at *
        (try simp only [fa_eq, fa_lt, fa_le, Int32.reduceToInt, Int32.toInt_zero] at *)
        omega
      · refine g_iconst (nx := 18) (-1) F dX12_made_17 rfl rfl ?_
        refine g_iret F E dX12_made_18 ?_
        exact ⟨rfl, by rw [if_neg hA]⟩
/-! BEARS -/
def beP (pd co : Nat → Int32) (j k : Nat) : Prop := 0 < lg_cmp ((pd j).toInt64 * (co k).toInt64) ((pd k).toInt64 * (co j).toInt64)
def beL (pd co : Nat → Int32) : Nat → Int32
  | 0 => -1
  | j + 1 => if ¬ pd j ≤ 0 ∧ ¬ co j ≤ 0 ∧ (beL pd co j = -1 ∨ 0 < lg_cmp ((pd j).toInt64 * (co (beL pd co j).toNatClampNeg).toInt64) ((pd (beL pd co j).toNatClampNeg).toInt64 * (co j).toInt64)) then nI j else beL pd co j
theorem beL_rng (pd co : Nat → Int32) : ∀ j, beL pd co j = -1 ∨ ∃ k, k < j ∧ beL pd co j = nI k
  | 0 => Or.inl rfl
  | j + 1 => by
    rw [beL]
    split
    · exact Or.inr ⟨j, by omega, rfl⟩
    · rcases beL_rng pd co j with h | ⟨k, h1, h2⟩
      · exact Or.inl h
      · exact Or.inr ⟨k, by omega, h2⟩
set_option maxHeartbeats 4000000 in
set_option maxRecDepth 100000 in
theorem c_isWorse (j k : Nat) (σ : zSt) (h : j < 40) (h2 : k < 40) : Con mX6_isWorse 0 [.ref 17, .int (nI j), .int (nI k)] σ (fun r τ => r = some (.int (bI (0 < lg_cmp ((σ 21 j).toInt64 * (σ 10 k).toInt64) ((σ 21 k).toInt64 * (σ 10 j).toInt64)))) ∧ τ = σ) := by
  refine Con.of (lv := [.ref 17, .int (nI j), .int (nI k)]) mk_X6_isWorse rfl (Nat.le_of_ble_eq_true rfl) rfl (fun X F E => ?_)
  refine g_aload_n (nx := 1) 0 F dX6_isWorse_0 rfl rfl rfl ?_
  refine g_getR (nx := 4) F dX6_isWorse_1 rfl fl_RX6_21 rfl (by decide) (by decide) rfl ?_
  refine g_iload_n (nx := 5) 1 F dX6_isWorse_4 rfl rfl rfl ?_
  refine g_ialdN (nx := 6) (j) (_) F dX6_isWorse_5 rfl rfl (by omega) (rfl) ?_
  refine g_i2l (nx := 7) F dX6_isWorse_6 rfl ?_
  refine g_aload_n (nx := 8) 0 F dX6_isWorse_7 rfl rfl rfl ?_
  refine g_getR (nx := 11) F dX6_isWorse_8 rfl fl_RX6_43 rfl (by decide) (by decide) rfl ?_
  refine g_getR (nx := 14) F dX6_isWorse_11 rfl fl_RX6_71 rfl (by decide) (by decide) rfl ?_
  refine g_iload_n (nx := 15) 2 F dX6_isWorse_14 rfl rfl rfl ?_
  refine g_ialdN (nx := 16) (k) (_) F dX6_isWorse_15 rfl rfl (by omega) (rfl) ?_
  refine g_i2l (nx := 17) F dX6_isWorse_16 rfl ?_
  refine g_lmul (nx := 18) F dX6_isWorse_17 rfl ?_
  refine g_aload_n (nx := 19) 0 F dX6_isWorse_18 rfl rfl rfl ?_
  refine g_getR (nx := 22) F dX6_isWorse_19 rfl fl_RX6_21 rfl (by decide) (by decide) rfl ?_
  refine g_iload_n (nx := 23) 2 F dX6_isWorse_22 rfl rfl rfl ?_
  refine g_ialdN (nx := 24) (k) (_) F dX6_isWorse_23 rfl rfl (by omega) (rfl) ?_
  refine g_i2l (nx := 25) F dX6_isWorse_24 rfl ?_
  refine g_aload_n (nx := 26) 0 F dX6_isWorse_25 rfl rfl rfl ?_
  refine g_getR (nx := 29) F dX6_isWorse_26 rfl fl_RX6_43 rfl (by decide) (by decide) rfl ?_
  refine g_getR (nx := 32) F dX6_isWorse_29 rfl fl_RX6_71 rfl (by decide) (by decide) rfl ?_
  refine g_iload_n (nx := 33) 1 F dX6_isWorse_32 rfl rfl rfl ?_
  refine g_ialdN (nx := 34) (j) (_) F dX6_isWorse_33 rfl rfl (by omega) (rfl) ?_
  refine g_i2l (nx := 35) F dX6_isWorse_34 rfl ?_
  refine g_lmul (nx := 36) F dX6_isWorse_35 rfl ?_
  refine g_lcmp (nx := 37) F dX6_isWorse_36 rfl ?_
  refine g_if_le (nx := 40) 44 F dX6_isWorse_37 rfl (by decide) (fun c_37 => ?_) (fun c_37 => ?_)
  · refine g_iconst (nx := 45) (0) F dX6_isWorse_44 rfl rfl ?_
    refine g_zret F E dX6_isWorse_45 (by first | rfl | assumption) ?_
    first | exact ⟨by rw [bI_t (not_le_I.mp c_37)], rfl⟩ | exact ⟨by rw [bI_f (not_lt_I.mpr c_37)], rfl⟩
  · refine g_iconst (nx := 41) (1) F dX6_isWorse_40 rfl rfl ?_
    refine g_goto 45 F dX6_isWorse_41 (by decide) ?_
    refine g_zret F E dX6_isWorse_45 (by first | rfl | assumption) ?_
    first | exact ⟨by rw [bI_t (not_le_I.mp c_37)], rfl⟩ | exact ⟨by rw [bI_f (not_lt_I.mpr c_37)], rfl⟩
set_option maxHeartbeats 4000000 in
set_option maxRecDepth 100000 in
theorem c_worstOff (f : Nat) (σ : zSt) (hf : σ 17 8 = nI f) (h : f ≤ 40) : Con mX6_worstOff 1 [.ref 17] σ (fun r τ => r = some (.int (beL (σ 21) (σ 10) f)) ∧ τ = σ) := by
  refine Con.of (lv := [.ref 17, .long 0, .long 0]) mk_X6_worstOff rfl (Nat.le_of_ble_eq_true rfl) rfl (fun X F E => ?_)
  have L : ∀ (q j : Nat), j + q = f → Gs X 4 [.ref 17, .int (beL ((σ 21)) ((σ 10)) j), .int (nI j)] [] σ := by
    intro q
    induction q with
    | zero =>
      intro j hj
      have hj : j = f := hj
      subst hj
      refine g_iload_n (nx := 5) 2 F dX6_worstOff_4 rfl rfl rfl ?_
      refine g_aload_n (nx := 6) 0 F dX6_worstOff_5 rfl rfl rfl ?_
      refine g_getV (nx := 9) (nI j) F dX6_worstOff_6 rfl fl_RX6_51 rfl (by decide) (by decide) rfl rfl (hf) ?_
      refine g_icmp_ge (nx := 12) 55 F dX6_worstOff_9 rfl (by decide) (fun c_9 => ?_) (fun c_9 => absurd c_9 (by exact fun zq => zq (nI_le (a := j) (b := j) (by omega) (by omega))))
      refine g_iload_n (nx := 56) 1 F dX6_worstOff_55 rfl rfl rfl ?_
      refine g_iret F E dX6_worstOff_56 ?_
      exact ⟨rfl, rfl⟩
    | succ q ih =>
      intro j hj
      have hs : beL (σ 21) (σ 10) (j + 1) = if ¬ (σ 21) j ≤ 0 ∧ ¬ (σ 10) j ≤ 0 ∧ (beL (σ 21) (σ 10) j = -1 ∨ 0 < lg_cmp (((σ 21) j).toInt64 * ((σ 10) (beL (σ 21) (σ 10) j).toNatClampNeg).toInt64) (((σ 21) (beL (σ 21) (σ 10) j).toNatClampNeg).toInt64 * ((σ 10) j).toInt64)) then nI j else beL (σ 21) (σ 10) j := rfl
      rcases beL_rng ((σ 21)) ((σ 10)) j with eb | ⟨k, hk, eb⟩
      · rw [eb]
        rw [eb] at hs
        refine g_iload_n (nx := 5) 2 F dX6_worstOff_4 rfl rfl rfl ?_
        refine g_aload_n (nx := 6) 0 F dX6_worstOff_5 rfl rfl rfl ?_
        refine g_getV (nx := 9) (nI f) F dX6_worstOff_6 rfl fl_RX6_51 rfl (by decide) (by decide) rfl rfl (hf) ?_
        refine g_icmp_ge (nx := 12) 55 F dX6_worstOff_9 rfl (by decide) (fun c_9 => absurd c_9 (by exact nI_ge (a := j) (b := f) (by omega) (by omega))) (fun c_9 => ?_)
        refine g_aload_n (nx := 13) 0 F dX6_worstOff_12 rfl rfl rfl ?_
        refine g_getR (nx := 16) F dX6_worstOff_13 rfl fl_RX6_21 rfl (by decide) (by decide) rfl ?_
        refine g_iload_n (nx := 17) 2 F dX6_worstOff_16 rfl rfl rfl ?_
        refine g_ialdN (nx := 18) (j) (_) F dX6_worstOff_17 rfl rfl (by omega) (rfl) ?_
        refine g_if_le (nx := 21) 49 F dX6_worstOff_18 rfl (by decide) (fun c_18 => ?_) (fun c_18 => ?_)
        · refine g_iinc (nx := 52) (1) F dX6_worstOff_49 rfl rfl (by decide) (by decide) ?_
          try dsimp only [List.set]
          refine g_goto 4 F dX6_worstOff_52 (by decide) ?_
          rw [nI_1]
          have hh := ih (j + 1) (by omega)
          rw [hs] at hh
          first
            | (rw [if_pos (by first | exact ⟨by assumption, by assumption, Or.inl rfl⟩ | exact ⟨by assumption, by assumption, Or.inr (by first | exact not_le_I.mp (by assumption) | exact Decidable.not_not.mp (mt bI_0.mpr (by assumption)))⟩)] at hh; exact hh)
            | (rw [if_neg (by rintro ⟨z1, z2, z3⟩; first | exact z1 (by assumption) | exact z2 (by assumption) | (rcases z3 with z3 | z3; exact nI_m1 (by omega) z3; first | exact bI_0.mp (by assumption) z3 | exact absurd z3 (not_lt_I.mpr (by assumption))))] at hh; exact hh)
        · refine g_aload_n (nx := 22) 0 F dX6_worstOff_21 rfl rfl rfl ?_
          refine g_getR (nx := 25) F dX6_worstOff_22 rfl fl_RX6_43 rfl (by decide) (by decide) rfl ?_
          refine g_getR (nx := 28) F dX6_worstOff_25 rfl fl_RX6_71 rfl (by decide) (by decide) rfl ?_
          refine g_iload_n (nx := 29) 2 F dX6_worstOff_28 rfl rfl rfl ?_
          refine g_ialdN (nx := 30) (j) (_) F dX6_worstOff_29 rfl rfl (by omega) (rfl) ?_
          refine g_if_le (nx := 33) 49 F dX6_worstOff_30 rfl (by decide) (fun c_30 => ?_) (fun c_30 => ?_)
          · refine g_iinc (nx := 52) (1) F dX6_worstOff_49 rfl rfl (by decide) (by decide) ?_
            try dsimp only [List.set]
            refine g_goto 4 F dX6_worstOff_52 (by decide) ?_
            rw [nI_1]
            have hh := ih (j + 1) (by omega)
            rw [hs] at hh
            first
              | (rw [if_pos (by first | exact ⟨by assumption, by assumption, Or.inl rfl⟩ | exact ⟨by assumption, by assumption, Or.inr (by first | exact not_le_I.mp (by assumption) | exact Decidable.not_not.mp (mt bI_0.mpr (by assumption)))⟩)] at hh; exact hh)
              | (rw [if_neg (by rintro ⟨z1, z2, z3⟩; first | exact z1 (by assumption) | exact z2 (by assumption) | (rcases z3 with z3 | z3; exact nI_m1 (by omega) z3; first | exact bI_0.mp (by assumption) z3 | exact absurd z3 (not_lt_I.mpr (by assumption))))] at hh; exact hh)
          · refine g_iload_n (nx := 34) 1 F dX6_worstOff_33 rfl rfl rfl ?_
            refine g_iconst (nx := 35) (-1) F dX6_worstOff_34 rfl rfl ?_
            refine g_icmp_eq (nx := 38) 47 F dX6_worstOff_35 rfl (by decide) (fun c_35 => ?_) (fun c_35 => absurd c_35 (by exact fun q => q rfl))
            refine g_iload_n (nx := 48) 2 F dX6_worstOff_47 rfl rfl rfl ?_
            refine g_istore_n (nx := 49) 1 F dX6_worstOff_48 rfl rfl (by decide) ?_
            try dsimp only [List.set]
            refine g_iinc (nx := 52) (1) F dX6_worstOff_49 rfl rfl (by decide) (by decide) ?_
            try dsimp only [List.set]
            refine g_goto 4 F dX6_worstOff_52 (by decide) ?_
            rw [nI_1]
            have hh := ih (j + 1) (by omega)
            rw [hs] at hh
            first
              | (rw [if_pos (by first | exact ⟨by assumption, by assumption, Or.inl rfl⟩ | exact ⟨by assumption, by assumption, Or.inr (by first | exact not_le_I.mp (by assumption) | exact Decidable.not_not.mp (mt bI_0.mpr (by assumption)))⟩)] at hh; exact hh)
              | (rw [if_neg (by rintro ⟨z1, z2, z3⟩; first | exact z1 (by assumption) | exact z2 (by assumption) | (rcases z3 with z3 | z3; exact nI_m1 (by omega) z3; first | exact bI_0.mp (by assumption) z3 | exact absurd z3 (not_lt_I.mpr (by assumption))))] at hh; exact hh)
      · rw [eb]
        rw [eb, nI_clamp (by omega)] at hs
        refine g_iload_n (nx := 5) 2 F dX6_worstOff_4 rfl rfl rfl ?_
        refine g_aload_n (nx := 6) 0 F dX6_worstOff_5 rfl rfl rfl ?_
        refine g_getV (nx := 9) (nI f) F dX6_worstOff_6 rfl fl_RX6_51 rfl (by decide) (by decide) rfl rfl (hf) ?_
        refine g_icmp_ge (nx := 12) 55 F dX6_worstOff_9 rfl (by decide) (fun c_9 => absurd c_9 (by exact nI_ge (a := j) (b := f) (by omega) (by omega))) (fun c_9 => ?_)
        refine g_aload_n (nx := 13) 0 F dX6_worstOff_12 rfl rfl rfl ?_
        refine g_getR (nx := 16) F dX6_worstOff_13 rfl fl_RX6_21 rfl (by decide) (by decide) rfl ?_
        refine g_iload_n (nx := 17) 2 F dX6_worstOff_16 rfl rfl rfl ?_
        refine g_ialdN (nx := 18) (j) (_) F dX6_worstOff_17 rfl rfl (by omega) (rfl) ?_
        refine g_if_le (nx := 21) 49 F dX6_worstOff_18 rfl (by decide) (fun c_18 => ?_) (fun c_18 => ?_)
        · refine g_iinc (nx := 52) (1) F dX6_worstOff_49 rfl rfl (by decide) (by decide) ?_
          try dsimp only [List.set]
          refine g_goto 4 F dX6_worstOff_52 (by decide) ?_
          rw [nI_1]
          have hh := ih (j + 1) (by omega)
          rw [hs] at hh
          first
            | (rw [if_pos (by first | exact ⟨by assumption, by assumption, Or.inl rfl⟩ | exact ⟨by assumption, by assumption, Or.inr (by first | exact not_le_I.mp (by assumption) | exact Decidable.not_not.mp (mt bI_0.mpr (by assumption)))⟩)] at hh; exact hh)
            | (rw [if_neg (by rintro ⟨z1, z2, z3⟩; first | exact z1 (by assumption) | exact z2 (by assumption) | (rcases z3 with z3 | z3; exact nI_m1 (by omega) z3; first | exact bI_0.mp (by assumption) z3 | exact absurd z3 (not_lt_I.mpr (by assumption))))] at hh; exact hh)
        · refine g_aload_n (nx := 22) 0 F dX6_worstOff_21 rfl rfl rfl ?_
          refine g_getR (nx := 25) F dX6_worstOff_22 rfl fl_RX6_43 rfl (by decide) (by decide) rfl ?_
          refine g_getR (nx := 28) F dX6_worstOff_25 rfl fl_RX6_71 rfl (by decide) (by decide) rfl ?_
          refine g_iload_n (nx := 29) 2 F dX6_worstOff_28 rfl rfl rfl ?_
          refine g_ialdN (nx := 30) (j) (_) F dX6_worstOff_29 rfl rfl (by omega) (rfl) ?_
          refine g_if_le (nx := 33) 49 F dX6_worstOff_30 rfl (by decide) (fun c_30 => ?_) (fun c_30 => ?_)
          · refine g_iinc (nx := 52) (1) F dX6_worstOff_49 rfl rfl (by decide) (by decide) ?_
            try dsimp only [List.set]
            refine g_goto 4 F dX6_worstOff_52 (by decide) ?_
            rw [nI_1]
            have hh := ih (j + 1) (by omega)
            rw [hs] at hh
            first
              | (rw [if_pos (by first | exact ⟨by assumption, by assumption, Or.inl rfl⟩ | exact ⟨by assumption, by assumption, Or.inr (by first | exact not_le_I.mp (by assumption) | exact Decidable.not_not.mp (mt bI_0.mpr (by assumption)))⟩)] at hh; exact hh)
              | (rw [if_neg (by rintro ⟨z1, z2, z3⟩; first | exact z1 (by assumption) | exact z2 (by assumption) | (rcases z3 with z3 | z3; exact nI_m1 (by omega) z3; first | exact bI_0.mp (by assumption) z3 | exact absurd z3 (not_lt_I.mpr (by assumption))))] at hh; exact hh)
          · refine g_iload_n (nx := 34) 1 F dX6_worstOff_33 rfl rfl rfl ?_
            refine g_iconst (nx := 35) (-1) F dX6_worstOff_34 rfl rfl ?_
            refine g_icmp_eq (nx := 38) 47 F dX6_worstOff_35 rfl (by decide) (fun c_35 => absurd c_35 (by exact nI_m1 (by omega))) (fun c_35 => ?_)
            refine g_aload_n (nx := 39) 0 F dX6_worstOff_38 rfl rfl rfl ?_
            refine g_iload_n (nx := 40) 2 F dX6_worstOff_39 rfl rfl rfl ?_
            refine g_iload_n (nx := 41) 1 F dX6_worstOff_40 rfl rfl rfl ?_
            refine g_callV (nx := 44) 2 0 [.int (nI j), .int (nI k)] F dX6_worstOff_41 rfl ml_RX6_178 mo_X6_isWorse rfl rfl rfl rfl (Nat.le_of_ble_eq_true rfl) (by first | decide | omega) (c_isWorse j k _ (by omega) (by omega)) (fun r_41 τ_41 q_41 => ?_)
            obtain ⟨rfl, et_41⟩ := q_41
            have et_41 := et_41.symm
            subst et_41
            dsimp only [Option.toList, List.append, List.cons_append, List.nil_append]
            refine g_if_eq (nx := 47) 49 F dX6_worstOff_44 rfl (by decide) (fun c_44 => ?_) (fun c_44 => ?_)
            · refine g_iinc (nx := 52) (1) F dX6_worstOff_49 rfl rfl (by decide) (by decide) ?_
              try dsimp only [List.set]
              refine g_goto 4 F dX6_worstOff_52 (by decide) ?_
              rw [nI_1]
              have hh := ih (j + 1) (by omega)
              rw [hs] at hh
              first
                | (rw [if_pos (by first | exact ⟨by assumption, by assumption, Or.inl rfl⟩ | exact ⟨by assumption, by assumption, Or.inr (by first | exact not_le_I.mp (by assumption) | exact Decidable.not_not.mp (mt bI_0.mpr (by assumption)))⟩)] at hh; exact hh)
                | (rw [if_neg (by rintro ⟨z1, z2, z3⟩; first | exact z1 (by assumption) | exact z2 (by assumption) | (rcases z3 with z3 | z3; exact nI_m1 (by omega) z3; first | exact bI_0.mp (by assumption) z3 | exact absurd z3 (not_lt_I.mpr (by assumption))))] at hh; exact hh)
            · refine g_iload_n (nx := 48) 2 F dX6_worstOff_47 rfl rfl rfl ?_
              refine g_istore_n (nx := 49) 1 F dX6_worstOff_48 rfl rfl (by decide) ?_
              try dsimp only [List.set]
              refine g_iinc (nx := 52) (1) F dX6_worstOff_49 rfl rfl (by decide) (by decide) ?_
              try dsimp only [List.set]
              refine g_goto 4 F dX6_worstOff_52 (by decide) ?_
              rw [nI_1]
              have hh := ih (j + 1) (by omega)
              rw [hs] at hh
              first
                | (rw [if_pos (by first | exact ⟨by assumption, by assumption, Or.inl rfl⟩ | exact ⟨by assumption, by assumption, Or.inr (by first | exact not_le_I.mp (by assumption) | exact Decidable.not_not.mp (mt bI_0.mpr (by assumption)))⟩)] at hh; exact hh)
                | (rw [if_neg (by rintro ⟨z1, z2, z3⟩; first | exact z1 (by assumption) | exact z2 (by assumption) | (rcases z3 with z3 | z3; exact nI_m1 (by omega) z3; first | exact bI_0.mp (by assumption) z3 | exact absurd z3 (not_lt_I.mpr (by assumption))))] at hh; exact hh)
  refine g_iconst (nx := 1) (-1) F dX6_worstOff_0 rfl rfl ?_
  refine g_istore_n (nx := 2) 1 F dX6_worstOff_1 rfl rfl (by decide) ?_
  try dsimp only [List.set]
  refine g_iconst (nx := 3) (0) F dX6_worstOff_2 rfl rfl ?_
  refine g_istore_n (nx := 4) 2 F dX6_worstOff_3 rfl rfl (by decide) ?_
  try dsimp only [List.set]
  exact L f 0 (by omega)
set_option maxHeartbeats 4000000 in
set_option maxRecDepth 100000 in
theorem c_bears (f : Nat) (σ : zSt) (hf : σ 17 8 = nI f) (h : f ≤ 40) : Con mX11_bears 2 [.ref 0] σ (fun r τ => r = some (.int (beL (σ 21) (σ 10) f)) ∧ τ = σ) := by
  refine Con.of (lv := [.ref 0]) mk_X11_bears rfl (Nat.le_of_ble_eq_true rfl) rfl (fun X F E => ?_)
  refine g_aload_n (nx := 1) 0 F dX11_bears_0 rfl rfl rfl ?_
  refine g_getR (nx := 4) F dX11_bears_1 rfl fl_RX11_44 rfl (by decide) (by decide) rfl ?_
  refine g_callV (nx := 7) 0 1 [] F dX11_bears_4 rfl ml_RX11_315 mo_X6_worstOff rfl rfl rfl rfl (Nat.le_of_ble_eq_true rfl) (by first | decide | omega) (c_worstOff f _ hf h) (fun r_4 τ_4 q_4 => ?_)
  obtain ⟨rfl, et_4⟩ := q_4
  have et_4 := et_4.symm
  subst et_4
  dsimp only [Option.toList, List.append, List.cons_append, List.nil_append]
  refine g_iret F E dX11_bears_7 ?_
  exact ⟨rfl, rfl⟩
set_option maxHeartbeats 4000000 in
set_option maxRecDepth 100000 in
theorem k_bears (f : Nat) (σ : zSt) (hf : σ 145 3 = nI f) (h : f ≤ 40) (hp : ∀ j, j < f → 0 ≤ σ 159 j) (hp2 : ∀ j, j < f → 0 ≤ σ 153 j) : Con mX12_bears 0 [.ref 145] σ (fun r τ => r = some (.int (beL (σ 159) (σ 153) f)) ∧ τ = σ) := by
  refine Con.of (lv := [.ref 145, .long 0, .long 0]) mk_X12_bears rfl (Nat.le_of_ble_eq_true rfl) rfl (fun X F E => ?_)
  have L : ∀ (q j : Nat), j + q = f → Gs X 4 [.ref 145, .int (beL ((σ 159)) ((σ 153)) j), .int (nI j)] [] σ := by
    intro q
    induction q with
    | zero =>
      intro j hj
      have hj : j = f := hj
      subst hj
      refine g_iload_n (nx := 5) 2 F dX12_bears_4 rfl rfl rfl ?_
      refine g_aload_n (nx := 6) 0 F dX12_bears_5 rfl rfl rfl ?_
      refine g_getV (nx := 9) (nI j) F dX12_bears_6 rfl fl_RX12_171 rfl (by decide) (by decide) rfl rfl (hf) ?_
      refine g_icmp_ge (nx := 12) 80 F dX12_bears_9 rfl (by decide) (fun c_9 => ?_) (fun c_9 => absurd c_9 (by exact fun zq => zq (nI_le (a := j) (b := j) (by omega) (by omega))))
      refine g_iload_n (nx := 81) 1 F dX12_bears_80 rfl rfl rfl ?_
      refine g_iret F E dX12_bears_81 ?_
      exact ⟨rfl, rfl⟩
    | succ q ih =>
      intro j hj
      have hs : beL (σ 159) (σ 153) (j + 1) = if ¬ (σ 159) j ≤ 0 ∧ ¬ (σ 153) j ≤ 0 ∧ (beL (σ 159) (σ 153) j = -1 ∨ 0 < lg_cmp (((σ 159) j).toInt64 * ((σ 153) (beL (σ 159) (σ 153) j).toNatClampNeg).toInt64) (((σ 159) (beL (σ 159) (σ 153) j).toNatClampNeg).toInt64 * ((σ 153) j).toInt64)) then nI j else beL (σ 159) (σ 153) j := rfl
      rcases beL_rng ((σ 159)) ((σ 153)) j with eb | ⟨k, hk, eb⟩
      · rw [eb]
        rw [eb] at hs
        refine g_iload_n (nx := 5) 2 F dX12_bears_4 rfl rfl rfl ?_
        refine g_aload_n (nx := 6) 0 F dX12_bears_5 rfl rfl rfl ?_
        refine g_getV (nx := 9) (nI f) F dX12_bears_6 rfl fl_RX12_171 rfl (by decide) (by decide) rfl rfl (hf) ?_
        refine g_icmp_ge (nx := 12) 80 F dX12_bears_9 rfl (by decide) (fun c_9 => absurd c_9 (by exact nI_ge (a := j) (b := f) (by omega) (by omega))) (fun c_9 => ?_)
        refine g_aload_n (nx := 13) 0 F dX12_bears_12 rfl rfl rfl ?_
        refine g_getR (nx := 16) F dX12_bears_13 rfl fl_RX12_49 rfl (by decide) (by decide) rfl ?_
        refine g_iload_n (nx := 17) 2 F dX12_bears_16 rfl rfl rfl ?_
        refine g_ialdN (nx := 18) (j) (_) F dX12_bears_17 rfl rfl (by omega) (rfl) ?_
        refine g_if_eq (nx := 21) 74 F dX12_bears_18 rfl (by decide) (fun c_18 => ?_) (fun c_18 => ?_)
        · refine g_iinc (nx := 77) (1) F dX12_bears_74 rfl rfl (by decide) (by decide) ?_
          try dsimp only [List.set]
          refine g_goto 4 F dX12_bears_77 (by decide) ?_
          rw [nI_1]
          have hh := ih (j + 1) (by omega)
          rw [hs] at hh
          have p1 := hp j (by omega)
          have p2 := hp2 j (by omega)
          have g1 : ∀ x : Int32, 0 ≤ x → (x ≤ 0 ↔ x = 0) := fun x hx => by rw [fa_le] at *; rw [fa_eq]; simp only [Int32.toInt_zero] at *; omega
          try rw [← g1 _ p1] at c_18
          try rw [ne_eq] at c_27
          try rw [← g1 _ p2] at c_27
          first
            | (rw [if_pos (by first | exact ⟨by assumption, by assumption, Or.inl rfl⟩ | exact ⟨by assumption, by assumption, Or.inr (by first | exact not_le_I.mp (by assumption) | exact Decidable.not_not.mp (mt bI_0.mpr (by assumption)))⟩)] at hh; exact hh)
            | (rw [if_neg (by rintro ⟨z1, z2, z3⟩; first | exact z1 (by assumption) | exact z2 (by assumption) | (rcases z3 with z3 | z3; exact nI_m1 (by omega) z3; first | exact bI_0.mp (by assumption) z3 | exact absurd z3 (not_lt_I.mpr (by assumption))))] at hh; exact hh)
        · refine g_aload_n (nx := 22) 0 F dX12_bears_21 rfl rfl rfl ?_
          refine g_getR (nx := 25) F dX12_bears_22 rfl fl_RX12_31 rfl (by decide) (by decide) rfl ?_
          refine g_iload_n (nx := 26) 2 F dX12_bears_25 rfl rfl rfl ?_
          refine g_ialdN (nx := 27) (j) (_) F dX12_bears_26 rfl rfl (by omega) (rfl) ?_
          refine g_if_ne (nx := 30) 33 F dX12_bears_27 rfl (by decide) (fun c_27 => ?_) (fun c_27 => ?_)
          · refine g_iload_n (nx := 34) 1 F dX12_bears_33 rfl rfl rfl ?_
            refine g_iconst (nx := 35) (-1) F dX12_bears_34 rfl rfl ?_
            refine g_icmp_eq (nx := 38) 72 F dX12_bears_35 rfl (by decide) (fun c_35 => ?_) (fun c_35 => absurd c_35 (by exact fun q => q rfl))
            refine g_iload_n (nx := 73) 2 F dX12_bears_72 rfl rfl rfl ?_
            refine g_istore_n (nx := 74) 1 F dX12_bears_73 rfl rfl (by decide) ?_
            try dsimp only [List.set]
            refine g_iinc (nx := 77) (1) F dX12_bears_74 rfl rfl (by decide) (by decide) ?_
            try dsimp only [List.set]
            refine g_goto 4 F dX12_bears_77 (by decide) ?_
            rw [nI_1]
            have hh := ih (j + 1) (by omega)
            rw [hs] at hh
            have p1 := hp j (by omega)
            have p2 := hp2 j (by omega)
            have g1 : ∀ x : Int32, 0 ≤ x → (x ≤ 0 ↔ x = 0) := fun x hx => by rw [fa_le] at *; rw [fa_eq]; simp only [Int32.toInt_zero] at *; omega
            try rw [← g1 _ p1] at c_18
            try rw [ne_eq] at c_27
            try rw [← g1 _ p2] at c_27
            first
              | (rw [if_pos (by first | exact ⟨by assumption, by assumption, Or.inl rfl⟩ | exact ⟨by assumption, by assumption, Or.inr (by first | exact not_le_I.mp (by assumption) | exact Decidable.not_not.mp (mt bI_0.mpr (by assumption)))⟩)] at hh; exact hh)
              | (rw [if_neg (by rintro ⟨z1, z2, z3⟩; first | exact z1 (by assumption) | exact z2 (by assumption) | (rcases z3 with z3 | z3; exact nI_m1 (by omega) z3; first | exact bI_0.mp (by assumption) z3 | exact absurd z3 (not_lt_I.mpr (by assumption))))] at hh; exact hh)
          · refine g_goto 74 F dX12_bears_30 (by decide) ?_
            refine g_iinc (nx := 77) (1) F dX12_bears_74 rfl rfl (by decide) (by decide) ?_
            try dsimp only [List.set]
            refine g_goto 4 F dX12_bears_77 (by decide) ?_
            rw [nI_1]
            have hh := ih (j + 1) (by omega)
            rw [hs] at hh
            have p1 := hp j (by omega)
            have p2 := hp2 j (by omega)
            have g1 : ∀ x : Int32, 0 ≤ x → (x ≤ 0 ↔ x = 0) := fun x hx => by rw [fa_le] at *; rw [fa_eq]; simp only [Int32.toInt_zero] at *; omega
            try rw [← g1 _ p1] at c_18
            try rw [ne_eq] at c_27
            try rw [← g1 _ p2] at c_27
            first
              | (rw [if_pos (by first | exact ⟨by assumption, by assumption, Or.inl rfl⟩ | exact ⟨by assumption, by assumption, Or.inr (by first | exact not_le_I.mp (by assumption) | exact Decidable.not_not.mp (mt bI_0.mpr (by assumption)))⟩)] at hh; exact hh)
              | (rw [if_neg (by rintro ⟨z1, z2, z3⟩; first | exact z1 (by assumption) | exact z2 (by assumption) | (rcases z3 with z3 | z3; exact nI_m1 (by omega) z3; first | exact bI_0.mp (by assumption) z3 | exact absurd z3 (not_lt_I.mpr (by assumption))))] at hh; exact hh)
      · rw [eb]
        rw [eb, nI_clamp (by omega)] at hs
        refine g_iload_n (nx := 5) 2 F dX12_bears_4 rfl rfl rfl ?_
        refine g_aload_n (nx := 6) 0 F dX12_bears_5 rfl rfl rfl ?_
        refine g_getV (nx := 9) (nI f) F dX12_bears_6 rfl fl_RX12_171 rfl (by decide) (by decide) rfl rfl (hf) ?_
        refine g_icmp_ge (nx := 12) 80 F dX12_bears_9 rfl (by decide) (fun c_9 => absurd c_9 (by exact nI_ge (a := j) (b := f) (by omega) (by omega))) (fun c_9 => ?_)
        refine g_aload_n (nx := 13) 0 F dX12_bears_12 rfl rfl rfl ?_
        refine g_getR (nx := 16) F dX12_bears_13 rfl fl_RX12_49 rfl (by decide) (by decide) rfl ?_
        refine g_iload_n (nx := 17) 2 F dX12_bears_16 rfl rfl rfl ?_
        refine g_ialdN (nx := 18) (j) (_) F dX12_bears_17 rfl rfl (by omega) (rfl) ?_
        refine g_if_eq (nx := 21) 74 F dX12_bears_18 rfl (by decide) (fun c_18 => ?_) (fun c_18 => ?_)
        · refine g_iinc (nx := 77) (1) F dX12_bears_74 rfl rfl (by decide) (by decide) ?_
          try dsimp only [List.set]
          refine g_goto 4 F dX12_bears_77 (by decide) ?_
          rw [nI_1]
          have hh := ih (j + 1) (by omega)
          rw [hs] at hh
          have p1 := hp j (by omega)
          have p2 := hp2 j (by omega)
          have g1 : ∀ x : Int32, 0 ≤ x → (x ≤ 0 ↔ x = 0) := fun x hx => by rw [fa_le] at *; rw [fa_eq]; simp only [Int32.toInt_zero] at *; omega
          try rw [← g1 _ p1] at c_18
          try rw [ne_eq] at c_27
          try rw [← g1 _ p2] at c_27
          first
            | (rw [if_pos (by first | exact ⟨by assumption, by assumption, Or.inl rfl⟩ | exact ⟨by assumption, by assumption, Or.inr (by first | exact not_le_I.mp (by assumption) | exact Decidable.not_not.mp (mt bI_0.mpr (by assumption)))⟩)] at hh; exact hh)
            | (rw [if_neg (by rintro ⟨z1, z2, z3⟩; first | exact z1 (by assumption) | exact z2 (by assumption) | (rcases z3 with z3 | z3; exact nI_m1 (by omega) z3; first | exact bI_0.mp (by assumption) z3 | exact absurd z3 (not_lt_I.mpr (by assumption))))] at hh; exact hh)
        · refine g_aload_n (nx := 22) 0 F dX12_bears_21 rfl rfl rfl ?_
          refine g_getR (nx := 25) F dX12_bears_22 rfl fl_RX12_31 rfl (by decide) (by decide) rfl ?_
          refine g_iload_n (nx := 26) 2 F dX12_bears_25 rfl rfl rfl ?_
          refine g_ialdN (nx := 27) (j) (_) F dX12_bears_26 rfl rfl (by omega) (rfl) ?_
          refine g_if_ne (nx := 30) 33 F dX12_bears_27 rfl (by decide) (fun c_27 => ?_) (fun c_27 => ?_)
          · refine g_iload_n (nx := 34) 1 F dX12_bears_33 rfl rfl rfl ?_
            refine g_iconst (nx := 35) (-1) F dX12_bears_34 rfl rfl ?_
            refine g_icmp_eq (nx := 38) 72 F dX12_bears_35 rfl (by decide) (fun c_35 => absurd c_35 (by exact nI_m1 (by omega))) (fun c_35 => ?_)
            refine g_aload_n (nx := 39) 0 F dX12_bears_38 rfl rfl rfl ?_
            refine g_getR (nx := 42) F dX12_bears_39 rfl fl_RX12_49 rfl (by decide) (by decide) rfl ?_
            refine g_iload_n (nx := 43) 2 F dX12_bears_42 rfl rfl rfl ?_
            refine g_ialdN (nx := 44) (j) (_) F dX12_bears_43 rfl rfl (by omega) (rfl) ?_
            refine g_i2l (nx := 45) F dX12_bears_44 rfl ?_
            refine g_aload_n (nx := 46) 0 F dX12_bears_45 rfl rfl rfl ?_
            refine g_getR (nx := 49) F dX12_bears_46 rfl fl_RX12_31 rfl (by decide) (by decide) rfl ?_
            refine g_iload_n (nx := 50) 1 F dX12_bears_49 rfl rfl rfl ?_
            refine g_ialdN (nx := 51) (k) (_) F dX12_bears_50 rfl rfl (by omega) (rfl) ?_
            refine g_i2l (nx := 52) F dX12_bears_51 rfl ?_
            refine g_lmul (nx := 53) F dX12_bears_52 rfl ?_
            refine g_aload_n (nx := 54) 0 F dX12_bears_53 rfl rfl rfl ?_
            refine g_getR (nx := 57) F dX12_bears_54 rfl fl_RX12_49 rfl (by decide) (by decide) rfl ?_
            refine g_iload_n (nx := 58) 1 F dX12_bears_57 rfl rfl rfl ?_
            refine g_ialdN (nx := 59) (k) (_) F dX12_bears_58 rfl rfl (by omega) (rfl) ?_
            refine g_i2l (nx := 60) F dX12_bears_59 rfl ?_
            refine g_aload_n (nx := 61) 0 F dX12_bears_60 rfl rfl rfl ?_
            refine g_getR (nx := 64) F dX12_bears_61 rfl fl_RX12_31 rfl (by decide) (by decide) rfl ?_
            refine g_iload_n (nx := 65) 2 F dX12_bears_64 rfl rfl rfl ?_
            refine g_ialdN (nx := 66) (j) (_) F dX12_bears_65 rfl rfl (by omega) (rfl) ?_
            refine g_i2l (nx := 67) F dX12_bears_66 rfl ?_
            refine g_lmul (nx := 68) F dX12_bears_67 rfl ?_
            refine g_lcmp (nx := 69) F dX12_bears_68 rfl ?_
            refine g_if_le (nx := 72) 74 F dX12_bears_69 rfl (by decide) (fun c_69 => ?_) (fun c_69 => ?_)
            · refine g_iinc (nx := 77) (1) F dX12_bears_74 rfl rfl (by decide) (by decide) ?_
              try dsimp only [List.set]
              refine g_goto 4 F dX12_bears_77 (by decide) ?_
              rw [nI_1]
              have hh := ih (j + 1) (by omega)
              rw [hs] at hh
              have p1 := hp j (by omega)
              have p2 := hp2 j (by omega)
              have g1 : ∀ x : Int32, 0 ≤ x → (x ≤ 0 ↔ x = 0) := fun x hx => by rw [fa_le] at *; rw [fa_eq]; simp only [Int32.toInt_zero] at *; omega
              try rw [← g1 _ p1] at c_18
              try rw [ne_eq] at c_27
              try rw [← g1 _ p2] at c_27
              first
                | (rw [if_pos (by first | exact ⟨by assumption, by assumption, Or.inl rfl⟩ | exact ⟨by assumption, by assumption, Or.inr (by first | exact not_le_I.mp (by assumption) | exact Decidable.not_not.mp (mt bI_0.mpr (by assumption)))⟩)] at hh; exact hh)
                | (rw [if_neg (by rintro ⟨z1, z2, z3⟩; first | exact z1 (by assumption) | exact z2 (by assumption) | (rcases z3 with z3 | z3; exact nI_m1 (by omega) z3; first | exact bI_0.mp (by assumption) z3 | exact absurd z3 (not_lt_I.mpr (by assumption))))] at hh; exact hh)
            · refine g_iload_n (nx := 73) 2 F dX12_bears_72 rfl rfl rfl ?_
              refine g_istore_n (nx := 74) 1 F dX12_bears_73 rfl rfl (by decide) ?_
              try dsimp only [List.set]
              refine g_iinc (nx := 77) (1) F dX12_bears_74 rfl rfl (by decide) (by decide) ?_
              try dsimp only [List.set]
              refine g_goto 4 F dX12_bears_77 (by decide) ?_
              rw [nI_1]
              have hh := ih (j + 1) (by omega)
              rw [hs] at hh
              have p1 := hp j (by omega)
              have p2 := hp2 j (by omega)
              have g1 : ∀ x : Int32, 0 ≤ x → (x ≤ 0 ↔ x = 0) := fun x hx => by rw [fa_le] at *; rw [fa_eq]; simp only [Int32.toInt_zero] at *; omega
              try rw [← g1 _ p1] at c_18
              try rw [ne_eq] at c_27
              try rw [← g1 _ p2] at c_27
              first
                | (rw [if_pos (by first | exact ⟨by assumption, by assumption, Or.inl rfl⟩ | exact ⟨by assumption, by assumption, Or.inr (by first | exact not_le_I.mp (by assumption) | exact Decidable.not_not.mp (mt bI_0.mpr (by assumption)))⟩)] at hh; exact hh)
                | (rw [if_neg (by rintro ⟨z1, z2, z3⟩; first | exact z1 (by assumption) | exact z2 (by assumption) | (rcases z3 with z3 | z3; exact nI_m1 (by omega) z3; first | exact bI_0.mp (by assumption) z3 | exact absurd z3 (not_lt_I.mpr (by assumption))))] at hh; exact hh)
          · refine g_goto 74 F dX12_bears_30 (by decide) ?_
            refine g_iinc (nx := 77) (1) F dX12_bears_74 rfl rfl (by decide) (by decide) ?_
            try dsimp only [List.set]
            refine g_goto 4 F dX12_bears_77 (by decide) ?_
            rw [nI_1]
            have hh := ih (j + 1) (by omega)
            rw [hs] at hh
            have p1 := hp j (by omega)
            have p2 := hp2 j (by omega)
            have g1 : ∀ x : Int32, 0 ≤ x → (x ≤ 0 ↔ x = 0) := fun x hx => by rw [fa_le] at *; rw [fa_eq]; simp only [Int32.toInt_zero] at *; omega
            try rw [← g1 _ p1] at c_18
            try rw [ne_eq] at c_27
            try rw [← g1 _ p2] at c_27
            first
              | (rw [if_pos (by first | exact ⟨by assumption, by assumption, Or.inl rfl⟩ | exact ⟨by assumption, by assumption, Or.inr (by first | exact not_le_I.mp (by assumption) | exact Decidable.not_not.mp (mt bI_0.mpr (by assumption)))⟩)] at hh; exact hh)
              | (rw [if_neg (by rintro ⟨z1, z2, z3⟩; first | exact z1 (by assumption) | exact z2 (by assumption) | (rcases z3 with z3 | z3; exact nI_m1 (by omega) z3; first | exact bI_0.mp (by assumption) z3 | exact absurd z3 (not_lt_I.mpr (by assumption))))] at hh; exact hh)
  refine g_iconst (nx := 1) (-1) F dX12_bears_0 rfl rfl ?_
  refine g_istore_n (nx := 2) 1 F dX12_bears_1 rfl rfl (by decide) ?_
  try dsimp only [List.set]
  refine g_iconst (nx := 3) (0) F dX12_bears_2 rfl rfl ?_
  refine g_istore_n (nx := 4) 2 F dX12_bears_3 rfl rfl (by decide) ?_
  try dsimp only [List.set]
  exact L f 0 (by omega)
