/-- a refusal: a number that is not from 0 to most -/
abbrev isin (x : Int32) (most : Int) : Prop := 0 ≤ x.toInt ∧ x.toInt ≤ most
abbrev isset (x c : Int32) : Prop := 0 ≤ x.toInt ∧ x.toInt < ((1 : Int32) <<< (c &&& 31)).toInt
set_option maxHeartbeats 4000000 in
set_option maxRecDepth 100000 in
theorem c_addClerk (c : Nat) (p q : Int32) (σ : zSt) (hc : σ 3 3 = nI c) (h : c < 10) : Con mX2_addClerk 0 [.ref 3, .int p, .int q] σ (fun r τ => r = some (.int (nI c)) ∧ τ = zu (zu (zu σ 4 c p) 5 c q) 3 3 (nI (c + 1))) := by
  refine Con.of (lv := [.ref 3, .int p, .int q]) mk_X2_addClerk rfl (Nat.le_of_ble_eq_true rfl) rfl (fun X F E => ?_)
  refine g_aload_n (nx := 1) 0 F dX2_addClerk_0 rfl rfl rfl ?_
  refine g_getV (nx := 4) (nI c) F dX2_addClerk_1 rfl fl_RX2_54 rfl (by decide) (by decide) rfl rfl (hc) ?_
  refine g_bipush (nx := 6) (10) F dX2_addClerk_4 rfl (by decide) ?_
  refine g_icmp_lt (nx := 9) 11 F dX2_addClerk_6 rfl (by decide) (fun c_6 => ?_) (fun c_6 => absurd c_6 (by exact fun zq => zq (nI_lt (a := c) (b := 10) (by omega) (by omega))))
  refine g_aload_n (nx := 12) 0 F dX2_addClerk_11 rfl rfl rfl ?_
  refine g_getR (nx := 15) F dX2_addClerk_12 rfl fl_RX2_9 rfl (by decide) (by decide) rfl ?_
  refine g_aload_n (nx := 16) 0 F dX2_addClerk_15 rfl rfl rfl ?_
  refine g_getV (nx := 19) (nI c) F dX2_addClerk_16 rfl fl_RX2_54 rfl (by decide) (by decide) rfl rfl (hc) ?_
  refine g_iload_n (nx := 20) 1 F dX2_addClerk_19 rfl rfl rfl ?_
  refine g_iastN (nx := 21) (c) F dX2_addClerk_20 rfl rfl (by omega) ?_
  refine g_aload_n (nx := 22) 0 F dX2_addClerk_21 rfl rfl rfl ?_
  refine g_getR (nx := 25) F dX2_addClerk_22 rfl fl_RX2_15 rfl (by decide) (by decide) rfl ?_
  refine g_aload_n (nx := 26) 0 F dX2_addClerk_25 rfl rfl rfl ?_
  refine g_getV (nx := 29) (nI c) F dX2_addClerk_26 rfl fl_RX2_54 rfl (by decide) (by decide) rfl rfl (hc) ?_
  refine g_iload_n (nx := 30) 2 F dX2_addClerk_29 rfl rfl rfl ?_
  refine g_iastN (nx := 31) (c) F dX2_addClerk_30 rfl rfl (by omega) ?_
  refine g_aload_n (nx := 32) 0 F dX2_addClerk_31 rfl rfl rfl ?_
  refine g_dup (nx := 33) F dX2_addClerk_32 rfl rfl ?_
  refine g_getV (nx := 36) (nI c) F dX2_addClerk_33 rfl fl_RX2_54 rfl (by decide) (by decide) rfl rfl (hc) ?_
  refine g_iconst (nx := 37) (1) F dX2_addClerk_36 rfl rfl ?_
  refine g_iadd (nx := 38) F dX2_addClerk_37 rfl ?_
  rw [nI_1]
  refine g_putI (nx := 41) F dX2_addClerk_38 rfl fl_RX2_54 fi_2_3 rfl (by decide) (by decide) rfl rfl ?_
  refine g_aload_n (nx := 42) 0 F dX2_addClerk_41 rfl rfl rfl ?_
  refine g_getV (nx := 45) (nI (c + 1)) F dX2_addClerk_42 rfl fl_RX2_54 rfl (by decide) (by decide) rfl rfl (rfl) ?_
  refine g_iconst (nx := 46) (1) F dX2_addClerk_45 rfl rfl ?_
  refine g_isub (nx := 47) F dX2_addClerk_46 rfl ?_
  refine g_iret F E dX2_addClerk_47 ?_
  exact ⟨by rw [nI_pred], rfl⟩
set_option maxHeartbeats 4000000 in
set_option maxRecDepth 100000 in
theorem c_addClerkN (c : Nat) (p q : Int32) (σ : zSt) (hc : σ 3 3 = nI c) (h : c = 10) : Con mX2_addClerk 0 [.ref 3, .int p, .int q] σ (fun r τ => r = some (.int (-1)) ∧ τ = σ) := by
  refine Con.of (lv := [.ref 3, .int p, .int q]) mk_X2_addClerk rfl (Nat.le_of_ble_eq_true rfl) rfl (fun X F E => ?_)
  refine g_aload_n (nx := 1) 0 F dX2_addClerk_0 rfl rfl rfl ?_
  refine g_getV (nx := 4) (nI c) F dX2_addClerk_1 rfl fl_RX2_54 rfl (by decide) (by decide) rfl rfl (hc) ?_
  refine g_bipush (nx := 6) (10) F dX2_addClerk_4 rfl (by decide) ?_
  refine g_icmp_lt (nx := 9) 11 F dX2_addClerk_6 rfl (by decide) (fun c_6 => absurd c_6 (by exact nI_nlt (a := c) (b := 10) (by omega) (by omega))) (fun c_6 => ?_)
  refine g_iconst (nx := 10) (-1) F dX2_addClerk_9 rfl rfl ?_
  refine g_iret F E dX2_addClerk_10 ?_
  exact ⟨rfl, rfl⟩
set_option maxHeartbeats 4000000 in
set_option maxRecDepth 100000 in
theorem c_clerk (c : Nat) (p q : Int32) (σ : zSt) (hc : σ 3 3 = nI c) (h : c ≤ 10) : Con mX11_clerk 1 [.ref 0, .int p, .int q] σ (fun r τ => ((isin p 1000 ∧ isin q 100 ∧ c < 10) ∧ r = some (.int (nI c)) ∧ τ = zu (zu (zu σ 4 c p) 5 c q) 3 3 (nI (c + 1))) ∨ (¬ (isin p 1000 ∧ isin q 100 ∧ c < 10) ∧ r = some (.int (-1)) ∧ τ = σ)) := by
  refine Con.of (lv := [.ref 0, .int p, .int q]) mk_X11_clerk rfl (Nat.le_of_ble_eq_true rfl) rfl (fun X F E => ?_)
  by_cases hA : isin p 1000 ∧ isin q 100 ∧ c < 10
  · refine g_iload_n (nx := 1) 1 F dX11_clerk_0 rfl rfl rfl ?_
    refine g_sipush (nx := 4) (1000) F dX11_clerk_1 rfl (by decide) ?_
    refine g_callS (nx := 7) 2 0 [.int p, .int 1000] F dX11_clerk_4 rfl ml_RX11_79 mo_X11_isOutside rfl rfl (Nat.le_of_ble_eq_true rfl) (by first | decide | omega) (c_isOutside p 1000 _) (fun r_4 τ_4 q_4 => ?_)
    obtain ⟨rfl, et_4⟩ := q_4
    have et_4 := et_4.symm
    subst et_4
    dsimp only [Option.toList, List.append, List.cons_append, List.nil_append]
    refine g_if_ne (nx := 10) 19 F dX11_clerk_7 rfl (by decide) (fun c_7 => absurd c_7 (by exact fun q => q (bI_f (by simp only [Int32.reduceToInt]; omega)))) (fun c_7 => ?_)
    refine g_iload_n (nx := 11) 2 F dX11_clerk_10 rfl rfl rfl ?_
    refine g_bipush (nx := 13) (100) F dX11_clerk_11 rfl (by decide) ?_
    refine g_callS (nx := 16) 2 0 [.int q, .int 100] F dX11_clerk_13 rfl ml_RX11_79 mo_X11_isOutside rfl rfl (Nat.le_of_ble_eq_true rfl) (by first | decide | omega) (c_isOutside q 100 _) (fun r_13 τ_13 q_13 => ?_)
    obtain ⟨rfl, et_13⟩ := q_13
    have et_13 := et_13.symm
    subst et_13
    dsimp only [Option.toList, List.append, List.cons_append, List.nil_append]
    refine g_if_eq (nx := 19) 21 F dX11_clerk_16 rfl (by decide) (fun c_16 => ?_) (fun c_16 => absurd c_16 (by exact fun q => q (bI_f (by simp only [Int32.reduceToInt]; omega))))
    refine g_aload_n (nx := 22) 0 F dX11_clerk_21 rfl rfl rfl ?_
    refine g_getR (nx := 25) F dX11_clerk_22 rfl fl_RX11_19 rfl (by decide) (by decide) rfl ?_
    refine g_iload_n (nx := 26) 1 F dX11_clerk_25 rfl rfl rfl ?_
    refine g_iload_n (nx := 27) 2 F dX11_clerk_26 rfl rfl rfl ?_
    refine g_callV (nx := 30) 2 0 [.int p, .int q] F dX11_clerk_27 rfl ml_RX11_83 mo_X2_addClerk rfl rfl rfl rfl (Nat.le_of_ble_eq_true rfl) (by first | decide | omega) (c_addClerk c p q _ hc hA.2.2) (fun r_27 τ_27 q_27 => ?_)
    obtain ⟨rfl, et_27⟩ := q_27
    have et_27 := et_27.symm
    subst et_27
    dsimp only [Option.toList, List.append, List.cons_append, List.nil_append]
    refine g_iret F E dX11_clerk_30 ?_
    exact Or.inl ⟨hA, rfl, rfl⟩
  · refine g_iload_n (nx := 1) 1 F dX11_clerk_0 rfl rfl rfl ?_
    refine g_sipush (nx := 4) (1000) F dX11_clerk_1 rfl (by decide) ?_
    refine g_callS (nx := 7) 2 0 [.int p, .int 1000] F dX11_clerk_4 rfl ml_RX11_79 mo_X11_isOutside rfl rfl (Nat.le_of_ble_eq_true rfl) (by first | decide | omega) (c_isOutside p 1000 _) (fun r_4 τ_4 q_4 => ?_)
    obtain ⟨rfl, et_4⟩ := q_4
    have et_4 := et_4.symm
    subst et_4
    dsimp only [Option.toList, List.append, List.cons_append, List.nil_append]
    refine g_if_ne (nx := 10) 19 F dX11_clerk_7 rfl (by decide) (fun c_7 => ?_) (fun c_7 => ?_)
    · refine g_iconst (nx := 20) (-1) F dX11_clerk_19 rfl rfl ?_
      refine g_iret F E dX11_clerk_20 ?_
      exact Or.inr ⟨hA, rfl, rfl⟩
    · refine g_iload_n (nx := 11) 2 F dX11_clerk_10 rfl rfl rfl ?_
      refine g_bipush (nx := 13) (100) F dX11_clerk_11 rfl (by decide) ?_
      refine g_callS (nx := 16) 2 0 [.int q, .int 100] F dX11_clerk_13 rfl ml_RX11_79 mo_X11_isOutside rfl rfl (Nat.le_of_ble_eq_true rfl) (by first | decide | omega) (c_isOutside q 100 _) (fun r_13 τ_13 q_13 => ?_)
      obtain ⟨rfl, et_13⟩ := q_13
      have et_13 := et_13.symm
      subst et_13
      dsimp only [Option.toList, List.append, List.cons_append, List.nil_append]
      refine g_if_eq (nx := 19) 21 F dX11_clerk_16 rfl (by decide) (fun c_16 => ?_) (fun c_16 => ?_)
      · have hfull : c = 10 := by
          clear F E
          have e_c : (nI c).toInt = c := nI_toInt (by omega)
          simp only [isin, bI_0, bI_n0, ne_eq, Decidable.not_not] at *
          (try simp only [fa_eq, fa_lt, fa_le, Int32.reduceToInt, Int32.toInt_zero] at *)
          omega
        refine g_aload_n (nx := 22) 0 F dX11_clerk_21 rfl rfl rfl ?_
        refine g_getR (nx := 25) F dX11_clerk_22 rfl fl_RX11_19 rfl (by decide) (by decide) rfl ?_
        refine g_iload_n (nx := 26) 1 F dX11_clerk_25 rfl rfl rfl ?_
        refine g_iload_n (nx := 27) 2 F dX11_clerk_26 rfl rfl rfl ?_
        refine g_callV (nx := 30) 2 0 [.int p, .int q] F dX11_clerk_27 rfl ml_RX11_83 mo_X2_addClerk rfl rfl rfl rfl (Nat.le_of_ble_eq_true rfl) (by first | decide | omega) (c_addClerkN c p q _ hc hfull) (fun r_27 τ_27 q_27 => ?_)
        obtain ⟨rfl, et_27⟩ := q_27
        have et_27 := et_27.symm
        subst et_27
        dsimp only [Option.toList, List.append, List.cons_append, List.nil_append]
        refine g_iret F E dX11_clerk_30 ?_
        exact Or.inr ⟨hA, rfl, rfl⟩
      · refine g_iconst (nx := 20) (-1) F dX11_clerk_19 rfl rfl ?_
        refine g_iret F E dX11_clerk_20 ?_
        exact Or.inr ⟨hA, rfl, rfl⟩
set_option maxHeartbeats 4000000 in
set_option maxRecDepth 100000 in
theorem k_clerk (c : Nat) (p q : Int32) (σ : zSt) (hc : σ 145 1 = nI c) (h : c ≤ 10) : Con mX12_clerk 1 [.ref 145, .int p, .int q] σ (fun r τ => ((isin p 1000 ∧ isin q 100 ∧ c < 10) ∧ r = some (.int (nI c)) ∧ τ = zu (zu (zu σ 146 c p) 147 c q) 145 1 (nI (c + 1))) ∨ (¬ (isin p 1000 ∧ isin q 100 ∧ c < 10) ∧ r = some (.int (-1)) ∧ τ = σ)) := by
  refine Con.of (lv := [.ref 145, .int p, .int q]) mk_X12_clerk rfl (Nat.le_of_ble_eq_true rfl) rfl (fun X F E => ?_)
  by_cases hA : isin p 1000 ∧ isin q 100 ∧ c < 10
  · refine g_iload_n (nx := 1) 1 F dX12_clerk_0 rfl rfl rfl ?_
    refine g_iconst (nx := 2) (0) F dX12_clerk_1 rfl rfl ?_
    refine g_sipush (nx := 5) (1000) F dX12_clerk_2 rfl (by decide) ?_
    refine g_callS (nx := 8) 3 0 [.int p, .int 0, .int 1000] F dX12_clerk_5 rfl ml_RX12_174 mo_X12_in rfl rfl (Nat.le_of_ble_eq_true rfl) (by first | decide | omega) (k_in p 0 1000 _) (fun r_5 τ_5 q_5 => ?_)
    obtain ⟨rfl, et_5⟩ := q_5
    have et_5 := et_5.symm
    subst et_5
    dsimp only [Option.toList, List.append, List.cons_append, List.nil_append]
    refine g_if_eq (nx := 11) 30 F dX12_clerk_8 rfl (by decide) (fun c_8 => absurd c_8 (by exact bI_n0.mpr (by simp only [Int32.reduceToInt]; omega))) (fun c_8 => ?_)
    refine g_iload_n (nx := 12) 2 F dX12_clerk_11 rfl rfl rfl ?_
    refine g_iconst (nx := 13) (0) F dX12_clerk_12 rfl rfl ?_
    refine g_bipush (nx := 15) (100) F dX12_clerk_13 rfl (by decide) ?_
    refine g_callS (nx := 18) 3 0 [.int q, .int 0, .int 100] F dX12_clerk_15 rfl ml_RX12_174 mo_X12_in rfl rfl (Nat.le_of_ble_eq_true rfl) (by first | decide | omega) (k_in q 0 100 _) (fun r_15 τ_15 q_15 => ?_)
    obtain ⟨rfl, et_15⟩ := q_15
    have et_15 := et_15.symm
    subst et_15
    dsimp only [Option.toList, List.append, List.cons_append, List.nil_append]
    refine g_if_eq (nx := 21) 30 F dX12_clerk_18 rfl (by decide) (fun c_18 => absurd c_18 (by exact bI_n0.mpr (by simp only [Int32.reduceToInt]; omega))) (fun c_18 => ?_)
    refine g_aload_n (nx := 22) 0 F dX12_clerk_21 rfl rfl rfl ?_
    refine g_getV (nx := 25) (nI c) F dX12_clerk_22 rfl fl_RX12_165 rfl (by decide) (by decide) rfl rfl (hc) ?_
    refine g_bipush (nx := 27) (10) F dX12_clerk_25 rfl (by decide) ?_
    refine g_icmp_ne (nx := 30) 32 F dX12_clerk_27 rfl (by decide) (fun c_27 => ?_) (fun c_27 => absurd c_27 (by exact fun zq => absurd ((nI_eq (a := c) (b := 10) (by omega) (by omega)).mp zq) (by omega)))
    refine g_aload_n (nx := 33) 0 F dX12_clerk_32 rfl rfl rfl ?_
    refine g_getR (nx := 36) F dX12_clerk_33 rfl fl_RX12_7 rfl (by decide) (by decide) rfl ?_
    refine g_aload_n (nx := 37) 0 F dX12_clerk_36 rfl rfl rfl ?_
    refine g_getV (nx := 40) (nI c) F dX12_clerk_37 rfl fl_RX12_165 rfl (by decide) (by decide) rfl rfl (hc) ?_
    refine g_iload_n (nx := 41) 1 F dX12_clerk_40 rfl rfl rfl ?_
    refine g_iastN (nx := 42) (c) F dX12_clerk_41 rfl rfl (by omega) ?_
    refine g_aload_n (nx := 43) 0 F dX12_clerk_42 rfl rfl rfl ?_
    refine g_getR (nx := 46) F dX12_clerk_43 rfl fl_RX12_13 rfl (by decide) (by decide) rfl ?_
    refine g_aload_n (nx := 47) 0 F dX12_clerk_46 rfl rfl rfl ?_
    refine g_getV (nx := 50) (nI c) F dX12_clerk_47 rfl fl_RX12_165 rfl (by decide) (by decide) rfl rfl (hc) ?_
    refine g_iload_n (nx := 51) 2 F dX12_clerk_50 rfl rfl rfl ?_
    refine g_iastN (nx := 52) (c) F dX12_clerk_51 rfl rfl (by omega) ?_
    refine g_aload_n (nx := 53) 0 F dX12_clerk_52 rfl rfl rfl ?_
    refine g_aload_n (nx := 54) 0 F dX12_clerk_53 rfl rfl rfl ?_
    refine g_getV (nx := 57) (nI c) F dX12_clerk_54 rfl fl_RX12_165 rfl (by decide) (by decide) rfl rfl (hc) ?_
    refine g_iconst (nx := 58) (1) F dX12_clerk_57 rfl rfl ?_
    refine g_iadd (nx := 59) F dX12_clerk_58 rfl ?_
    rw [nI_1]
    refine g_putI (nx := 62) F dX12_clerk_59 rfl fl_RX12_165 fi_11_1 rfl (by decide) (by decide) rfl rfl ?_
    refine g_aload_n (nx := 63) 0 F dX12_clerk_62 rfl rfl rfl ?_
    refine g_getV (nx := 66) (nI (c + 1)) F dX12_clerk_63 rfl fl_RX12_165 rfl (by decide) (by decide) rfl rfl (rfl) ?_
    refine g_iconst (nx := 67) (1) F dX12_clerk_66 rfl rfl ?_
    refine g_isub (nx := 68) F dX12_clerk_67 rfl ?_
    refine g_iret F E dX12_clerk_68 ?_
    exact Or.inl ⟨hA, by rw [nI_pred], rfl⟩
  · refine g_iload_n (nx := 1) 1 F dX12_clerk_0 rfl rfl rfl ?_
    refine g_iconst (nx := 2) (0) F dX12_clerk_1 rfl rfl ?_
    refine g_sipush (nx := 5) (1000) F dX12_clerk_2 rfl (by decide) ?_
    refine g_callS (nx := 8) 3 0 [.int p, .int 0, .int 1000] F dX12_clerk_5 rfl ml_RX12_174 mo_X12_in rfl rfl (Nat.le_of_ble_eq_true rfl) (by first | decide | omega) (k_in p 0 1000 _) (fun r_5 τ_5 q_5 => ?_)
    obtain ⟨rfl, et_5⟩ := q_5
    have et_5 := et_5.symm
    subst et_5
    dsimp only [Option.toList, List.append, List.cons_append, List.nil_append]
    refine g_if_eq (nx := 11) 30 F dX12_clerk_8 rfl (by decide) (fun c_8 => ?_) (fun c_8 => ?_)
    · refine g_iconst (nx := 31) (-1) F dX12_clerk_30 rfl rfl ?_
      refine g_iret F E dX12_clerk_31 ?_
      exact Or.inr ⟨hA, rfl, rfl⟩
    · refine g_iload_n (nx := 12) 2 F dX12_clerk_11 rfl rfl rfl ?_
      refine g_iconst (nx := 13) (0) F dX12_clerk_12 rfl rfl ?_
      refine g_bipush (nx := 15) (100) F dX12_clerk_13 rfl (by decide) ?_
      refine g_callS (nx := 18) 3 0 [.int q, .int 0, .int 100] F dX12_clerk_15 rfl ml_RX12_174 mo_X12_in rfl rfl (Nat.le_of_ble_eq_true rfl) (by first | decide | omega) (k_in q 0 100 _) (fun r_15 τ_15 q_15 => ?_)
      obtain ⟨rfl, et_15⟩ := q_15
      have et_15 := et_15.symm
      subst et_15
      dsimp only [Option.toList, List.append, List.cons_append, List.nil_append]
      refine g_if_eq (nx := 21) 30 F dX12_clerk_18 rfl (by decide) (fun c_18 => ?_) (fun c_18 => ?_)
      · refine g_iconst (nx := 31) (-1) F dX12_clerk_30 rfl rfl ?_
        refine g_iret F E dX12_clerk_31 ?_
        exact Or.inr ⟨hA, rfl, rfl⟩
      · refine g_aload_n (nx := 22) 0 F dX12_clerk_21 rfl rfl rfl ?_
        refine g_getV (nx := 25) (nI c) F dX12_clerk_22 rfl fl_RX12_165 rfl (by decide) (by decide) rfl rfl (hc) ?_
        refine g_bipush (nx := 27) (10) F dX12_clerk_25 rfl (by decide) ?_
        refine g_icmp_ne (nx := 30) 32 F dX12_clerk_27 rfl (by decide) (fun c_27 => ?_) (fun c_27 => ?_)
        · exfalso
          clear F E
          have e_c : (nI c).toInt = c := nI_toInt (by omega)
          simp only [isin, bI_0, bI_n0, ne_eq, Decidable.not_not] at *
          (try simp only [fa_eq, fa_lt, fa_le, Int32.reduceToInt, Int32.toInt_zero] at *)
          omega
        · refine g_iconst (nx := 31) (-1) F dX12_clerk_30 rfl rfl ?_
          refine g_iret F E dX12_clerk_31 ?_
          exact Or.inr ⟨hA, rfl, rfl⟩
set_option maxHeartbeats 4000000 in
set_option maxRecDepth 100000 in
theorem c_isCrew (x : Int32) (σ : zSt) : Con mX2_isCrew 1 [.ref 3, .int x] σ (fun r τ => r = some (.int (bI (x ≠ 0 ∧ isset x (σ 3 3)))) ∧ τ = σ) := by
  refine Con.of (lv := [.ref 3, .int x]) mk_X2_isCrew rfl (Nat.le_of_ble_eq_true rfl) rfl (fun X F E => ?_)
  refine g_iload_n (nx := 1) 1 F dX2_isCrew_0 rfl rfl rfl ?_
  refine g_if_eq (nx := 4) 16 F dX2_isCrew_1 rfl (by decide) (fun c_1 => ?_) (fun c_1 => ?_)
  · refine g_iconst (nx := 17) (0) F dX2_isCrew_16 rfl rfl ?_
    refine g_zret F E dX2_isCrew_17 (by first | rfl | assumption) ?_
    clear F E
    refine ⟨congrArg (fun z => some (Value.int z)) (Eq.symm ?_), rfl⟩
    first | refine bI_f ?_ | refine bI_t ?_
    all_goals (try simp only [bI_0, bI_n0] at *)
    all_goals first | exact ⟨by assumption, Decidable.not_not.mp (by assumption)⟩ | exact fun q => q.1 (by assumption) | exact fun q => absurd q.2 (by assumption)
  · refine g_aload_n (nx := 5) 0 F dX2_isCrew_4 rfl rfl rfl ?_
    refine g_iload_n (nx := 6) 1 F dX2_isCrew_5 rfl rfl rfl ?_
    refine g_callV (nx := 9) 1 0 [.int x] F dX2_isCrew_6 rfl ml_RX2_63 mo_X2_isSet rfl rfl rfl rfl (Nat.le_of_ble_eq_true rfl) (by first | decide | omega) (c_isSet x _) (fun r_6 τ_6 q_6 => ?_)
    obtain ⟨rfl, et_6⟩ := q_6
    have et_6 := et_6.symm
    subst et_6
    dsimp only [Option.toList, List.append, List.cons_append, List.nil_append]
    refine g_if_eq (nx := 12) 16 F dX2_isCrew_9 rfl (by decide) (fun c_9 => ?_) (fun c_9 => ?_)
    · refine g_iconst (nx := 17) (0) F dX2_isCrew_16 rfl rfl ?_
      refine g_zret F E dX2_isCrew_17 (by first | rfl | assumption) ?_
      clear F E
      refine ⟨congrArg (fun z => some (Value.int z)) (Eq.symm ?_), rfl⟩
      first | refine bI_f ?_ | refine bI_t ?_
      all_goals (try simp only [bI_0, bI_n0] at *)
      all_goals first | exact ⟨by assumption, Decidable.not_not.mp (by assumption)⟩ | exact fun q => q.1 (by assumption) | exact fun q => absurd q.2 (by assumption)
    · refine g_iconst (nx := 13) (1) F dX2_isCrew_12 rfl rfl ?_
      refine g_goto 17 F dX2_isCrew_13 (by decide) ?_
      refine g_zret F E dX2_isCrew_17 (by first | rfl | assumption) ?_
      clear F E
      refine ⟨congrArg (fun z => some (Value.int z)) (Eq.symm ?_), rfl⟩
      first | refine bI_f ?_ | refine bI_t ?_
      all_goals (try simp only [bI_0, bI_n0] at *)
      all_goals first | exact ⟨by assumption, Decidable.not_not.mp (by assumption)⟩ | exact fun q => q.1 (by assumption) | exact fun q => absurd q.2 (by assumption)
set_option maxHeartbeats 4000000 in
set_option maxRecDepth 100000 in
theorem c_addStep (s : Nat) (x y : Int32) (σ : zSt) (hs : σ 3 6 = nI s) (h : s < 8) : Con mX2_addStep 0 [.ref 3, .int x, .int y] σ (fun r τ => r = some (.int (nI s)) ∧ τ = zu (zu (zu σ 7 s x) 8 s y) 3 6 (nI (s + 1))) := by
  refine Con.of (lv := [.ref 3, .int x, .int y]) mk_X2_addStep rfl (Nat.le_of_ble_eq_true rfl) rfl (fun X F E => ?_)
  refine g_aload_n (nx := 1) 0 F dX2_addStep_0 rfl rfl rfl ?_
  refine g_getV (nx := 4) (nI s) F dX2_addStep_1 rfl fl_RX2_57 rfl (by decide) (by decide) rfl rfl (hs) ?_
  refine g_bipush (nx := 6) (8) F dX2_addStep_4 rfl (by decide) ?_
  refine g_icmp_lt (nx := 9) 11 F dX2_addStep_6 rfl (by decide) (fun c_6 => ?_) (fun c_6 => absurd c_6 (by exact fun zq => zq (nI_lt (a := s) (b := 8) (by omega) (by omega))))
  refine g_aload_n (nx := 12) 0 F dX2_addStep_11 rfl rfl rfl ?_
  refine g_getR (nx := 15) F dX2_addStep_12 rfl fl_RX2_24 rfl (by decide) (by decide) rfl ?_
  refine g_aload_n (nx := 16) 0 F dX2_addStep_15 rfl rfl rfl ?_
  refine g_getV (nx := 19) (nI s) F dX2_addStep_16 rfl fl_RX2_57 rfl (by decide) (by decide) rfl rfl (hs) ?_
  refine g_iload_n (nx := 20) 1 F dX2_addStep_19 rfl rfl rfl ?_
  refine g_iastN (nx := 21) (s) F dX2_addStep_20 rfl rfl (by omega) ?_
  refine g_aload_n (nx := 22) 0 F dX2_addStep_21 rfl rfl rfl ?_
  refine g_getR (nx := 25) F dX2_addStep_22 rfl fl_RX2_27 rfl (by decide) (by decide) rfl ?_
  refine g_aload_n (nx := 26) 0 F dX2_addStep_25 rfl rfl rfl ?_
  refine g_getV (nx := 29) (nI s) F dX2_addStep_26 rfl fl_RX2_57 rfl (by decide) (by decide) rfl rfl (hs) ?_
  refine g_iload_n (nx := 30) 2 F dX2_addStep_29 rfl rfl rfl ?_
  refine g_iastN (nx := 31) (s) F dX2_addStep_30 rfl rfl (by omega) ?_
  refine g_aload_n (nx := 32) 0 F dX2_addStep_31 rfl rfl rfl ?_
  refine g_dup (nx := 33) F dX2_addStep_32 rfl rfl ?_
  refine g_getV (nx := 36) (nI s) F dX2_addStep_33 rfl fl_RX2_57 rfl (by decide) (by decide) rfl rfl (hs) ?_
  refine g_iconst (nx := 37) (1) F dX2_addStep_36 rfl rfl ?_
  refine g_iadd (nx := 38) F dX2_addStep_37 rfl ?_
  rw [nI_1]
  refine g_putI (nx := 41) F dX2_addStep_38 rfl fl_RX2_57 fi_2_6 rfl (by decide) (by decide) rfl rfl ?_
  refine g_aload_n (nx := 42) 0 F dX2_addStep_41 rfl rfl rfl ?_
  refine g_getV (nx := 45) (nI (s + 1)) F dX2_addStep_42 rfl fl_RX2_57 rfl (by decide) (by decide) rfl rfl (rfl) ?_
  refine g_iconst (nx := 46) (1) F dX2_addStep_45 rfl rfl ?_
  refine g_isub (nx := 47) F dX2_addStep_46 rfl ?_
  refine g_iret F E dX2_addStep_47 ?_
  exact ⟨by rw [nI_pred], rfl⟩
set_option maxHeartbeats 4000000 in
set_option maxRecDepth 100000 in
theorem c_addStepN (s : Nat) (x y : Int32) (σ : zSt) (hs : σ 3 6 = nI s) (h : s = 8) : Con mX2_addStep 0 [.ref 3, .int x, .int y] σ (fun r τ => r = some (.int (-1)) ∧ τ = σ) := by
  refine Con.of (lv := [.ref 3, .int x, .int y]) mk_X2_addStep rfl (Nat.le_of_ble_eq_true rfl) rfl (fun X F E => ?_)
  refine g_aload_n (nx := 1) 0 F dX2_addStep_0 rfl rfl rfl ?_
  refine g_getV (nx := 4) (nI s) F dX2_addStep_1 rfl fl_RX2_57 rfl (by decide) (by decide) rfl rfl (hs) ?_
  refine g_bipush (nx := 6) (8) F dX2_addStep_4 rfl (by decide) ?_
  refine g_icmp_lt (nx := 9) 11 F dX2_addStep_6 rfl (by decide) (fun c_6 => absurd c_6 (by exact nI_nlt (a := s) (b := 8) (by omega) (by omega))) (fun c_6 => ?_)
  refine g_iconst (nx := 10) (-1) F dX2_addStep_9 rfl rfl ?_
  refine g_iret F E dX2_addStep_10 ?_
  exact ⟨rfl, rfl⟩
set_option maxHeartbeats 4000000 in
set_option maxRecDepth 100000 in
theorem c_step (c s f : Nat) (x y : Int32) (σ : zSt) (hc : σ 3 3 = nI c) (hs : σ 3 6 = nI s) (hf : σ 3 11 = nI f) (h : s ≤ 8) (h2 : f ≤ 40) : Con mX11_step 2 [.ref 0, .int x, .int y] σ (fun r τ => (((x ≠ 0 ∧ isset x (nI c)) ∧ isin y 2 ∧ s < 8 ∧ f = 0) ∧ r = some (.int (nI s)) ∧ τ = zu (zu (zu σ 7 s x) 8 s y) 3 6 (nI (s + 1))) ∨ (¬ ((x ≠ 0 ∧ isset x (nI c)) ∧ isin y 2 ∧ s < 8 ∧ f = 0) ∧ r = some (.int (-1)) ∧ τ = σ)) := by
  refine Con.of (lv := [.ref 0, .int x, .int y]) mk_X11_step rfl (Nat.le_of_ble_eq_true rfl) rfl (fun X F E => ?_)
  by_cases hA : (x ≠ 0 ∧ isset x (nI c)) ∧ isin y 2 ∧ s < 8 ∧ f = 0
  · refine g_aload_n (nx := 1) 0 F dX11_step_0 rfl rfl rfl ?_
    refine g_getR (nx := 4) F dX11_step_1 rfl fl_RX11_19 rfl (by decide) (by decide) rfl ?_
    refine g_iload_n (nx := 5) 1 F dX11_step_4 rfl rfl rfl ?_
    refine g_callV (nx := 8) 1 1 [.int x] F dX11_step_5 rfl ml_RX11_87 mo_X2_isCrew rfl rfl rfl rfl (Nat.le_of_ble_eq_true rfl) (by first | decide | omega) (c_isCrew x _) (fun r_5 τ_5 q_5 => ?_)
    obtain ⟨rfl, et_5⟩ := q_5
    have et_5 := et_5.symm
    subst et_5
    dsimp only [Option.toList, List.append, List.cons_append, List.nil_append]
    refine g_if_eq (nx := 11) 29 F dX11_step_8 rfl (by decide) (fun c_8 => absurd c_8 (by exact bI_n0.mpr (by rw [hc]; exact hA.1))) (fun c_8 => ?_)
    refine g_iload_n (nx := 12) 2 F dX11_step_11 rfl rfl rfl ?_
    refine g_iconst (nx := 13) (2) F dX11_step_12 rfl rfl ?_
    refine g_callS (nx := 16) 2 0 [.int y, .int 2] F dX11_step_13 rfl ml_RX11_79 mo_X11_isOutside rfl rfl (Nat.le_of_ble_eq_true rfl) (by first | decide | omega) (c_isOutside y 2 _) (fun r_13 τ_13 q_13 => ?_)
    obtain ⟨rfl, et_13⟩ := q_13
    have et_13 := et_13.symm
    subst et_13
    dsimp only [Option.toList, List.append, List.cons_append, List.nil_append]
    refine g_if_ne (nx := 19) 29 F dX11_step_16 rfl (by decide) (fun c_16 => absurd c_16 (by exact fun q => q (bI_f (by simp only [Int32.reduceToInt]; omega)))) (fun c_16 => ?_)
    refine g_aload_n (nx := 20) 0 F dX11_step_19 rfl rfl rfl ?_
    refine g_getR (nx := 23) F dX11_step_20 rfl fl_RX11_19 rfl (by decide) (by decide) rfl ?_
    refine g_getV (nx := 26) (nI f) F dX11_step_23 rfl fl_RX11_91 rfl (by decide) (by decide) rfl rfl (hf) ?_
    refine g_if_le (nx := 29) 31 F dX11_step_26 rfl (by decide) (fun c_26 => ?_) (fun c_26 => absurd c_26 (by exact fun q => q (nI_le (a := f) (b := 0) (by omega) (by omega))))
    refine g_aload_n (nx := 32) 0 F dX11_step_31 rfl rfl rfl ?_
    refine g_getR (nx := 35) F dX11_step_32 rfl fl_RX11_19 rfl (by decide) (by decide) rfl ?_
    refine g_iload_n (nx := 36) 1 F dX11_step_35 rfl rfl rfl ?_
    refine g_iload_n (nx := 37) 2 F dX11_step_36 rfl rfl rfl ?_
    refine g_callV (nx := 40) 2 0 [.int x, .int y] F dX11_step_37 rfl ml_RX11_95 mo_X2_addStep rfl rfl rfl rfl (Nat.le_of_ble_eq_true rfl) (by first | decide | omega) (c_addStep s x y _ hs hA.2.2.1) (fun r_37 τ_37 q_37 => ?_)
    obtain ⟨rfl, et_37⟩ := q_37
    have et_37 := et_37.symm
    subst et_37
    dsimp only [Option.toList, List.append, List.cons_append, List.nil_append]
    refine g_iret F E dX11_step_40 ?_
    exact Or.inl ⟨hA, rfl, rfl⟩
  · refine g_aload_n (nx := 1) 0 F dX11_step_0 rfl rfl rfl ?_
    refine g_getR (nx := 4) F dX11_step_1 rfl fl_RX11_19 rfl (by decide) (by decide) rfl ?_
    refine g_iload_n (nx := 5) 1 F dX11_step_4 rfl rfl rfl ?_
    refine g_callV (nx := 8) 1 1 [.int x] F dX11_step_5 rfl ml_RX11_87 mo_X2_isCrew rfl rfl rfl rfl (Nat.le_of_ble_eq_true rfl) (by first | decide | omega) (c_isCrew x _) (fun r_5 τ_5 q_5 => ?_)
    obtain ⟨rfl, et_5⟩ := q_5
    have et_5 := et_5.symm
    subst et_5
    dsimp only [Option.toList, List.append, List.cons_append, List.nil_append]
    refine g_if_eq (nx := 11) 29 F dX11_step_8 rfl (by decide) (fun c_8 => ?_) (fun c_8 => ?_)
    · refine g_iconst (nx := 30) (-1) F dX11_step_29 rfl rfl ?_
      refine g_iret F E dX11_step_30 ?_
      exact Or.inr ⟨hA, rfl, rfl⟩
    · refine g_iload_n (nx := 12) 2 F dX11_step_11 rfl rfl rfl ?_
      refine g_iconst (nx := 13) (2) F dX11_step_12 rfl rfl ?_
      refine g_callS (nx := 16) 2 0 [.int y, .int 2] F dX11_step_13 rfl ml_RX11_79 mo_X11_isOutside rfl rfl (Nat.le_of_ble_eq_true rfl) (by first | decide | omega) (c_isOutside y 2 _) (fun r_13 τ_13 q_13 => ?_)
      obtain ⟨rfl, et_13⟩ := q_13
      have et_13 := et_13.symm
      subst et_13
      dsimp only [Option.toList, List.append, List.cons_append, List.nil_append]
      refine g_if_ne (nx := 19) 29 F dX11_step_16 rfl (by decide) (fun c_16 => ?_) (fun c_16 => ?_)
      · refine g_iconst (nx := 30) (-1) F dX11_step_29 rfl rfl ?_
        refine g_iret F E dX11_step_30 ?_
        exact Or.inr ⟨hA, rfl, rfl⟩
      · refine g_aload_n (nx := 20) 0 F dX11_step_19 rfl rfl rfl ?_
        refine g_getR (nx := 23) F dX11_step_20 rfl fl_RX11_19 rfl (by decide) (by decide) rfl ?_
        refine g_getV (nx := 26) (nI f) F dX11_step_23 rfl fl_RX11_91 rfl (by decide) (by decide) rfl rfl (hf) ?_
        refine g_if_le (nx := 29) 31 F dX11_step_26 rfl (by decide) (fun c_26 => ?_) (fun c_26 => ?_)
        · have hfull : s = 8 := by
            rw [hc] at c_8
            have c8 := Decidable.not_not.mp (mt bI_0.mpr c_8)
            refine Classical.byContradiction fun hz => absurd ⟨c8, ?_⟩ hA
            clear hA E F c8 c_8
            have e_s : (nI s).toInt = s := nI_toInt (by omega)
            have e_f : (nI f).toInt = f := nI_toInt (by omega)
            simp only [isin, bI_0, bI_n0, ne_eq, Decidable.not_not] at *
            (try simp only [fa_lt, fa_le, Int32.reduceToInt, Int32.toInt_zero] at *)
            omega
          refine g_aload_n (nx := 32) 0 F dX11_step_31 rfl rfl rfl ?_
          refine g_getR (nx := 35) F dX11_step_32 rfl fl_RX11_19 rfl (by decide) (by decide) rfl ?_
          refine g_iload_n (nx := 36) 1 F dX11_step_35 rfl rfl rfl ?_
          refine g_iload_n (nx := 37) 2 F dX11_step_36 rfl rfl rfl ?_
          refine g_callV (nx := 40) 2 0 [.int x, .int y] F dX11_step_37 rfl ml_RX11_95 mo_X2_addStep rfl rfl rfl rfl (Nat.le_of_ble_eq_true rfl) (by first | decide | omega) (c_addStepN s x y _ hs hfull) (fun r_37 τ_37 q_37 => ?_)
          obtain ⟨rfl, et_37⟩ := q_37
          have et_37 := et_37.symm
          subst et_37
          dsimp only [Option.toList, List.append, List.cons_append, List.nil_append]
          refine g_iret F E dX11_step_40 ?_
          exact Or.inr ⟨hA, rfl, rfl⟩
        · refine g_iconst (nx := 30) (-1) F dX11_step_29 rfl rfl ?_
          refine g_iret F E dX11_step_30 ?_
          exact Or.inr ⟨hA, rfl, rfl⟩
set_option maxHeartbeats 4000000 in
set_option maxRecDepth 100000 in
theorem k_step (c s f : Nat) (x y : Int32) (σ : zSt) (hc : σ 145 1 = nI c) (hs : σ 145 2 = nI s) (hf : σ 145 3 = nI f) (h : s ≤ 8) (h2 : f ≤ 40) : Con mX12_step 1 [.ref 145, .int x, .int y] σ (fun r τ => (((x ≠ 0 ∧ isset x (nI c)) ∧ isin y 2 ∧ s < 8 ∧ f = 0) ∧ r = some (.int (nI s)) ∧ τ = zu (zu (zu σ 150 s x) 151 s y) 145 2 (nI (s + 1))) ∨ (¬ ((x ≠ 0 ∧ isset x (nI c)) ∧ isin y 2 ∧ s < 8 ∧ f = 0) ∧ r = some (.int (-1)) ∧ τ = σ)) := by
  refine Con.of (lv := [.ref 145, .int x, .int y]) mk_X12_step rfl (Nat.le_of_ble_eq_true rfl) rfl (fun X F E => ?_)
  by_cases hA : (x ≠ 0 ∧ isset x (nI c)) ∧ isin y 2 ∧ s < 8 ∧ f = 0
  · refine g_aload_n (nx := 1) 0 F dX12_step_0 rfl rfl rfl ?_
    refine g_iload_n (nx := 2) 1 F dX12_step_1 rfl rfl rfl ?_
    refine g_callV (nx := 5) 1 0 [.int x] F dX12_step_2 rfl ml_RX12_178 mo_X12_isSet rfl rfl rfl rfl (Nat.le_of_ble_eq_true rfl) (by first | decide | omega) (k_isSet x _) (fun r_2 τ_2 q_2 => ?_)
    obtain ⟨rfl, et_2⟩ := q_2
    have et_2 := et_2.symm
    subst et_2
    dsimp only [Option.toList, List.append, List.cons_append, List.nil_append]
    refine g_if_eq (nx := 8) 37 F dX12_step_5 rfl (by decide) (fun c_5 => absurd c_5 (by exact bI_n0.mpr (by rw [hc]; exact hA.1.2))) (fun c_5 => ?_)
    refine g_iload_n (nx := 9) 1 F dX12_step_8 rfl rfl rfl ?_
    refine g_if_eq (nx := 12) 37 F dX12_step_9 rfl (by decide) (fun c_9 => absurd c_9 (by exact hA.1.1)) (fun c_9 => ?_)
    refine g_iload_n (nx := 13) 2 F dX12_step_12 rfl rfl rfl ?_
    refine g_iconst (nx := 14) (0) F dX12_step_13 rfl rfl ?_
    refine g_iconst (nx := 15) (2) F dX12_step_14 rfl rfl ?_
    refine g_callS (nx := 18) 3 0 [.int y, .int 0, .int 2] F dX12_step_15 rfl ml_RX12_174 mo_X12_in rfl rfl (Nat.le_of_ble_eq_true rfl) (by first | decide | omega) (k_in y 0 2 _) (fun r_15 τ_15 q_15 => ?_)
    obtain ⟨rfl, et_15⟩ := q_15
    have et_15 := et_15.symm
    subst et_15
    dsimp only [Option.toList, List.append, List.cons_append, List.nil_append]
    refine g_if_eq (nx := 21) 37 F dX12_step_18 rfl (by decide) (fun c_18 => absurd c_18 (by exact bI_n0.mpr (by simp only [Int32.reduceToInt]; omega))) (fun c_18 => ?_)
    refine g_aload_n (nx := 22) 0 F dX12_step_21 rfl rfl rfl ?_
    refine g_getV (nx := 25) (nI s) F dX12_step_22 rfl fl_RX12_168 rfl (by decide) (by decide) rfl rfl (hs) ?_
    refine g_bipush (nx := 27) (8) F dX12_step_25 rfl (by decide) ?_
    refine g_icmp_eq (nx := 30) 37 F dX12_step_27 rfl (by decide) (fun c_27 => absurd c_27 (by exact fun zq => absurd ((nI_eq (a := s) (b := 8) (by omega) (by omega)).mp zq) (by omega))) (fun c_27 => ?_)
    refine g_aload_n (nx := 31) 0 F dX12_step_30 rfl rfl rfl ?_
    refine g_getV (nx := 34) (nI f) F dX12_step_31 rfl fl_RX12_171 rfl (by decide) (by decide) rfl rfl (hf) ?_
    refine g_if_le (nx := 37) 39 F dX12_step_34 rfl (by decide) (fun c_34 => ?_) (fun c_34 => absurd c_34 (by exact fun q => q (nI_le (a := f) (b := 0) (by omega) (by omega))))
    refine g_aload_n (nx := 40) 0 F dX12_step_39 rfl rfl rfl ?_
    refine g_getR (nx := 43) F dX12_step_40 rfl fl_RX12_22 rfl (by decide) (by decide) rfl ?_
    refine g_aload_n (nx := 44) 0 F dX12_step_43 rfl rfl rfl ?_
    refine g_getV (nx := 47) (nI s) F dX12_step_44 rfl fl_RX12_168 rfl (by decide) (by decide) rfl rfl (hs) ?_
    refine g_iload_n (nx := 48) 1 F dX12_step_47 rfl rfl rfl ?_
    refine g_iastN (nx := 49) (s) F dX12_step_48 rfl rfl (by omega) ?_
    refine g_aload_n (nx := 50) 0 F dX12_step_49 rfl rfl rfl ?_
    refine g_getR (nx := 53) F dX12_step_50 rfl fl_RX12_25 rfl (by decide) (by decide) rfl ?_
    refine g_aload_n (nx := 54) 0 F dX12_step_53 rfl rfl rfl ?_
    refine g_getV (nx := 57) (nI s) F dX12_step_54 rfl fl_RX12_168 rfl (by decide) (by decide) rfl rfl (hs) ?_
    refine g_iload_n (nx := 58) 2 F dX12_step_57 rfl rfl rfl ?_
    refine g_iastN (nx := 59) (s) F dX12_step_58 rfl rfl (by omega) ?_
    refine g_aload_n (nx := 60) 0 F dX12_step_59 rfl rfl rfl ?_
    refine g_aload_n (nx := 61) 0 F dX12_step_60 rfl rfl rfl ?_
    refine g_getV (nx := 64) (nI s) F dX12_step_61 rfl fl_RX12_168 rfl (by decide) (by decide) rfl rfl (hs) ?_
    refine g_iconst (nx := 65) (1) F dX12_step_64 rfl rfl ?_
    refine g_iadd (nx := 66) F dX12_step_65 rfl ?_
    rw [nI_1]
    refine g_putI (nx := 69) F dX12_step_66 rfl fl_RX12_168 fi_11_2 rfl (by decide) (by decide) rfl rfl ?_
    refine g_aload_n (nx := 70) 0 F dX12_step_69 rfl rfl rfl ?_
    refine g_getV (nx := 73) (nI (s + 1)) F dX12_step_70 rfl fl_RX12_168 rfl (by decide) (by decide) rfl rfl (rfl) ?_
    refine g_iconst (nx := 74) (1) F dX12_step_73 rfl rfl ?_
    refine g_isub (nx := 75) F dX12_step_74 rfl ?_
    refine g_iret F E dX12_step_75 ?_
    exact Or.inl ⟨hA, by rw [nI_pred], rfl⟩
  · refine g_aload_n (nx := 1) 0 F dX12_step_0 rfl rfl rfl ?_
    refine g_iload_n (nx := 2) 1 F dX12_step_1 rfl rfl rfl ?_
    refine g_callV (nx := 5) 1 0 [.int x] F dX12_step_2 rfl ml_RX12_178 mo_X12_isSet rfl rfl rfl rfl (Nat.le_of_ble_eq_true rfl) (by first | decide | omega) (k_isSet x _) (fun r_2 τ_2 q_2 => ?_)
    obtain ⟨rfl, et_2⟩ := q_2
    have et_2 := et_2.symm
    subst et_2
    dsimp only [Option.toList, List.append, List.cons_append, List.nil_append]
    refine g_if_eq (nx := 8) 37 F dX12_step_5 rfl (by decide) (fun c_5 => ?_) (fun c_5 => ?_)
    · refine g_iconst (nx := 38) (-1) F dX12_step_37 rfl rfl ?_
      refine g_iret F E dX12_step_38 ?_
      exact Or.inr ⟨hA, rfl, rfl⟩
    · refine g_iload_n (nx := 9) 1 F dX12_step_8 rfl rfl rfl ?_
      refine g_if_eq (nx := 12) 37 F dX12_step_9 rfl (by decide) (fun c_9 => ?_) (fun c_9 => ?_)
      · refine g_iconst (nx := 38) (-1) F dX12_step_37 rfl rfl ?_
        refine g_iret F E dX12_step_38 ?_
        exact Or.inr ⟨hA, rfl, rfl⟩
      · refine g_iload_n (nx := 13) 2 F dX12_step_12 rfl rfl rfl ?_
        refine g_iconst (nx := 14) (0) F dX12_step_13 rfl rfl ?_
        refine g_iconst (nx := 15) (2) F dX12_step_14 rfl rfl ?_
        refine g_callS (nx := 18) 3 0 [.int y, .int 0, .int 2] F dX12_step_15 rfl ml_RX12_174 mo_X12_in rfl rfl (Nat.le_of_ble_eq_true rfl) (by first | decide | omega) (k_in y 0 2 _) (fun r_15 τ_15 q_15 => ?_)
        obtain ⟨rfl, et_15⟩ := q_15
        have et_15 := et_15.symm
        subst et_15
        dsimp only [Option.toList, List.append, List.cons_append, List.nil_append]
        refine g_if_eq (nx := 21) 37 F dX12_step_18 rfl (by decide) (fun c_18 => ?_) (fun c_18 => ?_)
        · refine g_iconst (nx := 38) (-1) F dX12_step_37 rfl rfl ?_
          refine g_iret F E dX12_step_38 ?_
          exact Or.inr ⟨hA, rfl, rfl⟩
        · refine g_aload_n (nx := 22) 0 F dX12_step_21 rfl rfl rfl ?_
          refine g_getV (nx := 25) (nI s) F dX12_step_22 rfl fl_RX12_168 rfl (by decide) (by decide) rfl rfl (hs) ?_
          refine g_bipush (nx := 27) (8) F dX12_step_25 rfl (by decide) ?_
          refine g_icmp_eq (nx := 30) 37 F dX12_step_27 rfl (by decide) (fun c_27 => ?_) (fun c_27 => ?_)
          · refine g_iconst (nx := 38) (-1) F dX12_step_37 rfl rfl ?_
            refine g_iret F E dX12_step_38 ?_
            exact Or.inr ⟨hA, rfl, rfl⟩
          · refine g_aload_n (nx := 31) 0 F dX12_step_30 rfl rfl rfl ?_
            refine g_getV (nx := 34) (nI f) F dX12_step_31 rfl fl_RX12_171 rfl (by decide) (by decide) rfl rfl (hf) ?_
            refine g_if_le (nx := 37) 39 F dX12_step_34 rfl (by decide) (fun c_34 => ?_) (fun c_34 => ?_)
            · rw [hc] at c_5
              have c8 := Decidable.not_not.mp (mt bI_0.mpr c_5)
              refine absurd ⟨⟨c_9, c8⟩, ?_⟩ hA
              clear hA E F c8 c_5 c_9
              have e_s : (nI s).toInt = s := nI_toInt (by omega)
              have e_f : (nI f).toInt = f := nI_toInt (by omega)
              simp only [isin, bI_0, bI_n0, ne_eq, Decidable.not_not] at *
              (try simp only [fa_eq, fa_lt, fa_le, Int32.reduceToInt, Int32.toInt_zero] at *)
              omega
            · refine g_iconst (nx := 38) (-1) F dX12_step_37 rfl rfl ?_
              refine g_iret F E dX12_step_38 ?_
              exact Or.inr ⟨hA, rfl, rfl⟩
set_option maxHeartbeats 4000000 in
set_option maxRecDepth 100000 in
theorem c_seed (x : Int32) (σ : zSt) : Con mX11_seed 1 [.ref 0, .int x] σ (fun r τ => ((isin x 65535) ∧ r = some (.int 1) ∧ τ = zu (zu σ 3 13 x) 17 13 x) ∨ (¬ (isin x 65535) ∧ r = some (.int 0) ∧ τ = σ)) := by
  refine Con.of (lv := [.ref 0, .int x]) mk_X11_seed rfl (Nat.le_of_ble_eq_true rfl) rfl (fun X F E => ?_)
  by_cases hA : isin x 65535
  · refine g_iload_n (nx := 1) 1 F dX11_seed_0 rfl rfl rfl ?_
    refine g_ldc (nx := 3) (65535) F dX11_seed_1 rfl co_RX11_98 ?_
    refine g_callS (nx := 6) 2 0 [.int x, .int 65535] F dX11_seed_3 rfl ml_RX11_79 mo_X11_isOutside rfl rfl (Nat.le_of_ble_eq_true rfl) (by first | decide | omega) (c_isOutside x 65535 _) (fun r_3 τ_3 q_3 => ?_)
    obtain ⟨rfl, et_3⟩ := q_3
    have et_3 := et_3.symm
    subst et_3
    dsimp only [Option.toList, List.append, List.cons_append, List.nil_append]
    refine g_if_eq (nx := 9) 11 F dX11_seed_6 rfl (by decide) (fun c_6 => ?_) (fun c_6 => absurd c_6 (by exact fun q => q (bI_f (by simp only [Int32.reduceToInt]; omega))))
    refine g_aload_n (nx := 12) 0 F dX11_seed_11 rfl rfl rfl ?_
    refine g_getR (nx := 15) F dX11_seed_12 rfl fl_RX11_19 rfl (by decide) (by decide) rfl ?_
    refine g_iload_n (nx := 16) 1 F dX11_seed_15 rfl rfl rfl ?_
    refine g_putI (nx := 19) F dX11_seed_16 rfl fl_RX11_99 fi_2_13 rfl (by decide) (by decide) rfl rfl ?_
    refine g_aload_n (nx := 20) 0 F dX11_seed_19 rfl rfl rfl ?_
    refine g_getR (nx := 23) F dX11_seed_20 rfl fl_RX11_44 rfl (by decide) (by decide) rfl ?_
    refine g_iload_n (nx := 24) 1 F dX11_seed_23 rfl rfl rfl ?_
    refine g_putI (nx := 27) F dX11_seed_24 rfl fl_RX11_102 fi_5_13 rfl (by decide) (by decide) rfl rfl ?_
    refine g_iconst (nx := 28) (1) F dX11_seed_27 rfl rfl ?_
    refine g_zret F E dX11_seed_28 (by first | rfl | assumption) ?_
    exact Or.inl ⟨hA, rfl, rfl⟩
  · refine g_iload_n (nx := 1) 1 F dX11_seed_0 rfl rfl rfl ?_
    refine g_ldc (nx := 3) (65535) F dX11_seed_1 rfl co_RX11_98 ?_
    refine g_callS (nx := 6) 2 0 [.int x, .int 65535] F dX11_seed_3 rfl ml_RX11_79 mo_X11_isOutside rfl rfl (Nat.le_of_ble_eq_true rfl) (by first | decide | omega) (c_isOutside x 65535 _) (fun r_3 τ_3 q_3 => ?_)
    obtain ⟨rfl, et_3⟩ := q_3
    have et_3 := et_3.symm
    subst et_3
    dsimp only [Option.toList, List.append, List.cons_append, List.nil_append]
    refine g_if_eq (nx := 9) 11 F dX11_seed_6 rfl (by decide) (fun c_6 => ?_) (fun c_6 => ?_)
    · exfalso
      clear F E
      simp only [isin, bI_0, bI_n0, ne_eq, Decidable.not_not] at *
      (try simp only [fa_eq, fa_lt, fa_le, Int32.reduceToInt, Int32.toInt_zero] at *)
      omega
    · refine g_iconst (nx := 10) (0) F dX11_seed_9 rfl rfl ?_
      refine g_zret F E dX11_seed_10 (by first | rfl | assumption) ?_
      exact Or.inr ⟨hA, rfl, rfl⟩
set_option maxHeartbeats 4000000 in
set_option maxRecDepth 100000 in
theorem k_seed (x : Int32) (σ : zSt) : Con mX12_seed 1 [.ref 145, .int x] σ (fun r τ => ((isin x 65535) ∧ r = some (.int 1) ∧ τ = zu (zu σ 145 4 x) 145 5 x) ∨ (¬ (isin x 65535) ∧ r = some (.int 0) ∧ τ = σ)) := by
  refine Con.of (lv := [.ref 145, .int x]) mk_X12_seed rfl (Nat.le_of_ble_eq_true rfl) rfl (fun X F E => ?_)
  by_cases hA : isin x 65535
  · refine g_iload_n (nx := 1) 1 F dX12_seed_0 rfl rfl rfl ?_
    refine g_iconst (nx := 2) (0) F dX12_seed_1 rfl rfl ?_
    refine g_ldc (nx := 4) (65535) F dX12_seed_2 rfl co_RX12_182 ?_
    refine g_callS (nx := 7) 3 0 [.int x, .int 0, .int 65535] F dX12_seed_4 rfl ml_RX12_174 mo_X12_in rfl rfl (Nat.le_of_ble_eq_true rfl) (by first | decide | omega) (k_in x 0 65535 _) (fun r_4 τ_4 q_4 => ?_)
    obtain ⟨rfl, et_4⟩ := q_4
    have et_4 := et_4.symm
    subst et_4
    dsimp only [Option.toList, List.append, List.cons_append, List.nil_append]
    refine g_if_ne (nx := 10) 12 F dX12_seed_7 rfl (by decide) (fun c_7 => ?_) (fun c_7 => absurd c_7 (by exact bI_n0.mpr (by simp only [Int32.reduceToInt]; omega)))
    refine g_aload_n (nx := 13) 0 F dX12_seed_12 rfl rfl rfl ?_
    refine g_iload_n (nx := 14) 1 F dX12_seed_13 rfl rfl rfl ?_
    refine g_putI (nx := 17) F dX12_seed_14 rfl fl_RX12_158 fi_11_4 rfl (by decide) (by decide) rfl rfl ?_
    refine g_aload_n (nx := 18) 0 F dX12_seed_17 rfl rfl rfl ?_
    refine g_iload_n (nx := 19) 1 F dX12_seed_18 rfl rfl rfl ?_
    refine g_putI (nx := 22) F dX12_seed_19 rfl fl_RX12_162 fi_11_5 rfl (by decide) (by decide) rfl rfl ?_
    refine g_iconst (nx := 23) (1) F dX12_seed_22 rfl rfl ?_
    refine g_zret F E dX12_seed_23 (by first | rfl | assumption) ?_
    exact Or.inl ⟨hA, rfl, rfl⟩
  · refine g_iload_n (nx := 1) 1 F dX12_seed_0 rfl rfl rfl ?_
    refine g_iconst (nx := 2) (0) F dX12_seed_1 rfl rfl ?_
    refine g_ldc (nx := 4) (65535) F dX12_seed_2 rfl co_RX12_182 ?_
    refine g_callS (nx := 7) 3 0 [.int x, .int 0, .int 65535] F dX12_seed_4 rfl ml_RX12_174 mo_X12_in rfl rfl (Nat.le_of_ble_eq_true rfl) (by first | decide | omega) (k_in x 0 65535 _) (fun r_4 τ_4 q_4 => ?_)
    obtain ⟨rfl, et_4⟩ := q_4
    have et_4 := et_4.symm
    subst et_4
    dsimp only [Option.toList, List.append, List.cons_append, List.nil_append]
    refine g_if_ne (nx := 10) 12 F dX12_seed_7 rfl (by decide) (fun c_7 => ?_) (fun c_7 => ?_)
    · exfalso
      clear F E
      simp only [isin, bI_0, bI_n0, ne_eq, Decidable.not_not] at *
      (try simp only [fa_eq, fa_lt, fa_le, Int32.reduceToInt, Int32.toInt_zero] at *)
      omega
    · refine g_iconst (nx := 11) (0) F dX12_seed_10 rfl rfl ?_
      refine g_zret F E dX12_seed_11 (by first | rfl | assumption) ?_
      exact Or.inr ⟨hA, rfl, rfl⟩
