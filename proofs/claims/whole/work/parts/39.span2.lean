theorem shl_c : ∀ c, c ≤ 10 → ((1 : Int32) <<< (nI c &&& 31)).toInt = (2 ^ c : Nat) := by
  have h : ∀ c, c < 11 → ((1 : Int32) <<< (nI c &&& 31)).toInt = (2 ^ c : Nat) := by decide +kernel
  exact fun c hc => h c (by omega)
set_option maxHeartbeats 4000000 in
set_option maxRecDepth 100000 in
theorem c_go (c n : Nat) (S : Nat → Nat) (L M : Nat → Int32) (tv : Prop) [Decidable tv] (x p a b : Int32) (σ : zSt) (hc : σ 3 3 = nI c) (hn : σ 55 3 = nI n) (h : n ≤ 8) (hx : (x ≠ 0 ∧ isset x (nI c)) ∧ isin p 30000 ∧ (0 ≤ a.toInt ∧ a.toInt ≤ b.toInt ∧ b.toInt ≤ p.toInt) ∧ n < 8 → x = nI (S n) ∧ L n = p - b ∧ M n = p - a) (hG : (x ≠ 0 ∧ isset x (nI c)) ∧ isin p 30000 ∧ (0 ≤ a.toInt ∧ a.toInt ≤ b.toInt ∧ b.toInt ≤ p.toInt) ∧ n < 8 → okG c (n + 1) S L M) (hold : ∀ g, g < n → σ 56 g = nI (S g) ∧ σ 57 g = L g ∧ σ 58 g = M g) (ht : σ 55 6 = bI tv) (hI : GrI c n S L M (σ 59) (σ 60) tv) : Con mX11_go 3 [.ref 0, .int x, .int p, .int a, .int b] σ (fun r τ => (((x ≠ 0 ∧ isset x (nI c)) ∧ isin p 30000 ∧ (0 ≤ a.toInt ∧ a.toInt ≤ b.toInt ∧ b.toInt ≤ p.toInt) ∧ n < 8) ∧ r = some (.int (nI n)) ∧ ∃ (lo hi : Nat → Int32) (tv2 : Prop) (_ : Decidable tv2), τ = (zu (zs (zs (zu (zu (zu (zu σ 56 n (nI (S n))) 57 n (L n)) 58 n (M n)) 55 3 (nI (n + 1))) 59 lo) 60 hi) 55 6 (bI tv2)) ∧ GrI c (n + 1) S L M lo hi tv2 ∧ ∀ q, c ≤ q → lo q = σ 59 q ∧ hi q = σ 60 q) ∨ (¬ ((x ≠ 0 ∧ isset x (nI c)) ∧ isin p 30000 ∧ (0 ≤ a.toInt ∧ a.toInt ≤ b.toInt ∧ b.toInt ≤ p.toInt) ∧ n < 8) ∧ r = some (.int (-1)) ∧ τ = σ)) := by
  refine Con.of (lv := [.ref 0, .int x, .int p, .int a, .int b]) mk_X11_go rfl (Nat.le_of_ble_eq_true rfl) rfl (fun X F E => ?_)
  by_cases hA : (x ≠ 0 ∧ isset x (nI c)) ∧ isin p 30000 ∧ (0 ≤ a.toInt ∧ a.toInt ≤ b.toInt ∧ b.toInt ≤ p.toInt) ∧ n < 8
  · obtain ⟨x1, x2, x3⟩ := hx hA
    subst x1
    refine g_aload_n (nx := 1) 0 F dX11_go_0 rfl rfl rfl ?_
    refine g_getR (nx := 4) F dX11_go_1 rfl fl_RX11_19 rfl (by decide) (by decide) rfl ?_
    refine g_iload_n (nx := 5) 1 F dX11_go_4 rfl rfl rfl ?_
    refine g_callV (nx := 8) 1 1 [.int (nI (S n))] F dX11_go_5 rfl ml_RX11_87 mo_X2_isCrew rfl rfl rfl rfl (Nat.le_of_ble_eq_true rfl) (by first | decide | omega) (c_isCrew _ _) (fun r_5 τ_5 q_5 => ?_)
    obtain ⟨rfl, et_5⟩ := q_5
    have et_5 := et_5.symm
    subst et_5
    dsimp only [Option.toList, List.append, List.cons_append, List.nil_append]
    refine g_if_eq (nx := 11) 37 F dX11_go_8 rfl (by decide) (fun c_8 => absurd c_8 (by exact bI_n0.mpr (by rw [hc]; exact hA.1))) (fun c_8 => ?_)
    refine g_iload_n (nx := 12) 2 F dX11_go_11 rfl rfl rfl ?_
    refine g_sipush (nx := 15) (30000) F dX11_go_12 rfl (by decide) ?_
    refine g_callS (nx := 18) 2 0 [.int p, .int 30000] F dX11_go_15 rfl ml_RX11_79 mo_X11_isOutside rfl rfl (Nat.le_of_ble_eq_true rfl) (by first | decide | omega) (c_isOutside p 30000 _) (fun r_15 τ_15 q_15 => ?_)
    obtain ⟨rfl, et_15⟩ := q_15
    have et_15 := et_15.symm
    subst et_15
    dsimp only [Option.toList, List.append, List.cons_append, List.nil_append]
    refine g_if_ne (nx := 21) 37 F dX11_go_18 rfl (by decide) (fun c_18 => absurd c_18 (by exact fun q => q (bI_f (by simp only [Int32.reduceToInt]; omega)))) (fun c_18 => ?_)
    refine g_iload_n (nx := 22) 3 F dX11_go_21 rfl rfl rfl ?_
    refine g_if_lt (nx := 25) 37 F dX11_go_22 rfl (by decide) (fun c_22 => absurd c_22 (by simp only [fa_lt, Int32.toInt_zero]; omega)) (fun c_22 => ?_)
    refine g_iload_n (nx := 26) 3 F dX11_go_25 rfl rfl rfl ?_
    refine g_iload (nx := 28) F dX11_go_26 rfl rfl ?_
    refine g_icmp_gt (nx := 31) 37 F dX11_go_28 rfl (by decide) (fun c_28 => absurd c_28 (by simp only [fa_lt]; omega)) (fun c_28 => ?_)
    refine g_iload (nx := 33) F dX11_go_31 rfl rfl ?_
    refine g_iload_n (nx := 34) 2 F dX11_go_33 rfl rfl rfl ?_
    refine g_icmp_le (nx := 37) 39 F dX11_go_34 rfl (by decide) (fun c_34 => ?_) (fun c_34 => absurd c_34 (by simp only [fa_le, Decidable.not_not]; omega))
    refine g_aload_n (nx := 40) 0 F dX11_go_39 rfl rfl rfl ?_
    refine g_getR (nx := 43) F dX11_go_40 rfl fl_RX11_75 rfl (by decide) (by decide) rfl ?_
    refine g_iload_n (nx := 44) 1 F dX11_go_43 rfl rfl rfl ?_
    refine g_iload_n (nx := 45) 2 F dX11_go_44 rfl rfl rfl ?_
    refine g_iload (nx := 47) F dX11_go_45 rfl rfl ?_
    refine g_isub (nx := 48) F dX11_go_47 rfl ?_
    refine g_iload_n (nx := 49) 2 F dX11_go_48 rfl rfl rfl ?_
    refine g_iload_n (nx := 50) 3 F dX11_go_49 rfl rfl rfl ?_
    refine g_isub (nx := 51) F dX11_go_50 rfl ?_
    rw [← x2, ← x3]
    refine g_callV (nx := 54) 3 2 [.int (nI (S n)), .int (L n), .int (M n)] F dX11_go_51 rfl ml_RX11_287 mo_X0_addBetween rfl rfl rfl rfl (Nat.le_of_ble_eq_true rfl) (by first | decide | omega) (c_addBetween c n S L M tv _ hn hA.2.2.2 (hG hA) hold ht hI) (fun r_51 τ_51 q_51 => ?_)
    obtain ⟨rfl, hq_51⟩ := q_51
    dsimp only [Option.toList, List.append, List.cons_append, List.nil_append]
    refine g_iret F E dX11_go_54 ?_
    exact Or.inl ⟨hA, rfl, hq_51⟩
  · refine g_aload_n (nx := 1) 0 F dX11_go_0 rfl rfl rfl ?_
    refine g_getR (nx := 4) F dX11_go_1 rfl fl_RX11_19 rfl (by decide) (by decide) rfl ?_
    refine g_iload_n (nx := 5) 1 F dX11_go_4 rfl rfl rfl ?_
    refine g_callV (nx := 8) 1 1 [.int x] F dX11_go_5 rfl ml_RX11_87 mo_X2_isCrew rfl rfl rfl rfl (Nat.le_of_ble_eq_true rfl) (by first | decide | omega) (c_isCrew x _) (fun r_5 τ_5 q_5 => ?_)
    obtain ⟨rfl, et_5⟩ := q_5
    have et_5 := et_5.symm
    subst et_5
    dsimp only [Option.toList, List.append, List.cons_append, List.nil_append]
    refine g_if_eq (nx := 11) 37 F dX11_go_8 rfl (by decide) (fun c_8 => ?_) (fun c_8 => ?_)
    · refine g_iconst (nx := 38) (-1) F dX11_go_37 rfl rfl ?_
      refine g_iret F E dX11_go_38 ?_
      exact Or.inr ⟨hA, rfl, rfl⟩
    · refine g_iload_n (nx := 12) 2 F dX11_go_11 rfl rfl rfl ?_
      refine g_sipush (nx := 15) (30000) F dX11_go_12 rfl (by decide) ?_
      refine g_callS (nx := 18) 2 0 [.int p, .int 30000] F dX11_go_15 rfl ml_RX11_79 mo_X11_isOutside rfl rfl (Nat.le_of_ble_eq_true rfl) (by first | decide | omega) (c_isOutside p 30000 _) (fun r_15 τ_15 q_15 => ?_)
      obtain ⟨rfl, et_15⟩ := q_15
      have et_15 := et_15.symm
      subst et_15
      dsimp only [Option.toList, List.append, List.cons_append, List.nil_append]
      refine g_if_ne (nx := 21) 37 F dX11_go_18 rfl (by decide) (fun c_18 => ?_) (fun c_18 => ?_)
      · refine g_iconst (nx := 38) (-1) F dX11_go_37 rfl rfl ?_
        refine g_iret F E dX11_go_38 ?_
        exact Or.inr ⟨hA, rfl, rfl⟩
      · refine g_iload_n (nx := 22) 3 F dX11_go_21 rfl rfl rfl ?_
        refine g_if_lt (nx := 25) 37 F dX11_go_22 rfl (by decide) (fun c_22 => ?_) (fun c_22 => ?_)
        · refine g_iconst (nx := 38) (-1) F dX11_go_37 rfl rfl ?_
          refine g_iret F E dX11_go_38 ?_
          exact Or.inr ⟨hA, rfl, rfl⟩
        · refine g_iload_n (nx := 26) 3 F dX11_go_25 rfl rfl rfl ?_
          refine g_iload (nx := 28) F dX11_go_26 rfl rfl ?_
          refine g_icmp_gt (nx := 31) 37 F dX11_go_28 rfl (by decide) (fun c_28 => ?_) (fun c_28 => ?_)
          · refine g_iconst (nx := 38) (-1) F dX11_go_37 rfl rfl ?_
            refine g_iret F E dX11_go_38 ?_
            exact Or.inr ⟨hA, rfl, rfl⟩
          · refine g_iload (nx := 33) F dX11_go_31 rfl rfl ?_
            refine g_iload_n (nx := 34) 2 F dX11_go_33 rfl rfl rfl ?_
            refine g_icmp_le (nx := 37) 39 F dX11_go_34 rfl (by decide) (fun c_34 => ?_) (fun c_34 => ?_)
            · have hfull : n = 8 := by
                rw [hc] at c_8
                have c8 := Decidable.not_not.mp (mt bI_0.mpr c_8)
                refine Classical.byContradiction fun hz => absurd ⟨c8, ?_⟩ hA
                clear hA E F c8 c_8 hx hI hold hG
                have e_n : (nI n).toInt = n := nI_toInt (by omega)
                simp only [isin, bI_0, bI_n0, ne_eq, Decidable.not_not] at *
                (try simp only [fa_lt, fa_le, Int32.reduceToInt, Int32.toInt_zero] at *)
                omega
              refine g_aload_n (nx := 40) 0 F dX11_go_39 rfl rfl rfl ?_
              refine g_getR (nx := 43) F dX11_go_40 rfl fl_RX11_75 rfl (by decide) (by decide) rfl ?_
              refine g_iload_n (nx := 44) 1 F dX11_go_43 rfl rfl rfl ?_
              refine g_iload_n (nx := 45) 2 F dX11_go_44 rfl rfl rfl ?_
              refine g_iload (nx := 47) F dX11_go_45 rfl rfl ?_
              refine g_isub (nx := 48) F dX11_go_47 rfl ?_
              refine g_iload_n (nx := 49) 2 F dX11_go_48 rfl rfl rfl ?_
              refine g_iload_n (nx := 50) 3 F dX11_go_49 rfl rfl rfl ?_
              refine g_isub (nx := 51) F dX11_go_50 rfl ?_
              refine g_callV (nx := 54) 3 2 [.int x, .int (p - b), .int (p - a)] F dX11_go_51 rfl ml_RX11_287 mo_X0_addBetween rfl rfl rfl rfl (Nat.le_of_ble_eq_true rfl) (by first | decide | omega) (c_addBetweenN n _ _ _ _ hn hfull) (fun r_51 τ_51 q_51 => ?_)
              obtain ⟨rfl, et_51⟩ := q_51
              have et_51 := et_51.symm
              subst et_51
              dsimp only [Option.toList, List.append, List.cons_append, List.nil_append]
              refine g_iret F E dX11_go_54 ?_
              exact Or.inr ⟨hA, rfl, rfl⟩
            · refine g_iconst (nx := 38) (-1) F dX11_go_37 rfl rfl ?_
              refine g_iret F E dX11_go_38 ?_
              exact Or.inr ⟨hA, rfl, rfl⟩
set_option maxHeartbeats 4000000 in
set_option maxRecDepth 100000 in
theorem c_span (c : Nat) (tv : Prop) [Decidable tv] (i w : Int32) (σ : zSt) (hc : σ 3 3 = nI c) (h : c ≤ 10) (ht : σ 55 6 = bI tv) : Con mX11_span 1 [.ref 0, .int i, .int w] σ (fun r τ => τ = σ ∧ r = some (.int (if (0 ≤ i.toInt ∧ i.toInt < c) ∧ isin w 1 then (if tv then -2 else if w = 0 then σ 59 i.toInt.toNat else σ 60 i.toInt.toNat) else -1))) := by
  refine Con.of (lv := [.ref 0, .int i, .int w]) mk_X11_span rfl (Nat.le_of_ble_eq_true rfl) rfl (fun X F E => ?_)
  have ec : (nI c).toInt = c := nI_toInt (by omega)
  by_cases hA : (0 ≤ i.toInt ∧ i.toInt < c) ∧ isin w 1
  · obtain ⟨I, hI, eI⟩ := nI_rng (n := 9) (x := i) (by omega) (by omega)
    subst eI
    have eI : (nI I).toInt = I := nI_toInt (by omega)
    refine g_aload_n (nx := 1) 0 F dX11_span_0 rfl rfl rfl ?_
    refine g_getR (nx := 4) F dX11_span_1 rfl fl_RX11_19 rfl (by decide) (by decide) rfl ?_
    refine g_iload_n (nx := 5) 1 F dX11_span_4 rfl rfl rfl ?_
    refine g_callV (nx := 8) 1 0 [.int (nI I)] F dX11_span_5 rfl ml_RX11_125 mo_X2_isClerk rfl rfl rfl rfl (Nat.le_of_ble_eq_true rfl) (by first | decide | omega) (c_isClerk _ _) (fun r_5 τ_5 q_5 => ?_)
    obtain ⟨rfl, et_5⟩ := q_5
    have et_5 := et_5.symm
    subst et_5
    dsimp only [Option.toList, List.append, List.cons_append, List.nil_append]
    refine g_if_eq (nx := 11) 19 F dX11_span_8 rfl (by decide) (fun c_8 => absurd c_8 (by exact bI_n0.mpr (by rw [hc]; omega))) (fun c_8 => ?_)
    refine g_iload_n (nx := 12) 2 F dX11_span_11 rfl rfl rfl ?_
    refine g_iconst (nx := 13) (1) F dX11_span_12 rfl rfl ?_
    refine g_callS (nx := 16) 2 0 [.int w, .int 1] F dX11_span_13 rfl ml_RX11_79 mo_X11_isOutside rfl rfl (Nat.le_of_ble_eq_true rfl) (by first | decide | omega) (c_isOutside w 1 _) (fun r_13 τ_13 q_13 => ?_)
    obtain ⟨rfl, et_13⟩ := q_13
    have et_13 := et_13.symm
    subst et_13
    dsimp only [Option.toList, List.append, List.cons_append, List.nil_append]
    refine g_if_eq (nx := 19) 21 F dX11_span_16 rfl (by decide) (fun c_16 => ?_) (fun c_16 => absurd c_16 (by exact fun q => q (bI_f (by simp only [Int32.reduceToInt]; omega))))
    refine g_aload_n (nx := 22) 0 F dX11_span_21 rfl rfl rfl ?_
    refine g_getR (nx := 25) F dX11_span_22 rfl fl_RX11_75 rfl (by decide) (by decide) rfl ?_
    refine g_getV (nx := 28) (bI tv) F dX11_span_25 rfl fl_RX11_291 rfl (by decide) (by decide) rfl rfl (ht) ?_
    refine g_if_eq (nx := 31) 34 F dX11_span_28 rfl (by decide) (fun c_28 => ?_) (fun c_28 => ?_)
    · refine g_iload_n (nx := 35) 2 F dX11_span_34 rfl rfl rfl ?_
      refine g_if_ne (nx := 38) 50 F dX11_span_35 rfl (by decide) (fun c_35 => ?_) (fun c_35 => ?_)
      · refine g_aload_n (nx := 51) 0 F dX11_span_50 rfl rfl rfl ?_
        refine g_getR (nx := 54) F dX11_span_51 rfl fl_RX11_75 rfl (by decide) (by decide) rfl ?_
        refine g_getR (nx := 57) F dX11_span_54 rfl fl_RX11_297 rfl (by decide) (by decide) rfl ?_
        refine g_iload_n (nx := 58) 1 F dX11_span_57 rfl rfl rfl ?_
        refine g_ialdN (nx := 59) (I) (_) F dX11_span_58 rfl rfl (by omega) (rfl) ?_
        refine g_iret F E dX11_span_59 ?_
        exact ⟨rfl, by rw [if_pos hA, if_neg (bI_0.mp c_28), nI_tn (by omega)]; first | rw [if_pos (by assumption)] | rw [if_neg (by assumption)]⟩
      · refine g_aload_n (nx := 39) 0 F dX11_span_38 rfl rfl rfl ?_
        refine g_getR (nx := 42) F dX11_span_39 rfl fl_RX11_75 rfl (by decide) (by decide) rfl ?_
        refine g_getR (nx := 45) F dX11_span_42 rfl fl_RX11_294 rfl (by decide) (by decide) rfl ?_
        refine g_iload_n (nx := 46) 1 F dX11_span_45 rfl rfl rfl ?_
        refine g_ialdN (nx := 47) (I) (_) F dX11_span_46 rfl rfl (by omega) (rfl) ?_
        refine g_goto 59 F dX11_span_47 (by decide) ?_
        refine g_iret F E dX11_span_59 ?_
        exact ⟨rfl, by rw [if_pos hA, if_neg (bI_0.mp c_28), nI_tn (by omega)]; first | rw [if_pos (by assumption)] | rw [if_neg (by assumption)]⟩
    · refine g_bipush (nx := 33) (-2) F dX11_span_31 rfl (by decide) ?_
      refine g_iret F E dX11_span_33 ?_
      exact ⟨rfl, by rw [if_pos hA, if_pos (Decidable.not_not.mp (mt bI_0.mpr c_28))]⟩
  · refine g_aload_n (nx := 1) 0 F dX11_span_0 rfl rfl rfl ?_
    refine g_getR (nx := 4) F dX11_span_1 rfl fl_RX11_19 rfl (by decide) (by decide) rfl ?_
    refine g_iload_n (nx := 5) 1 F dX11_span_4 rfl rfl rfl ?_
    refine g_callV (nx := 8) 1 0 [.int i] F dX11_span_5 rfl ml_RX11_125 mo_X2_isClerk rfl rfl rfl rfl (Nat.le_of_ble_eq_true rfl) (by first | decide | omega) (c_isClerk _ _) (fun r_5 τ_5 q_5 => ?_)
    obtain ⟨rfl, et_5⟩ := q_5
    have et_5 := et_5.symm
    subst et_5
    dsimp only [Option.toList, List.append, List.cons_append, List.nil_append]
    refine g_if_eq (nx := 11) 19 F dX11_span_8 rfl (by decide) (fun c_8 => ?_) (fun c_8 => ?_)
    · refine g_iconst (nx := 20) (-1) F dX11_span_19 rfl rfl ?_
      refine g_iret F E dX11_span_20 ?_
      exact ⟨rfl, by rw [if_neg hA]⟩
    · refine g_iload_n (nx := 12) 2 F dX11_span_11 rfl rfl rfl ?_
      refine g_iconst (nx := 13) (1) F dX11_span_12 rfl rfl ?_
      refine g_callS (nx := 16) 2 0 [.int w, .int 1] F dX11_span_13 rfl ml_RX11_79 mo_X11_isOutside rfl rfl (Nat.le_of_ble_eq_true rfl) (by first | decide | omega) (c_isOutside w 1 _) (fun r_13 τ_13 q_13 => ?_)
      obtain ⟨rfl, et_13⟩ := q_13
      have et_13 := et_13.symm
      subst et_13
      dsimp only [Option.toList, List.append, List.cons_append, List.nil_append]
      refine g_if_eq (nx := 19) 21 F dX11_span_16 rfl (by decide) (fun c_16 => ?_) (fun c_16 => ?_)
      · exfalso
        clear F E
        rw [hc] at c_8
        simp only [isin, bI_0, bI_n0, ne_eq, Decidable.not_not] at *
        (try simp only [fa_lt, fa_le, Int32.reduceToInt, Int32.toInt_zero] at *)
        omega
      · refine g_iconst (nx := 20) (-1) F dX11_span_19 rfl rfl ?_
        refine g_iret F E dX11_span_20 ?_
        exact ⟨rfl, by rw [if_neg hA]⟩
theorem st_sw2 (σ : zSt) (f g f2 g2 : Nat → Int32) : zs (zs (zs (zs σ 185 f) 186 g) 185 f2) 186 g2 = zs (zs σ 185 f2) 186 g2 := by
  funext c
  unfold zs
  by_cases h2 : c = 185
  · subst h2; simp
  · by_cases h3 : c = 186
    · subst h3; simp
    · simp [h2, h3]
set_option maxHeartbeats 4000000 in
set_option maxRecDepth 100000 in
theorem k_span (c n : Nat) (S : Nat → Nat) (L M P A B : Nat → Int32) (i w : Int32) (σ : zSt) (hc : σ 145 1 = nI c) (hc10 : c ≤ 10) (hn : σ 145 53 = nI n) (h8 : n ≤ 8) (hG : okG c n S L M) (hold : ∀ g, g < n → σ 180 g = nI (S g) ∧ P g - B g = L g ∧ P g - A g = M g ∧ σ 181 g = P g ∧ σ 182 g = A g ∧ σ 183 g = B g) : Con mX12_span 1 [.ref 145, .int i, .int w] σ (fun r τ => (∃ lo hi, τ = zs (zs σ 185 lo) 186 hi) ∧ ((¬ ((0 ≤ i.toInt ∧ i.toInt < c) ∧ isin w 1) ∧ r = some (.int (-1))) ∨ (((0 ≤ i.toInt ∧ i.toInt < c) ∧ isin w 1) ∧ (((¬ ∃ a b, Sol c n S L M a b) ∧ r = some (.int (-2))) ∨ ∃ lo hi, Gr c n S L M lo hi ∧ r = some (.int (if w = 0 then lo i.toInt.toNat else hi i.toInt.toNat)))))) := by
  refine Con.of (lv := [.ref 145, .int i, .int w, .long 0, .long 0]) mk_X12_span rfl (Nat.le_of_ble_eq_true rfl) rfl (fun X F E => ?_)
  have ec : (nI c).toInt = c := nI_toInt (by omega)
  by_cases hA : (0 ≤ i.toInt ∧ i.toInt < c) ∧ isin w 1
  · obtain ⟨I, hI, eI⟩ := nI_rng (n := 9) (x := i) (by omega) (by omega)
    subst eI
    have eI : (nI I).toInt = I := nI_toInt (by omega)
    have hSm : ∀ g, g < n → σ 180 g = nI (S g) ∧ P g - B g = L g ∧ P g - A g = M g ∧ σ 181 g = P g ∧ σ 182 g = A g ∧ σ 183 g = B g := hold
    have EXI : ∀ (lo hi : Nat → Int32) (z1 z2 : Value), ((¬ ∃ a b, Sol c n S L M a b) ∧ (∃ q, q < c ∧ hi q < lo q)) ∨ Gr c n S L M lo hi → Gs X 106 [.ref 145, .int (nI I), .int w, z1, z2] [] (zs (zs σ 185 lo) 186 hi) := by
      intro lo hi z1 z2 hd
      refine g_aload_n (nx := 107) 0 F dX12_span_106 rfl rfl rfl ?_
      refine g_callV (nx := 110) 0 0 [] F dX12_span_107 rfl ml_RX12_398 mo_X12_isTurnedOver rfl rfl rfl rfl (Nat.le_of_ble_eq_true rfl) (by first | decide | omega) (k_isTurnedOver c _ hc10 hc) (fun r_107 τ_107 q_107 => ?_)
      obtain ⟨rfl, et_107⟩ := q_107
      have et_107 := et_107.symm
      subst et_107
      dsimp only [Option.toList, List.append, List.cons_append, List.nil_append]
      refine g_if_eq (nx := 113) 118 F dX12_span_110 rfl (by decide) (fun c_110 => ?_) (fun c_110 => ?_)
      · refine g_iload_n (nx := 119) 2 F dX12_span_118 rfl rfl rfl ?_
        refine g_if_ne (nx := 122) 131 F dX12_span_119 rfl (by decide) (fun c_119 => ?_) (fun c_119 => ?_)
        · refine g_aload_n (nx := 132) 0 F dX12_span_131 rfl rfl rfl ?_
          refine g_getR (nx := 135) F dX12_span_132 rfl fl_RX12_131 rfl (by decide) (by decide) rfl ?_
          refine g_iload_n (nx := 136) 1 F dX12_span_135 rfl rfl rfl ?_
          refine g_ialdN (nx := 137) (I) (hi I) F dX12_span_136 rfl rfl (by omega) (rfl) ?_
          refine g_iret F E dX12_span_137 ?_
          refine ⟨⟨lo, hi, rfl⟩, ?_⟩
          first
            | (have ht := Decidable.not_not.mp (mt bI_0.mpr c_110)
               have ht : ∃ q, q < c ∧ hi q < lo q := ht
               rcases hd with hd | hd
               · exact Or.inr ⟨hA, Or.inl ⟨hd.1, rfl⟩⟩
               · exfalso
                 obtain ⟨q, q1, q2⟩ := ht
                 have := hd.1 q q1
                 rw [fa_lt] at q2
                 omega)
            | (have ht : ¬ ∃ q, q < c ∧ hi q < lo q := bI_0.mp c_110
               rcases hd with hd | hd
               · exact absurd hd.2 ht
               · exact Or.inr ⟨hA, Or.inr ⟨lo, hi, hd, by rw [nI_tn (by omega)]; first | rw [if_pos (by assumption)] | rw [if_neg (by assumption)]⟩⟩)
        · refine g_aload_n (nx := 123) 0 F dX12_span_122 rfl rfl rfl ?_
          refine g_getR (nx := 126) F dX12_span_123 rfl fl_RX12_128 rfl (by decide) (by decide) rfl ?_
          refine g_iload_n (nx := 127) 1 F dX12_span_126 rfl rfl rfl ?_
          refine g_ialdN (nx := 128) (I) (lo I) F dX12_span_127 rfl rfl (by omega) (rfl) ?_
          refine g_goto 137 F dX12_span_128 (by decide) ?_
          refine g_iret F E dX12_span_137 ?_
          refine ⟨⟨lo, hi, rfl⟩, ?_⟩
          first
            | (have ht := Decidable.not_not.mp (mt bI_0.mpr c_110)
               have ht : ∃ q, q < c ∧ hi q < lo q := ht
               rcases hd with hd | hd
               · exact Or.inr ⟨hA, Or.inl ⟨hd.1, rfl⟩⟩
               · exfalso
                 obtain ⟨q, q1, q2⟩ := ht
                 have := hd.1 q q1
                 rw [fa_lt] at q2
                 omega)
            | (have ht : ¬ ∃ q, q < c ∧ hi q < lo q := bI_0.mp c_110
               rcases hd with hd | hd
               · exact absurd hd.2 ht
               · exact Or.inr ⟨hA, Or.inr ⟨lo, hi, hd, by rw [nI_tn (by omega)]; first | rw [if_pos (by assumption)] | rw [if_neg (by assumption)]⟩⟩)
      · refine g_bipush (nx := 115) (-2) F dX12_span_113 rfl (by decide) ?_
        refine g_goto 137 F dX12_span_115 (by decide) ?_
        refine g_iret F E dX12_span_137 ?_
        refine ⟨⟨lo, hi, rfl⟩, ?_⟩
        first
          | (have ht := Decidable.not_not.mp (mt bI_0.mpr c_110)
             have ht : ∃ q, q < c ∧ hi q < lo q := ht
             rcases hd with hd | hd
             · exact Or.inr ⟨hA, Or.inl ⟨hd.1, rfl⟩⟩
             · exfalso
               obtain ⟨q, q1, q2⟩ := ht
               have := hd.1 q q1
               rw [fa_lt] at q2
               omega)
          | (have ht : ¬ ∃ q, q < c ∧ hi q < lo q := bI_0.mp c_110
             rcases hd with hd | hd
             · exact absurd hd.2 ht
             · exact Or.inr ⟨hA, Or.inr ⟨lo, hi, hd, by rw [nI_tn (by omega)]; first | rw [if_pos (by assumption)] | rw [if_neg (by assumption)]⟩⟩)
    have LS : ∀ (lo hi : Nat → Int32) (K : ∀ z : Value, Gs X 53 [.ref 145, .int (nI I), .int w, .int (bI ((swL S L M lo hi n).2.2.1 = true)), z] [] (zs (zs σ 185 (swL S L M lo hi n).1) 186 (swL S L M lo hi n).2.1)) (q g : Nat), g + q = n → Gs X 69 [.ref 145, .int (nI I), .int w, .int (bI ((swL S L M lo hi g).2.2.1 = true)), .int (nI g)] [] (zs (zs σ 185 (swL S L M lo hi g).1) 186 (swL S L M lo hi g).2.1) := by
      intro lo hi K q
      induction q with
      | zero =>
        intro g hg
        have hg : g = n := hg
        subst hg
        refine g_iload (nx := 71) F dX12_span_69 rfl rfl ?_
        refine g_aload_n (nx := 72) 0 F dX12_span_71 rfl rfl rfl ?_
        refine g_getV (nx := 75) (nI g) F dX12_span_72 rfl fl_RX12_395 rfl (by decide) (by decide) rfl rfl (hn) ?_
        refine g_icmp_ge (nx := 78) 103 F dX12_span_75 rfl (by decide) (fun c_75 => ?_) (fun c_75 => absurd c_75 (by exact fun zq => zq (nI_le (Nat.le_refl g) (by omega))))
        refine g_goto 53 F dX12_span_103 (by decide) ?_
        exact K _
      | succ q ih =>
        intro g hg
        have hh := ih (g + 1) (by omega)
        have hq := hG.2 g (by omega)
        have hm := hSm g (by omega)
        have e3 : (swL S L M lo hi (g + 1)).2.2.1 = ((swL S L M lo hi g).2.2.1 || (nwL (S g) (L g) (M g) (swL S L M lo hi g).1 (swL S L M lo hi g).2.1 10).2.2.1) := rfl
        refine g_iload (nx := 71) F dX12_span_69 rfl rfl ?_
        refine g_aload_n (nx := 72) 0 F dX12_span_71 rfl rfl rfl ?_
        refine g_getV (nx := 75) (nI n) F dX12_span_72 rfl fl_RX12_395 rfl (by decide) (by decide) rfl rfl (hn) ?_
        refine g_icmp_ge (nx := 78) 103 F dX12_span_75 rfl (by decide) (fun c_75 => absurd c_75 (by exact nI_ge (by omega) (by omega))) (fun c_75 => ?_)
        refine g_aload_n (nx := 79) 0 F dX12_span_78 rfl rfl rfl ?_
        refine g_iload (nx := 81) F dX12_span_79 rfl rfl ?_
        refine g_callV (nx := 84) 1 0 [.int (nI g)] F dX12_span_81 rfl ml_RX12_401 mo_X12_narrows rfl rfl rfl rfl (Nat.le_of_ble_eq_true rfl) (by first | decide | omega) (k_narrows g c (S g) (P g) (A g) (B g) (L g) (M g) _ (by omega) hc10 hq.1 hc hm.1 hm.2.2.2.1 hm.2.2.2.2.1 hm.2.2.2.2.2 hm.2.1 hm.2.2.1) (fun r_81 τ_81 q_81 => ?_)
        obtain ⟨rfl, et_81⟩ := q_81
        have et_81 := et_81.symm
        subst et_81
        dsimp only [Option.toList, List.append, List.cons_append, List.nil_append]
        refine g_if_ne (nx := 87) 91 F dX12_span_84 rfl (by decide) (fun c_84 => ?_) (fun c_84 => ?_)
        · refine g_iconst (nx := 92) (1) F dX12_span_91 rfl rfl ?_
          refine g_goto 96 F dX12_span_92 (by decide) ?_
          first
            | (refine g_top (bI ((swL S L M lo hi (g + 1)).2.2.1 = true)) (bI_t (by rw [e3]; have := Decidable.not_not.mp (mt bI_0.mpr c_84); simp [show (nwL (S g) (L g) (M g) (swL S L M lo hi g).1 (swL S L M lo hi g).2.1 10).2.2.1 = true from this])).symm ?_)
            | (refine g_top (bI ((swL S L M lo hi (g + 1)).2.2.1 = true)) (bI_t (by rw [e3]; have := Decidable.not_not.mp (mt bI_0.mpr c_88); simp [this])).symm ?_)
            | (refine g_top (bI ((swL S L M lo hi (g + 1)).2.2.1 = true)) (bI_f (by rw [e3]; have z1 := bI_0.mp c_84; have z2 := bI_0.mp c_88; have z1 : ¬ (nwL (S g) (L g) (M g) (swL S L M lo hi g).1 (swL S L M lo hi g).2.1 10).2.2.1 = true := z1; simp [z1, z2])).symm ?_)
          refine g_istore_n (nx := 97) 3 F dX12_span_96 rfl rfl (by decide) ?_
          try dsimp only [List.set]
          refine g_iinc (nx := 100) (1) F dX12_span_97 rfl rfl (by decide) (by decide) ?_
          try dsimp only [List.set]
          refine g_goto 69 F dX12_span_100 (by decide) ?_
          rw [nI_1]
          refine g_st _ ?_ hh
          exact st_sw2 _ _ _ _ _
        · refine g_iload_n (nx := 88) 3 F dX12_span_87 rfl rfl rfl ?_
          refine g_if_eq (nx := 91) 95 F dX12_span_88 rfl (by decide) (fun c_88 => ?_) (fun c_88 => ?_)
          · refine g_iconst (nx := 96) (0) F dX12_span_95 rfl rfl ?_
            first
              | (refine g_top (bI ((swL S L M lo hi (g + 1)).2.2.1 = true)) (bI_t (by rw [e3]; have := Decidable.not_not.mp (mt bI_0.mpr c_84); simp [show (nwL (S g) (L g) (M g) (swL S L M lo hi g).1 (swL S L M lo hi g).2.1 10).2.2.1 = true from this])).symm ?_)
              | (refine g_top (bI ((swL S L M lo hi (g + 1)).2.2.1 = true)) (bI_t (by rw [e3]; have := Decidable.not_not.mp (mt bI_0.mpr c_88); simp [this])).symm ?_)
              | (refine g_top (bI ((swL S L M lo hi (g + 1)).2.2.1 = true)) (bI_f (by rw [e3]; have z1 := bI_0.mp c_84; have z2 := bI_0.mp c_88; have z1 : ¬ (nwL (S g) (L g) (M g) (swL S L M lo hi g).1 (swL S L M lo hi g).2.1 10).2.2.1 = true := z1; simp [z1, z2])).symm ?_)
            refine g_istore_n (nx := 97) 3 F dX12_span_96 rfl rfl (by decide) ?_
            try dsimp only [List.set]
            refine g_iinc (nx := 100) (1) F dX12_span_97 rfl rfl (by decide) (by decide) ?_
            try dsimp only [List.set]
            refine g_goto 69 F dX12_span_100 (by decide) ?_
            rw [nI_1]
            refine g_st _ ?_ hh
            exact st_sw2 _ _ _ _ _
          · refine g_iconst (nx := 92) (1) F dX12_span_91 rfl rfl ?_
            refine g_goto 96 F dX12_span_92 (by decide) ?_
            first
              | (refine g_top (bI ((swL S L M lo hi (g + 1)).2.2.1 = true)) (bI_t (by rw [e3]; have := Decidable.not_not.mp (mt bI_0.mpr c_84); simp [show (nwL (S g) (L g) (M g) (swL S L M lo hi g).1 (swL S L M lo hi g).2.1 10).2.2.1 = true from this])).symm ?_)
              | (refine g_top (bI ((swL S L M lo hi (g + 1)).2.2.1 = true)) (bI_t (by rw [e3]; have := Decidable.not_not.mp (mt bI_0.mpr c_88); simp [this])).symm ?_)
              | (refine g_top (bI ((swL S L M lo hi (g + 1)).2.2.1 = true)) (bI_f (by rw [e3]; have z1 := bI_0.mp c_84; have z2 := bI_0.mp c_88; have z1 : ¬ (nwL (S g) (L g) (M g) (swL S L M lo hi g).1 (swL S L M lo hi g).2.1 10).2.2.1 = true := z1; simp [z1, z2])).symm ?_)
            refine g_istore_n (nx := 97) 3 F dX12_span_96 rfl rfl (by decide) ?_
            try dsimp only [List.set]
            refine g_iinc (nx := 100) (1) F dX12_span_97 rfl rfl (by decide) (by decide) ?_
            try dsimp only [List.set]
            refine g_goto 69 F dX12_span_100 (by decide) ?_
            rw [nI_1]
            refine g_st _ ?_ hh
            exact st_sw2 _ _ _ _ _
    have LO : ∀ (f : Nat) (lo hi : Nat → Int32) (ch : Prop) [Decidable ch] (z : Value), ((¬ ∃ a b, Sol c n S L M a b) ∧ (∃ q, q < c ∧ hi q < lo q)) ∨ (rgB c lo hi ∧ (ch → (wid c lo hi).toNat + 1 ≤ f) ∧ (∀ a b, Sol c n S L M a b → cont c lo hi a b) ∧ (¬ ch → Gr c n S L M lo hi)) → Gs X 53 [.ref 145, .int (nI I), .int w, .int (bI ch), z] [] (zs (zs σ 185 lo) 186 hi) := by
      intro f
      induction f with
      | zero =>
        intro lo hi ch _ z hd
        by_cases hch : ch
        · rcases hd with hd | ⟨_, hd, _⟩
          · refine g_iload_n (nx := 54) 3 F dX12_span_53 rfl rfl rfl ?_
            refine g_if_eq (nx := 57) 106 F dX12_span_54 rfl (by decide) (fun c_54 => absurd c_54 (by exact bI_n0.mpr hch)) (fun c_54 => ?_)
            refine g_aload_n (nx := 58) 0 F dX12_span_57 rfl rfl rfl ?_
            refine g_callV (nx := 61) 0 0 [] F dX12_span_58 rfl ml_RX12_398 mo_X12_isTurnedOver rfl rfl rfl rfl (Nat.le_of_ble_eq_true rfl) (by first | decide | omega) (k_isTurnedOver c _ hc10 hc) (fun r_58 τ_58 q_58 => ?_)
            obtain ⟨rfl, et_58⟩ := q_58
            have et_58 := et_58.symm
            subst et_58
            dsimp only [Option.toList, List.append, List.cons_append, List.nil_append]
            refine g_if_ne (nx := 64) 106 F dX12_span_61 rfl (by decide) (fun c_61 => ?_) (fun c_61 => absurd c_61 (by exact fun zq => absurd zq (bI_n0.mpr hd.2)))
            exact EXI lo hi _ _ (Or.inl hd)
          · have := hd hch; omega
        · refine g_iload_n (nx := 54) 3 F dX12_span_53 rfl rfl rfl ?_
          refine g_if_eq (nx := 57) 106 F dX12_span_54 rfl (by decide) (fun c_54 => ?_) (fun c_54 => absurd c_54 (by exact fun zq => zq (bI_f hch)))
          exact EXI lo hi _ _ (hd.imp id (fun z => z.2.2.2 hch))
      | succ f ih =>
        intro lo hi ch _ z hd
        by_cases hch : ch
        · rcases hd with hd | ⟨hr, hf, hC, hg⟩
          · refine g_iload_n (nx := 54) 3 F dX12_span_53 rfl rfl rfl ?_
            refine g_if_eq (nx := 57) 106 F dX12_span_54 rfl (by decide) (fun c_54 => absurd c_54 (by exact bI_n0.mpr hch)) (fun c_54 => ?_)
            refine g_aload_n (nx := 58) 0 F dX12_span_57 rfl rfl rfl ?_
            refine g_callV (nx := 61) 0 0 [] F dX12_span_58 rfl ml_RX12_398 mo_X12_isTurnedOver rfl rfl rfl rfl (Nat.le_of_ble_eq_true rfl) (by first | decide | omega) (k_isTurnedOver c _ hc10 hc) (fun r_58 τ_58 q_58 => ?_)
            obtain ⟨rfl, et_58⟩ := q_58
            have et_58 := et_58.symm
            subst et_58
            dsimp only [Option.toList, List.append, List.cons_append, List.nil_append]
            refine g_if_ne (nx := 64) 106 F dX12_span_61 rfl (by decide) (fun c_61 => ?_) (fun c_61 => absurd c_61 (by exact fun zq => absurd zq (bI_n0.mpr hd.2)))
            exact EXI lo hi _ _ (Or.inl hd)
          · have hf := hf hch
            have hnt : ¬ ∃ q, q < c ∧ hi q < lo q := by
              rintro ⟨q, q1, q2⟩
              have := hr q q1
              rw [fa_lt] at q2
              omega
            obtain ⟨k1, k2⟩ := sweep_ok hG hr hC
            have hwn := wid_nn hr
            have KK : ∀ z : Value, Gs X 53 [.ref 145, .int (nI I), .int w, .int (bI ((swL S L M lo hi n).2.2.1 = true)), z] [] (zs (zs σ 185 (swL S L M lo hi n).1) 186 (swL S L M lo hi n).2.1) := by
              intro z
              by_cases ht : (swL S L M lo hi n).2.2.2 = true
              · exact ih _ _ ((swL S L M lo hi n).2.2.1 = true) z (Or.inl ⟨k1 ht, (sw_T hG (fun i hic => (hr i hic).2.1) n (Nat.le_refl n)).mp ht⟩)
              · have ht : (swL S L M lo hi n).2.2.2 = false := by simpa using ht
                obtain ⟨r1, r2, r3, r4⟩ := k2 ht
                have hw2 := wid_nn r1
                exact ih _ _ ((swL S L M lo hi n).2.2.1 = true) z (Or.inr ⟨r1, fun hc2 => by have := r4 hc2; omega, r2, fun z => r3 (by simpa using z)⟩)
            refine g_iload_n (nx := 54) 3 F dX12_span_53 rfl rfl rfl ?_
            refine g_if_eq (nx := 57) 106 F dX12_span_54 rfl (by decide) (fun c_54 => absurd c_54 (by exact bI_n0.mpr hch)) (fun c_54 => ?_)
            refine g_aload_n (nx := 58) 0 F dX12_span_57 rfl rfl rfl ?_
            refine g_callV (nx := 61) 0 0 [] F dX12_span_58 rfl ml_RX12_398 mo_X12_isTurnedOver rfl rfl rfl rfl (Nat.le_of_ble_eq_true rfl) (by first | decide | omega) (k_isTurnedOver c _ hc10 hc) (fun r_58 τ_58 q_58 => ?_)
            obtain ⟨rfl, et_58⟩ := q_58
            have et_58 := et_58.symm
            subst et_58
            dsimp only [Option.toList, List.append, List.cons_append, List.nil_append]
            refine g_if_ne (nx := 64) 106 F dX12_span_61 rfl (by decide) (fun c_61 => absurd c_61 (by exact fun zq => zq (bI_f hnt))) (fun c_61 => ?_)
            refine g_iconst (nx := 65) (0) F dX12_span_64 rfl rfl ?_
            refine g_istore_n (nx := 66) 3 F dX12_span_65 rfl rfl (by decide) ?_
            try dsimp only [List.set]
            refine g_iconst (nx := 67) (0) F dX12_span_66 rfl rfl ?_
            refine g_istore (nx := 69) F dX12_span_67 rfl (by decide) ?_
            try dsimp only [List.set]
            have hh := LS lo hi KK n 0 (by omega)
            rw [bI_f (show ¬ ((swL S L M lo hi 0).2.2.1 = true) from by simp [swL])] at hh
            exact hh
        · refine g_iload_n (nx := 54) 3 F dX12_span_53 rfl rfl rfl ?_
          refine g_if_eq (nx := 57) 106 F dX12_span_54 rfl (by decide) (fun c_54 => ?_) (fun c_54 => absurd c_54 (by exact fun zq => zq (bI_f hch)))
          exact EXI lo hi _ _ (hd.imp id (fun z => z.2.2.2 hch))
    have LZ : ∀ (q j : Nat) (z2 : Value), j + q = c → Gs X 21 [.ref 145, .int (nI I), .int w, .int (nI j), z2] [] (zs (zs σ 185 (fun k => if k < j then 0 else σ 185 k)) 186 (fun k => if k < j then 10000 else σ 186 k)) := by
      intro q
      induction q with
      | zero =>
        intro j z2 hj
        have hj : j = c := hj
        subst hj
        refine g_iload_n (nx := 22) 3 F dX12_span_21 rfl rfl rfl ?_
        refine g_aload_n (nx := 23) 0 F dX12_span_22 rfl rfl rfl ?_
        refine g_getV (nx := 26) (nI j) F dX12_span_23 rfl fl_RX12_165 rfl (by decide) (by decide) rfl rfl (hc) ?_
        refine g_icmp_ge (nx := 29) 51 F dX12_span_26 rfl (by decide) (fun c_26 => ?_) (fun c_26 => absurd c_26 (by exact fun zq => zq (nI_le (Nat.le_refl j) (by omega))))
        refine g_iconst (nx := 52) (1) F dX12_span_51 rfl rfl ?_
        refine g_istore_n (nx := 53) 3 F dX12_span_52 rfl rfl (by decide) ?_
        try dsimp only [List.set]
        have hrf : rgB j (fun k => if k < j then 0 else σ 185 k) (fun k => if k < j then 10000 else σ 186 k) := fun i hic => by
          simp only [if_pos hic, Int32.reduceToInt, Int32.toInt_zero]
          omega
        have hh := LO ((wid j (fun k => if k < j then 0 else σ 185 k) (fun k => if k < j then 10000 else σ 186 k)).toNat + 1) (fun k => if k < j then 0 else σ 185 k) (fun k => if k < j then 10000 else σ 186 k) True z2 (Or.inr ⟨hrf, fun _ => Nat.le_refl _, fun a b hab i hic => by
          have := hab.1 i hic
          simp only [if_pos hic, Int32.reduceToInt, Int32.toInt_zero]
          omega, fun z => absurd trivial z⟩)
        rw [bI_t trivial] at hh
        exact hh
      | succ q ih =>
        intro j z2 hj
        refine g_iload_n (nx := 22) 3 F dX12_span_21 rfl rfl rfl ?_
        refine g_aload_n (nx := 23) 0 F dX12_span_22 rfl rfl rfl ?_
        refine g_getV (nx := 26) (nI c) F dX12_span_23 rfl fl_RX12_165 rfl (by decide) (by decide) rfl rfl (hc) ?_
        refine g_icmp_ge (nx := 29) 51 F dX12_span_26 rfl (by decide) (fun c_26 => absurd c_26 (by exact nI_ge (by omega) (by omega))) (fun c_26 => ?_)
        refine g_aload_n (nx := 30) 0 F dX12_span_29 rfl rfl rfl ?_
        refine g_getR (nx := 33) F dX12_span_30 rfl fl_RX12_128 rfl (by decide) (by decide) rfl ?_
        refine g_iload_n (nx := 34) 3 F dX12_span_33 rfl rfl rfl ?_
        refine g_iconst (nx := 35) (0) F dX12_span_34 rfl rfl ?_
        refine g_iastN (nx := 36) (j) F dX12_span_35 rfl rfl (by omega) ?_
        refine g_aload_n (nx := 37) 0 F dX12_span_36 rfl rfl rfl ?_
        refine g_getR (nx := 40) F dX12_span_37 rfl fl_RX12_131 rfl (by decide) (by decide) rfl ?_
        refine g_iload_n (nx := 41) 3 F dX12_span_40 rfl rfl rfl ?_
        refine g_sipush (nx := 44) (10000) F dX12_span_41 rfl (by decide) ?_
        refine g_iastN (nx := 45) (j) F dX12_span_44 rfl rfl (by omega) ?_
        refine g_iinc (nx := 48) (1) F dX12_span_45 rfl rfl (by decide) (by decide) ?_
        try dsimp only [List.set]
        refine g_goto 21 F dX12_span_48 (by decide) ?_
        rw [nI_1, zs_zu2 _ (show (185 : Nat) ≠ 186 by decide), zs_zu, zs_zu]
        refine g_st (zs (zs σ 185 (fun k => if k < (j + 1) then 0 else σ 185 k)) 186 (fun k => if k < (j + 1) then 10000 else σ 186 k)) ?_ (ih (j + 1) _ (by omega))
        have e1 : ∀ (f : Nat → Int32) (v : Int32), upd (fun k => if k < j then v else f k) j v = fun k => if k < j + 1 then v else f k := by
          intro f v
          funext k
          unfold upd
          by_cases e : k = j
          · rw [if_pos e, if_pos (by omega)]
          · rw [if_neg e]
            by_cases e2 : k < j
            · simp only [if_pos e2, if_pos (show k < j + 1 by omega)]
            · simp only [if_neg e2, if_neg (show ¬ k < j + 1 by omega)]
        rw [e1, e1]
    refine g_aload_n (nx := 1) 0 F dX12_span_0 rfl rfl rfl ?_
    refine g_iload_n (nx := 2) 1 F dX12_span_1 rfl rfl rfl ?_
    refine g_callV (nx := 5) 1 0 [.int (nI I)] F dX12_span_2 rfl ml_RX12_291 mo_X12_isClerk rfl rfl rfl rfl (Nat.le_of_ble_eq_true rfl) (by first | decide | omega) (k_isClerk _ _) (fun r_2 τ_2 q_2 => ?_)
    obtain ⟨rfl, et_2⟩ := q_2
    have et_2 := et_2.symm
    subst et_2
    dsimp only [Option.toList, List.append, List.cons_append, List.nil_append]
    refine g_if_eq (nx := 8) 17 F dX12_span_5 rfl (by decide) (fun c_5 => absurd c_5 (by exact bI_n0.mpr (by rw [hc]; omega))) (fun c_5 => ?_)
    refine g_iload_n (nx := 9) 2 F dX12_span_8 rfl rfl rfl ?_
    refine g_iconst (nx := 10) (0) F dX12_span_9 rfl rfl ?_
    refine g_iconst (nx := 11) (1) F dX12_span_10 rfl rfl ?_
    refine g_callS (nx := 14) 3 0 [.int w, .int 0, .int 1] F dX12_span_11 rfl ml_RX12_174 mo_X12_in rfl rfl (Nat.le_of_ble_eq_true rfl) (by first | decide | omega) (k_in w 0 1 _) (fun r_11 τ_11 q_11 => ?_)
    obtain ⟨rfl, et_11⟩ := q_11
    have et_11 := et_11.symm
    subst et_11
    dsimp only [Option.toList, List.append, List.cons_append, List.nil_append]
    refine g_if_ne (nx := 17) 19 F dX12_span_14 rfl (by decide) (fun c_14 => ?_) (fun c_14 => absurd c_14 (by exact bI_n0.mpr (by simp only [Int32.reduceToInt]; omega)))
    refine g_iconst (nx := 20) (0) F dX12_span_19 rfl rfl ?_
    refine g_istore_n (nx := 21) 3 F dX12_span_20 rfl rfl (by decide) ?_
    try dsimp only [List.set]
    refine g_st (zs (zs σ 185 (fun k => if k < 0 then 0 else σ 185 k)) 186 (fun k => if k < 0 then 10000 else σ 186 k)) ?_ (LZ c 0 _ (by omega))
    rw [zs_id _ 185 _ (by funext k; rw [if_neg (Nat.not_lt_zero k)]), zs_id _ 186 _ (by funext k; rw [if_neg (Nat.not_lt_zero k)])]
  · refine g_aload_n (nx := 1) 0 F dX12_span_0 rfl rfl rfl ?_
    refine g_iload_n (nx := 2) 1 F dX12_span_1 rfl rfl rfl ?_
    refine g_callV (nx := 5) 1 0 [.int i] F dX12_span_2 rfl ml_RX12_291 mo_X12_isClerk rfl rfl rfl rfl (Nat.le_of_ble_eq_true rfl) (by first | decide | omega) (k_isClerk _ _) (fun r_2 τ_2 q_2 => ?_)
    obtain ⟨rfl, et_2⟩ := q_2
    have et_2 := et_2.symm
    subst et_2
    dsimp only [Option.toList, List.append, List.cons_append, List.nil_append]
    refine g_if_eq (nx := 8) 17 F dX12_span_5 rfl (by decide) (fun c_5 => ?_) (fun c_5 => ?_)
    · refine g_iconst (nx := 18) (-1) F dX12_span_17 rfl rfl ?_
      refine g_iret F E dX12_span_18 ?_
      exact ⟨⟨_, _, (by rw [zs_id σ 185 _ rfl, zs_id σ 186 _ rfl] : σ = zs (zs σ 185 (σ 185)) 186 (σ 186))⟩, Or.inl ⟨hA, rfl⟩⟩
    · refine g_iload_n (nx := 9) 2 F dX12_span_8 rfl rfl rfl ?_
      refine g_iconst (nx := 10) (0) F dX12_span_9 rfl rfl ?_
      refine g_iconst (nx := 11) (1) F dX12_span_10 rfl rfl ?_
      refine g_callS (nx := 14) 3 0 [.int w, .int 0, .int 1] F dX12_span_11 rfl ml_RX12_174 mo_X12_in rfl rfl (Nat.le_of_ble_eq_true rfl) (by first | decide | omega) (k_in w 0 1 _) (fun r_11 τ_11 q_11 => ?_)
      obtain ⟨rfl, et_11⟩ := q_11
      have et_11 := et_11.symm
      subst et_11
      dsimp only [Option.toList, List.append, List.cons_append, List.nil_append]
      refine g_if_ne (nx := 17) 19 F dX12_span_14 rfl (by decide) (fun c_14 => ?_) (fun c_14 => ?_)
      · exfalso
        clear F E
        rw [hc] at c_5
        simp only [isin, bI_0, bI_n0, ne_eq, Decidable.not_not] at *
        (try simp only [fa_lt, fa_le, Int32.reduceToInt, Int32.toInt_zero] at *)
        omega
      · refine g_iconst (nx := 18) (-1) F dX12_span_17 rfl rfl ?_
        refine g_iret F E dX12_span_18 ?_
        exact ⟨⟨_, _, (by rw [zs_id σ 185 _ rfl, zs_id σ 186 _ rfl] : σ = zs (zs σ 185 (σ 185)) 186 (σ 186))⟩, Or.inl ⟨hA, rfl⟩⟩
