def PP (t n : Nat) (c : Nat → Nat) (hd : Nat → Bool) (d : Nat) : Prop := ∀ (σ : zSt) (p o l : Nat) (op vl : Nat → Nat), pcS σ t c n (p, o, l, op, vl) → o + d = 6 → Con mX5_readPiece (3 * d + 12) [.ref 16] σ (pE t n c hd [(6, 0)] σ p o l op vl wfB)
def PA (t n : Nat) (c : Nat → Nat) (hd : Nat → Bool) (d : Nat) : Prop := ∀ (σ : zSt) (p o l : Nat) (op vl : Nat → Nat), pcS σ t c n (p, o, l, op, vl) → o + d = 6 → Con mX5_readPieces (3 * d + 13) [.ref 16] σ (pE t n c hd [(6, 0), (8, 0)] σ p o l op vl wfB)
def PO (t n : Nat) (c : Nat → Nat) (hd : Nat → Bool) (d : Nat) : Prop := ∀ (σ : zSt) (p o l : Nat) (op vl : Nat → Nat), pcS σ t c n (p, o, l, op, vl) → o + d = 6 → Con mX5_readParts (3 * d + 14) [.ref 16] σ (pE t n c hd [(6, 0), (8, 0), (9, 0)] σ p o l op vl wfB)
theorem pcF_16b {σ τ : zSt} {t n p f : Nat} (H : pcF σ t n f p) (h : ∀ a, a ≠ 16 → τ a = σ a) (h1 : τ 16 1 = σ 16 1) (h2 : τ 16 2 = σ 16 2) (h3 : τ 16 3 = σ 16 3) (h6 : τ 16 6 = σ 16 6) : pcF τ t n f p ∧ frC t σ τ := by
  obtain ⟨a1, a2, a3, a4, a5, a6, a7, a8, a9, l, b1, b2⟩ := H
  have hr := tx_rng a1
  exact ⟨⟨a1, by rw [h1]; exact a2, h2.trans a3, a4, h3.trans a5, a6, h6.trans a7, a8, a9, l, b1, by rw [h t (by omega)]; exact b2⟩, frC.of16 a1 h h1⟩
set_option maxHeartbeats 4000000 in
set_option maxRecDepth 100000 in
theorem c_readPiece {t n : Nat} {c : Nat → Nat} {hd : Nat → Bool} {d : Nat} (ih : ∀ q, d = q + 1 → PP t n c hd q ∧ PO t n c hd q) : PP t n c hd d := by
  intro σ p o l op vl H hod
  refine Con.of (lv := [.ref 16, .long 0, .long 0]) mk_X5_readPiece rfl (Nat.le_of_ble_eq_true rfl) rfl (fun X F E => ?_)
  have hor := inC_or H.1.2.1 p
  have hlp := H.2.2.2.2.1
  by_cases hA : c p = 40
  · refine g_aload_n (nx := 1) 0 F dX5_readPiece_0 rfl rfl rfl ?_
    refine g_getV (nx := 4) (sgI (c p)) F dX5_readPiece_1 rfl fl_RX5_30 rfl (by decide) (by decide) rfl rfl (H.2.1.2.2.2.1) ?_
    refine g_bipush (nx := 6) (40) F dX5_readPiece_4 rfl (by decide) ?_
    refine g_icmp_ne (nx := 9) 38 F dX5_readPiece_6 rfl (by decide) (fun c_6 => absurd c_6 (by exact fun zq => zq ((sgI_eq hor (by decide)).mpr hA))) (fun c_6 => ?_)
    refine g_aload_n (nx := 10) 0 F dX5_readPiece_9 rfl rfl rfl ?_
    refine g_callV (nx := 13) 0 2 [] F dX5_readPiece_10 rfl ml_RX5_97 mo_X5_enter rfl rfl rfl rfl (Nat.le_of_ble_eq_true rfl) (by first | decide | omega) (c_enter t n p o l c op vl _ H (inC_lt H.1.2.1 (by omega))) (fun r_10 τ_10 q_10 => ?_)
    skip
    rcases q_10 with ⟨rfl, ho6, hS, hf⟩ | ⟨rfl, ho6, hF, hf⟩
    · dsimp only [Option.toList, List.append, List.cons_append, List.nil_append]
      refine g_if_eq (nx := 16) 36 F dX5_readPiece_13 rfl (by decide) (fun c_13 => absurd c_13 (by decide)) (fun c_13 => ?_)
      refine g_aload_n (nx := 17) 0 F dX5_readPiece_16 rfl rfl rfl ?_
      refine g_callV (nx := 20) 0 (3 * (d - 1) + 14) [] F dX5_readPiece_17 rfl ml_RX5_100 mo_X5_readParts rfl rfl rfl rfl (Nat.le_of_ble_eq_true rfl) (by first | decide | omega) ((ih (d - 1) (by omega)).2 _ _ _ _ _ _ hS (by omega)) (fun r_17 τ_17 q_17 => ?_)
      skip
      rcases q_17 with ⟨rfl, p2, l2, op2, vl2, hS2, hf2, hp2, hl2, hk2, hw2, hR2⟩ | ⟨rfl, f2, e2, hF2, hf2, hR2⟩
      · dsimp only [Option.toList, List.append, List.cons_append, List.nil_append]
        refine g_if_eq (nx := 23) 36 F dX5_readPiece_20 rfl (by decide) (fun c_20 => absurd c_20 (by decide)) (fun c_20 => ?_)
        refine g_aload_n (nx := 24) 0 F dX5_readPiece_23 rfl rfl rfl ?_
        refine g_bipush (nx := 26) (41) F dX5_readPiece_24 rfl (by decide) ?_
        show Gs X 26 _ (.int (nI 41) :: .ref 16 :: []) _
        refine g_callV (nx := 29) 1 3 [.int (nI 41)] F dX5_readPiece_26 rfl ml_RX5_103 mo_X5_leave rfl rfl rfl rfl (Nat.le_of_ble_eq_true rfl) (by first | decide | omega) (c_leave 41 t n p2 o l2 c op2 vl2 _ hS2 (by decide)) (fun r_26 τ_26 q_26 => ?_)
        skip
        rcases q_26 with ⟨rfl, h3, hS3, hf3⟩ | ⟨rfl, h3, hF3, hf3⟩
        · dsimp only [Option.toList, List.append, List.cons_append, List.nil_append]
          refine g_if_eq (nx := 32) 36 F dX5_readPiece_29 rfl (by decide) (fun c_29 => absurd c_29 (by decide)) (fun c_29 => ?_)
          refine g_iconst (nx := 33) (1) F dX5_readPiece_32 rfl rfl ?_
          refine g_goto 37 F dX5_readPiece_33 (by decide) ?_
          refine g_zret F E dX5_readPiece_37 (by first | rfl | assumption) ?_
          exact Or.inl ⟨rfl, p2 + 1, l2, op2, vl2, hS3, (hf.tr hf2).tr hf3, by omega, by omega, hk2, hw2, fun K z => ((s6_open hA ho6).tr (hR2 _ _)).tr (s10_go h3)⟩
        · dsimp only [Option.toList, List.append, List.cons_append, List.nil_append]
          refine g_if_eq (nx := 32) 36 F dX5_readPiece_29 rfl (by decide) (fun c_29 => ?_) (fun c_29 => absurd c_29 (by exact fun zq => zq rfl))
          refine g_iconst (nx := 37) (0) F dX5_readPiece_36 rfl rfl ?_
          refine g_zret F E dX5_readPiece_37 (by first | rfl | assumption) ?_
          exact Or.inr ⟨rfl, 1, (p2, o + 1, l2, op2, vl2), hF3, (hf.tr hf2).tr hf3, fun K z => ((s6_open hA ho6).tr (hR2 _ _)).tr (s10_bad h3)⟩
      · dsimp only [Option.toList, List.append, List.cons_append, List.nil_append]
        refine g_if_eq (nx := 23) 36 F dX5_readPiece_20 rfl (by decide) (fun c_20 => ?_) (fun c_20 => absurd c_20 (by exact fun zq => zq rfl))
        refine g_iconst (nx := 37) (0) F dX5_readPiece_36 rfl rfl ?_
        refine g_zret F E dX5_readPiece_37 (by first | rfl | assumption) ?_
        exact Or.inr ⟨rfl, f2, e2, hF2, hf.tr hf2, fun K z => (s6_open hA ho6).tr (hR2 _ _)⟩
    · dsimp only [Option.toList, List.append, List.cons_append, List.nil_append]
      refine g_if_eq (nx := 16) 36 F dX5_readPiece_13 rfl (by decide) (fun c_13 => ?_) (fun c_13 => absurd c_13 (by exact fun zq => zq rfl))
      refine g_iconst (nx := 37) (0) F dX5_readPiece_36 rfl rfl ?_
      refine g_zret F E dX5_readPiece_37 (by first | rfl | assumption) ?_
      exact Or.inr ⟨rfl, 5, (p, o, l, op, vl), hF, hf, fun K z => s6_deep hA ho6⟩
  · by_cases hB : c p = 33
    · refine g_aload_n (nx := 1) 0 F dX5_readPiece_0 rfl rfl rfl ?_
      refine g_getV (nx := 4) (sgI (c p)) F dX5_readPiece_1 rfl fl_RX5_30 rfl (by decide) (by decide) rfl rfl (H.2.1.2.2.2.1) ?_
      refine g_bipush (nx := 6) (40) F dX5_readPiece_4 rfl (by decide) ?_
      refine g_icmp_ne (nx := 9) 38 F dX5_readPiece_6 rfl (by decide) (fun c_6 => ?_) (fun c_6 => absurd c_6 (by exact fun zq => hA ((sgI_eq hor (by decide)).mp zq)))
      refine g_aload_n (nx := 39) 0 F dX5_readPiece_38 rfl rfl rfl ?_
      refine g_getV (nx := 42) (sgI (c p)) F dX5_readPiece_39 rfl fl_RX5_30 rfl (by decide) (by decide) rfl rfl (H.2.1.2.2.2.1) ?_
      refine g_bipush (nx := 44) (33) F dX5_readPiece_42 rfl (by decide) ?_
      refine g_icmp_ne (nx := 47) 90 F dX5_readPiece_44 rfl (by decide) (fun c_44 => absurd c_44 (by exact fun zq => zq ((sgI_eq hor (by decide)).mpr hB))) (fun c_44 => ?_)
      refine g_aload_n (nx := 48) 0 F dX5_readPiece_47 rfl rfl rfl ?_
      refine g_callV (nx := 51) 0 2 [] F dX5_readPiece_48 rfl ml_RX5_97 mo_X5_enter rfl rfl rfl rfl (Nat.le_of_ble_eq_true rfl) (by first | decide | omega) (c_enter t n p o l c op vl _ H (inC_lt H.1.2.1 (by omega))) (fun r_48 τ_48 q_48 => ?_)
      skip
      rcases q_48 with ⟨rfl, ho6, hS, hf⟩ | ⟨rfl, ho6, hF, hf⟩
      · dsimp only [Option.toList, List.append, List.cons_append, List.nil_append]
        refine g_if_eq (nx := 54) 65 F dX5_readPiece_51 rfl (by decide) (fun c_51 => absurd c_51 (by decide)) (fun c_51 => ?_)
        refine g_aload_n (nx := 55) 0 F dX5_readPiece_54 rfl rfl rfl ?_
        refine g_callV (nx := 58) 0 (3 * (d - 1) + 12) [] F dX5_readPiece_55 rfl ml_RX5_119 mo_X5_readPiece rfl rfl rfl rfl (Nat.le_of_ble_eq_true rfl) (by first | decide | omega) ((ih (d - 1) (by omega)).1 _ _ _ _ _ _ hS (by omega)) (fun r_55 τ_55 q_55 => ?_)
        skip
        rcases q_55 with ⟨rfl, p2, l2, op2, vl2, hS2, hf2, hp2, hl2, hk2, hw2, hR2⟩ | ⟨rfl, f2, e2, hF2, hf2, hR2⟩
        · dsimp only [Option.toList, List.append, List.cons_append, List.nil_append]
          have hw2l : l < l2 := hw2.1
          refine g_if_eq (nx := 61) 65 F dX5_readPiece_58 rfl (by decide) (fun c_58 => absurd c_58 (by decide)) (fun c_58 => ?_)
          refine g_iconst (nx := 62) (1) F dX5_readPiece_61 rfl rfl ?_
          refine g_goto 66 F dX5_readPiece_62 (by decide) ?_
          refine g_istore_n (nx := 67) 1 F dX5_readPiece_66 rfl rfl (by decide) ?_
          try dsimp only [List.set]
          refine g_aload_n (nx := 68) 0 F dX5_readPiece_67 rfl rfl rfl ?_
          refine g_dup (nx := 69) F dX5_readPiece_68 rfl rfl ?_
          refine g_getV (nx := 72) (nI (o + 1)) F dX5_readPiece_69 rfl fl_RX5_59 rfl (by decide) (by decide) rfl rfl (hS2.2.1.2.2.2.2.1) ?_
          refine g_iconst (nx := 73) (1) F dX5_readPiece_72 rfl rfl ?_
          refine g_isub (nx := 74) F dX5_readPiece_73 rfl ?_
          rw [nI_pred]
          refine g_putI (nx := 77) F dX5_readPiece_74 rfl fl_RX5_59 fi_4_5 rfl (by decide) (by decide) rfl rfl ?_
          have H3 : pcS (zu τ_55 16 5 (nI o)) t c n (p2, o, l2, op2, vl2) := pcS_16 hS2 (fun a ha => by rw [zu_ne _ ha]) rfl rfl hS2.2.1.2.2.1 hS2.2.1.2.2.2.1 rfl hS2.2.1.2.2.2.2.2 hS2.2.2.2.1 hS2.2.2.2.2.1 (by omega)
          have f3 : frC t τ_55 (zu τ_55 16 5 (nI o)) := frC.of16 H.1.1 (fun a ha => by rw [zu_ne _ ha]) rfl
          refine g_aload_n (nx := 78) 0 F dX5_readPiece_77 rfl rfl rfl ?_
          refine g_getD (nx := 81) F dX5_readPiece_78 rfl fl_RX5_12 rfl (by decide) (by decide) rfl rfl ?_
          rw [H3.2.1.1]
          refine g_bipush (nx := 83) (33) F dX5_readPiece_81 rfl (by decide) ?_
          refine g_iconst (nx := 84) (0) F dX5_readPiece_83 rfl rfl ?_
          refine g_callV (nx := 87) 2 0 [.int (nI (ck 10)), .int (nI 0)] F dX5_readPiece_84 rfl ml_RX5_112 mo_X10_put (tx_k H3.1.1) rfl rfl rfl (Nat.le_of_ble_eq_true rfl) (by first | decide | omega) (c_put t n _ _ _ 10 0 c _ _ _ H3 (by omega) (by decide) (by decide)) (fun r_84 τ_84 q_84 => ?_)
          obtain ⟨rfl, hS_84, hf_84⟩ := q_84
          dsimp only [Option.toList, List.append, List.cons_append, List.nil_append]
          refine g_pop (nx := 88) F dX5_readPiece_87 rfl rfl ?_
          refine g_iload_n (nx := 89) 1 F dX5_readPiece_88 rfl rfl rfl ?_
          refine g_zret F E dX5_readPiece_89 (by first | rfl | assumption) ?_
          refine Or.inl ⟨rfl, p2, l2 + 1, updN op2 l2 10, updN vl2 l2 0, hS_84, ((hf.tr hf2).tr f3).tr hf_84, by omega, by omega, fun k hk => ?_, wfB_not (wfB_congr hw2 (fun k _ hk => ⟨updN_ne _ _ (by omega), updN_ne _ _ (by omega)⟩)) (updN_at _ _ _), fun K z => ((s6_not hB ho6).tr (hR2 _ _)).tr s7⟩
          rw [updN_ne _ _ (by omega), updN_ne _ _ (by omega)]
          exact hk2 k hk
        · dsimp only [Option.toList, List.append, List.cons_append, List.nil_append]
          refine g_if_eq (nx := 61) 65 F dX5_readPiece_58 rfl (by decide) (fun c_58 => ?_) (fun c_58 => absurd c_58 (by exact fun zq => zq rfl))
          refine g_iconst (nx := 66) (0) F dX5_readPiece_65 rfl rfl ?_
          refine g_istore_n (nx := 67) 1 F dX5_readPiece_66 rfl rfl (by decide) ?_
          try dsimp only [List.set]
          refine g_aload_n (nx := 68) 0 F dX5_readPiece_67 rfl rfl rfl ?_
          refine g_dup (nx := 69) F dX5_readPiece_68 rfl rfl ?_
          refine g_getI (nx := 72) F dX5_readPiece_69 rfl fl_RX5_59 rfl (by decide) (by decide) rfl rfl ?_
          refine g_iconst (nx := 73) (1) F dX5_readPiece_72 rfl rfl ?_
          refine g_isub (nx := 74) F dX5_readPiece_73 rfl ?_
          refine g_putI (nx := 77) F dX5_readPiece_74 rfl fl_RX5_59 fi_4_5 rfl (by decide) (by decide) rfl rfl ?_
          have hG := pcF_16b (τ := zu τ_55 16 5 (τ_55 16 5 - 1)) hF2 (fun a ha => by rw [zu_ne _ ha]) rfl rfl rfl rfl
          refine g_aload_n (nx := 78) 0 F dX5_readPiece_77 rfl rfl rfl ?_
          refine g_getD (nx := 81) F dX5_readPiece_78 rfl fl_RX5_12 rfl (by decide) (by decide) rfl rfl ?_
          rw [hG.1.2.1]
          refine g_bipush (nx := 83) (33) F dX5_readPiece_81 rfl (by decide) ?_
          refine g_iconst (nx := 84) (0) F dX5_readPiece_83 rfl rfl ?_
          refine g_callV (nx := 87) 2 0 [.int 33, .int 0] F dX5_readPiece_84 rfl ml_RX5_112 mo_X10_put (tx_k hG.1.1) rfl rfl rfl (Nat.le_of_ble_eq_true rfl) (by first | decide | omega) (c_putF t n _ _ 33 0 _ hG.1) (fun r_84 τ_84 q_84 => ?_)
          obtain ⟨⟨x_84, rfl⟩, hF_84, hf_84⟩ := q_84
          dsimp only [Option.toList, List.append, List.cons_append, List.nil_append]
          refine g_pop (nx := 88) F dX5_readPiece_87 rfl rfl ?_
          refine g_iload_n (nx := 89) 1 F dX5_readPiece_88 rfl rfl rfl ?_
          refine g_zret F E dX5_readPiece_89 (by first | rfl | assumption) ?_
          exact Or.inr ⟨rfl, f2, e2, hF_84, ((hf.tr hf2).tr hG.2).tr hf_84, fun K z => (s6_not hB ho6).tr (hR2 _ _)⟩
      · dsimp only [Option.toList, List.append, List.cons_append, List.nil_append]
        refine g_if_eq (nx := 54) 65 F dX5_readPiece_51 rfl (by decide) (fun c_51 => ?_) (fun c_51 => absurd c_51 (by exact fun zq => zq rfl))
        refine g_iconst (nx := 66) (0) F dX5_readPiece_65 rfl rfl ?_
        refine g_istore_n (nx := 67) 1 F dX5_readPiece_66 rfl rfl (by decide) ?_
        try dsimp only [List.set]
        refine g_aload_n (nx := 68) 0 F dX5_readPiece_67 rfl rfl rfl ?_
        refine g_dup (nx := 69) F dX5_readPiece_68 rfl rfl ?_
        refine g_getI (nx := 72) F dX5_readPiece_69 rfl fl_RX5_59 rfl (by decide) (by decide) rfl rfl ?_
        refine g_iconst (nx := 73) (1) F dX5_readPiece_72 rfl rfl ?_
        refine g_isub (nx := 74) F dX5_readPiece_73 rfl ?_
        refine g_putI (nx := 77) F dX5_readPiece_74 rfl fl_RX5_59 fi_4_5 rfl (by decide) (by decide) rfl rfl ?_
        have hG := pcF_16b (τ := zu τ_48 16 5 (τ_48 16 5 - 1)) hF (fun a ha => by rw [zu_ne _ ha]) rfl rfl rfl rfl
        refine g_aload_n (nx := 78) 0 F dX5_readPiece_77 rfl rfl rfl ?_
        refine g_getD (nx := 81) F dX5_readPiece_78 rfl fl_RX5_12 rfl (by decide) (by decide) rfl rfl ?_
        rw [hG.1.2.1]
        refine g_bipush (nx := 83) (33) F dX5_readPiece_81 rfl (by decide) ?_
        refine g_iconst (nx := 84) (0) F dX5_readPiece_83 rfl rfl ?_
        refine g_callV (nx := 87) 2 0 [.int 33, .int 0] F dX5_readPiece_84 rfl ml_RX5_112 mo_X10_put (tx_k hG.1.1) rfl rfl rfl (Nat.le_of_ble_eq_true rfl) (by first | decide | omega) (c_putF t n _ _ 33 0 _ hG.1) (fun r_84 τ_84 q_84 => ?_)
        obtain ⟨⟨x_84, rfl⟩, hF_84, hf_84⟩ := q_84
        dsimp only [Option.toList, List.append, List.cons_append, List.nil_append]
        refine g_pop (nx := 88) F dX5_readPiece_87 rfl rfl ?_
        refine g_iload_n (nx := 89) 1 F dX5_readPiece_88 rfl rfl rfl ?_
        refine g_zret F E dX5_readPiece_89 (by first | rfl | assumption) ?_
        exact Or.inr ⟨rfl, 5, (p, o, l, op, vl), hF_84, (hf.tr hG.2).tr hf_84, fun K z => s6_ndeep hB ho6⟩
    · refine g_aload_n (nx := 1) 0 F dX5_readPiece_0 rfl rfl rfl ?_
      refine g_getV (nx := 4) (sgI (c p)) F dX5_readPiece_1 rfl fl_RX5_30 rfl (by decide) (by decide) rfl rfl (H.2.1.2.2.2.1) ?_
      refine g_bipush (nx := 6) (40) F dX5_readPiece_4 rfl (by decide) ?_
      refine g_icmp_ne (nx := 9) 38 F dX5_readPiece_6 rfl (by decide) (fun c_6 => ?_) (fun c_6 => absurd c_6 (by exact fun zq => hA ((sgI_eq hor (by decide)).mp zq)))
      refine g_aload_n (nx := 39) 0 F dX5_readPiece_38 rfl rfl rfl ?_
      refine g_getV (nx := 42) (sgI (c p)) F dX5_readPiece_39 rfl fl_RX5_30 rfl (by decide) (by decide) rfl rfl (H.2.1.2.2.2.1) ?_
      refine g_bipush (nx := 44) (33) F dX5_readPiece_42 rfl (by decide) ?_
      refine g_icmp_ne (nx := 47) 90 F dX5_readPiece_44 rfl (by decide) (fun c_44 => ?_) (fun c_44 => absurd c_44 (by exact fun zq => hB ((sgI_eq hor (by decide)).mp zq)))
      refine g_aload_n (nx := 91) 0 F dX5_readPiece_90 rfl rfl rfl ?_
      refine g_callV (nx := 94) 0 (3 * d + 8) [] F dX5_readPiece_91 rfl ml_RX5_48 mo_X5_readTerms rfl rfl rfl rfl (Nat.le_of_ble_eq_true rfl) (by first | decide | omega) (c_terms t n c hd d _ _ _ _ _ _ H hod) (fun r_91 τ_91 q_91 => ?_)
      skip
      rcases q_91 with ⟨rfl, p2, l2, op2, vl2, hS2, hf2, hp2, hl2, hk2, hw2, hR2⟩ | ⟨rfl, f2, e2, hF2, hf2, hR2⟩
      · dsimp only [Option.toList, List.append, List.cons_append, List.nil_append]
        have hw2l : l < l2 := hw2.1
        have hlp := H.2.2.2.2.1
        by_cases hC : cmF (c p2) = 0
        · refine g_if_ne (nx := 97) 99 F dX5_readPiece_94 rfl (by decide) (fun c_94 => ?_) (fun c_94 => absurd c_94 (by decide))
          refine g_aload_n (nx := 100) 0 F dX5_readPiece_99 rfl rfl rfl ?_
          refine g_ldcS (nx := 102) 5 F dX5_readPiece_100 rfl (by decide) rfl ?_
          refine g_callV (nx := 105) 1 4 [.ref 1005] F dX5_readPiece_102 rfl ml_RX5_82 mo_X5_sees rfl rfl rfl rfl (Nat.le_of_ble_eq_true rfl) (by first | decide | omega) (c_sees 5 t n p2 o l2 c op2 vl2 _ hS2 (by decide)) (fun r_102 τ_102 q_102 => ?_)
          obtain ⟨rfl, et_102⟩ := q_102
          have et_102 := et_102.symm
          subst et_102
          dsimp only [Option.toList, List.append, List.cons_append, List.nil_append]
          refine g_if_ne (nx := 108) 114 F dX5_readPiece_105 rfl (by decide) (fun c_105 => absurd c_105 (by exact fun zq => zq (bI_f (fun z => absurd hC ((see_5 _ z.1).1.mp z.2))))) (fun c_105 => ?_)
          refine g_aload_n (nx := 109) 0 F dX5_readPiece_108 rfl rfl rfl ?_
          refine g_iconst (nx := 110) (1) F dX5_readPiece_109 rfl rfl ?_
          show Gs X 110 _ (.int (nI 1) :: .ref 16 :: []) _
          refine g_callV (nx := 113) 1 0 [.int (nI 1)] F dX5_readPiece_110 rfl ml_RX5_52 mo_X5_fail rfl rfl rfl rfl (Nat.le_of_ble_eq_true rfl) (by first | decide | omega) (c_fail t n _ _ _ 1 c _ _ _ hS2 (by decide)) (fun r_110 τ_110 q_110 => ?_)
          obtain ⟨rfl, hF_110, hf_110⟩ := q_110
          dsimp only [Option.toList, List.append, List.cons_append, List.nil_append]
          refine g_zret F E dX5_readPiece_113 (by first | rfl | assumption) ?_
          exact Or.inr ⟨rfl, 1, (p2, o, l2, op2, vl2), hF_110, hf2.tr hf_110, fun K z => ((s6_cmp hA hB).tr (hR2 _ _)).tr (s11_bad hC)⟩
        · have hlt : c p2 < 256 := cm_lt hC
          have hp2n := inC_lt (p := p2) hS2.1.2.1 (by omega)
          have hck := (see_5 _ hlt).2 hC
          have hsg : sgI (c p2) = nI (ck (cmF (c p2))) := by rw [show sgI (c p2) = nI (c p2) from if_neg (by omega)]; exact congrArg nI hck.1.symm
          refine g_if_ne (nx := 97) 99 F dX5_readPiece_94 rfl (by decide) (fun c_94 => ?_) (fun c_94 => absurd c_94 (by decide))
          refine g_aload_n (nx := 100) 0 F dX5_readPiece_99 rfl rfl rfl ?_
          refine g_ldcS (nx := 102) 5 F dX5_readPiece_100 rfl (by decide) rfl ?_
          refine g_callV (nx := 105) 1 4 [.ref 1005] F dX5_readPiece_102 rfl ml_RX5_82 mo_X5_sees rfl rfl rfl rfl (Nat.le_of_ble_eq_true rfl) (by first | decide | omega) (c_sees 5 t n p2 o l2 c op2 vl2 _ hS2 (by decide)) (fun r_102 τ_102 q_102 => ?_)
          obtain ⟨rfl, et_102⟩ := q_102
          have et_102 := et_102.symm
          subst et_102
          dsimp only [Option.toList, List.append, List.cons_append, List.nil_append]
          refine g_if_ne (nx := 108) 114 F dX5_readPiece_105 rfl (by decide) (fun c_105 => ?_) (fun c_105 => absurd c_105 (by exact bI_n0.mpr ⟨hlt, (see_5 _ hlt).1.mpr hC⟩))
          refine g_aload_n (nx := 115) 0 F dX5_readPiece_114 rfl rfl rfl ?_
          refine g_getV (nx := 118) (sgI (c p2)) F dX5_readPiece_115 rfl fl_RX5_30 rfl (by decide) (by decide) rfl rfl (hS2.2.1.2.2.2.1) ?_
          refine g_istore_n (nx := 119) 1 F dX5_readPiece_118 rfl rfl (by decide) ?_
          try dsimp only [List.set]
          refine g_aload_n (nx := 120) 0 F dX5_readPiece_119 rfl rfl rfl ?_
          refine g_callV (nx := 123) 0 1 [] F dX5_readPiece_120 rfl ml_RX5_68 mo_X5_advance rfl rfl rfl rfl (Nat.le_of_ble_eq_true rfl) (by first | decide | omega) (c_advance t n _ _ _ c _ _ _ hS2 (hp2n)) (fun r_120 τ_120 q_120 => ?_)
          obtain ⟨rfl, hS_120, hf_120⟩ := q_120
          dsimp only [Option.toList, List.append, List.cons_append, List.nil_append]
          refine g_aload_n (nx := 124) 0 F dX5_readPiece_123 rfl rfl rfl ?_
          refine g_callV (nx := 127) 0 (3 * d + 8) [] F dX5_readPiece_124 rfl ml_RX5_48 mo_X5_readTerms rfl rfl rfl rfl (Nat.le_of_ble_eq_true rfl) (by first | decide | omega) (c_terms t n c hd d _ _ _ _ _ _ hS_120 hod) (fun r_124 τ_124 q_124 => ?_)
          skip
          rcases q_124 with ⟨rfl, p3, l3, op3, vl3, hS3, hf3, hp3, hl3, hk3, hw3, hR3⟩ | ⟨rfl, f3, e3, hF3, hf3, hR3⟩
          · dsimp only [Option.toList, List.append, List.cons_append, List.nil_append]
            have hw3l : l2 < l3 := hw3.1
            refine g_istore_n (nx := 128) 2 F dX5_readPiece_127 rfl rfl (by decide) ?_
            try dsimp only [List.set]
            refine g_aload_n (nx := 129) 0 F dX5_readPiece_128 rfl rfl rfl ?_
            refine g_getD (nx := 132) F dX5_readPiece_129 rfl fl_RX5_12 rfl (by decide) (by decide) rfl rfl ?_
            rw [hS3.2.1.1]
            refine g_iload_n (nx := 133) 1 F dX5_readPiece_132 rfl rfl rfl ?_
            refine g_iconst (nx := 134) (0) F dX5_readPiece_133 rfl rfl ?_
            rw [hsg]
            refine g_callV (nx := 137) 2 0 [.int (nI (ck (cmF (c p2)))), .int (nI 0)] F dX5_readPiece_134 rfl ml_RX5_112 mo_X10_put (tx_k hS3.1.1) rfl rfl rfl (Nat.le_of_ble_eq_true rfl) (by first | decide | omega) (c_put t n _ _ _ (cmF (c p2)) 0 c _ _ _ hS3 (by omega) (by decide) (by omega)) (fun r_134 τ_134 q_134 => ?_)
            obtain ⟨rfl, hS_134, hf_134⟩ := q_134
            dsimp only [Option.toList, List.append, List.cons_append, List.nil_append]
            refine g_pop (nx := 138) F dX5_readPiece_137 rfl rfl ?_
            refine g_iload_n (nx := 139) 2 F dX5_readPiece_138 rfl rfl rfl ?_
            refine g_zret F E dX5_readPiece_139 (by first | rfl | assumption) ?_
            refine Or.inl ⟨rfl, p3, l3 + 1, updN op3 l3 (cmF (c p2)), updN vl3 l3 0, hS_134, ((hf2.tr hf_120).tr hf3).tr hf_134, by omega, by omega, fun k hk => ?_, ?_, fun K z => ((((s6_cmp hA hB).tr (hR2 _ _)).tr (s11_go hC)).tr (hR3 _ _)).tr s2⟩
            · rw [updN_ne _ _ (by omega), updN_ne _ _ (by omega), (hk3 k (by omega)).1, (hk3 k (by omega)).2]
              exact hk2 k hk
            · refine wfB_cmp (h := 2 * d + 3) (wfE_congr hw2 (fun k hk => ?_)) (wfE_congr hw3 (fun k hk => ⟨updN_ne _ _ (by omega), updN_ne _ _ (by omega)⟩)) (by rw [updN_at]; omega) (by omega)
              rw [updN_ne _ _ (by omega), updN_ne _ _ (by omega)]
              exact hk3 k hk
          · dsimp only [Option.toList, List.append, List.cons_append, List.nil_append]
            refine g_istore_n (nx := 128) 2 F dX5_readPiece_127 rfl rfl (by decide) ?_
            try dsimp only [List.set]
            refine g_aload_n (nx := 129) 0 F dX5_readPiece_128 rfl rfl rfl ?_
            refine g_getD (nx := 132) F dX5_readPiece_129 rfl fl_RX5_12 rfl (by decide) (by decide) rfl rfl ?_
            rw [hF3.2.1]
            refine g_iload_n (nx := 133) 1 F dX5_readPiece_132 rfl rfl rfl ?_
            refine g_iconst (nx := 134) (0) F dX5_readPiece_133 rfl rfl ?_
            rw [hsg]
            refine g_callV (nx := 137) 2 0 [.int (nI (ck (cmF (c p2)))), .int 0] F dX5_readPiece_134 rfl ml_RX5_112 mo_X10_put (tx_k hF3.1) rfl rfl rfl (Nat.le_of_ble_eq_true rfl) (by first | decide | omega) (c_putF t n _ _ (nI (ck (cmF (c p2)))) 0 _ hF3) (fun r_134 τ_134 q_134 => ?_)
            obtain ⟨⟨x_134, rfl⟩, hF_134, hf_134⟩ := q_134
            dsimp only [Option.toList, List.append, List.cons_append, List.nil_append]
            refine g_pop (nx := 138) F dX5_readPiece_137 rfl rfl ?_
            refine g_iload_n (nx := 139) 2 F dX5_readPiece_138 rfl rfl rfl ?_
            refine g_zret F E dX5_readPiece_139 (by first | rfl | assumption) ?_
            exact Or.inr ⟨rfl, f3, e3, hF_134, ((hf2.tr hf_120).tr hf3).tr hf_134, fun K z => (((s6_cmp hA hB).tr (hR2 _ _)).tr (s11_go hC)).tr (hR3 _ _)⟩
      · dsimp only [Option.toList, List.append, List.cons_append, List.nil_append]
        refine g_if_ne (nx := 97) 99 F dX5_readPiece_94 rfl (by decide) (fun c_94 => absurd c_94 (by exact fun zq => zq rfl)) (fun c_94 => ?_)
        refine g_iconst (nx := 98) (0) F dX5_readPiece_97 rfl rfl ?_
        refine g_zret F E dX5_readPiece_98 (by first | rfl | assumption) ?_
        exact Or.inr ⟨rfl, f2, e2, hF2, hf2, fun K z => (s6_cmp hA hB).tr (hR2 _ _)⟩
set_option maxHeartbeats 4000000 in
set_option maxRecDepth 100000 in
theorem c_readPieces {t n : Nat} {c : Nat → Nat} {hd : Nat → Bool} {d : Nat} (hP : PP t n c hd d) : PA t n c hd d := by
  intro σ p o l op vl H hod
  refine Con.of (lv := [.ref 16, .long 0, .long 0, .long 0]) mk_X5_readPieces rfl (Nat.le_of_ble_eq_true rfl) rfl (fun X F E => ?_)
  have L : ∀ (q k p1 l1 : Nat) (op1 vl1 : Nat → Nat) (τ : zSt) (z3 : Value), n ≤ p1 + q → pcS τ t c n (p1, o, l1, op1, vl1) → frC t σ τ → p < p1 → l1 + p ≤ l + p1 → k < p1 → (∀ k, k < l → op1 k = op k ∧ vl1 k = vl k) → wfB op1 vl1 l l1 → (∀ K z, Rn c hd ([(6, 0), (8, 0)] ++ K, (p, o, l, op, vl), z) ((8, 0) :: K, (p1, o, l1, op1, vl1), z)) → Gs X 7 [.ref 16, .int 1, .int (nI k), z3] [] τ := by
    intro q
    induction q with
    | zero =>
      intro k p1 l1 op1 vl1 τ z3 hq H1 hf1 hp1 hl1 hk hk1 hw1 hR1
      have hn160 := H1.1.2.2.1
      have hor := inC_or H1.1.2.1 p1
      have hA : ¬ c p1 = 38 := by rw [H1.1.2.1.2 p1 hq]; decide
      refine g_iload_n (nx := 8) 1 F dX5_readPieces_7 rfl rfl rfl ?_
      refine g_if_eq (nx := 11) 62 F dX5_readPieces_8 rfl (by decide) (fun c_8 => absurd c_8 (by decide)) (fun c_8 => ?_)
      refine g_aload_n (nx := 12) 0 F dX5_readPieces_11 rfl rfl rfl ?_
      refine g_getV (nx := 15) (sgI (c p1)) F dX5_readPieces_12 rfl fl_RX5_30 rfl (by decide) (by decide) rfl rfl (H1.2.1.2.2.2.1) ?_
      refine g_bipush (nx := 17) (38) F dX5_readPieces_15 rfl (by decide) ?_
      refine g_icmp_ne (nx := 20) 62 F dX5_readPieces_17 rfl (by decide) (fun c_17 => ?_) (fun c_17 => absurd c_17 (by exact fun zq => hA ((sgI_eq hor (by decide)).mp zq)))
      refine g_iload_n (nx := 63) 1 F dX5_readPieces_62 rfl rfl rfl ?_
      refine g_zret F E dX5_readPieces_63 (by first | rfl | assumption) ?_
      exact Or.inl ⟨rfl, p1, l1, op1, vl1, H1, hf1, hp1, hl1, hk1, hw1, fun K z => (hR1 K z).tr (s8_end hA)⟩
    | succ q ih =>
      intro k p1 l1 op1 vl1 τ z3 hq H1 hf1 hp1 hl1 hk hk1 hw1 hR1
      have hn160 := H1.1.2.2.1
      have hlp := H.2.2.2.2.1
      have hor := inC_or H1.1.2.1 p1
      by_cases hA : c p1 = 38
      · have hp1n := inC_lt (p := p1) H1.1.2.1 (by omega)
        refine g_iload_n (nx := 8) 1 F dX5_readPieces_7 rfl rfl rfl ?_
        refine g_if_eq (nx := 11) 62 F dX5_readPieces_8 rfl (by decide) (fun c_8 => absurd c_8 (by decide)) (fun c_8 => ?_)
        refine g_aload_n (nx := 12) 0 F dX5_readPieces_11 rfl rfl rfl ?_
        refine g_getV (nx := 15) (sgI (c p1)) F dX5_readPieces_12 rfl fl_RX5_30 rfl (by decide) (by decide) rfl rfl (H1.2.1.2.2.2.1) ?_
        refine g_bipush (nx := 17) (38) F dX5_readPieces_15 rfl (by decide) ?_
        refine g_icmp_ne (nx := 20) 62 F dX5_readPieces_17 rfl (by decide) (fun c_17 => absurd c_17 (by exact fun zq => zq ((sgI_eq hor (by decide)).mpr hA))) (fun c_17 => ?_)
        refine g_iload_n (nx := 21) 2 F dX5_readPieces_20 rfl rfl rfl ?_
        refine g_aload_n (nx := 22) 0 F dX5_readPieces_21 rfl rfl rfl ?_
        refine g_getV (nx := 25) (nI n) F dX5_readPieces_22 rfl fl_RX5_56 rfl (by decide) (by decide) rfl rfl (H1.2.1.2.1) ?_
        refine g_icmp_ge (nx := 28) 62 F dX5_readPieces_25 rfl (by decide) (fun c_25 => absurd c_25 (by exact nI_ge (by omega) (by omega))) (fun c_25 => ?_)
        refine g_aload_n (nx := 29) 0 F dX5_readPieces_28 rfl rfl rfl ?_
        refine g_callV (nx := 32) 0 1 [] F dX5_readPieces_29 rfl ml_RX5_68 mo_X5_advance rfl rfl rfl rfl (Nat.le_of_ble_eq_true rfl) (by first | decide | omega) (c_advance t n _ _ _ c _ _ _ H1 (hp1n)) (fun r_29 τ_29 q_29 => ?_)
        obtain ⟨rfl, hS_29, hf_29⟩ := q_29
        dsimp only [Option.toList, List.append, List.cons_append, List.nil_append]
        refine g_aload_n (nx := 33) 0 F dX5_readPieces_32 rfl rfl rfl ?_
        refine g_getD (nx := 36) F dX5_readPieces_33 rfl fl_RX5_12 rfl (by decide) (by decide) rfl rfl ?_
        rw [hS_29.2.1.1]
        refine g_bipush (nx := 38) (38) F dX5_readPieces_36 rfl (by decide) ?_
        refine g_iconst (nx := 39) (0) F dX5_readPieces_38 rfl rfl ?_
        refine g_callV (nx := 42) 2 0 [.int (nI (ck 11)), .int (nI 0)] F dX5_readPieces_39 rfl ml_RX5_112 mo_X10_put (tx_k hS_29.1.1) rfl rfl rfl (Nat.le_of_ble_eq_true rfl) (by first | decide | omega) (c_put t n _ _ _ 11 0 c _ _ _ hS_29 (by omega) (by decide) (by decide)) (fun r_39 τ_39 q_39 => ?_)
        obtain ⟨rfl, hS_39, hf_39⟩ := q_39
        dsimp only [Option.toList, List.append, List.cons_append, List.nil_append]
        refine g_istore_n (nx := 43) 3 F dX5_readPieces_42 rfl rfl (by decide) ?_
        try dsimp only [List.set]
        refine g_aload_n (nx := 44) 0 F dX5_readPieces_43 rfl rfl rfl ?_
        refine g_callV (nx := 47) 0 (3 * d + 12) [] F dX5_readPieces_44 rfl ml_RX5_119 mo_X5_readPiece rfl rfl rfl rfl (Nat.le_of_ble_eq_true rfl) (by first | decide | omega) (hP _ _ _ _ _ _ hS_39 hod) (fun r_44 τ_44 q_44 => ?_)
        skip
        rcases q_44 with ⟨rfl, p2, l2, op2, vl2, hS2, hf2, hp2, hl2, hk2, hw2, hR2⟩ | ⟨rfl, f2, e2, hF2, hf2, hR2⟩
        · dsimp only [Option.toList, List.append, List.cons_append, List.nil_append]
          have hw1l : l < l1 := hw1.1
          have hw2l : l1 + 1 < l2 := hw2.1
          refine g_istore_n (nx := 48) 1 F dX5_readPieces_47 rfl rfl (by decide) ?_
          try dsimp only [List.set]
          refine g_aload_n (nx := 49) 0 F dX5_readPieces_48 rfl rfl rfl ?_
          refine g_getD (nx := 52) F dX5_readPieces_49 rfl fl_RX5_12 rfl (by decide) (by decide) rfl rfl ?_
          rw [hS2.2.1.1]
          refine g_iload_n (nx := 53) 3 F dX5_readPieces_52 rfl rfl rfl ?_
          refine g_callV (nx := 56) 1 0 [.int (nI l1)] F dX5_readPieces_53 rfl ml_RX5_116 mo_X10_aim (tx_k hS2.1.1) rfl rfl rfl (Nat.le_of_ble_eq_true rfl) (by first | decide | omega) (c_aim t n _ _ _ l1 c _ _ _ hS2 (by omega)) (fun r_53 τ_53 q_53 => ?_)
          obtain ⟨rfl, hS_53, hf_53⟩ := q_53
          dsimp only [Option.toList, List.append, List.cons_append, List.nil_append]
          refine g_iinc (nx := 59) (1) F dX5_readPieces_56 rfl rfl (by decide) (by decide) ?_
          try dsimp only [List.set]
          refine g_goto 7 F dX5_readPieces_59 (by decide) ?_
          rw [nI_1]
          refine ih (k + 1) p2 l2 op2 (updN vl2 l1 l2) _ _ (by omega) hS_53 ((((hf1.tr hf_29).tr hf_39).tr hf2).tr hf_53) (by omega) (by omega) (by omega) (fun k hk => ?_) ?_ (fun K z => (hR1 K z).tr ((s8_go hA).tr ((hR2 _ _).tr s12)))
          · rw [updN_ne _ _ (by omega), (hk2 k (by omega)).1, (hk2 k (by omega)).2, updN_ne _ _ (by omega), updN_ne _ _ (by omega)]
            exact hk1 k hk
          · refine wfB_jump (b := l1) (wfB_congr hw1 (fun k _ hk => ?_)) (wfB_congr hw2 (fun k hk _ => ⟨rfl, updN_ne _ _ (by omega)⟩)) ?_ (updN_at _ _ _)
            · rw [updN_ne _ _ (by omega), (hk2 k (by omega)).1, (hk2 k (by omega)).2]
              exact ⟨updN_ne _ _ (by omega), updN_ne _ _ (by omega)⟩
            · rw [(hk2 l1 (by omega)).1, updN_at]
              exact Or.inl rfl
        · dsimp only [Option.toList, List.append, List.cons_append, List.nil_append]
          refine g_istore_n (nx := 48) 1 F dX5_readPieces_47 rfl rfl (by decide) ?_
          try dsimp only [List.set]
          refine g_aload_n (nx := 49) 0 F dX5_readPieces_48 rfl rfl rfl ?_
          refine g_getD (nx := 52) F dX5_readPieces_49 rfl fl_RX5_12 rfl (by decide) (by decide) rfl rfl ?_
          rw [hF2.2.1]
          refine g_iload_n (nx := 53) 3 F dX5_readPieces_52 rfl rfl rfl ?_
          refine g_callV (nx := 56) 1 0 [.int (nI l1)] F dX5_readPieces_53 rfl ml_RX5_116 mo_X10_aim (tx_k hF2.1) rfl rfl rfl (Nat.le_of_ble_eq_true rfl) (by first | decide | omega) (c_aimF t n _ _ (nI l1) _ hF2) (fun r_53 τ_53 q_53 => ?_)
          obtain ⟨rfl, hF_53, hf_53⟩ := q_53
          dsimp only [Option.toList, List.append, List.cons_append, List.nil_append]
          refine g_iinc (nx := 59) (1) F dX5_readPieces_56 rfl rfl (by decide) (by decide) ?_
          try dsimp only [List.set]
          refine g_goto 7 F dX5_readPieces_59 (by decide) ?_
          refine g_iload_n (nx := 8) 1 F dX5_readPieces_7 rfl rfl rfl ?_
          refine g_if_eq (nx := 11) 62 F dX5_readPieces_8 rfl (by decide) (fun c_8 => ?_) (fun c_8 => absurd c_8 (by exact fun zq => zq rfl))
          refine g_iload_n (nx := 63) 1 F dX5_readPieces_62 rfl rfl rfl ?_
          refine g_zret F E dX5_readPieces_63 (by first | rfl | assumption) ?_
          exact Or.inr ⟨rfl, f2, e2, hF_53, (((hf1.tr hf_29).tr hf_39).tr hf2).tr hf_53, fun K z => (hR1 K z).tr ((s8_go hA).tr (hR2 _ _))⟩
      · refine g_iload_n (nx := 8) 1 F dX5_readPieces_7 rfl rfl rfl ?_
        refine g_if_eq (nx := 11) 62 F dX5_readPieces_8 rfl (by decide) (fun c_8 => absurd c_8 (by decide)) (fun c_8 => ?_)
        refine g_aload_n (nx := 12) 0 F dX5_readPieces_11 rfl rfl rfl ?_
        refine g_getV (nx := 15) (sgI (c p1)) F dX5_readPieces_12 rfl fl_RX5_30 rfl (by decide) (by decide) rfl rfl (H1.2.1.2.2.2.1) ?_
        refine g_bipush (nx := 17) (38) F dX5_readPieces_15 rfl (by decide) ?_
        refine g_icmp_ne (nx := 20) 62 F dX5_readPieces_17 rfl (by decide) (fun c_17 => ?_) (fun c_17 => absurd c_17 (by exact fun zq => hA ((sgI_eq hor (by decide)).mp zq)))
        refine g_iload_n (nx := 63) 1 F dX5_readPieces_62 rfl rfl rfl ?_
        refine g_zret F E dX5_readPieces_63 (by first | rfl | assumption) ?_
        exact Or.inl ⟨rfl, p1, l1, op1, vl1, H1, hf1, hp1, hl1, hk1, hw1, fun K z => (hR1 K z).tr (s8_end hA)⟩
  refine g_aload_n (nx := 1) 0 F dX5_readPieces_0 rfl rfl rfl ?_
  refine g_callV (nx := 4) 0 (3 * d + 12) [] F dX5_readPieces_1 rfl ml_RX5_119 mo_X5_readPiece rfl rfl rfl rfl (Nat.le_of_ble_eq_true rfl) (by first | decide | omega) (hP _ _ _ _ _ _ H hod) (fun r_1 τ_1 q_1 => ?_)
  skip
  rcases q_1 with ⟨rfl, p2, l2, op2, vl2, hS2, hf2, hp2, hl2, hk2, hw2, hR2⟩ | ⟨rfl, f2, e2, hF2, hf2, hR2⟩
  · dsimp only [Option.toList, List.append, List.cons_append, List.nil_append]
    refine g_istore_n (nx := 5) 1 F dX5_readPieces_4 rfl rfl (by decide) ?_
    try dsimp only [List.set]
    refine g_iconst (nx := 6) (0) F dX5_readPieces_5 rfl rfl ?_
    refine g_istore_n (nx := 7) 2 F dX5_readPieces_6 rfl rfl (by decide) ?_
    try dsimp only [List.set]
    exact L n 0 p2 l2 op2 vl2 _ _ (by omega) hS2 hf2 hp2 hl2 (by omega) hk2 hw2 (fun K z => hR2 _ _)
  · dsimp only [Option.toList, List.append, List.cons_append, List.nil_append]
    refine g_istore_n (nx := 5) 1 F dX5_readPieces_4 rfl rfl (by decide) ?_
    try dsimp only [List.set]
    refine g_iconst (nx := 6) (0) F dX5_readPieces_5 rfl rfl ?_
    refine g_istore_n (nx := 7) 2 F dX5_readPieces_6 rfl rfl (by decide) ?_
    try dsimp only [List.set]
    refine g_iload_n (nx := 8) 1 F dX5_readPieces_7 rfl rfl rfl ?_
    refine g_if_eq (nx := 11) 62 F dX5_readPieces_8 rfl (by decide) (fun c_8 => ?_) (fun c_8 => absurd c_8 (by exact fun zq => zq rfl))
    refine g_iload_n (nx := 63) 1 F dX5_readPieces_62 rfl rfl rfl ?_
    refine g_zret F E dX5_readPieces_63 (by first | rfl | assumption) ?_
    exact Or.inr ⟨rfl, f2, e2, hF2, hf2, fun K z => hR2 _ _⟩
set_option maxHeartbeats 4000000 in
set_option maxRecDepth 100000 in
theorem c_readParts {t n : Nat} {c : Nat → Nat} {hd : Nat → Bool} {d : Nat} (hP : PA t n c hd d) : PO t n c hd d := by
  intro σ p o l op vl H hod
  refine Con.of (lv := [.ref 16, .long 0, .long 0, .long 0]) mk_X5_readParts rfl (Nat.le_of_ble_eq_true rfl) rfl (fun X F E => ?_)
  have L : ∀ (q k p1 l1 : Nat) (op1 vl1 : Nat → Nat) (τ : zSt) (z3 : Value), n ≤ p1 + q → pcS τ t c n (p1, o, l1, op1, vl1) → frC t σ τ → p < p1 → l1 + p ≤ l + p1 → k < p1 → (∀ k, k < l → op1 k = op k ∧ vl1 k = vl k) → wfB op1 vl1 l l1 → (∀ K z, Rn c hd ([(6, 0), (8, 0), (9, 0)] ++ K, (p, o, l, op, vl), z) ((9, 0) :: K, (p1, o, l1, op1, vl1), z)) → Gs X 7 [.ref 16, .int 1, .int (nI k), z3] [] τ := by
    intro q
    induction q with
    | zero =>
      intro k p1 l1 op1 vl1 τ z3 hq H1 hf1 hp1 hl1 hk hk1 hw1 hR1
      have hn160 := H1.1.2.2.1
      have hor := inC_or H1.1.2.1 p1
      have hA : ¬ c p1 = 124 := by rw [H1.1.2.1.2 p1 hq]; decide
      refine g_iload_n (nx := 8) 1 F dX5_readParts_7 rfl rfl rfl ?_
      refine g_if_eq (nx := 11) 62 F dX5_readParts_8 rfl (by decide) (fun c_8 => absurd c_8 (by decide)) (fun c_8 => ?_)
      refine g_aload_n (nx := 12) 0 F dX5_readParts_11 rfl rfl rfl ?_
      refine g_getV (nx := 15) (sgI (c p1)) F dX5_readParts_12 rfl fl_RX5_30 rfl (by decide) (by decide) rfl rfl (H1.2.1.2.2.2.1) ?_
      refine g_bipush (nx := 17) (124) F dX5_readParts_15 rfl (by decide) ?_
      refine g_icmp_ne (nx := 20) 62 F dX5_readParts_17 rfl (by decide) (fun c_17 => ?_) (fun c_17 => absurd c_17 (by exact fun zq => hA ((sgI_eq hor (by decide)).mp zq)))
      refine g_iload_n (nx := 63) 1 F dX5_readParts_62 rfl rfl rfl ?_
      refine g_zret F E dX5_readParts_63 (by first | rfl | assumption) ?_
      exact Or.inl ⟨rfl, p1, l1, op1, vl1, H1, hf1, hp1, hl1, hk1, hw1, fun K z => (hR1 K z).tr (s9_end hA)⟩
    | succ q ih =>
      intro k p1 l1 op1 vl1 τ z3 hq H1 hf1 hp1 hl1 hk hk1 hw1 hR1
      have hn160 := H1.1.2.2.1
      have hlp := H.2.2.2.2.1
      have hor := inC_or H1.1.2.1 p1
      by_cases hA : c p1 = 124
      · have hp1n := inC_lt (p := p1) H1.1.2.1 (by omega)
        refine g_iload_n (nx := 8) 1 F dX5_readParts_7 rfl rfl rfl ?_
        refine g_if_eq (nx := 11) 62 F dX5_readParts_8 rfl (by decide) (fun c_8 => absurd c_8 (by decide)) (fun c_8 => ?_)
        refine g_aload_n (nx := 12) 0 F dX5_readParts_11 rfl rfl rfl ?_
        refine g_getV (nx := 15) (sgI (c p1)) F dX5_readParts_12 rfl fl_RX5_30 rfl (by decide) (by decide) rfl rfl (H1.2.1.2.2.2.1) ?_
        refine g_bipush (nx := 17) (124) F dX5_readParts_15 rfl (by decide) ?_
        refine g_icmp_ne (nx := 20) 62 F dX5_readParts_17 rfl (by decide) (fun c_17 => absurd c_17 (by exact fun zq => zq ((sgI_eq hor (by decide)).mpr hA))) (fun c_17 => ?_)
        refine g_iload_n (nx := 21) 2 F dX5_readParts_20 rfl rfl rfl ?_
        refine g_aload_n (nx := 22) 0 F dX5_readParts_21 rfl rfl rfl ?_
        refine g_getV (nx := 25) (nI n) F dX5_readParts_22 rfl fl_RX5_56 rfl (by decide) (by decide) rfl rfl (H1.2.1.2.1) ?_
        refine g_icmp_ge (nx := 28) 62 F dX5_readParts_25 rfl (by decide) (fun c_25 => absurd c_25 (by exact nI_ge (by omega) (by omega))) (fun c_25 => ?_)
        refine g_aload_n (nx := 29) 0 F dX5_readParts_28 rfl rfl rfl ?_
        refine g_callV (nx := 32) 0 1 [] F dX5_readParts_29 rfl ml_RX5_68 mo_X5_advance rfl rfl rfl rfl (Nat.le_of_ble_eq_true rfl) (by first | decide | omega) (c_advance t n _ _ _ c _ _ _ H1 (hp1n)) (fun r_29 τ_29 q_29 => ?_)
        obtain ⟨rfl, hS_29, hf_29⟩ := q_29
        dsimp only [Option.toList, List.append, List.cons_append, List.nil_append]
        refine g_aload_n (nx := 33) 0 F dX5_readParts_32 rfl rfl rfl ?_
        refine g_getD (nx := 36) F dX5_readParts_33 rfl fl_RX5_12 rfl (by decide) (by decide) rfl rfl ?_
        rw [hS_29.2.1.1]
        refine g_bipush (nx := 38) (124) F dX5_readParts_36 rfl (by decide) ?_
        refine g_iconst (nx := 39) (0) F dX5_readParts_38 rfl rfl ?_
        refine g_callV (nx := 42) 2 0 [.int (nI (ck 12)), .int (nI 0)] F dX5_readParts_39 rfl ml_RX5_112 mo_X10_put (tx_k hS_29.1.1) rfl rfl rfl (Nat.le_of_ble_eq_true rfl) (by first | decide | omega) (c_put t n _ _ _ 12 0 c _ _ _ hS_29 (by omega) (by decide) (by decide)) (fun r_39 τ_39 q_39 => ?_)
        obtain ⟨rfl, hS_39, hf_39⟩ := q_39
        dsimp only [Option.toList, List.append, List.cons_append, List.nil_append]
        refine g_istore_n (nx := 43) 3 F dX5_readParts_42 rfl rfl (by decide) ?_
        try dsimp only [List.set]
        refine g_aload_n (nx := 44) 0 F dX5_readParts_43 rfl rfl rfl ?_
        refine g_callV (nx := 47) 0 (3 * d + 13) [] F dX5_readParts_44 rfl ml_RX5_109 mo_X5_readPieces rfl rfl rfl rfl (Nat.le_of_ble_eq_true rfl) (by first | decide | omega) (hP _ _ _ _ _ _ hS_39 hod) (fun r_44 τ_44 q_44 => ?_)
        skip
        rcases q_44 with ⟨rfl, p2, l2, op2, vl2, hS2, hf2, hp2, hl2, hk2, hw2, hR2⟩ | ⟨rfl, f2, e2, hF2, hf2, hR2⟩
        · dsimp only [Option.toList, List.append, List.cons_append, List.nil_append]
          have hw1l : l < l1 := hw1.1
          have hw2l : l1 + 1 < l2 := hw2.1
          refine g_istore_n (nx := 48) 1 F dX5_readParts_47 rfl rfl (by decide) ?_
          try dsimp only [List.set]
          refine g_aload_n (nx := 49) 0 F dX5_readParts_48 rfl rfl rfl ?_
          refine g_getD (nx := 52) F dX5_readParts_49 rfl fl_RX5_12 rfl (by decide) (by decide) rfl rfl ?_
          rw [hS2.2.1.1]
          refine g_iload_n (nx := 53) 3 F dX5_readParts_52 rfl rfl rfl ?_
          refine g_callV (nx := 56) 1 0 [.int (nI l1)] F dX5_readParts_53 rfl ml_RX5_116 mo_X10_aim (tx_k hS2.1.1) rfl rfl rfl (Nat.le_of_ble_eq_true rfl) (by first | decide | omega) (c_aim t n _ _ _ l1 c _ _ _ hS2 (by omega)) (fun r_53 τ_53 q_53 => ?_)
          obtain ⟨rfl, hS_53, hf_53⟩ := q_53
          dsimp only [Option.toList, List.append, List.cons_append, List.nil_append]
          refine g_iinc (nx := 59) (1) F dX5_readParts_56 rfl rfl (by decide) (by decide) ?_
          try dsimp only [List.set]
          refine g_goto 7 F dX5_readParts_59 (by decide) ?_
          rw [nI_1]
          refine ih (k + 1) p2 l2 op2 (updN vl2 l1 l2) _ _ (by omega) hS_53 ((((hf1.tr hf_29).tr hf_39).tr hf2).tr hf_53) (by omega) (by omega) (by omega) (fun k hk => ?_) ?_ (fun K z => (hR1 K z).tr ((s9_go hA).tr ((hR2 _ _).tr s12)))
          · rw [updN_ne _ _ (by omega), (hk2 k (by omega)).1, (hk2 k (by omega)).2, updN_ne _ _ (by omega), updN_ne _ _ (by omega)]
            exact hk1 k hk
          · refine wfB_jump (b := l1) (wfB_congr hw1 (fun k _ hk => ?_)) (wfB_congr hw2 (fun k hk _ => ⟨rfl, updN_ne _ _ (by omega)⟩)) ?_ (updN_at _ _ _)
            · rw [updN_ne _ _ (by omega), (hk2 k (by omega)).1, (hk2 k (by omega)).2]
              exact ⟨updN_ne _ _ (by omega), updN_ne _ _ (by omega)⟩
            · rw [(hk2 l1 (by omega)).1, updN_at]
              exact Or.inr rfl
        · dsimp only [Option.toList, List.append, List.cons_append, List.nil_append]
          refine g_istore_n (nx := 48) 1 F dX5_readParts_47 rfl rfl (by decide) ?_
          try dsimp only [List.set]
          refine g_aload_n (nx := 49) 0 F dX5_readParts_48 rfl rfl rfl ?_
          refine g_getD (nx := 52) F dX5_readParts_49 rfl fl_RX5_12 rfl (by decide) (by decide) rfl rfl ?_
          rw [hF2.2.1]
          refine g_iload_n (nx := 53) 3 F dX5_readParts_52 rfl rfl rfl ?_
          refine g_callV (nx := 56) 1 0 [.int (nI l1)] F dX5_readParts_53 rfl ml_RX5_116 mo_X10_aim (tx_k hF2.1) rfl rfl rfl (Nat.le_of_ble_eq_true rfl) (by first | decide | omega) (c_aimF t n _ _ (nI l1) _ hF2) (fun r_53 τ_53 q_53 => ?_)
          obtain ⟨rfl, hF_53, hf_53⟩ := q_53
          dsimp only [Option.toList, List.append, List.cons_append, List.nil_append]
          refine g_iinc (nx := 59) (1) F dX5_readParts_56 rfl rfl (by decide) (by decide) ?_
          try dsimp only [List.set]
          refine g_goto 7 F dX5_readParts_59 (by decide) ?_
          refine g_iload_n (nx := 8) 1 F dX5_readParts_7 rfl rfl rfl ?_
          refine g_if_eq (nx := 11) 62 F dX5_readParts_8 rfl (by decide) (fun c_8 => ?_) (fun c_8 => absurd c_8 (by exact fun zq => zq rfl))
          refine g_iload_n (nx := 63) 1 F dX5_readParts_62 rfl rfl rfl ?_
          refine g_zret F E dX5_readParts_63 (by first | rfl | assumption) ?_
          exact Or.inr ⟨rfl, f2, e2, hF_53, (((hf1.tr hf_29).tr hf_39).tr hf2).tr hf_53, fun K z => (hR1 K z).tr ((s9_go hA).tr (hR2 _ _))⟩
      · refine g_iload_n (nx := 8) 1 F dX5_readParts_7 rfl rfl rfl ?_
        refine g_if_eq (nx := 11) 62 F dX5_readParts_8 rfl (by decide) (fun c_8 => absurd c_8 (by decide)) (fun c_8 => ?_)
        refine g_aload_n (nx := 12) 0 F dX5_readParts_11 rfl rfl rfl ?_
        refine g_getV (nx := 15) (sgI (c p1)) F dX5_readParts_12 rfl fl_RX5_30 rfl (by decide) (by decide) rfl rfl (H1.2.1.2.2.2.1) ?_
        refine g_bipush (nx := 17) (124) F dX5_readParts_15 rfl (by decide) ?_
        refine g_icmp_ne (nx := 20) 62 F dX5_readParts_17 rfl (by decide) (fun c_17 => ?_) (fun c_17 => absurd c_17 (by exact fun zq => hA ((sgI_eq hor (by decide)).mp zq)))
        refine g_iload_n (nx := 63) 1 F dX5_readParts_62 rfl rfl rfl ?_
        refine g_zret F E dX5_readParts_63 (by first | rfl | assumption) ?_
        exact Or.inl ⟨rfl, p1, l1, op1, vl1, H1, hf1, hp1, hl1, hk1, hw1, fun K z => (hR1 K z).tr (s9_end hA)⟩
  refine g_aload_n (nx := 1) 0 F dX5_readParts_0 rfl rfl rfl ?_
  refine g_callV (nx := 4) 0 (3 * d + 13) [] F dX5_readParts_1 rfl ml_RX5_109 mo_X5_readPieces rfl rfl rfl rfl (Nat.le_of_ble_eq_true rfl) (by first | decide | omega) (hP _ _ _ _ _ _ H hod) (fun r_1 τ_1 q_1 => ?_)
  skip
  rcases q_1 with ⟨rfl, p2, l2, op2, vl2, hS2, hf2, hp2, hl2, hk2, hw2, hR2⟩ | ⟨rfl, f2, e2, hF2, hf2, hR2⟩
  · dsimp only [Option.toList, List.append, List.cons_append, List.nil_append]
    refine g_istore_n (nx := 5) 1 F dX5_readParts_4 rfl rfl (by decide) ?_
    try dsimp only [List.set]
    refine g_iconst (nx := 6) (0) F dX5_readParts_5 rfl rfl ?_
    refine g_istore_n (nx := 7) 2 F dX5_readParts_6 rfl rfl (by decide) ?_
    try dsimp only [List.set]
    exact L n 0 p2 l2 op2 vl2 _ _ (by omega) hS2 hf2 hp2 hl2 (by omega) hk2 hw2 (fun K z => hR2 _ _)
  · dsimp only [Option.toList, List.append, List.cons_append, List.nil_append]
    refine g_istore_n (nx := 5) 1 F dX5_readParts_4 rfl rfl (by decide) ?_
    try dsimp only [List.set]
    refine g_iconst (nx := 6) (0) F dX5_readParts_5 rfl rfl ?_
    refine g_istore_n (nx := 7) 2 F dX5_readParts_6 rfl rfl (by decide) ?_
    try dsimp only [List.set]
    refine g_iload_n (nx := 8) 1 F dX5_readParts_7 rfl rfl rfl ?_
    refine g_if_eq (nx := 11) 62 F dX5_readParts_8 rfl (by decide) (fun c_8 => ?_) (fun c_8 => absurd c_8 (by exact fun zq => zq rfl))
    refine g_iload_n (nx := 63) 1 F dX5_readParts_62 rfl rfl rfl ?_
    refine g_zret F E dX5_readParts_63 (by first | rfl | assumption) ?_
    exact Or.inr ⟨rfl, f2, e2, hF2, hf2, fun K z => hR2 _ _⟩
theorem c_parts (t n : Nat) (c : Nat → Nat) (hd : Nat → Bool) : ∀ d, PP t n c hd d ∧ PO t n c hd d
  | 0 => by
    have h := c_readPiece (t := t) (n := n) (c := c) (hd := hd) (d := 0) (fun q h => absurd h (by omega))
    exact ⟨h, c_readParts (c_readPieces h)⟩
  | d + 1 => by
    have h := c_readPiece (t := t) (n := n) (c := c) (hd := hd) (d := d + 1) (fun q h => by
      have e : q = d := by omega
      subst e
      exact c_parts t n c hd q)
    exact ⟨h, c_readParts (c_readPieces h)⟩
