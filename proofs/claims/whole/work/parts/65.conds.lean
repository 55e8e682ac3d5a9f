def PP (t n : Nat) (c : Nat → Nat) (hd : Nat → Bool) (d : Nat) : Prop := ∀ (σ : zSt) (p o l : Nat) (op vl : Nat → Nat), pcS σ t c n (p, o, l, op, vl) → o + d = 6 → Con mX5_readPiece (3 * d + 12) [.ref 16] σ (pE t n c hd [(6, 0)] σ p o l op vl wfB)
def PA (t n : Nat) (c : Nat → Nat) (hd : Nat → Bool) (d : Nat) : Prop := ∀ (σ : zSt) (p o l : Nat) (op vl : Nat → Nat), pcS σ t c n (p, o, l, op, vl) → o + d = 6 → Con mX5_readPieces (3 * d + 13) [.ref 16] σ (pE t n c hd [(6, 0), (8, 0)] σ p o l op vl wfB)
def PO (t n : Nat) (c : Nat → Nat) (hd : Nat → Bool) (d : Nat) : Prop := ∀ (σ : zSt) (p o l : Nat) (op vl : Nat → Nat), pcS σ t c n (p, o, l, op, vl) → o + d = 6 → Con mX5_readParts (3 * d + 14) [.ref 16] σ (pE t n c hd [(6, 0), (8, 0), (9, 0)] σ p o l op vl wfB)
set_option maxHeartbeats 4000000 in
set_option maxRecDepth 100000 in
theorem c_readPiece {t n : Nat} {c : Nat → Nat} {hd : Nat → Bool} {d : Nat} (ih : ∀ q, d = q + 1 → PP t n c hd q ∧ PO t n c hd q) : PP t n c hd d := by
  intro σ p o l op vl H hod
  refine Con.of (lv := [.ref 16, .long 0, .long 0]) mk_X5_readPiece rfl (Nat.le_of_ble_eq_true rfl) rfl (fun X F E => ?_)
  have hor := inC_or H.1.2.1 p
  have hlp := H.2.2.2.2.1
  by_cases hA : c p = 40
  · refine g_aload_n (nx := 1) 0 F dX5_readPiece_0 rfl rfl rfl ?_
    refine g_getV (nx := 4) (sgI (c p)) F dX5_readPiece_1 rfl fl_RX5_30 rfl (by decide) (by decide) rfl rfl (H.2.1.2.2.2.1) ?_
    refine g_bipush (nx := 6) (40) F dX5_readPiece_4 rfl (by decide) ?_
    refine g_icmp_ne (nx := 9) 50 F dX5_readPiece_6 rfl (by decide) (fun c_6 => absurd c_6 (by exact fun zq => zq ((sgI_eq hor (by decide)).mpr hA))) (fun c_6 => ?_)
    refine g_aload_n (nx := 10) 0 F dX5_readPiece_9 rfl rfl rfl ?_
    refine g_callV (nx := 13) 0 2 [] F dX5_readPiece_10 rfl ml_RX5_97 mo_X5_enter rfl rfl rfl rfl (Nat.le_of_ble_eq_true rfl) (by first | decide | omega) (c_enter t n p o l c op vl _ H (inC_lt H.1.2.1 (by omega))) (fun r_10 τ_10 q_10 => ?_)
    skip
    rcases q_10 with ⟨rfl, ho6, hS, hf⟩ | ⟨rfl, ho6, hF, hf⟩
    · dsimp only [Option.toList, List.append, List.cons_append, List.nil_append]
      refine g_if_eq (nx := 16) 36 F dX5_readPiece_13 rfl (by decide) (fun c_13 => absurd c_13 (by decide)) (fun c_13 => ?_)
      refine g_aload_n (nx := 17) 0 F dX5_readPiece_16 rfl rfl rfl ?_
      refine g_callV (nx := 20) 0 (3 * (d - 1) + 14) [] F dX5_readPiece_17 rfl ml_RX5_100 mo_X5_readParts rfl rfl rfl rfl (Nat.le_of_ble_eq_true rfl) (by first | decide | omega) ((ih (d - 1) (by omega)).2 _ _ _ _ _ _ hS (by omega)) (fun r_17 τ_17 q_17 => ?_)
      skip
      rcases q_17 with ⟨rfl, p2, l2, op2, vl2, hS2, hf2, hp2, hl2, hk2, hw2, hR2⟩ | ⟨rfl, f2, e2, hF2, hf2, hR2⟩
      · dsimp only [Option.toList, List.append, List.cons_append, List.nil_append]
        refine g_if_eq (nx := 23) 36 F dX5_readPiece_20 rfl (by decide) (fun c_20 => absurd c_20 (by decide)) (fun c_20 => ?_)
        refine g_aload_n (nx := 24) 0 F dX5_readPiece_23 rfl rfl rfl ?_
        refine g_bipush (nx := 26) (41) F dX5_readPiece_24 rfl (by decide) ?_
        show Gs X 26 _ (.int (nI 41) :: .ref 16 :: []) _
        refine g_callV (nx := 29) 1 2 [.int (nI 41)] F dX5_readPiece_26 rfl ml_RX5_34 mo_X5_take rfl rfl rfl rfl (Nat.le_of_ble_eq_true rfl) (by first | decide | omega) (c_take 41 t n p2 (o + 1) l2 c op2 vl2 _ hS2 (by decide)) (fun r_26 τ_26 q_26 => ?_)
        skip
        rcases q_26 with ⟨rfl, h3, hS3, hf3⟩ | ⟨rfl, h3, hF3, hf3⟩
        · dsimp only [Option.toList, List.append, List.cons_append, List.nil_append]
          refine g_if_eq (nx := 32) 36 F dX5_readPiece_29 rfl (by decide) (fun c_29 => absurd c_29 (by decide)) (fun c_29 => ?_)
          refine g_iconst (nx := 33) (1) F dX5_readPiece_32 rfl rfl ?_
          refine g_goto 37 F dX5_readPiece_33 (by decide) ?_
          refine g_istore_n (nx := 38) 1 F dX5_readPiece_37 rfl rfl (by decide) ?_
          try dsimp only [List.set]
          refine g_aload_n (nx := 39) 0 F dX5_readPiece_38 rfl rfl rfl ?_
          refine g_dup (nx := 40) F dX5_readPiece_39 rfl rfl ?_
          refine g_getV (nx := 43) (nI (o + 1)) F dX5_readPiece_40 rfl fl_RX5_59 rfl (by decide) (by decide) rfl rfl (hS3.2.1.2.2.2.2.1) ?_
          refine g_iconst (nx := 44) (1) F dX5_readPiece_43 rfl rfl ?_
          refine g_isub (nx := 45) F dX5_readPiece_44 rfl ?_
          rw [nI_pred]
          refine g_putI (nx := 48) F dX5_readPiece_45 rfl fl_RX5_59 fi_4_5 rfl (by decide) (by decide) rfl rfl ?_
          have h4 := pcS_dn hS3
          refine g_iload_n (nx := 49) 1 F dX5_readPiece_48 rfl rfl rfl ?_
          refine g_zret F E dX5_readPiece_49 (by first | rfl | assumption) ?_
          exact Or.inl ⟨rfl, p2 + 1, l2, op2, vl2, h4.1, ((hf.tr hf2).tr hf3).tr h4.2, by omega, by omega, hk2, hw2, fun K z => ((s6_open hA ho6).tr (hR2 _ _)).tr (s10_go h3)⟩
        · dsimp only [Option.toList, List.append, List.cons_append, List.nil_append]
          refine g_if_eq (nx := 32) 36 F dX5_readPiece_29 rfl (by decide) (fun c_29 => ?_) (fun c_29 => absurd c_29 (by exact fun zq => zq rfl))
          refine g_iconst (nx := 37) (0) F dX5_readPiece_36 rfl rfl ?_
          refine g_istore_n (nx := 38) 1 F dX5_readPiece_37 rfl rfl (by decide) ?_
          try dsimp only [List.set]
          refine g_aload_n (nx := 39) 0 F dX5_readPiece_38 rfl rfl rfl ?_
          refine g_dup (nx := 40) F dX5_readPiece_39 rfl rfl ?_
          refine g_getI (nx := 43) F dX5_readPiece_40 rfl fl_RX5_59 rfl (by decide) (by decide) rfl rfl ?_
          refine g_iconst (nx := 44) (1) F dX5_readPiece_43 rfl rfl ?_
          refine g_isub (nx := 45) F dX5_readPiece_44 rfl ?_
          refine g_putI (nx := 48) F dX5_readPiece_45 rfl fl_RX5_59 fi_4_5 rfl (by decide) (by decide) rfl rfl ?_
          have hG := pcF_dn hF3
          refine g_iload_n (nx := 49) 1 F dX5_readPiece_48 rfl rfl rfl ?_
          refine g_zret F E dX5_readPiece_49 (by first | rfl | assumption) ?_
          exact Or.inr ⟨rfl, 1, (p2, o + 1, l2, op2, vl2), hG.1, ((hf.tr hf2).tr hf3).tr hG.2, fun K z => ((s6_open hA ho6).tr (hR2 _ _)).tr (s10_bad h3)⟩
      · dsimp only [Option.toList, List.append, List.cons_append, List.nil_append]
        refine g_if_eq (nx := 23) 36 F dX5_readPiece_20 rfl (by decide) (fun c_20 => ?_) (fun c_20 => absurd c_20 (by exact fun zq => zq rfl))
        refine g_iconst (nx := 37) (0) F dX5_readPiece_36 rfl rfl ?_
        refine g_istore_n (nx := 38) 1 F dX5_readPiece_37 rfl rfl (by decide) ?_
        try dsimp only [List.set]
        refine g_aload_n (nx := 39) 0 F dX5_readPiece_38 rfl rfl rfl ?_
        refine g_dup (nx := 40) F dX5_readPiece_39 rfl rfl ?_
        refine g_getI (nx := 43) F dX5_readPiece_40 rfl fl_RX5_59 rfl (by decide) (by decide) rfl rfl ?_
        refine g_iconst (nx := 44) (1) F dX5_readPiece_43 rfl rfl ?_
        refine g_isub (nx := 45) F dX5_readPiece_44 rfl ?_
        refine g_putI (nx := 48) F dX5_readPiece_45 rfl fl_RX5_59 fi_4_5 rfl (by decide) (by decide) rfl rfl ?_
        have hG := pcF_dn hF2
        refine g_iload_n (nx := 49) 1 F dX5_readPiece_48 rfl rfl rfl ?_
        refine g_zret F E dX5_readPiece_49 (by first | rfl | assumption) ?_
        exact Or.inr ⟨rfl, f2, e2, hG.1, (hf.tr hf2).tr hG.2, fun K z => (s6_open hA ho6).tr (hR2 _ _)⟩
    · dsimp only [Option.toList, List.append, List.cons_append, List.nil_append]
      refine g_if_eq (nx := 16) 36 F dX5_readPiece_13 rfl (by decide) (fun c_13 => ?_) (fun c_13 => absurd c_13 (by exact fun zq => zq rfl))
      refine g_iconst (nx := 37) (0) F dX5_readPiece_36 rfl rfl ?_
      refine g_istore_n (nx := 38) 1 F dX5_readPiece_37 rfl rfl (by decide) ?_
      try dsimp only [List.set]
      refine g_aload_n (nx := 39) 0 F dX5_readPiece_38 rfl rfl rfl ?_
      refine g_dup (nx := 40) F dX5_readPiece_39 rfl rfl ?_
      refine g_getI (nx := 43) F dX5_readPiece_40 rfl fl_RX5_59 rfl (by decide) (by decide) rfl rfl ?_
      refine g_iconst (nx := 44) (1) F dX5_readPiece_43 rfl rfl ?_
      refine g_isub (nx := 45) F dX5_readPiece_44 rfl ?_
      refine g_putI (nx := 48) F dX5_readPiece_45 rfl fl_RX5_59 fi_4_5 rfl (by decide) (by decide) rfl rfl ?_
      have hG := pcF_dn hF
      refine g_iload_n (nx := 49) 1 F dX5_readPiece_48 rfl rfl rfl ?_
      refine g_zret F E dX5_readPiece_49 (by first | rfl | assumption) ?_
      exact Or.inr ⟨rfl, 5, (p, o, l, op, vl), hG.1, hf.tr hG.2, fun K z => s6_deep hA ho6⟩
  · by_cases hB : c p = 33
    · refine g_aload_n (nx := 1) 0 F dX5_readPiece_0 rfl rfl rfl ?_
      refine g_getV (nx := 4) (sgI (c p)) F dX5_readPiece_1 rfl fl_RX5_30 rfl (by decide) (by decide) rfl rfl (H.2.1.2.2.2.1) ?_
      refine g_bipush (nx := 6) (40) F dX5_readPiece_4 rfl (by decide) ?_
      refine g_icmp_ne (nx := 9) 50 F dX5_readPiece_6 rfl (by decide) (fun c_6 => ?_) (fun c_6 => absurd c_6 (by exact fun zq => hA ((sgI_eq hor (by decide)).mp zq)))
      refine g_aload_n (nx := 51) 0 F dX5_readPiece_50 rfl rfl rfl ?_
      refine g_getV (nx := 54) (sgI (c p)) F dX5_readPiece_51 rfl fl_RX5_30 rfl (by decide) (by decide) rfl rfl (H.2.1.2.2.2.1) ?_
      refine g_bipush (nx := 56) (33) F dX5_readPiece_54 rfl (by decide) ?_
      refine g_icmp_ne (nx := 59) 102 F dX5_readPiece_56 rfl (by decide) (fun c_56 => absurd c_56 (by exact fun zq => zq ((sgI_eq hor (by decide)).mpr hB))) (fun c_56 => ?_)
      refine g_aload_n (nx := 60) 0 F dX5_readPiece_59 rfl rfl rfl ?_
      refine g_callV (nx := 63) 0 2 [] F dX5_readPiece_60 rfl ml_RX5_97 mo_X5_enter rfl rfl rfl rfl (Nat.le_of_ble_eq_true rfl) (by first | decide | omega) (c_enter t n p o l c op vl _ H (inC_lt H.1.2.1 (by omega))) (fun r_60 τ_60 q_60 => ?_)
      skip
      rcases q_60 with ⟨rfl, ho6, hS, hf⟩ | ⟨rfl, ho6, hF, hf⟩
      · dsimp only [Option.toList, List.append, List.cons_append, List.nil_append]
        refine g_if_eq (nx := 66) 77 F dX5_readPiece_63 rfl (by decide) (fun c_63 => absurd c_63 (by decide)) (fun c_63 => ?_)
        refine g_aload_n (nx := 67) 0 F dX5_readPiece_66 rfl rfl rfl ?_
        refine g_callV (nx := 70) 0 (3 * (d - 1) + 12) [] F dX5_readPiece_67 rfl ml_RX5_116 mo_X5_readPiece rfl rfl rfl rfl (Nat.le_of_ble_eq_true rfl) (by first | decide | omega) ((ih (d - 1) (by omega)).1 _ _ _ _ _ _ hS (by omega)) (fun r_67 τ_67 q_67 => ?_)
        skip
        rcases q_67 with ⟨rfl, p2, l2, op2, vl2, hS2, hf2, hp2, hl2, hk2, hw2, hR2⟩ | ⟨rfl, f2, e2, hF2, hf2, hR2⟩
        · dsimp only [Option.toList, List.append, List.cons_append, List.nil_append]
          have hw2l : l < l2 := hw2.1
          refine g_if_eq (nx := 73) 77 F dX5_readPiece_70 rfl (by decide) (fun c_70 => absurd c_70 (by decide)) (fun c_70 => ?_)
          refine g_iconst (nx := 74) (1) F dX5_readPiece_73 rfl rfl ?_
          refine g_goto 78 F dX5_readPiece_74 (by decide) ?_
          refine g_istore_n (nx := 79) 1 F dX5_readPiece_78 rfl rfl (by decide) ?_
          try dsimp only [List.set]
          refine g_aload_n (nx := 80) 0 F dX5_readPiece_79 rfl rfl rfl ?_
          refine g_dup (nx := 81) F dX5_readPiece_80 rfl rfl ?_
          refine g_getV (nx := 84) (nI (o + 1)) F dX5_readPiece_81 rfl fl_RX5_59 rfl (by decide) (by decide) rfl rfl (hS2.2.1.2.2.2.2.1) ?_
          refine g_iconst (nx := 85) (1) F dX5_readPiece_84 rfl rfl ?_
          refine g_isub (nx := 86) F dX5_readPiece_85 rfl ?_
          rw [nI_pred]
          refine g_putI (nx := 89) F dX5_readPiece_86 rfl fl_RX5_59 fi_4_5 rfl (by decide) (by decide) rfl rfl ?_
          have H3 : pcS (zu τ_67 16 5 (nI o)) t c n (p2, o, l2, op2, vl2) := pcS_16 hS2 (fun a ha => by rw [zu_ne _ ha]) rfl rfl hS2.2.1.2.2.1 hS2.2.1.2.2.2.1 rfl hS2.2.1.2.2.2.2.2 hS2.2.2.2.1 hS2.2.2.2.2.1 (by omega)
          have f3 : frC t τ_67 (zu τ_67 16 5 (nI o)) := frC.of16 H.1.1 (fun a ha => by rw [zu_ne _ ha]) rfl
          refine g_aload_n (nx := 90) 0 F dX5_readPiece_89 rfl rfl rfl ?_
          refine g_getD (nx := 93) F dX5_readPiece_90 rfl fl_RX5_12 rfl (by decide) (by decide) rfl rfl ?_
          rw [H3.2.1.1]
          refine g_bipush (nx := 95) (33) F dX5_readPiece_93 rfl (by decide) ?_
          refine g_iconst (nx := 96) (0) F dX5_readPiece_95 rfl rfl ?_
          refine g_callV (nx := 99) 2 0 [.int (nI (ck 10)), .int (nI 0)] F dX5_readPiece_96 rfl ml_RX5_109 mo_X10_put (tx_k H3.1.1) rfl rfl rfl (Nat.le_of_ble_eq_true rfl) (by first | decide | omega) (c_put t n _ _ _ 10 0 c _ _ _ H3 (by omega) (by decide) (by decide)) (fun r_96 τ_96 q_96 => ?_)
          obtain ⟨rfl, hS_96, hf_96⟩ := q_96
          dsimp only [Option.toList, List.append, List.cons_append, List.nil_append]
          refine g_pop (nx := 100) F dX5_readPiece_99 rfl rfl ?_
          refine g_iload_n (nx := 101) 1 F dX5_readPiece_100 rfl rfl rfl ?_
          refine g_zret F E dX5_readPiece_101 (by first | rfl | assumption) ?_
          refine Or.inl ⟨rfl, p2, l2 + 1, updN op2 l2 10, updN vl2 l2 0, hS_96, ((hf.tr hf2).tr f3).tr hf_96, by omega, by omega, fun k hk => ?_, wfB_not (wfB_congr hw2 (fun k _ hk => ⟨updN_ne _ _ (by omega), updN_ne _ _ (by omega)⟩)) (updN_at _ _ _), fun K z => ((s6_not hB ho6).tr (hR2 _ _)).tr s7⟩
          rw [updN_ne _ _ (by omega), updN_ne _ _ (by omega)]
          exact hk2 k hk
        · dsimp only [Option.toList, List.append, List.cons_append, List.nil_append]
          refine g_if_eq (nx := 73) 77 F dX5_readPiece_70 rfl (by decide) (fun c_70 => ?_) (fun c_70 => absurd c_70 (by exact fun zq => zq rfl))
          refine g_iconst (nx := 78) (0) F dX5_readPiece_77 rfl rfl ?_
          refine g_istore_n (nx := 79) 1 F dX5_readPiece_78 rfl rfl (by decide) ?_
          try dsimp only [List.set]
          refine g_aload_n (nx := 80) 0 F dX5_readPiece_79 rfl rfl rfl ?_
          refine g_dup (nx := 81) F dX5_readPiece_80 rfl rfl ?_
          refine g_getI (nx := 84) F dX5_readPiece_81 rfl fl_RX5_59 rfl (by decide) (by decide) rfl rfl ?_
          refine g_iconst (nx := 85) (1) F dX5_readPiece_84 rfl rfl ?_
          refine g_isub (nx := 86) F dX5_readPiece_85 rfl ?_
          refine g_putI (nx := 89) F dX5_readPiece_86 rfl fl_RX5_59 fi_4_5 rfl (by decide) (by decide) rfl rfl ?_
          have hG := pcF_16b (τ := zu τ_67 16 5 (τ_67 16 5 - 1)) hF2 (fun a ha => by rw [zu_ne _ ha]) rfl rfl rfl rfl
          refine g_aload_n (nx := 90) 0 F dX5_readPiece_89 rfl rfl rfl ?_
          refine g_getD (nx := 93) F dX5_readPiece_90 rfl fl_RX5_12 rfl (by decide) (by decide) rfl rfl ?_
          rw [hG.1.2.1]
          refine g_bipush (nx := 95) (33) F dX5_readPiece_93 rfl (by decide) ?_
          refine g_iconst (nx := 96) (0) F dX5_readPiece_95 rfl rfl ?_
          refine g_callV (nx := 99) 2 0 [.int 33, .int 0] F dX5_readPiece_96 rfl ml_RX5_109 mo_X10_put (tx_k hG.1.1) rfl rfl rfl (Nat.le_of_ble_eq_true rfl) (by first | decide | omega) (c_putF t n _ _ 33 0 _ hG.1) (fun r_96 τ_96 q_96 => ?_)
          obtain ⟨⟨x_96, rfl⟩, hF_96, hf_96⟩ := q_96
          dsimp only [Option.toList, List.append, List.cons_append, List.nil_append]
          refine g_pop (nx := 100) F dX5_readPiece_99 rfl rfl ?_
          refine g_iload_n (nx := 101) 1 F dX5_readPiece_100 rfl rfl rfl ?_
          refine g_zret F E dX5_readPiece_101 (by first | rfl | assumption) ?_
          exact Or.inr ⟨rfl, f2, e2, hF_96, ((hf.tr hf2).tr hG.2).tr hf_96, fun K z => (s6_not hB ho6).tr (hR2 _ _)⟩
      · dsimp only [Option.toList, List.append, List.cons_append, List.nil_append]
        refine g_if_eq (nx := 66) 77 F dX5_readPiece_63 rfl (by decide) (fun c_63 => ?_) (fun c_63 => absurd c_63 (by exact fun zq => zq rfl))
        refine g_iconst (nx := 78) (0) F dX5_readPiece_77 rfl rfl ?_
        refine g_istore_n (nx := 79) 1 F dX5_readPiece_78 rfl rfl (by decide) ?_
        try dsimp only [List.set]
        refine g_aload_n (nx := 80) 0 F dX5_readPiece_79 rfl rfl rfl ?_
        refine g_dup (nx := 81) F dX5_readPiece_80 rfl rfl ?_
        refine g_getI (nx := 84) F dX5_readPiece_81 rfl fl_RX5_59 rfl (by decide) (by decide) rfl rfl ?_
        refine g_iconst (nx := 85) (1) F dX5_readPiece_84 rfl rfl ?_
        refine g_isub (nx := 86) F dX5_readPiece_85 rfl ?_
        refine g_putI (nx := 89) F dX5_readPiece_86 rfl fl_RX5_59 fi_4_5 rfl (by decide) (by decide) rfl rfl ?_
        have hG := pcF_16b (τ := zu τ_60 16 5 (τ_60 16 5 - 1)) hF (fun a ha => by rw [zu_ne _ ha]) rfl rfl rfl rfl
        refine g_aload_n (nx := 90) 0 F dX5_readPiece_89 rfl rfl rfl ?_
        refine g_getD (nx := 93) F dX5_readPiece_90 rfl fl_RX5_12 rfl (by decide) (by decide) rfl rfl ?_
        rw [hG.1.2.1]
        refine g_bipush (nx := 95) (33) F dX5_readPiece_93 rfl (by decide) ?_
        refine g_iconst (nx := 96) (0) F dX5_readPiece_95 rfl rfl ?_
        refine g_callV (nx := 99) 2 0 [.int 33, .int 0] F dX5_readPiece_96 rfl ml_RX5_109 mo_X10_put (tx_k hG.1.1) rfl rfl rfl (Nat.le_of_ble_eq_true rfl) (by first | decide | omega) (c_putF t n _ _ 33 0 _ hG.1) (fun r_96 τ_96 q_96 => ?_)
        obtain ⟨⟨x_96, rfl⟩, hF_96, hf_96⟩ := q_96
        dsimp only [Option.toList, List.append, List.cons_append, List.nil_append]
        refine g_pop (nx := 100) F dX5_readPiece_99 rfl rfl ?_
        refine g_iload_n (nx := 101) 1 F dX5_readPiece_100 rfl rfl rfl ?_
        refine g_zret F E dX5_readPiece_101 (by first | rfl | assumption) ?_
        exact Or.inr ⟨rfl, 5, (p, o, l, op, vl), hF_96, (hf.tr hG.2).tr hf_96, fun K z => s6_ndeep hB ho6⟩
    · refine g_aload_n (nx := 1) 0 F dX5_readPiece_0 rfl rfl rfl ?_
      refine g_getV (nx := 4) (sgI (c p)) F dX5_readPiece_1 rfl fl_RX5_30 rfl (by decide) (by decide) rfl rfl (H.2.1.2.2.2.1) ?_
      refine g_bipush (nx := 6) (40) F dX5_readPiece_4 rfl (by decide) ?_
      refine g_icmp_ne (nx := 9) 50 F dX5_readPiece_6 rfl (by decide) (fun c_6 => ?_) (fun c_6 => absurd c_6 (by exact fun zq => hA ((sgI_eq hor (by decide)).mp zq)))
      refine g_aload_n (nx := 51) 0 F dX5_readPiece_50 rfl rfl rfl ?_
      refine g_getV (nx := 54) (sgI (c p)) F dX5_readPiece_51 rfl fl_RX5_30 rfl (by decide) (by decide) rfl rfl (H.2.1.2.2.2.1) ?_
      refine g_bipush (nx := 56) (33) F dX5_readPiece_54 rfl (by decide) ?_
      refine g_icmp_ne (nx := 59) 102 F dX5_readPiece_56 rfl (by decide) (fun c_56 => ?_) (fun c_56 => absurd c_56 (by exact fun zq => hB ((sgI_eq hor (by decide)).mp zq)))
      refine g_aload_n (nx := 103) 0 F dX5_readPiece_102 rfl rfl rfl ?_
      refine g_callV (nx := 106) 0 (3 * d + 8) [] F dX5_readPiece_103 rfl ml_RX5_48 mo_X5_readTerms rfl rfl rfl rfl (Nat.le_of_ble_eq_true rfl) (by first | decide | omega) (c_terms t n c hd d _ _ _ _ _ _ H hod) (fun r_103 τ_103 q_103 => ?_)
      skip
      rcases q_103 with ⟨rfl, p2, l2, op2, vl2, hS2, hf2, hp2, hl2, hk2, hw2, hR2⟩ | ⟨rfl, f2, e2, hF2, hf2, hR2⟩
      · dsimp only [Option.toList, List.append, List.cons_append, List.nil_append]
        have hw2l : l < l2 := hw2.1
        have hlp := H.2.2.2.2.1
        by_cases hC : cmF (c p2) = 0
        · refine g_if_ne (nx := 109) 111 F dX5_readPiece_106 rfl (by decide) (fun c_106 => ?_) (fun c_106 => absurd c_106 (by decide))
          refine g_aload_n (nx := 112) 0 F dX5_readPiece_111 rfl rfl rfl ?_
          refine g_ldcS (nx := 114) 5 F dX5_readPiece_112 rfl (by decide) rfl ?_
          refine g_callV (nx := 117) 1 4 [.ref 1005] F dX5_readPiece_114 rfl ml_RX5_82 mo_X5_sees rfl rfl rfl rfl (Nat.le_of_ble_eq_true rfl) (by first | decide | omega) (c_sees 5 t n p2 o l2 c op2 vl2 _ hS2 (by decide)) (fun r_114 τ_114 q_114 => ?_)
          obtain ⟨rfl, et_114⟩ := q_114
          have et_114 := et_114.symm
          subst et_114
          dsimp only [Option.toList, List.append, List.cons_append, List.nil_append]
          refine g_if_ne (nx := 120) 126 F dX5_readPiece_117 rfl (by decide) (fun c_117 => absurd c_117 (by exact fun zq => zq (bI_f (fun z => absurd hC ((see_5 _ z.1).1.mp z.2))))) (fun c_117 => ?_)
          refine g_aload_n (nx := 121) 0 F dX5_readPiece_120 rfl rfl rfl ?_
          refine g_iconst (nx := 122) (1) F dX5_readPiece_121 rfl rfl ?_
          show Gs X 122 _ (.int (nI 1) :: .ref 16 :: []) _
          refine g_callV (nx := 125) 1 0 [.int (nI 1)] F dX5_readPiece_122 rfl ml_RX5_52 mo_X5_fail rfl rfl rfl rfl (Nat.le_of_ble_eq_true rfl) (by first | decide | omega) (c_fail t n _ _ _ 1 c _ _ _ hS2 (by decide)) (fun r_122 τ_122 q_122 => ?_)
          obtain ⟨rfl, hF_122, hf_122⟩ := q_122
          dsimp only [Option.toList, List.append, List.cons_append, List.nil_append]
          refine g_zret F E dX5_readPiece_125 (by first | rfl | assumption) ?_
          exact Or.inr ⟨rfl, 1, (p2, o, l2, op2, vl2), hF_122, hf2.tr hf_122, fun K z => ((s6_cmp hA hB).tr (hR2 _ _)).tr (s11_bad hC)⟩
        · have hlt : c p2 < 256 := cm_lt hC
          have hp2n := inC_lt (p := p2) hS2.1.2.1 (by omega)
          have hck := (see_5 _ hlt).2 hC
          have hsg : sgI (c p2) = nI (ck (cmF (c p2))) := by rw [show sgI (c p2) = nI (c p2) from if_neg (by omega)]; exact congrArg nI hck.1.symm
          refine g_if_ne (nx := 109) 111 F dX5_readPiece_106 rfl (by decide) (fun c_106 => ?_) (fun c_106 => absurd c_106 (by decide))
          refine g_aload_n (nx := 112) 0 F dX5_readPiece_111 rfl rfl rfl ?_
          refine g_ldcS (nx := 114) 5 F dX5_readPiece_112 rfl (by decide) rfl ?_
          refine g_callV (nx := 117) 1 4 [.ref 1005] F dX5_readPiece_114 rfl ml_RX5_82 mo_X5_sees rfl rfl rfl rfl (Nat.le_of_ble_eq_true rfl) (by first | decide | omega) (c_sees 5 t n p2 o l2 c op2 vl2 _ hS2 (by decide)) (fun r_114 τ_114 q_114 => ?_)
          obtain ⟨rfl, et_114⟩ := q_114
          have et_114 := et_114.symm
          subst et_114
          dsimp only [Option.toList, List.append, List.cons_append, List.nil_append]
          refine g_if_ne (nx := 120) 126 F dX5_readPiece_117 rfl (by decide) (fun c_117 => ?_) (fun c_117 => absurd c_117 (by exact bI_n0.mpr ⟨hlt, (see_5 _ hlt).1.mpr hC⟩))
          refine g_aload_n (nx := 127) 0 F dX5_readPiece_126 rfl rfl rfl ?_
          refine g_getV (nx := 130) (sgI (c p2)) F dX5_readPiece_127 rfl fl_RX5_30 rfl (by decide) (by decide) rfl rfl (hS2.2.1.2.2.2.1) ?_
          refine g_istore_n (nx := 131) 1 F dX5_readPiece_130 rfl rfl (by decide) ?_
          try dsimp only [List.set]
          refine g_aload_n (nx := 132) 0 F dX5_readPiece_131 rfl rfl rfl ?_
          refine g_callV (nx := 135) 0 1 [] F dX5_readPiece_132 rfl ml_RX5_68 mo_X5_advance rfl rfl rfl rfl (Nat.le_of_ble_eq_true rfl) (by first | decide | omega) (c_advance t n _ _ _ c _ _ _ hS2 (hp2n)) (fun r_132 τ_132 q_132 => ?_)
          obtain ⟨rfl, hS_132, hf_132⟩ := q_132
          dsimp only [Option.toList, List.append, List.cons_append, List.nil_append]
          refine g_aload_n (nx := 136) 0 F dX5_readPiece_135 rfl rfl rfl ?_
          refine g_callV (nx := 139) 0 (3 * d + 8) [] F dX5_readPiece_136 rfl ml_RX5_48 mo_X5_readTerms rfl rfl rfl rfl (Nat.le_of_ble_eq_true rfl) (by first | decide | omega) (c_terms t n c hd d _ _ _ _ _ _ hS_132 hod) (fun r_136 τ_136 q_136 => ?_)
          skip
          rcases q_136 with ⟨rfl, p3, l3, op3, vl3, hS3, hf3, hp3, hl3, hk3, hw3, hR3⟩ | ⟨rfl, f3, e3, hF3, hf3, hR3⟩
          · dsimp only [Option.toList, List.append, List.cons_append, List.nil_append]
            have hw3l : l2 < l3 := hw3.1
            refine g_istore_n (nx := 140) 2 F dX5_readPiece_139 rfl rfl (by decide) ?_
            try dsimp only [List.set]
            refine g_aload_n (nx := 141) 0 F dX5_readPiece_140 rfl rfl rfl ?_
            refine g_getD (nx := 144) F dX5_readPiece_141 rfl fl_RX5_12 rfl (by decide) (by decide) rfl rfl ?_
            rw [hS3.2.1.1]
            refine g_iload_n (nx := 145) 1 F dX5_readPiece_144 rfl rfl rfl ?_
            refine g_iconst (nx := 146) (0) F dX5_readPiece_145 rfl rfl ?_
            rw [hsg]
            refine g_callV (nx := 149) 2 0 [.int (nI (ck (cmF (c p2)))), .int (nI 0)] F dX5_readPiece_146 rfl ml_RX5_109 mo_X10_put (tx_k hS3.1.1) rfl rfl rfl (Nat.le_of_ble_eq_true rfl) (by first | decide | omega) (c_put t n _ _ _ (cmF (c p2)) 0 c _ _ _ hS3 (by omega) (by decide) (by omega)) (fun r_146 τ_146 q_146 => ?_)
            obtain ⟨rfl, hS_146, hf_146⟩ := q_146
            dsimp only [Option.toList, List.append, List.cons_append, List.nil_append]
            refine g_pop (nx := 150) F dX5_readPiece_149 rfl rfl ?_
            refine g_iload_n (nx := 151) 2 F dX5_readPiece_150 rfl rfl rfl ?_
            refine g_zret F E dX5_readPiece_151 (by first | rfl | assumption) ?_
            refine Or.inl ⟨rfl, p3, l3 + 1, updN op3 l3 (cmF (c p2)), updN vl3 l3 0, hS_146, ((hf2.tr hf_132).tr hf3).tr hf_146, by omega, by omega, fun k hk => ?_, ?_, fun K z => ((((s6_cmp hA hB).tr (hR2 _ _)).tr (s11_go hC)).tr (hR3 _ _)).tr s2⟩
            · rw [updN_ne _ _ (by omega), updN_ne _ _ (by omega), (hk3 k (by omega)).1, (hk3 k (by omega)).2]
              exact hk2 k hk
            · refine wfB_cmp (h := 2 * d + 3) (wfE_congr hw2 (fun k hk => ?_)) (wfE_congr hw3 (fun k hk => ⟨updN_ne _ _ (by omega), updN_ne _ _ (by omega)⟩)) (by rw [updN_at]; omega) (by omega)
              rw [updN_ne _ _ (by omega), updN_ne _ _ (by omega)]
              exact hk3 k hk
          · dsimp only [Option.toList, List.append, List.cons_append, List.nil_append]
            refine g_istore_n (nx := 140) 2 F dX5_readPiece_139 rfl rfl (by decide) ?_
            try dsimp only [List.set]
            refine g_aload_n (nx := 141) 0 F dX5_readPiece_140 rfl rfl rfl ?_
            refine g_getD (nx := 144) F dX5_readPiece_141 rfl fl_RX5_12 rfl (by decide) (by decide) rfl rfl ?_
            rw [hF3.2.1]
            refine g_iload_n (nx := 145) 1 F dX5_readPiece_144 rfl rfl rfl ?_
            refine g_iconst (nx := 146) (0) F dX5_readPiece_145 rfl rfl ?_
            rw [hsg]
            refine g_callV (nx := 149) 2 0 [.int (nI (ck (cmF (c p2)))), .int 0] F dX5_readPiece_146 rfl ml_RX5_109 mo_X10_put (tx_k hF3.1) rfl rfl rfl (Nat.le_of_ble_eq_true rfl) (by first | decide | omega) (c_putF t n _ _ (nI (ck (cmF (c p2)))) 0 _ hF3) (fun r_146 τ_146 q_146 => ?_)
            obtain ⟨⟨x_146, rfl⟩, hF_146, hf_146⟩ := q_146
            dsimp only [Option.toList, List.append, List.cons_append, List.nil_append]
            refine g_pop (nx := 150) F dX5_readPiece_149 rfl rfl ?_
            refine g_iload_n (nx := 151) 2 F dX5_readPiece_150 rfl rfl rfl ?_
            refine g_zret F E dX5_readPiece_151 (by first | rfl | assumption) ?_
            exact Or.inr ⟨rfl, f3, e3, hF_146, ((hf2.tr hf_132).tr hf3).tr hf_146, fun K z => (((s6_cmp hA hB).tr (hR2 _ _)).tr (s11_go hC)).tr (hR3 _ _)⟩
      · dsimp only [Option.toList, List.append, List.cons_append, List.nil_append]
        refine g_if_ne (nx := 109) 111 F dX5_readPiece_106 rfl (by decide) (fun c_106 => absurd c_106 (by exact fun zq => zq rfl)) (fun c_106 => ?_)
        refine g_iconst (nx := 110) (0) F dX5_readPiece_109 rfl rfl ?_
        refine g_zret F E dX5_readPiece_110 (by first | rfl | assumption) ?_
        exact Or.inr ⟨rfl, f2, e2, hF2, hf2, fun K z => (s6_cmp hA hB).tr (hR2 _ _)⟩
set_option maxHeartbeats 4000000 in
set_option maxRecDepth 100000 in
theorem c_readPieces {t n : Nat} {c : Nat → Nat} {hd : Nat → Bool} {d : Nat} (hP : PP t n c hd d) : PA t n c hd d := by
  intro σ p o l op vl H hod
  refine Con.of (lv := [.ref 16, .long 0, .long 0, .long 0]) mk_X5_readPieces rfl (Nat.le_of_ble_eq_true rfl) rfl (fun X F E => ?_)
  have L : ∀ (q k p1 l1 : Nat) (op1 vl1 : Nat → Nat) (τ : zSt) (z3 : Value), n ≤ p1 + q → pcS τ t c n (p1, o, l1, op1, vl1) → frC t σ τ → p < p1 → l1 + p ≤ l + p1 → k < p1 → (∀ k, k < l → op1 k = op k ∧ vl1 k = vl k) → wfB op1 vl1 l l1 → (∀ K z, Rn c hd ([(6, 0), (8, 0)] ++ K, (p, o, l, op, vl), z) ((8, 0) :: K, (p1, o, l1, op1, vl1), z)) → Gs X 7 [.ref 16, .int 1, .int (nI k), z3] [] τ := by
    intro q
    induction q with
    | zero =>
      intro k p1 l1 op1 vl1 τ z3 hq H1 hf1 hp1 hl1 hk hk1 hw1 hR1
      have hn160 := H1.1.2.2.1
      have hor := inC_or H1.1.2.1 p1
      have hA : ¬ c p1 = 38 := by rw [H1.1.2.1.2 p1 hq]; decide
      refine g_iload_n (nx := 8) 1 F dX5_readPieces_7 rfl rfl rfl ?_
      refine g_if_eq (nx := 11) 62 F dX5_readPieces_8 rfl (by decide) (fun c_8 => absurd c_8 (by decide)) (fun c_8 => ?_)
      refine g_aload_n (nx := 12) 0 F dX5_readPieces_11 rfl rfl rfl ?_
      refine g_getV (nx := 15) (sgI (c p1)) F dX5_readPieces_12 rfl fl_RX5_30 rfl (by decide) (by decide) rfl rfl (H1.2.1.2.2.2.1) ?_
      refine g_bipush (nx := 17) (38) F dX5_readPieces_15 rfl (by decide) ?_
      refine g_icmp_ne (nx := 20) 62 F dX5_readPieces_17 rfl (by decide) (fun c_17 => ?_) (fun c_17 => absurd c_17 (by exact fun zq => hA ((sgI_eq hor (by decide)).mp zq)))
      refine g_iload_n (nx := 63) 1 F dX5_readPieces_62 rfl rfl rfl ?_
      refine g_zret F E dX5_readPieces_63 (by first | rfl | assumption) ?_
      exact Or.inl ⟨rfl, p1, l1, op1, vl1, H1, hf1, hp1, hl1, hk1, hw1, fun K z => (hR1 K z).tr (s8_end hA)⟩
    | succ q ih =>
      intro k p1 l1 op1 vl1 τ z3 hq H1 hf1 hp1 hl1 hk hk1 hw1 hR1
      have hn160 := H1.1.2.2.1
      have hlp := H.2.2.2.2.1
      have hor := inC_or H1.1.2.1 p1
      by_cases hA : c p1 = 38
      · have hp1n := inC_lt (p := p1) H1.1.2.1 (by omega)
        refine g_iload_n (nx := 8) 1 F dX5_readPieces_7 rfl rfl rfl ?_
        refine g_if_eq (nx := 11) 62 F dX5_readPieces_8 rfl (by decide) (fun c_8 => absurd c_8 (by decide)) (fun c_8 => ?_)
        refine g_aload_n (nx := 12) 0 F dX5_readPieces_11 rfl rfl rfl ?_
        refine g_getV (nx := 15) (sgI (c p1)) F dX5_readPieces_12 rfl fl_RX5_30 rfl (by decide) (by decide) rfl rfl (H1.2.1.2.2.2.1) ?_
        refine g_bipush (nx := 17) (38) F dX5_readPieces_15 rfl (by decide) ?_
        refine g_icmp_ne (nx := 20) 62 F dX5_readPieces_17 rfl (by decide) (fun c_17 => absurd c_17 (by exact fun zq => zq ((sgI_eq hor (by decide)).mpr hA))) (fun c_17 => ?_)
        refine g_iload_n (nx := 21) 2 F dX5_readPieces_20 rfl rfl rfl ?_
        refine g_aload_n (nx := 22) 0 F dX5_readPieces_21 rfl rfl rfl ?_
        refine g_getV (nx := 25) (nI n) F dX5_readPieces_22 rfl fl_RX5_56 rfl (by decide) (by decide) rfl rfl (H1.2.1.2.1) ?_
        refine g_icmp_ge (nx := 28) 62 F dX5_readPieces_25 rfl (by decide) (fun c_25 => absurd c_25 (by exact nI_ge (by omega) (by omega))) (fun c_25 => ?_)
        refine g_aload_n (nx := 29) 0 F dX5_readPieces_28 rfl rfl rfl ?_
        refine g_callV (nx := 32) 0 1 [] F dX5_readPieces_29 rfl ml_RX5_68 mo_X5_advance rfl rfl rfl rfl (Nat.le_of_ble_eq_true rfl) (by first | decide | omega) (c_advance t n _ _ _ c _ _ _ H1 (hp1n)) (fun r_29 τ_29 q_29 => ?_)
        obtain ⟨rfl, hS_29, hf_29⟩ := q_29
        dsimp only [Option.toList, List.append, List.cons_append, List.nil_append]
        refine g_aload_n (nx := 33) 0 F dX5_readPieces_32 rfl rfl rfl ?_
        refine g_getD (nx := 36) F dX5_readPieces_33 rfl fl_RX5_12 rfl (by decide) (by decide) rfl rfl ?_
        rw [hS_29.2.1.1]
        refine g_bipush (nx := 38) (38) F dX5_readPieces_36 rfl (by decide) ?_
        refine g_iconst (nx := 39) (0) F dX5_readPieces_38 rfl rfl ?_
        refine g_callV (nx := 42) 2 0 [.int (nI (ck 11)), .int (nI 0)] F dX5_readPieces_39 rfl ml_RX5_109 mo_X10_put (tx_k hS_29.1.1) rfl rfl rfl (Nat.le_of_ble_eq_true rfl) (by first | decide | omega) (c_put t n _ _ _ 11 0 c _ _ _ hS_29 (by omega) (by decide) (by decide)) (fun r_39 τ_39 q_39 => ?_)
        obtain ⟨rfl, hS_39, hf_39⟩ := q_39
        dsimp only [Option.toList, List.append, List.cons_append, List.nil_append]
        refine g_istore_n (nx := 43) 3 F dX5_readPieces_42 rfl rfl (by decide) ?_
        try dsimp only [List.set]
        refine g_aload_n (nx := 44) 0 F dX5_readPieces_43 rfl rfl rfl ?_
        refine g_callV (nx := 47) 0 (3 * d + 12) [] F dX5_readPieces_44 rfl ml_RX5_116 mo_X5_readPiece rfl rfl rfl rfl (Nat.le_of_ble_eq_true rfl) (by first | decide | omega) (hP _ _ _ _ _ _ hS_39 hod) (fun r_44 τ_44 q_44 => ?_)
        skip
        rcases q_44 with ⟨rfl, p2, l2, op2, vl2, hS2, hf2, hp2, hl2, hk2, hw2, hR2⟩ | ⟨rfl, f2, e2, hF2, hf2, hR2⟩
        · dsimp only [Option.toList, List.append, List.cons_append, List.nil_append]
          have hw1l : l < l1 := hw1.1
          have hw2l : l1 + 1 < l2 := hw2.1
          refine g_istore_n (nx := 48) 1 F dX5_readPieces_47 rfl rfl (by decide) ?_
          try dsimp only [List.set]
          refine g_aload_n (nx := 49) 0 F dX5_readPieces_48 rfl rfl rfl ?_
          refine g_getD (nx := 52) F dX5_readPieces_49 rfl fl_RX5_12 rfl (by decide) (by decide) rfl rfl ?_
          rw [hS2.2.1.1]
          refine g_iload_n (nx := 53) 3 F dX5_readPieces_52 rfl rfl rfl ?_
          refine g_callV (nx := 56) 1 0 [.int (nI l1)] F dX5_readPieces_53 rfl ml_RX5_113 mo_X10_aim (tx_k hS2.1.1) rfl rfl rfl (Nat.le_of_ble_eq_true rfl) (by first | decide | omega) (c_aim t n _ _ _ l1 c _ _ _ hS2 (by omega)) (fun r_53 τ_53 q_53 => ?_)
          obtain ⟨rfl, hS_53, hf_53⟩ := q_53
          dsimp only [Option.toList, List.append, List.cons_append, List.nil_append]
          refine g_iinc (nx := 59) (1) F dX5_readPieces_56 rfl rfl (by decide) (by decide) ?_
          try dsimp only [List.set]
          refine g_goto 7 F dX5_readPieces_59 (by decide) ?_
          rw [nI_1]
          refine ih (k + 1) p2 l2 op2 (updN vl2 l1 l2) _ _ (by omega) hS_53 ((((hf1.tr hf_29).tr hf_39).tr hf2).tr hf_53) (by omega) (by omega) (by omega) (fun k hk => ?_) ?_ (fun K z => (hR1 K z).tr ((s8_go hA).tr ((hR2 _ _).tr s12)))
          · rw [updN_ne _ _ (by omega), (hk2 k (by omega)).1, (hk2 k (by omega)).2, updN_ne _ _ (by omega), updN_ne _ _ (by omega)]
            exact hk1 k hk
          · refine wfB_jump (b := l1) (wfB_congr hw1 (fun k _ hk => ?_)) (wfB_congr hw2 (fun k hk _ => ⟨rfl, updN_ne _ _ (by omega)⟩)) ?_ (updN_at _ _ _)
            · rw [updN_ne _ _ (by omega), (hk2 k (by omega)).1, (hk2 k (by omega)).2]
              exact ⟨updN_ne _ _ (by omega), updN_ne _ _ (by omega)⟩
            · rw [(hk2 l1 (by omega)).1, updN_at]
              exact Or.inl rfl
        · dsimp only [Option.toList, List.append, List.cons_append, List.nil_append]
          refine g_istore_n (nx := 48) 1 F dX5_readPieces_47 rfl rfl (by decide) ?_
          try dsimp only [List.set]
          refine g_aload_n (nx := 49) 0 F dX5_readPieces_48 rfl rfl rfl ?_
          refine g_getD (nx := 52) F dX5_readPieces_49 rfl fl_RX5_12 rfl (by decide) (by decide) rfl rfl ?_
          rw [hF2.2.1]
          refine g_iload_n (nx := 53) 3 F dX5_readPieces_52 rfl rfl rfl ?_
          refine g_callV (nx := 56) 1 0 [.int (nI l1)] F dX5_readPieces_53 rfl ml_RX5_113 mo_X10_aim (tx_k hF2.1) rfl rfl rfl (Nat.le_of_ble_eq_true rfl) (by first | decide | omega) (c_aimF t n _ _ (nI l1) _ hF2) (fun r_53 τ_53 q_53 => ?_)
          obtain ⟨rfl, hF_53, hf_53⟩ := q_53
          dsimp only [Option.toList, List.append, List.cons_append, List.nil_append]
          refine g_iinc (nx := 59) (1) F dX5_readPieces_56 rfl rfl (by decide) (by decide) ?_
          try dsimp only [List.set]
          refine g_goto 7 F dX5_readPieces_59 (by decide) ?_
          refine g_iload_n (nx := 8) 1 F dX5_readPieces_7 rfl rfl rfl ?_
          refine g_if_eq (nx := 11) 62 F dX5_readPieces_8 rfl (by decide) (fun c_8 => ?_) (fun c_8 => absurd c_8 (by exact fun zq => zq rfl))
          refine g_iload_n (nx := 63) 1 F dX5_readPieces_62 rfl rfl rfl ?_
          refine g_zret F E dX5_readPieces_63 (by first | rfl | assumption) ?_
          exact Or.inr ⟨rfl, f2, e2, hF_53, (((hf1.tr hf_29).tr hf_39).tr hf2).tr hf_53, fun K z => (hR1 K z).tr ((s8_go hA).tr (hR2 _ _))⟩
      · refine g_iload_n (nx := 8) 1 F dX5_readPieces_7 rfl rfl rfl ?_
        refine g_if_eq (nx := 11) 62 F dX5_readPieces_8 rfl (by decide) (fun c_8 => absurd c_8 (by decide)) (fun c_8 => ?_)
        refine g_aload_n (nx := 12) 0 F dX5_readPieces_11 rfl rfl rfl ?_
        refine g_getV (nx := 15) (sgI (c p1)) F dX5_readPieces_12 rfl fl_RX5_30 rfl (by decide) (by decide) rfl rfl (H1.2.1.2.2.2.1) ?_
        refine g_bipush (nx := 17) (38) F dX5_readPieces_15 rfl (by decide) ?_
        refine g_icmp_ne (nx := 20) 62 F dX5_readPieces_17 rfl (by decide) (fun c_17 => ?_) (fun c_17 => absurd c_17 (by exact fun zq => hA ((sgI_eq hor (by decide)).mp zq)))
        refine g_iload_n (nx := 63) 1 F dX5_readPieces_62 rfl rfl rfl ?_
        refine g_zret F E dX5_readPieces_63 (by first | rfl | assumption) ?_
        exact Or.inl ⟨rfl, p1, l1, op1, vl1, H1, hf1, hp1, hl1, hk1, hw1, fun K z => (hR1 K z).tr (s8_end hA)⟩
  refine g_aload_n (nx := 1) 0 F dX5_readPieces_0 rfl rfl rfl ?_
  refine g_callV (nx := 4) 0 (3 * d + 12) [] F dX5_readPieces_1 rfl ml_RX5_116 mo_X5_readPiece rfl rfl rfl rfl (Nat.le_of_ble_eq_true rfl) (by first | decide | omega) (hP _ _ _ _ _ _ H hod) (fun r_1 τ_1 q_1 => ?_)
  skip
  rcases q_1 with ⟨rfl, p2, l2, op2, vl2, hS2, hf2, hp2, hl2, hk2, hw2, hR2⟩ | ⟨rfl, f2, e2, hF2, hf2, hR2⟩
  · dsimp only [Option.toList, List.append, List.cons_append, List.nil_append]
    refine g_istore_n (nx := 5) 1 F dX5_readPieces_4 rfl rfl (by decide) ?_
    try dsimp only [List.set]
    refine g_iconst (nx := 6) (0) F dX5_readPieces_5 rfl rfl ?_
    refine g_istore_n (nx := 7) 2 F dX5_readPieces_6 rfl rfl (by decide) ?_
    try dsimp only [List.set]
    exact L n 0 p2 l2 op2 vl2 _ _ (by omega) hS2 hf2 hp2 hl2 (by omega) hk2 hw2 (fun K z => hR2 _ _)
  · dsimp only [Option.toList, List.append, List.cons_append, List.nil_append]
    refine g_istore_n (nx := 5) 1 F dX5_readPieces_4 rfl rfl (by decide) ?_
    try dsimp only [List.set]
    refine g_iconst (nx := 6) (0) F dX5_readPieces_5 rfl rfl ?_
    refine g_istore_n (nx := 7) 2 F dX5_readPieces_6 rfl rfl (by decide) ?_
    try dsimp only [List.set]
    refine g_iload_n (nx := 8) 1 F dX5_readPieces_7 rfl rfl rfl ?_
    refine g_if_eq (nx := 11) 62 F dX5_readPieces_8 rfl (by decide) (fun c_8 => ?_) (fun c_8 => absurd c_8 (by exact fun zq => zq rfl))
    refine g_iload_n (nx := 63) 1 F dX5_readPieces_62 rfl rfl rfl ?_
    refine g_zret F E dX5_readPieces_63 (by first | rfl | assumption) ?_
    exact Or.inr ⟨rfl, f2, e2, hF2, hf2, fun K z => hR2 _ _⟩
set_option maxHeartbeats 4000000 in
set_option maxRecDepth 100000 in
theorem c_readParts {t n : Nat} {c : Nat → Nat} {hd : Nat → Bool} {d : Nat} (hP : PA t n c hd d) : PO t n c hd d := by
  intro σ p o l op vl H hod
  refine Con.of (lv := [.ref 16, .long 0, .long 0, .long 0]) mk_X5_readParts rfl (Nat.le_of_ble_eq_true rfl) rfl (fun X F E => ?_)
  have L : ∀ (q k p1 l1 : Nat) (op1 vl1 : Nat → Nat) (τ : zSt) (z3 : Value), n ≤ p1 + q → pcS τ t c n (p1, o, l1, op1, vl1) → frC t σ τ → p < p1 → l1 + p ≤ l + p1 → k < p1 → (∀ k, k < l → op1 k = op k ∧ vl1 k = vl k) → wfB op1 vl1 l l1 → (∀ K z, Rn c hd ([(6, 0), (8, 0), (9, 0)] ++ K, (p, o, l, op, vl), z) ((9, 0) :: K, (p1, o, l1, op1, vl1), z)) → Gs X 7 [.ref 16, .int 1, .int (nI k), z3] [] τ := by
    intro q
    induction q with
    | zero =>
      intro k p1 l1 op1 vl1 τ z3 hq H1 hf1 hp1 hl1 hk hk1 hw1 hR1
      have hn160 := H1.1.2.2.1
      have hor := inC_or H1.1.2.1 p1
      have hA : ¬ c p1 = 124 := by rw [H1.1.2.1.2 p1 hq]; decide
      refine g_iload_n (nx := 8) 1 F dX5_readParts_7 rfl rfl rfl ?_
      refine g_if_eq (nx := 11) 62 F dX5_readParts_8 rfl (by decide) (fun c_8 => absurd c_8 (by decide)) (fun c_8 => ?_)
      refine g_aload_n (nx := 12) 0 F dX5_readParts_11 rfl rfl rfl ?_
      refine g_getV (nx := 15) (sgI (c p1)) F dX5_readParts_12 rfl fl_RX5_30 rfl (by decide) (by decide) rfl rfl (H1.2.1.2.2.2.1) ?_
      refine g_bipush (nx := 17) (124) F dX5_readParts_15 rfl (by decide) ?_
      refine g_icmp_ne (nx := 20) 62 F dX5_readParts_17 rfl (by decide) (fun c_17 => ?_) (fun c_17 => absurd c_17 (by exact fun zq => hA ((sgI_eq hor (by decide)).mp zq)))
      refine g_iload_n (nx := 63) 1 F dX5_readParts_62 rfl rfl rfl ?_
      refine g_zret F E dX5_readParts_63 (by first | rfl | assumption) ?_
      exact Or.inl ⟨rfl, p1, l1, op1, vl1, H1, hf1, hp1, hl1, hk1, hw1, fun K z => (hR1 K z).tr (s9_end hA)⟩
    | succ q ih =>
      intro k p1 l1 op1 vl1 τ z3 hq H1 hf1 hp1 hl1 hk hk1 hw1 hR1
      have hn160 := H1.1.2.2.1
      have hlp := H.2.2.2.2.1
      have hor := inC_or H1.1.2.1 p1
      by_cases hA : c p1 = 124
      · have hp1n := inC_lt (p := p1) H1.1.2.1 (by omega)
        refine g_iload_n (nx := 8) 1 F dX5_readParts_7 rfl rfl rfl ?_
        refine g_if_eq (nx := 11) 62 F dX5_readParts_8 rfl (by decide) (fun c_8 => absurd c_8 (by decide)) (fun c_8 => ?_)
        refine g_aload_n (nx := 12) 0 F dX5_readParts_11 rfl rfl rfl ?_
        refine g_getV (nx := 15) (sgI (c p1)) F dX5_readParts_12 rfl fl_RX5_30 rfl (by decide) (by decide) rfl rfl (H1.2.1.2.2.2.1) ?_
        refine g_bipush (nx := 17) (124) F dX5_readParts_15 rfl (by decide) ?_
        refine g_icmp_ne (nx := 20) 62 F dX5_readParts_17 rfl (by decide) (fun c_17 => absurd c_17 (by exact fun zq => zq ((sgI_eq hor (by decide)).mpr hA))) (fun c_17 => ?_)
        refine g_iload_n (nx := 21) 2 F dX5_readParts_20 rfl rfl rfl ?_
        refine g_aload_n (nx := 22) 0 F dX5_readParts_21 rfl rfl rfl ?_
        refine g_getV (nx := 25) (nI n) F dX5_readParts_22 rfl fl_RX5_56 rfl (by decide) (by decide) rfl rfl (H1.2.1.2.1) ?_
        refine g_icmp_ge (nx := 28) 62 F dX5_readParts_25 rfl (by decide) (fun c_25 => absurd c_25 (by exact nI_ge (by omega) (by omega))) (fun c_25 => ?_)
        refine g_aload_n (nx := 29) 0 F dX5_readParts_28 rfl rfl rfl ?_
        refine g_callV (nx := 32) 0 1 [] F dX5_readParts_29 rfl ml_RX5_68 mo_X5_advance rfl rfl rfl rfl (Nat.le_of_ble_eq_true rfl) (by first | decide | omega) (c_advance t n _ _ _ c _ _ _ H1 (hp1n)) (fun r_29 τ_29 q_29 => ?_)
        obtain ⟨rfl, hS_29, hf_29⟩ := q_29
        dsimp only [Option.toList, List.append, List.cons_append, List.nil_append]
        refine g_aload_n (nx := 33) 0 F dX5_readParts_32 rfl rfl rfl ?_
        refine g_getD (nx := 36) F dX5_readParts_33 rfl fl_RX5_12 rfl (by decide) (by decide) rfl rfl ?_
        rw [hS_29.2.1.1]
        refine g_bipush (nx := 38) (124) F dX5_readParts_36 rfl (by decide) ?_
        refine g_iconst (nx := 39) (0) F dX5_readParts_38 rfl rfl ?_
        refine g_callV (nx := 42) 2 0 [.int (nI (ck 12)), .int (nI 0)] F dX5_readParts_39 rfl ml_RX5_109 mo_X10_put (tx_k hS_29.1.1) rfl rfl rfl (Nat.le_of_ble_eq_true rfl) (by first | decide | omega) (c_put t n _ _ _ 12 0 c _ _ _ hS_29 (by omega) (by decide) (by decide)) (fun r_39 τ_39 q_39 => ?_)
        obtain ⟨rfl, hS_39, hf_39⟩ := q_39
        dsimp only [Option.toList, List.append, List.cons_append, List.nil_append]
        refine g_istore_n (nx := 43) 3 F dX5_readParts_42 rfl rfl (by decide) ?_
        try dsimp only [List.set]
        refine g_aload_n (nx := 44) 0 F dX5_readParts_43 rfl rfl rfl ?_
        refine g_callV (nx := 47) 0 (3 * d + 13) [] F dX5_readParts_44 rfl ml_RX5_106 mo_X5_readPieces rfl rfl rfl rfl (Nat.le_of_ble_eq_true rfl) (by first | decide | omega) (hP _ _ _ _ _ _ hS_39 hod) (fun r_44 τ_44 q_44 => ?_)
        skip
        rcases q_44 with ⟨rfl, p2, l2, op2, vl2, hS2, hf2, hp2, hl2, hk2, hw2, hR2⟩ | ⟨rfl, f2, e2, hF2, hf2, hR2⟩
        · dsimp only [Option.toList, List.append, List.cons_append, List.nil_append]
          have hw1l : l < l1 := hw1.1
          have hw2l : l1 + 1 < l2 := hw2.1
          refine g_istore_n (nx := 48) 1 F dX5_readParts_47 rfl rfl (by decide) ?_
          try dsimp only [List.set]
          refine g_aload_n (nx := 49) 0 F dX5_readParts_48 rfl rfl rfl ?_
          refine g_getD (nx := 52) F dX5_readParts_49 rfl fl_RX5_12 rfl (by decide) (by decide) rfl rfl ?_
          rw [hS2.2.1.1]
          refine g_iload_n (nx := 53) 3 F dX5_readParts_52 rfl rfl rfl ?_
          refine g_callV (nx := 56) 1 0 [.int (nI l1)] F dX5_readParts_53 rfl ml_RX5_113 mo_X10_aim (tx_k hS2.1.1) rfl rfl rfl (Nat.le_of_ble_eq_true rfl) (by first | decide | omega) (c_aim t n _ _ _ l1 c _ _ _ hS2 (by omega)) (fun r_53 τ_53 q_53 => ?_)
          obtain ⟨rfl, hS_53, hf_53⟩ := q_53
          dsimp only [Option.toList, List.append, List.cons_append, List.nil_append]
          refine g_iinc (nx := 59) (1) F dX5_readParts_56 rfl rfl (by decide) (by decide) ?_
          try dsimp only [List.set]
          refine g_goto 7 F dX5_readParts_59 (by decide) ?_
          rw [nI_1]
          refine ih (k + 1) p2 l2 op2 (updN vl2 l1 l2) _ _ (by omega) hS_53 ((((hf1.tr hf_29).tr hf_39).tr hf2).tr hf_53) (by omega) (by omega) (by omega) (fun k hk => ?_) ?_ (fun K z => (hR1 K z).tr ((s9_go hA).tr ((hR2 _ _).tr s12)))
          · rw [updN_ne _ _ (by omega), (hk2 k (by omega)).1, (hk2 k (by omega)).2, updN_ne _ _ (by omega), updN_ne _ _ (by omega)]
            exact hk1 k hk
          · refine wfB_jump (b := l1) (wfB_congr hw1 (fun k _ hk => ?_)) (wfB_congr hw2 (fun k hk _ => ⟨rfl, updN_ne _ _ (by omega)⟩)) ?_ (updN_at _ _ _)
            · rw [updN_ne _ _ (by omega), (hk2 k (by omega)).1, (hk2 k (by omega)).2]
              exact ⟨updN_ne _ _ (by omega), updN_ne _ _ (by omega)⟩
            · rw [(hk2 l1 (by omega)).1, updN_at]
              exact Or.inr rfl
        · dsimp only [Option.toList, List.append, List.cons_append, List.nil_append]
          refine g_istore_n (nx := 48) 1 F dX5_readParts_47 rfl rfl (by decide) ?_
          try dsimp only [List.set]
          refine g_aload_n (nx := 49) 0 F dX5_readParts_48 rfl rfl rfl ?_
          refine g_getD (nx := 52) F dX5_readParts_49 rfl fl_RX5_12 rfl (by decide) (by decide) rfl rfl ?_
          rw [hF2.2.1]
          refine g_iload_n (nx := 53) 3 F dX5_readParts_52 rfl rfl rfl ?_
          refine g_callV (nx := 56) 1 0 [.int (nI l1)] F dX5_readParts_53 rfl ml_RX5_113 mo_X10_aim (tx_k hF2.1) rfl rfl rfl (Nat.le_of_ble_eq_true rfl) (by first | decide | omega) (c_aimF t n _ _ (nI l1) _ hF2) (fun r_53 τ_53 q_53 => ?_)
          obtain ⟨rfl, hF_53, hf_53⟩ := q_53
          dsimp only [Option.toList, List.append, List.cons_append, List.nil_append]
          refine g_iinc (nx := 59) (1) F dX5_readParts_56 rfl rfl (by decide) (by decide) ?_
          try dsimp only [List.set]
          refine g_goto 7 F dX5_readParts_59 (by decide) ?_
          refine g_iload_n (nx := 8) 1 F dX5_readParts_7 rfl rfl rfl ?_
          refine g_if_eq (nx := 11) 62 F dX5_readParts_8 rfl (by decide) (fun c_8 => ?_) (fun c_8 => absurd c_8 (by exact fun zq => zq rfl))
          refine g_iload_n (nx := 63) 1 F dX5_readParts_62 rfl rfl rfl ?_
          refine g_zret F E dX5_readParts_63 (by first | rfl | assumption) ?_
          exact Or.inr ⟨rfl, f2, e2, hF_53, (((hf1.tr hf_29).tr hf_39).tr hf2).tr hf_53, fun K z => (hR1 K z).tr ((s9_go hA).tr (hR2 _ _))⟩
      · refine g_iload_n (nx := 8) 1 F dX5_readParts_7 rfl rfl rfl ?_
        refine g_if_eq (nx := 11) 62 F dX5_readParts_8 rfl (by decide) (fun c_8 => absurd c_8 (by decide)) (fun c_8 => ?_)
        refine g_aload_n (nx := 12) 0 F dX5_readParts_11 rfl rfl rfl ?_
        refine g_getV (nx := 15) (sgI (c p1)) F dX5_readParts_12 rfl fl_RX5_30 rfl (by decide) (by decide) rfl rfl (H1.2.1.2.2.2.1) ?_
        refine g_bipush (nx := 17) (124) F dX5_readParts_15 rfl (by decide) ?_
        refine g_icmp_ne (nx := 20) 62 F dX5_readParts_17 rfl (by decide) (fun c_17 => ?_) (fun c_17 => absurd c_17 (by exact fun zq => hA ((sgI_eq hor (by decide)).mp zq)))
        refine g_iload_n (nx := 63) 1 F dX5_readParts_62 rfl rfl rfl ?_
        refine g_zret F E dX5_readParts_63 (by first | rfl | assumption) ?_
        exact Or.inl ⟨rfl, p1, l1, op1, vl1, H1, hf1, hp1, hl1, hk1, hw1, fun K z => (hR1 K z).tr (s9_end hA)⟩
  refine g_aload_n (nx := 1) 0 F dX5_readParts_0 rfl rfl rfl ?_
  refine g_callV (nx := 4) 0 (3 * d + 13) [] F dX5_readParts_1 rfl ml_RX5_106 mo_X5_readPieces rfl rfl rfl rfl (Nat.le_of_ble_eq_true rfl) (by first | decide | omega) (hP _ _ _ _ _ _ H hod) (fun r_1 τ_1 q_1 => ?_)
  skip
  rcases q_1 with ⟨rfl, p2, l2, op2, vl2, hS2, hf2, hp2, hl2, hk2, hw2, hR2⟩ | ⟨rfl, f2, e2, hF2, hf2, hR2⟩
  · dsimp only [Option.toList, List.append, List.cons_append, List.nil_append]
    refine g_istore_n (nx := 5) 1 F dX5_readParts_4 rfl rfl (by decide) ?_
    try dsimp only [List.set]
    refine g_iconst (nx := 6) (0) F dX5_readParts_5 rfl rfl ?_
    refine g_istore_n (nx := 7) 2 F dX5_readParts_6 rfl rfl (by decide) ?_
    try dsimp only [List.set]
    exact L n 0 p2 l2 op2 vl2 _ _ (by omega) hS2 hf2 hp2 hl2 (by omega) hk2 hw2 (fun K z => hR2 _ _)
  · dsimp only [Option.toList, List.append, List.cons_append, List.nil_append]
    refine g_istore_n (nx := 5) 1 F dX5_readParts_4 rfl rfl (by decide) ?_
    try dsimp only [List.set]
    refine g_iconst (nx := 6) (0) F dX5_readParts_5 rfl rfl ?_
    refine g_istore_n (nx := 7) 2 F dX5_readParts_6 rfl rfl (by decide) ?_
    try dsimp only [List.set]
    refine g_iload_n (nx := 8) 1 F dX5_readParts_7 rfl rfl rfl ?_
    refine g_if_eq (nx := 11) 62 F dX5_readParts_8 rfl (by decide) (fun c_8 => ?_) (fun c_8 => absurd c_8 (by exact fun zq => zq rfl))
    refine g_iload_n (nx := 63) 1 F dX5_readParts_62 rfl rfl rfl ?_
    refine g_zret F E dX5_readParts_63 (by first | rfl | assumption) ?_
    exact Or.inr ⟨rfl, f2, e2, hF2, hf2, fun K z => hR2 _ _⟩
theorem c_parts (t n : Nat) (c : Nat → Nat) (hd : Nat → Bool) : ∀ d, PP t n c hd d ∧ PO t n c hd d
  | 0 => by
    have h := c_readPiece (t := t) (n := n) (c := c) (hd := hd) (d := 0) (fun q h => absurd h (by omega))
    exact ⟨h, c_readParts (c_readPieces h)⟩
  | d + 1 => by
    have h := c_readPiece (t := t) (n := n) (c := c) (hd := hd) (d := d + 1) (fun q h => by
      have e : q = d := by omega
      subst e
      exact c_parts t n c hd q)
    exact ⟨h, c_readParts (c_readPieces h)⟩
