theorem bO_none {best : Option Nat} (hb : ∀ k, best = some k → k < 10) (h : bO best = -1) : best = none := by
  cases best with
  | none => rfl
  | some k => exact absurd h (nI_m1 (by have := hb k rfl; omega))
set_option maxHeartbeats 4000000 in
set_option maxRecDepth 100000 in
theorem c_serve_17 (T : Nat → TXT) (D P σ0 : zSt) (n s a : Nat) (o y : Int32) (j : Nat) (i : Nat) (σ : zSt) (he : EnvC σ0 D T s) (hr : RC 17 n s σ0 σ P) (hy : σ0 17 12 = y) (ho : σ0 17 14 = o) (hj : j < n) (hn : n ≤ 40) (ha : a < s) (hP : P 0 j = nI a) (hi : i < 10) : Con mX6_serve 4 [.ref 17, .int (nI i), .int (nI j)] σ (fun r τ => ∃ v, r = some (.int v) ∧ RC 17 n s σ0 τ (servP T D s n o y P i j) ∧ servP T D s n o y P i j 8 2 = P 8 2 + v) := by
  have heσ := RC_env (by decide) hr he
  have hs8 := heσ.2.2.2.2.2.2.2.1
  refine Con.of (lv := [.ref 17, .int (nI i), .int (nI j), .long 0]) mk_X6_serve rfl (Nat.le_of_ble_eq_true rfl) rfl (fun X F E => ?_)
  refine g_aload_n (nx := 1) 0 F dX6_serve_0 rfl rfl rfl ?_
  refine g_iload_n (nx := 2) 1 F dX6_serve_1 rfl rfl rfl ?_
  refine g_iload_n (nx := 3) 2 F dX6_serve_2 rfl rfl rfl ?_
  refine g_callV (nx := 6) 2 3 [.int (nI i), .int (nI j)] F dX6_serve_3 rfl ml_RX6_118 mo_X6_meet rfl rfl rfl rfl (Nat.le_of_ble_eq_true rfl) (by first | decide | omega) (c_meet_17 T D P σ0 n s a o y i j _ heσ hr hy ho hi hj hn (by omega) hP) (fun r_3 τ_3 q_3 => ?_)
  obtain ⟨rfl, hr3, hp3, hw3⟩ := q_3
  dsimp only [Option.toList, List.append, List.cons_append, List.nil_append]
  have he3 := RC_env (by decide) hr3 he
  refine g_aload_n (nx := 7) 0 F dX6_serve_6 rfl rfl rfl ?_
  refine g_iload_n (nx := 8) 2 F dX6_serve_7 rfl rfl rfl ?_
  refine g_callV (nx := 11) 1 0 [.int (nI j)] F dX6_serve_8 rfl ml_RX6_162 mo_X6_pays rfl rfl rfl rfl (Nat.le_of_ble_eq_true rfl) (by first | decide | omega) (c_pays_17 j (prP T D P n o y i j) (wtP T D P n o y i j) τ_3 (by omega) hp3 hw3) (fun r_8 τ_8 q_8 => ?_)
  obtain ⟨rfl, et_8⟩ := q_8
  have et_8 := et_8.symm
  subst et_8
  dsimp only [Option.toList, List.append, List.cons_append, List.nil_append]
  rw [he3.2.2.2.2.1, he3.2.2.2.2.2.1, show τ_3 19 = P 1 from hr3.2.2.2.2.1 1 (by decide), show τ_3 20 = P 2 from hr3.2.2.2.2.1 2 (by decide)]
  refine g_if_eq (nx := 14) 33 F dX6_serve_11 rfl (by decide) (fun c_11 => ?_) (fun c_11 => ?_)
  · refine g_aload_n (nx := 34) 0 F dX6_serve_33 rfl rfl rfl ?_
    refine g_getR (nx := 37) F dX6_serve_34 rfl fl_RX6_43 rfl (by decide) (by decide) rfl ?_
    refine g_getR (nx := 40) F dX6_serve_37 rfl fl_RX6_150 rfl (by decide) (by decide) rfl ?_
    refine g_iload_n (nx := 41) 2 F dX6_serve_40 rfl rfl rfl ?_
    refine g_ialdN (nx := 42) (j) (D 4 j) F dX6_serve_41 rfl rfl (by omega) (congrFun he3.2.2.2.2.1 j) ?_
    refine g_iconst (nx := 43) (1) F dX6_serve_42 rfl rfl ?_
    refine g_icmp_eq (nx := 46) 53 F dX6_serve_43 rfl (by decide) (fun c_43 => ?_) (fun c_43 => ?_)
    · refine g_iconst (nx := 54) (1) F dX6_serve_53 rfl rfl ?_
      refine g_goto 58 F dX6_serve_54 (by decide) ?_
      refine g_istore_n (nx := 59) 3 F dX6_serve_58 rfl rfl (by decide) ?_
      try dsimp only [List.set]
      refine g_iload_n (nx := 60) 3 F dX6_serve_59 rfl rfl rfl ?_
      refine g_if_eq (nx := 63) 84 F dX6_serve_60 rfl (by decide) (fun c_60 => ?_) (fun c_60 => ?_)
      · refine g_aload_n (nx := 85) 0 F dX6_serve_84 rfl rfl rfl ?_
        refine g_getR (nx := 88) F dX6_serve_85 rfl fl_RX6_18 rfl (by decide) (by decide) rfl ?_
        refine g_iload_n (nx := 89) 2 F dX6_serve_88 rfl rfl rfl ?_
        refine g_dup2 (nx := 90) F dX6_serve_89 rfl rfl rfl ?_
        refine g_ialdN (nx := 91) (j) (P 2 j) F dX6_serve_90 rfl rfl (by omega) (congrFun (hr3.2.2.2.2.1 2 (by decide)) j) ?_
        refine g_iconst (nx := 92) (1) F dX6_serve_91 rfl rfl ?_
        refine g_iadd (nx := 93) F dX6_serve_92 rfl ?_
        refine g_iastN (nx := 94) (j) F dX6_serve_93 rfl rfl (by omega) ?_
        refine g_iconst (nx := 95) (0) F dX6_serve_94 rfl rfl ?_
        refine g_iret F E dX6_serve_95 ?_
        refine ⟨_, rfl, ?_⟩
        unfold servP
        rw [if_neg (bI_0.mp c_11)]
        first
          | exact absurd rfl c_60
          | exact absurd (show (1 : Int32) = 0 from c_60) (by decide)
          | (have hq : (D 4 j = 1 ∨ prP T D P n o y i j = 0) ∧ wtP T D P n o y i j ≤ P 2 j := ⟨Or.inl c_43, not_lt_I.mp c_73⟩; rw [if_pos hq]; exact ⟨hr78, by rw [goOnP_8, Int32.add_zero]⟩)
          | (have hq : (D 4 j = 1 ∨ prP T D P n o y i j = 0) ∧ wtP T D P n o y i j ≤ P 2 j := ⟨Or.inr c_50, not_lt_I.mp c_73⟩; rw [if_pos hq]; exact ⟨hr78, by rw [goOnP_8, Int32.add_zero]⟩)
          | (have hq : ¬ ((D 4 j = 1 ∨ prP T D P n o y i j = 0) ∧ wtP T D P n o y i j ≤ P 2 j) := fun z => absurd c_73 (not_lt_I.mpr z.2); rw [if_neg hq]; exact ⟨RC_upd 2 j _ (by decide) (by decide) (by decide) hr3, by rw [zu_ne _ (by decide), Int32.add_zero]⟩)
          | (have hq : ¬ ((D 4 j = 1 ∨ prP T D P n o y i j = 0) ∧ wtP T D P n o y i j ≤ P 2 j) := fun z => z.1.elim c_43 c_50; rw [if_neg hq]; exact ⟨RC_upd 2 j _ (by decide) (by decide) (by decide) hr3, by rw [zu_ne _ (by decide), Int32.add_zero]⟩)
      · refine g_aload_n (nx := 64) 0 F dX6_serve_63 rfl rfl rfl ?_
        refine g_getR (nx := 67) F dX6_serve_64 rfl fl_RX6_18 rfl (by decide) (by decide) rfl ?_
        refine g_iload_n (nx := 68) 2 F dX6_serve_67 rfl rfl rfl ?_
        refine g_ialdN (nx := 69) (j) (P 2 j) F dX6_serve_68 rfl rfl (by omega) (congrFun (hr3.2.2.2.2.1 2 (by decide)) j) ?_
        refine g_aload_n (nx := 70) 0 F dX6_serve_69 rfl rfl rfl ?_
        refine g_getV (nx := 73) (wtP T D P n o y i j) F dX6_serve_70 rfl fl_RX6_125 rfl (by decide) (by decide) rfl rfl (hw3) ?_
        refine g_icmp_lt (nx := 76) 84 F dX6_serve_73 rfl (by decide) (fun c_73 => ?_) (fun c_73 => ?_)
        · refine g_aload_n (nx := 85) 0 F dX6_serve_84 rfl rfl rfl ?_
          refine g_getR (nx := 88) F dX6_serve_85 rfl fl_RX6_18 rfl (by decide) (by decide) rfl ?_
          refine g_iload_n (nx := 89) 2 F dX6_serve_88 rfl rfl rfl ?_
          refine g_dup2 (nx := 90) F dX6_serve_89 rfl rfl rfl ?_
          refine g_ialdN (nx := 91) (j) (P 2 j) F dX6_serve_90 rfl rfl (by omega) (congrFun (hr3.2.2.2.2.1 2 (by decide)) j) ?_
          refine g_iconst (nx := 92) (1) F dX6_serve_91 rfl rfl ?_
          refine g_iadd (nx := 93) F dX6_serve_92 rfl ?_
          refine g_iastN (nx := 94) (j) F dX6_serve_93 rfl rfl (by omega) ?_
          refine g_iconst (nx := 95) (0) F dX6_serve_94 rfl rfl ?_
          refine g_iret F E dX6_serve_95 ?_
          refine ⟨_, rfl, ?_⟩
          unfold servP
          rw [if_neg (bI_0.mp c_11)]
          first
            | exact absurd rfl c_60
            | exact absurd (show (1 : Int32) = 0 from c_60) (by decide)
            | (have hq : (D 4 j = 1 ∨ prP T D P n o y i j = 0) ∧ wtP T D P n o y i j ≤ P 2 j := ⟨Or.inl c_43, not_lt_I.mp c_73⟩; rw [if_pos hq]; exact ⟨hr78, by rw [goOnP_8, Int32.add_zero]⟩)
            | (have hq : (D 4 j = 1 ∨ prP T D P n o y i j = 0) ∧ wtP T D P n o y i j ≤ P 2 j := ⟨Or.inr c_50, not_lt_I.mp c_73⟩; rw [if_pos hq]; exact ⟨hr78, by rw [goOnP_8, Int32.add_zero]⟩)
            | (have hq : ¬ ((D 4 j = 1 ∨ prP T D P n o y i j = 0) ∧ wtP T D P n o y i j ≤ P 2 j) := fun z => absurd c_73 (not_lt_I.mpr z.2); rw [if_neg hq]; exact ⟨RC_upd 2 j _ (by decide) (by decide) (by decide) hr3, by rw [zu_ne _ (by decide), Int32.add_zero]⟩)
            | (have hq : ¬ ((D 4 j = 1 ∨ prP T D P n o y i j = 0) ∧ wtP T D P n o y i j ≤ P 2 j) := fun z => z.1.elim c_43 c_50; rw [if_neg hq]; exact ⟨RC_upd 2 j _ (by decide) (by decide) (by decide) hr3, by rw [zu_ne _ (by decide), Int32.add_zero]⟩)
        · refine g_aload_n (nx := 77) 0 F dX6_serve_76 rfl rfl rfl ?_
          refine g_iload_n (nx := 78) 2 F dX6_serve_77 rfl rfl rfl ?_
          refine g_callV (nx := 81) 1 0 [.int (nI j)] F dX6_serve_78 rfl ml_RX6_168 mo_X6_goOn rfl rfl rfl rfl (Nat.le_of_ble_eq_true rfl) (by first | decide | omega) (c_goOn_17 P σ0 n s a y j τ_3 hr3 hy hj hn ha hs8 hP he3.2.2.2.2.2.2.1) (fun r_78 τ_78 q_78 => ?_)
          obtain ⟨rfl, hr78⟩ := q_78
          dsimp only [Option.toList, List.append, List.cons_append, List.nil_append]
          refine g_goto 94 F dX6_serve_81 (by decide) ?_
          refine g_iconst (nx := 95) (0) F dX6_serve_94 rfl rfl ?_
          refine g_iret F E dX6_serve_95 ?_
          refine ⟨_, rfl, ?_⟩
          unfold servP
          rw [if_neg (bI_0.mp c_11)]
          first
            | exact absurd rfl c_60
            | exact absurd (show (1 : Int32) = 0 from c_60) (by decide)
            | (have hq : (D 4 j = 1 ∨ prP T D P n o y i j = 0) ∧ wtP T D P n o y i j ≤ P 2 j := ⟨Or.inl c_43, not_lt_I.mp c_73⟩; rw [if_pos hq]; exact ⟨hr78, by rw [goOnP_8, Int32.add_zero]⟩)
            | (have hq : (D 4 j = 1 ∨ prP T D P n o y i j = 0) ∧ wtP T D P n o y i j ≤ P 2 j := ⟨Or.inr c_50, not_lt_I.mp c_73⟩; rw [if_pos hq]; exact ⟨hr78, by rw [goOnP_8, Int32.add_zero]⟩)
            | (have hq : ¬ ((D 4 j = 1 ∨ prP T D P n o y i j = 0) ∧ wtP T D P n o y i j ≤ P 2 j) := fun z => absurd c_73 (not_lt_I.mpr z.2); rw [if_neg hq]; exact ⟨RC_upd 2 j _ (by decide) (by decide) (by decide) hr3, by rw [zu_ne _ (by decide), Int32.add_zero]⟩)
            | (have hq : ¬ ((D 4 j = 1 ∨ prP T D P n o y i j = 0) ∧ wtP T D P n o y i j ≤ P 2 j) := fun z => z.1.elim c_43 c_50; rw [if_neg hq]; exact ⟨RC_upd 2 j _ (by decide) (by decide) (by decide) hr3, by rw [zu_ne _ (by decide), Int32.add_zero]⟩)
    · refine g_aload_n (nx := 47) 0 F dX6_serve_46 rfl rfl rfl ?_
      refine g_getV (nx := 50) (prP T D P n o y i j) F dX6_serve_47 rfl fl_RX6_122 rfl (by decide) (by decide) rfl rfl (hp3) ?_
      refine g_if_ne (nx := 53) 57 F dX6_serve_50 rfl (by decide) (fun c_50 => ?_) (fun c_50 => ?_)
      · refine g_iconst (nx := 58) (0) F dX6_serve_57 rfl rfl ?_
        refine g_istore_n (nx := 59) 3 F dX6_serve_58 rfl rfl (by decide) ?_
        try dsimp only [List.set]
        refine g_iload_n (nx := 60) 3 F dX6_serve_59 rfl rfl rfl ?_
        refine g_if_eq (nx := 63) 84 F dX6_serve_60 rfl (by decide) (fun c_60 => ?_) (fun c_60 => ?_)
        · refine g_aload_n (nx := 85) 0 F dX6_serve_84 rfl rfl rfl ?_
          refine g_getR (nx := 88) F dX6_serve_85 rfl fl_RX6_18 rfl (by decide) (by decide) rfl ?_
          refine g_iload_n (nx := 89) 2 F dX6_serve_88 rfl rfl rfl ?_
          refine g_dup2 (nx := 90) F dX6_serve_89 rfl rfl rfl ?_
          refine g_ialdN (nx := 91) (j) (P 2 j) F dX6_serve_90 rfl rfl (by omega) (congrFun (hr3.2.2.2.2.1 2 (by decide)) j) ?_
          refine g_iconst (nx := 92) (1) F dX6_serve_91 rfl rfl ?_
          refine g_iadd (nx := 93) F dX6_serve_92 rfl ?_
          refine g_iastN (nx := 94) (j) F dX6_serve_93 rfl rfl (by omega) ?_
          refine g_iconst (nx := 95) (0) F dX6_serve_94 rfl rfl ?_
          refine g_iret F E dX6_serve_95 ?_
          refine ⟨_, rfl, ?_⟩
          unfold servP
          rw [if_neg (bI_0.mp c_11)]
          first
            | exact absurd rfl c_60
            | exact absurd (show (1 : Int32) = 0 from c_60) (by decide)
            | (have hq : (D 4 j = 1 ∨ prP T D P n o y i j = 0) ∧ wtP T D P n o y i j ≤ P 2 j := ⟨Or.inl c_43, not_lt_I.mp c_73⟩; rw [if_pos hq]; exact ⟨hr78, by rw [goOnP_8, Int32.add_zero]⟩)
            | (have hq : (D 4 j = 1 ∨ prP T D P n o y i j = 0) ∧ wtP T D P n o y i j ≤ P 2 j := ⟨Or.inr c_50, not_lt_I.mp c_73⟩; rw [if_pos hq]; exact ⟨hr78, by rw [goOnP_8, Int32.add_zero]⟩)
            | (have hq : ¬ ((D 4 j = 1 ∨ prP T D P n o y i j = 0) ∧ wtP T D P n o y i j ≤ P 2 j) := fun z => absurd c_73 (not_lt_I.mpr z.2); rw [if_neg hq]; exact ⟨RC_upd 2 j _ (by decide) (by decide) (by decide) hr3, by rw [zu_ne _ (by decide), Int32.add_zero]⟩)
            | (have hq : ¬ ((D 4 j = 1 ∨ prP T D P n o y i j = 0) ∧ wtP T D P n o y i j ≤ P 2 j) := fun z => z.1.elim c_43 c_50; rw [if_neg hq]; exact ⟨RC_upd 2 j _ (by decide) (by decide) (by decide) hr3, by rw [zu_ne _ (by decide), Int32.add_zero]⟩)
        · refine g_aload_n (nx := 64) 0 F dX6_serve_63 rfl rfl rfl ?_
          refine g_getR (nx := 67) F dX6_serve_64 rfl fl_RX6_18 rfl (by decide) (by decide) rfl ?_
          refine g_iload_n (nx := 68) 2 F dX6_serve_67 rfl rfl rfl ?_
          refine g_ialdN (nx := 69) (j) (P 2 j) F dX6_serve_68 rfl rfl (by omega) (congrFun (hr3.2.2.2.2.1 2 (by decide)) j) ?_
          refine g_aload_n (nx := 70) 0 F dX6_serve_69 rfl rfl rfl ?_
          refine g_getV (nx := 73) (wtP T D P n o y i j) F dX6_serve_70 rfl fl_RX6_125 rfl (by decide) (by decide) rfl rfl (hw3) ?_
          refine g_icmp_lt (nx := 76) 84 F dX6_serve_73 rfl (by decide) (fun c_73 => ?_) (fun c_73 => ?_)
          · refine g_aload_n (nx := 85) 0 F dX6_serve_84 rfl rfl rfl ?_
            refine g_getR (nx := 88) F dX6_serve_85 rfl fl_RX6_18 rfl (by decide) (by decide) rfl ?_
            refine g_iload_n (nx := 89) 2 F dX6_serve_88 rfl rfl rfl ?_
            refine g_dup2 (nx := 90) F dX6_serve_89 rfl rfl rfl ?_
            refine g_ialdN (nx := 91) (j) (P 2 j) F dX6_serve_90 rfl rfl (by omega) (congrFun (hr3.2.2.2.2.1 2 (by decide)) j) ?_
            refine g_iconst (nx := 92) (1) F dX6_serve_91 rfl rfl ?_
            refine g_iadd (nx := 93) F dX6_serve_92 rfl ?_
            refine g_iastN (nx := 94) (j) F dX6_serve_93 rfl rfl (by omega) ?_
            refine g_iconst (nx := 95) (0) F dX6_serve_94 rfl rfl ?_
            refine g_iret F E dX6_serve_95 ?_
            refine ⟨_, rfl, ?_⟩
            unfold servP
            rw [if_neg (bI_0.mp c_11)]
            first
              | exact absurd rfl c_60
              | exact absurd (show (1 : Int32) = 0 from c_60) (by decide)
              | (have hq : (D 4 j = 1 ∨ prP T D P n o y i j = 0) ∧ wtP T D P n o y i j ≤ P 2 j := ⟨Or.inl c_43, not_lt_I.mp c_73⟩; rw [if_pos hq]; exact ⟨hr78, by rw [goOnP_8, Int32.add_zero]⟩)
              | (have hq : (D 4 j = 1 ∨ prP T D P n o y i j = 0) ∧ wtP T D P n o y i j ≤ P 2 j := ⟨Or.inr c_50, not_lt_I.mp c_73⟩; rw [if_pos hq]; exact ⟨hr78, by rw [goOnP_8, Int32.add_zero]⟩)
              | (have hq : ¬ ((D 4 j = 1 ∨ prP T D P n o y i j = 0) ∧ wtP T D P n o y i j ≤ P 2 j) := fun z => absurd c_73 (not_lt_I.mpr z.2); rw [if_neg hq]; exact ⟨RC_upd 2 j _ (by decide) (by decide) (by decide) hr3, by rw [zu_ne _ (by decide), Int32.add_zero]⟩)
              | (have hq : ¬ ((D 4 j = 1 ∨ prP T D P n o y i j = 0) ∧ wtP T D P n o y i j ≤ P 2 j) := fun z => z.1.elim c_43 c_50; rw [if_neg hq]; exact ⟨RC_upd 2 j _ (by decide) (by decide) (by decide) hr3, by rw [zu_ne _ (by decide), Int32.add_zero]⟩)
          · refine g_aload_n (nx := 77) 0 F dX6_serve_76 rfl rfl rfl ?_
            refine g_iload_n (nx := 78) 2 F dX6_serve_77 rfl rfl rfl ?_
            refine g_callV (nx := 81) 1 0 [.int (nI j)] F dX6_serve_78 rfl ml_RX6_168 mo_X6_goOn rfl rfl rfl rfl (Nat.le_of_ble_eq_true rfl) (by first | decide | omega) (c_goOn_17 P σ0 n s a y j τ_3 hr3 hy hj hn ha hs8 hP he3.2.2.2.2.2.2.1) (fun r_78 τ_78 q_78 => ?_)
            obtain ⟨rfl, hr78⟩ := q_78
            dsimp only [Option.toList, List.append, List.cons_append, List.nil_append]
            refine g_goto 94 F dX6_serve_81 (by decide) ?_
            refine g_iconst (nx := 95) (0) F dX6_serve_94 rfl rfl ?_
            refine g_iret F E dX6_serve_95 ?_
            refine ⟨_, rfl, ?_⟩
            unfold servP
            rw [if_neg (bI_0.mp c_11)]
            first
              | exact absurd rfl c_60
              | exact absurd (show (1 : Int32) = 0 from c_60) (by decide)
              | (have hq : (D 4 j = 1 ∨ prP T D P n o y i j = 0) ∧ wtP T D P n o y i j ≤ P 2 j := ⟨Or.inl c_43, not_lt_I.mp c_73⟩; rw [if_pos hq]; exact ⟨hr78, by rw [goOnP_8, Int32.add_zero]⟩)
              | (have hq : (D 4 j = 1 ∨ prP T D P n o y i j = 0) ∧ wtP T D P n o y i j ≤ P 2 j := ⟨Or.inr c_50, not_lt_I.mp c_73⟩; rw [if_pos hq]; exact ⟨hr78, by rw [goOnP_8, Int32.add_zero]⟩)
              | (have hq : ¬ ((D 4 j = 1 ∨ prP T D P n o y i j = 0) ∧ wtP T D P n o y i j ≤ P 2 j) := fun z => absurd c_73 (not_lt_I.mpr z.2); rw [if_neg hq]; exact ⟨RC_upd 2 j _ (by decide) (by decide) (by decide) hr3, by rw [zu_ne _ (by decide), Int32.add_zero]⟩)
              | (have hq : ¬ ((D 4 j = 1 ∨ prP T D P n o y i j = 0) ∧ wtP T D P n o y i j ≤ P 2 j) := fun z => z.1.elim c_43 c_50; rw [if_neg hq]; exact ⟨RC_upd 2 j _ (by decide) (by decide) (by decide) hr3, by rw [zu_ne _ (by decide), Int32.add_zero]⟩)
      · refine g_iconst (nx := 54) (1) F dX6_serve_53 rfl rfl ?_
        refine g_goto 58 F dX6_serve_54 (by decide) ?_
        refine g_istore_n (nx := 59) 3 F dX6_serve_58 rfl rfl (by decide) ?_
        try dsimp only [List.set]
        refine g_iload_n (nx := 60) 3 F dX6_serve_59 rfl rfl rfl ?_
        refine g_if_eq (nx := 63) 84 F dX6_serve_60 rfl (by decide) (fun c_60 => ?_) (fun c_60 => ?_)
        · refine g_aload_n (nx := 85) 0 F dX6_serve_84 rfl rfl rfl ?_
          refine g_getR (nx := 88) F dX6_serve_85 rfl fl_RX6_18 rfl (by decide) (by decide) rfl ?_
          refine g_iload_n (nx := 89) 2 F dX6_serve_88 rfl rfl rfl ?_
          refine g_dup2 (nx := 90) F dX6_serve_89 rfl rfl rfl ?_
          refine g_ialdN (nx := 91) (j) (P 2 j) F dX6_serve_90 rfl rfl (by omega) (congrFun (hr3.2.2.2.2.1 2 (by decide)) j) ?_
          refine g_iconst (nx := 92) (1) F dX6_serve_91 rfl rfl ?_
          refine g_iadd (nx := 93) F dX6_serve_92 rfl ?_
          refine g_iastN (nx := 94) (j) F dX6_serve_93 rfl rfl (by omega) ?_
          refine g_iconst (nx := 95) (0) F dX6_serve_94 rfl rfl ?_
          refine g_iret F E dX6_serve_95 ?_
          refine ⟨_, rfl, ?_⟩
          unfold servP
          rw [if_neg (bI_0.mp c_11)]
          first
            | exact absurd rfl c_60
            | exact absurd (show (1 : Int32) = 0 from c_60) (by decide)
            | (have hq : (D 4 j = 1 ∨ prP T D P n o y i j = 0) ∧ wtP T D P n o y i j ≤ P 2 j := ⟨Or.inl c_43, not_lt_I.mp c_73⟩; rw [if_pos hq]; exact ⟨hr78, by rw [goOnP_8, Int32.add_zero]⟩)
            | (have hq : (D 4 j = 1 ∨ prP T D P n o y i j = 0) ∧ wtP T D P n o y i j ≤ P 2 j := ⟨Or.inr c_50, not_lt_I.mp c_73⟩; rw [if_pos hq]; exact ⟨hr78, by rw [goOnP_8, Int32.add_zero]⟩)
            | (have hq : ¬ ((D 4 j = 1 ∨ prP T D P n o y i j = 0) ∧ wtP T D P n o y i j ≤ P 2 j) := fun z => absurd c_73 (not_lt_I.mpr z.2); rw [if_neg hq]; exact ⟨RC_upd 2 j _ (by decide) (by decide) (by decide) hr3, by rw [zu_ne _ (by decide), Int32.add_zero]⟩)
            | (have hq : ¬ ((D 4 j = 1 ∨ prP T D P n o y i j = 0) ∧ wtP T D P n o y i j ≤ P 2 j) := fun z => z.1.elim c_43 c_50; rw [if_neg hq]; exact ⟨RC_upd 2 j _ (by decide) (by decide) (by decide) hr3, by rw [zu_ne _ (by decide), Int32.add_zero]⟩)
        · refine g_aload_n (nx := 64) 0 F dX6_serve_63 rfl rfl rfl ?_
          refine g_getR (nx := 67) F dX6_serve_64 rfl fl_RX6_18 rfl (by decide) (by decide) rfl ?_
          refine g_iload_n (nx := 68) 2 F dX6_serve_67 rfl rfl rfl ?_
          refine g_ialdN (nx := 69) (j) (P 2 j) F dX6_serve_68 rfl rfl (by omega) (congrFun (hr3.2.2.2.2.1 2 (by decide)) j) ?_
          refine g_aload_n (nx := 70) 0 F dX6_serve_69 rfl rfl rfl ?_
          refine g_getV (nx := 73) (wtP T D P n o y i j) F dX6_serve_70 rfl fl_RX6_125 rfl (by decide) (by decide) rfl rfl (hw3) ?_
          refine g_icmp_lt (nx := 76) 84 F dX6_serve_73 rfl (by decide) (fun c_73 => ?_) (fun c_73 => ?_)
          · refine g_aload_n (nx := 85) 0 F dX6_serve_84 rfl rfl rfl ?_
            refine g_getR (nx := 88) F dX6_serve_85 rfl fl_RX6_18 rfl (by decide) (by decide) rfl ?_
            refine g_iload_n (nx := 89) 2 F dX6_serve_88 rfl rfl rfl ?_
            refine g_dup2 (nx := 90) F dX6_serve_89 rfl rfl rfl ?_
            refine g_ialdN (nx := 91) (j) (P 2 j) F dX6_serve_90 rfl rfl (by omega) (congrFun (hr3.2.2.2.2.1 2 (by decide)) j) ?_
            refine g_iconst (nx := 92) (1) F dX6_serve_91 rfl rfl ?_
            refine g_iadd (nx := 93) F dX6_serve_92 rfl ?_
            refine g_iastN (nx := 94) (j) F dX6_serve_93 rfl rfl (by omega) ?_
            refine g_iconst (nx := 95) (0) F dX6_serve_94 rfl rfl ?_
            refine g_iret F E dX6_serve_95 ?_
            refine ⟨_, rfl, ?_⟩
            unfold servP
            rw [if_neg (bI_0.mp c_11)]
            first
              | exact absurd rfl c_60
              | exact absurd (show (1 : Int32) = 0 from c_60) (by decide)
              | (have hq : (D 4 j = 1 ∨ prP T D P n o y i j = 0) ∧ wtP T D P n o y i j ≤ P 2 j := ⟨Or.inl c_43, not_lt_I.mp c_73⟩; rw [if_pos hq]; exact ⟨hr78, by rw [goOnP_8, Int32.add_zero]⟩)
              | (have hq : (D 4 j = 1 ∨ prP T D P n o y i j = 0) ∧ wtP T D P n o y i j ≤ P 2 j := ⟨Or.inr c_50, not_lt_I.mp c_73⟩; rw [if_pos hq]; exact ⟨hr78, by rw [goOnP_8, Int32.add_zero]⟩)
              | (have hq : ¬ ((D 4 j = 1 ∨ prP T D P n o y i j = 0) ∧ wtP T D P n o y i j ≤ P 2 j) := fun z => absurd c_73 (not_lt_I.mpr z.2); rw [if_neg hq]; exact ⟨RC_upd 2 j _ (by decide) (by decide) (by decide) hr3, by rw [zu_ne _ (by decide), Int32.add_zero]⟩)
              | (have hq : ¬ ((D 4 j = 1 ∨ prP T D P n o y i j = 0) ∧ wtP T D P n o y i j ≤ P 2 j) := fun z => z.1.elim c_43 c_50; rw [if_neg hq]; exact ⟨RC_upd 2 j _ (by decide) (by decide) (by decide) hr3, by rw [zu_ne _ (by decide), Int32.add_zero]⟩)
          · refine g_aload_n (nx := 77) 0 F dX6_serve_76 rfl rfl rfl ?_
            refine g_iload_n (nx := 78) 2 F dX6_serve_77 rfl rfl rfl ?_
            refine g_callV (nx := 81) 1 0 [.int (nI j)] F dX6_serve_78 rfl ml_RX6_168 mo_X6_goOn rfl rfl rfl rfl (Nat.le_of_ble_eq_true rfl) (by first | decide | omega) (c_goOn_17 P σ0 n s a y j τ_3 hr3 hy hj hn ha hs8 hP he3.2.2.2.2.2.2.1) (fun r_78 τ_78 q_78 => ?_)
            obtain ⟨rfl, hr78⟩ := q_78
            dsimp only [Option.toList, List.append, List.cons_append, List.nil_append]
            refine g_goto 94 F dX6_serve_81 (by decide) ?_
            refine g_iconst (nx := 95) (0) F dX6_serve_94 rfl rfl ?_
            refine g_iret F E dX6_serve_95 ?_
            refine ⟨_, rfl, ?_⟩
            unfold servP
            rw [if_neg (bI_0.mp c_11)]
            first
              | exact absurd rfl c_60
              | exact absurd (show (1 : Int32) = 0 from c_60) (by decide)
              | (have hq : (D 4 j = 1 ∨ prP T D P n o y i j = 0) ∧ wtP T D P n o y i j ≤ P 2 j := ⟨Or.inl c_43, not_lt_I.mp c_73⟩; rw [if_pos hq]; exact ⟨hr78, by rw [goOnP_8, Int32.add_zero]⟩)
              | (have hq : (D 4 j = 1 ∨ prP T D P n o y i j = 0) ∧ wtP T D P n o y i j ≤ P 2 j := ⟨Or.inr c_50, not_lt_I.mp c_73⟩; rw [if_pos hq]; exact ⟨hr78, by rw [goOnP_8, Int32.add_zero]⟩)
              | (have hq : ¬ ((D 4 j = 1 ∨ prP T D P n o y i j = 0) ∧ wtP T D P n o y i j ≤ P 2 j) := fun z => absurd c_73 (not_lt_I.mpr z.2); rw [if_neg hq]; exact ⟨RC_upd 2 j _ (by decide) (by decide) (by decide) hr3, by rw [zu_ne _ (by decide), Int32.add_zero]⟩)
              | (have hq : ¬ ((D 4 j = 1 ∨ prP T D P n o y i j = 0) ∧ wtP T D P n o y i j ≤ P 2 j) := fun z => z.1.elim c_43 c_50; rw [if_neg hq]; exact ⟨RC_upd 2 j _ (by decide) (by decide) (by decide) hr3, by rw [zu_ne _ (by decide), Int32.add_zero]⟩)
  · refine g_aload_n (nx := 15) 0 F dX6_serve_14 rfl rfl rfl ?_
    refine g_getV (nx := 18) (prP T D P n o y i j) F dX6_serve_15 rfl fl_RX6_122 rfl (by decide) (by decide) rfl rfl (hp3) ?_
    refine g_istore_n (nx := 19) 3 F dX6_serve_18 rfl rfl (by decide) ?_
    try dsimp only [List.set]
    refine g_aload_n (nx := 20) 0 F dX6_serve_19 rfl rfl rfl ?_
    refine g_iload_n (nx := 21) 1 F dX6_serve_20 rfl rfl rfl ?_
    refine g_iload_n (nx := 22) 2 F dX6_serve_21 rfl rfl rfl ?_
    refine g_iload_n (nx := 23) 3 F dX6_serve_22 rfl rfl rfl ?_
    refine g_callV (nx := 26) 3 3 [.int (nI i), .int (nI j), .int (prP T D P n o y i j)] F dX6_serve_23 rfl ml_RX6_165 mo_X6_give rfl rfl rfl rfl (Nat.le_of_ble_eq_true rfl) (by first | decide | omega) (c_give_17 T D P σ0 n s a o y i j (prP T D P n o y i j) τ_3 he3 hr3 hy ho hi hj hn (by omega) hP) (fun r_23 τ_23 q_23 => ?_)
    obtain ⟨rfl, hr23⟩ := q_23
    dsimp only [Option.toList, List.append, List.cons_append, List.nil_append]
    have he23 := RC_env (by decide) hr23 he
    refine g_aload_n (nx := 27) 0 F dX6_serve_26 rfl rfl rfl ?_
    refine g_iload_n (nx := 28) 2 F dX6_serve_27 rfl rfl rfl ?_
    refine g_callV (nx := 31) 1 0 [.int (nI j)] F dX6_serve_28 rfl ml_RX6_168 mo_X6_goOn rfl rfl rfl rfl (Nat.le_of_ble_eq_true rfl) (by first | decide | omega) (c_goOn_17 (giveP P i j (prP T D P n o y i j) (lwP T D P n o y i j (prP T D P n o y i j) 103) (lwP T D P n o y i j (prP T D P n o y i j) 107) (lwP T D P n o y i j (prP T D P n o y i j) 98)) σ0 n s a y j τ_23 hr23 hy hj hn ha hs8 (by rw [giveP_0]; exact hP) he23.2.2.2.2.2.2.1) (fun r_28 τ_28 q_28 => ?_)
    obtain ⟨rfl, hr28⟩ := q_28
    dsimp only [Option.toList, List.append, List.cons_append, List.nil_append]
    refine g_iload_n (nx := 32) 3 F dX6_serve_31 rfl rfl rfl ?_
    refine g_iret F E dX6_serve_32 ?_
    refine ⟨_, rfl, ?_⟩
    unfold servP
    rw [if_pos (bI_n0.mp c_11)]
    exact ⟨hr28, by rw [goOnP_8, (giveP_8 _ _ _ _ _ _ _).2.2]⟩
set_option maxHeartbeats 4000000 in
set_option maxRecDepth 100000 in
theorem c_cheapest_17 (T : Nat → TXT) (D P σ0 : zSt) (n s a : Nat) (o y : Int32) (j : Nat) (c : Nat) (σ : zSt) (he : EnvC σ0 D T s) (hr : RC 17 n s σ0 σ P) (hy : σ0 17 12 = y) (ho : σ0 17 14 = o) (hj : j < n) (hn : n ≤ 40) (ha : a < s) (hP : P 0 j = nI a) (hc : c < 1024) : Con mX6_cheapest 4 [.ref 17, .int (nI c), .int (nI j)] σ (fun r τ => r = some (.int (nI ((cpF c (fun i => prP T D P n o y i j) (fun i => wtP T D P n o y i j) 10 0 none 0 0).getD 0))) ∧ RC 17 n s σ0 τ P) := by
  have heσ := RC_env (by decide) hr he
  have hs8 := heσ.2.2.2.2.2.2.2.1
  refine Con.of (lv := [.ref 17, .int (nI c), .int (nI j), .long 0, .long 0, .long 0, .long 0]) mk_X6_cheapest rfl (Nat.le_of_ble_eq_true rfl) rfl (fun X F E => ?_)
  have L : ∀ (q i : Nat) (best : Option Nat) (p w : Int32) (τ : zSt), i + q = 10 → (∀ k, best = some k → k < 10) → RC 17 n s σ0 τ P → cpF c (fun i => prP T D P n o y i j) (fun i => wtP T D P n o y i j) q i best p w = cpF c (fun i => prP T D P n o y i j) (fun i => wtP T D P n o y i j) 10 0 none 0 0 → Gs X 11 [.ref 17, .int (nI c), .int (nI j), .int (bO best), .int p, .int w, .int (nI i)] [] τ := by
    intro q
    induction q with
    | zero =>
      intro i best p w τ hi hb hr hA
      have hi : i = 10 := hi
      subst hi
      refine g_iload (nx := 13) F dX6_cheapest_11 rfl rfl ?_
      refine g_bipush (nx := 15) (10) F dX6_cheapest_13 rfl (by decide) ?_
      refine g_icmp_ge (nx := 18) 88 F dX6_cheapest_15 rfl (by decide) (fun c_15 => ?_) (fun c_15 => absurd c_15 (by decide))
      refine g_iload_n (nx := 89) 3 F dX6_cheapest_88 rfl rfl rfl ?_
      refine g_iconst (nx := 90) (0) F dX6_cheapest_89 rfl rfl ?_
      refine g_mmax (nx := 93) F dX6_cheapest_90 rfl mm_Play_128 (by omega) (Nat.le_of_ble_eq_true rfl) ?_
      refine g_iret F E dX6_cheapest_93 ?_
      refine ⟨?_, hr⟩
      rw [← hA]
      cases best with
      | none => rfl
      | some k => exact congrArg (fun z => some (Value.int z)) (if_neg (nI_pos (by have := hb k rfl; omega)))
    | succ q ih =>
      intro i best p w τ hi hb hr hA
      have hbit := bit_ok c hc i (by omega)
      have heτ := RC_env (by decide) hr he
      rw [cpF] at hA
      refine g_iload (nx := 13) F dX6_cheapest_11 rfl rfl ?_
      refine g_bipush (nx := 15) (10) F dX6_cheapest_13 rfl (by decide) ?_
      refine g_icmp_ge (nx := 18) 88 F dX6_cheapest_15 rfl (by decide) (fun c_15 => absurd c_15 (by exact nI_ge (b := 10) (by omega) (by omega))) (fun c_15 => ?_)
      refine g_iload_n (nx := 19) 1 F dX6_cheapest_18 rfl rfl rfl ?_
      refine g_iload (nx := 21) F dX6_cheapest_19 rfl rfl ?_
      refine g_ishr (nx := 22) F dX6_cheapest_21 rfl ?_
      refine g_iconst (nx := 23) (1) F dX6_cheapest_22 rfl rfl ?_
      refine g_iand (nx := 24) F dX6_cheapest_23 rfl ?_
      refine g_iconst (nx := 25) (1) F dX6_cheapest_24 rfl rfl ?_
      rw [hbit]
      refine g_icmp_ne (nx := 28) 82 F dX6_cheapest_25 rfl (by decide) (fun c_25 => ?_) (fun c_25 => ?_)
      · refine g_iinc (nx := 85) (1) F dX6_cheapest_82 rfl rfl (by decide) (by decide) ?_
        try dsimp only [List.set]
        refine g_goto 11 F dX6_cheapest_85 (by decide) ?_
        rw [nI_1]
        first
          | (have hq : ¬ (c / 2 ^ i % 2 = 1 ∧ (best = none ∨ prP T D P n o y i j < p ∨ (prP T D P n o y i j = p ∧ wtP T D P n o y i j < w))) := fun z0 => c_25 ((bt_1 _).mpr z0.1); rw [if_neg hq] at hA; exact ih (i + 1) best p w _ (by omega) hb hr hA)
          | (have hq : c / 2 ^ i % 2 = 1 ∧ (best = none ∨ prP T D P n o y i j < p ∨ (prP T D P n o y i j = p ∧ wtP T D P n o y i j < w)) := ⟨(bt_1 _).mp c_25, Or.inl (bO_none hb c_37)⟩; rw [if_pos hq] at hA; exact ih (i + 1) (some i) _ _ _ (by omega) (fun k hk => by cases hk; omega) hr3 hA)
          | (have hq : c / 2 ^ i % 2 = 1 ∧ (best = none ∨ prP T D P n o y i j < p ∨ (prP T D P n o y i j = p ∧ wtP T D P n o y i j < w)) := ⟨(bt_1 _).mp c_25, Or.inr (Or.inl c_46)⟩; rw [if_pos hq] at hA; exact ih (i + 1) (some i) _ _ _ (by omega) (fun k hk => by cases hk; omega) hr3 hA)
          | (have hq : c / 2 ^ i % 2 = 1 ∧ (best = none ∨ prP T D P n o y i j < p ∨ (prP T D P n o y i j = p ∧ wtP T D P n o y i j < w)) := ⟨(bt_1 _).mp c_25, Or.inr (Or.inr ⟨c_55, not_le_I.mp c_64⟩)⟩; rw [if_pos hq] at hA; exact ih (i + 1) (some i) _ _ _ (by omega) (fun k hk => by cases hk; omega) hr3 hA)
          | (have hq : ¬ (c / 2 ^ i % 2 = 1 ∧ (best = none ∨ prP T D P n o y i j < p ∨ (prP T D P n o y i j = p ∧ wtP T D P n o y i j < w))) := fun z0 => z0.2.elim (fun z1 => c_37 (congrArg bO z1)) (fun z1 => z1.elim c_46 (fun z2 => absurd c_64 (not_le_I.mpr z2.2))); rw [if_neg hq] at hA; exact ih (i + 1) best p w _ (by omega) hb hr3 hA)
          | (have hq : ¬ (c / 2 ^ i % 2 = 1 ∧ (best = none ∨ prP T D P n o y i j < p ∨ (prP T D P n o y i j = p ∧ wtP T D P n o y i j < w))) := fun z0 => z0.2.elim (fun z1 => c_37 (congrArg bO z1)) (fun z1 => z1.elim c_46 (fun z2 => c_55 z2.1)); rw [if_neg hq] at hA; exact ih (i + 1) best p w _ (by omega) hb hr3 hA)
      · refine g_aload_n (nx := 29) 0 F dX6_cheapest_28 rfl rfl rfl ?_
        refine g_iload (nx := 31) F dX6_cheapest_29 rfl rfl ?_
        refine g_iload_n (nx := 32) 2 F dX6_cheapest_31 rfl rfl rfl ?_
        refine g_callV (nx := 35) 2 3 [.int (nI i), .int (nI j)] F dX6_cheapest_32 rfl ml_RX6_118 mo_X6_meet rfl rfl rfl rfl (Nat.le_of_ble_eq_true rfl) (by first | decide | omega) (c_meet_17 T D P σ0 n s a o y i j _ heτ hr hy ho (by omega) hj hn (by omega) hP) (fun r_32 τ_32 q_32 => ?_)
        obtain ⟨rfl, hr3, hp3, hw3⟩ := q_32
        dsimp only [Option.toList, List.append, List.cons_append, List.nil_append]
        refine g_iload_n (nx := 36) 3 F dX6_cheapest_35 rfl rfl rfl ?_
        refine g_iconst (nx := 37) (-1) F dX6_cheapest_36 rfl rfl ?_
        refine g_icmp_eq (nx := 40) 67 F dX6_cheapest_37 rfl (by decide) (fun c_37 => ?_) (fun c_37 => ?_)
        · refine g_iload (nx := 69) F dX6_cheapest_67 rfl rfl ?_
          refine g_istore_n (nx := 70) 3 F dX6_cheapest_69 rfl rfl (by decide) ?_
          try dsimp only [List.set]
          refine g_aload_n (nx := 71) 0 F dX6_cheapest_70 rfl rfl rfl ?_
          refine g_getV (nx := 74) (prP T D P n o y i j) F dX6_cheapest_71 rfl fl_RX6_122 rfl (by decide) (by decide) rfl rfl (hp3) ?_
          refine g_istore (nx := 76) F dX6_cheapest_74 rfl (by decide) ?_
          try dsimp only [List.set]
          refine g_aload_n (nx := 77) 0 F dX6_cheapest_76 rfl rfl rfl ?_
          refine g_getV (nx := 80) (wtP T D P n o y i j) F dX6_cheapest_77 rfl fl_RX6_125 rfl (by decide) (by decide) rfl rfl (hw3) ?_
          refine g_istore (nx := 82) F dX6_cheapest_80 rfl (by decide) ?_
          try dsimp only [List.set]
          refine g_iinc (nx := 85) (1) F dX6_cheapest_82 rfl rfl (by decide) (by decide) ?_
          try dsimp only [List.set]
          refine g_goto 11 F dX6_cheapest_85 (by decide) ?_
          rw [nI_1]
          first
            | (have hq : ¬ (c / 2 ^ i % 2 = 1 ∧ (best = none ∨ prP T D P n o y i j < p ∨ (prP T D P n o y i j = p ∧ wtP T D P n o y i j < w))) := fun z0 => c_25 ((bt_1 _).mpr z0.1); rw [if_neg hq] at hA; exact ih (i + 1) best p w _ (by omega) hb hr hA)
            | (have hq : c / 2 ^ i % 2 = 1 ∧ (best = none ∨ prP T D P n o y i j < p ∨ (prP T D P n o y i j = p ∧ wtP T D P n o y i j < w)) := ⟨(bt_1 _).mp c_25, Or.inl (bO_none hb c_37)⟩; rw [if_pos hq] at hA; exact ih (i + 1) (some i) _ _ _ (by omega) (fun k hk => by cases hk; omega) hr3 hA)
            | (have hq : c / 2 ^ i % 2 = 1 ∧ (best = none ∨ prP T D P n o y i j < p ∨ (prP T D P n o y i j = p ∧ wtP T D P n o y i j < w)) := ⟨(bt_1 _).mp c_25, Or.inr (Or.inl c_46)⟩; rw [if_pos hq] at hA; exact ih (i + 1) (some i) _ _ _ (by omega) (fun k hk => by cases hk; omega) hr3 hA)
            | (have hq : c / 2 ^ i % 2 = 1 ∧ (best = none ∨ prP T D P n o y i j < p ∨ (prP T D P n o y i j = p ∧ wtP T D P n o y i j < w)) := ⟨(bt_1 _).mp c_25, Or.inr (Or.inr ⟨c_55, not_le_I.mp c_64⟩)⟩; rw [if_pos hq] at hA; exact ih (i + 1) (some i) _ _ _ (by omega) (fun k hk => by cases hk; omega) hr3 hA)
            | (have hq : ¬ (c / 2 ^ i % 2 = 1 ∧ (best = none ∨ prP T D P n o y i j < p ∨ (prP T D P n o y i j = p ∧ wtP T D P n o y i j < w))) := fun z0 => z0.2.elim (fun z1 => c_37 (congrArg bO z1)) (fun z1 => z1.elim c_46 (fun z2 => absurd c_64 (not_le_I.mpr z2.2))); rw [if_neg hq] at hA; exact ih (i + 1) best p w _ (by omega) hb hr3 hA)
            | (have hq : ¬ (c / 2 ^ i % 2 = 1 ∧ (best = none ∨ prP T D P n o y i j < p ∨ (prP T D P n o y i j = p ∧ wtP T D P n o y i j < w))) := fun z0 => z0.2.elim (fun z1 => c_37 (congrArg bO z1)) (fun z1 => z1.elim c_46 (fun z2 => c_55 z2.1)); rw [if_neg hq] at hA; exact ih (i + 1) best p w _ (by omega) hb hr3 hA)
        · refine g_aload_n (nx := 41) 0 F dX6_cheapest_40 rfl rfl rfl ?_
          refine g_getV (nx := 44) (prP T D P n o y i j) F dX6_cheapest_41 rfl fl_RX6_122 rfl (by decide) (by decide) rfl rfl (hp3) ?_
          refine g_iload (nx := 46) F dX6_cheapest_44 rfl rfl ?_
          refine g_icmp_lt (nx := 49) 67 F dX6_cheapest_46 rfl (by decide) (fun c_46 => ?_) (fun c_46 => ?_)
          · refine g_iload (nx := 69) F dX6_cheapest_67 rfl rfl ?_
            refine g_istore_n (nx := 70) 3 F dX6_cheapest_69 rfl rfl (by decide) ?_
            try dsimp only [List.set]
            refine g_aload_n (nx := 71) 0 F dX6_cheapest_70 rfl rfl rfl ?_
            refine g_getV (nx := 74) (prP T D P n o y i j) F dX6_cheapest_71 rfl fl_RX6_122 rfl (by decide) (by decide) rfl rfl (hp3) ?_
            refine g_istore (nx := 76) F dX6_cheapest_74 rfl (by decide) ?_
            try dsimp only [List.set]
            refine g_aload_n (nx := 77) 0 F dX6_cheapest_76 rfl rfl rfl ?_
            refine g_getV (nx := 80) (wtP T D P n o y i j) F dX6_cheapest_77 rfl fl_RX6_125 rfl (by decide) (by decide) rfl rfl (hw3) ?_
            refine g_istore (nx := 82) F dX6_cheapest_80 rfl (by decide) ?_
            try dsimp only [List.set]
            refine g_iinc (nx := 85) (1) F dX6_cheapest_82 rfl rfl (by decide) (by decide) ?_
            try dsimp only [List.set]
            refine g_goto 11 F dX6_cheapest_85 (by decide) ?_
            rw [nI_1]
            first
              | (have hq : ¬ (c / 2 ^ i % 2 = 1 ∧ (best = none ∨ prP T D P n o y i j < p ∨ (prP T D P n o y i j = p ∧ wtP T D P n o y i j < w))) := fun z0 => c_25 ((bt_1 _).mpr z0.1); rw [if_neg hq] at hA; exact ih (i + 1) best p w _ (by omega) hb hr hA)
              | (have hq : c / 2 ^ i % 2 = 1 ∧ (best = none ∨ prP T D P n o y i j < p ∨ (prP T D P n o y i j = p ∧ wtP T D P n o y i j < w)) := ⟨(bt_1 _).mp c_25, Or.inl (bO_none hb c_37)⟩; rw [if_pos hq] at hA; exact ih (i + 1) (some i) _ _ _ (by omega) (fun k hk => by cases hk; omega) hr3 hA)
              | (have hq : c / 2 ^ i % 2 = 1 ∧ (best = none ∨ prP T D P n o y i j < p ∨ (prP T D P n o y i j = p ∧ wtP T D P n o y i j < w)) := ⟨(bt_1 _).mp c_25, Or.inr (Or.inl c_46)⟩; rw [if_pos hq] at hA; exact ih (i + 1) (some i) _ _ _ (by omega) (fun k hk => by cases hk; omega) hr3 hA)
              | (have hq : c / 2 ^ i % 2 = 1 ∧ (best = none ∨ prP T D P n o y i j < p ∨ (prP T D P n o y i j = p ∧ wtP T D P n o y i j < w)) := ⟨(bt_1 _).mp c_25, Or.inr (Or.inr ⟨c_55, not_le_I.mp c_64⟩)⟩; rw [if_pos hq] at hA; exact ih (i + 1) (some i) _ _ _ (by omega) (fun k hk => by cases hk; omega) hr3 hA)
              | (have hq : ¬ (c / 2 ^ i % 2 = 1 ∧ (best = none ∨ prP T D P n o y i j < p ∨ (prP T D P n o y i j = p ∧ wtP T D P n o y i j < w))) := fun z0 => z0.2.elim (fun z1 => c_37 (congrArg bO z1)) (fun z1 => z1.elim c_46 (fun z2 => absurd c_64 (not_le_I.mpr z2.2))); rw [if_neg hq] at hA; exact ih (i + 1) best p w _ (by omega) hb hr3 hA)
              | (have hq : ¬ (c / 2 ^ i % 2 = 1 ∧ (best = none ∨ prP T D P n o y i j < p ∨ (prP T D P n o y i j = p ∧ wtP T D P n o y i j < w))) := fun z0 => z0.2.elim (fun z1 => c_37 (congrArg bO z1)) (fun z1 => z1.elim c_46 (fun z2 => c_55 z2.1)); rw [if_neg hq] at hA; exact ih (i + 1) best p w _ (by omega) hb hr3 hA)
          · refine g_aload_n (nx := 50) 0 F dX6_cheapest_49 rfl rfl rfl ?_
            refine g_getV (nx := 53) (prP T D P n o y i j) F dX6_cheapest_50 rfl fl_RX6_122 rfl (by decide) (by decide) rfl rfl (hp3) ?_
            refine g_iload (nx := 55) F dX6_cheapest_53 rfl rfl ?_
            refine g_icmp_ne (nx := 58) 82 F dX6_cheapest_55 rfl (by decide) (fun c_55 => ?_) (fun c_55 => ?_)
            · refine g_iinc (nx := 85) (1) F dX6_cheapest_82 rfl rfl (by decide) (by decide) ?_
              try dsimp only [List.set]
              refine g_goto 11 F dX6_cheapest_85 (by decide) ?_
              rw [nI_1]
              first
                | (have hq : ¬ (c / 2 ^ i % 2 = 1 ∧ (best = none ∨ prP T D P n o y i j < p ∨ (prP T D P n o y i j = p ∧ wtP T D P n o y i j < w))) := fun z0 => c_25 ((bt_1 _).mpr z0.1); rw [if_neg hq] at hA; exact ih (i + 1) best p w _ (by omega) hb hr hA)
                | (have hq : c / 2 ^ i % 2 = 1 ∧ (best = none ∨ prP T D P n o y i j < p ∨ (prP T D P n o y i j = p ∧ wtP T D P n o y i j < w)) := ⟨(bt_1 _).mp c_25, Or.inl (bO_none hb c_37)⟩; rw [if_pos hq] at hA; exact ih (i + 1) (some i) _ _ _ (by omega) (fun k hk => by cases hk; omega) hr3 hA)
                | (have hq : c / 2 ^ i % 2 = 1 ∧ (best = none ∨ prP T D P n o y i j < p ∨ (prP T D P n o y i j = p ∧ wtP T D P n o y i j < w)) := ⟨(bt_1 _).mp c_25, Or.inr (Or.inl c_46)⟩; rw [if_pos hq] at hA; exact ih (i + 1) (some i) _ _ _ (by omega) (fun k hk => by cases hk; omega) hr3 hA)
                | (have hq : c / 2 ^ i % 2 = 1 ∧ (best = none ∨ prP T D P n o y i j < p ∨ (prP T D P n o y i j = p ∧ wtP T D P n o y i j < w)) := ⟨(bt_1 _).mp c_25, Or.inr (Or.inr ⟨c_55, not_le_I.mp c_64⟩)⟩; rw [if_pos hq] at hA; exact ih (i + 1) (some i) _ _ _ (by omega) (fun k hk => by cases hk; omega) hr3 hA)
                | (have hq : ¬ (c / 2 ^ i % 2 = 1 ∧ (best = none ∨ prP T D P n o y i j < p ∨ (prP T D P n o y i j = p ∧ wtP T D P n o y i j < w))) := fun z0 => z0.2.elim (fun z1 => c_37 (congrArg bO z1)) (fun z1 => z1.elim c_46 (fun z2 => absurd c_64 (not_le_I.mpr z2.2))); rw [if_neg hq] at hA; exact ih (i + 1) best p w _ (by omega) hb hr3 hA)
                | (have hq : ¬ (c / 2 ^ i % 2 = 1 ∧ (best = none ∨ prP T D P n o y i j < p ∨ (prP T D P n o y i j = p ∧ wtP T D P n o y i j < w))) := fun z0 => z0.2.elim (fun z1 => c_37 (congrArg bO z1)) (fun z1 => z1.elim c_46 (fun z2 => c_55 z2.1)); rw [if_neg hq] at hA; exact ih (i + 1) best p w _ (by omega) hb hr3 hA)
            · refine g_aload_n (nx := 59) 0 F dX6_cheapest_58 rfl rfl rfl ?_
              refine g_getV (nx := 62) (wtP T D P n o y i j) F dX6_cheapest_59 rfl fl_RX6_125 rfl (by decide) (by decide) rfl rfl (hw3) ?_
              refine g_iload (nx := 64) F dX6_cheapest_62 rfl rfl ?_
              refine g_icmp_ge (nx := 67) 82 F dX6_cheapest_64 rfl (by decide) (fun c_64 => ?_) (fun c_64 => ?_)
              · refine g_iinc (nx := 85) (1) F dX6_cheapest_82 rfl rfl (by decide) (by decide) ?_
                try dsimp only [List.set]
                refine g_goto 11 F dX6_cheapest_85 (by decide) ?_
                rw [nI_1]
                first
                  | (have hq : ¬ (c / 2 ^ i % 2 = 1 ∧ (best = none ∨ prP T D P n o y i j < p ∨ (prP T D P n o y i j = p ∧ wtP T D P n o y i j < w))) := fun z0 => c_25 ((bt_1 _).mpr z0.1); rw [if_neg hq] at hA; exact ih (i + 1) best p w _ (by omega) hb hr hA)
                  | (have hq : c / 2 ^ i % 2 = 1 ∧ (best = none ∨ prP T D P n o y i j < p ∨ (prP T D P n o y i j = p ∧ wtP T D P n o y i j < w)) := ⟨(bt_1 _).mp c_25, Or.inl (bO_none hb c_37)⟩; rw [if_pos hq] at hA; exact ih (i + 1) (some i) _ _ _ (by omega) (fun k hk => by cases hk; omega) hr3 hA)
                  | (have hq : c / 2 ^ i % 2 = 1 ∧ (best = none ∨ prP T D P n o y i j < p ∨ (prP T D P n o y i j = p ∧ wtP T D P n o y i j < w)) := ⟨(bt_1 _).mp c_25, Or.inr (Or.inl c_46)⟩; rw [if_pos hq] at hA; exact ih (i + 1) (some i) _ _ _ (by omega) (fun k hk => by cases hk; omega) hr3 hA)
                  | (have hq : c / 2 ^ i % 2 = 1 ∧ (best = none ∨ prP T D P n o y i j < p ∨ (prP T D P n o y i j = p ∧ wtP T D P n o y i j < w)) := ⟨(bt_1 _).mp c_25, Or.inr (Or.inr ⟨c_55, not_le_I.mp c_64⟩)⟩; rw [if_pos hq] at hA; exact ih (i + 1) (some i) _ _ _ (by omega) (fun k hk => by cases hk; omega) hr3 hA)
                  | (have hq : ¬ (c / 2 ^ i % 2 = 1 ∧ (best = none ∨ prP T D P n o y i j < p ∨ (prP T D P n o y i j = p ∧ wtP T D P n o y i j < w))) := fun z0 => z0.2.elim (fun z1 => c_37 (congrArg bO z1)) (fun z1 => z1.elim c_46 (fun z2 => absurd c_64 (not_le_I.mpr z2.2))); rw [if_neg hq] at hA; exact ih (i + 1) best p w _ (by omega) hb hr3 hA)
                  | (have hq : ¬ (c / 2 ^ i % 2 = 1 ∧ (best = none ∨ prP T D P n o y i j < p ∨ (prP T D P n o y i j = p ∧ wtP T D P n o y i j < w))) := fun z0 => z0.2.elim (fun z1 => c_37 (congrArg bO z1)) (fun z1 => z1.elim c_46 (fun z2 => c_55 z2.1)); rw [if_neg hq] at hA; exact ih (i + 1) best p w _ (by omega) hb hr3 hA)
              · refine g_iload (nx := 69) F dX6_cheapest_67 rfl rfl ?_
                refine g_istore_n (nx := 70) 3 F dX6_cheapest_69 rfl rfl (by decide) ?_
                try dsimp only [List.set]
                refine g_aload_n (nx := 71) 0 F dX6_cheapest_70 rfl rfl rfl ?_
                refine g_getV (nx := 74) (prP T D P n o y i j) F dX6_cheapest_71 rfl fl_RX6_122 rfl (by decide) (by decide) rfl rfl (hp3) ?_
                refine g_istore (nx := 76) F dX6_cheapest_74 rfl (by decide) ?_
                try dsimp only [List.set]
                refine g_aload_n (nx := 77) 0 F dX6_cheapest_76 rfl rfl rfl ?_
                refine g_getV (nx := 80) (wtP T D P n o y i j) F dX6_cheapest_77 rfl fl_RX6_125 rfl (by decide) (by decide) rfl rfl (hw3) ?_
                refine g_istore (nx := 82) F dX6_cheapest_80 rfl (by decide) ?_
                try dsimp only [List.set]
                refine g_iinc (nx := 85) (1) F dX6_cheapest_82 rfl rfl (by decide) (by decide) ?_
                try dsimp only [List.set]
                refine g_goto 11 F dX6_cheapest_85 (by decide) ?_
                rw [nI_1]
                first
                  | (have hq : ¬ (c / 2 ^ i % 2 = 1 ∧ (best = none ∨ prP T D P n o y i j < p ∨ (prP T D P n o y i j = p ∧ wtP T D P n o y i j < w))) := fun z0 => c_25 ((bt_1 _).mpr z0.1); rw [if_neg hq] at hA; exact ih (i + 1) best p w _ (by omega) hb hr hA)
                  | (have hq : c / 2 ^ i % 2 = 1 ∧ (best = none ∨ prP T D P n o y i j < p ∨ (prP T D P n o y i j = p ∧ wtP T D P n o y i j < w)) := ⟨(bt_1 _).mp c_25, Or.inl (bO_none hb c_37)⟩; rw [if_pos hq] at hA; exact ih (i + 1) (some i) _ _ _ (by omega) (fun k hk => by cases hk; omega) hr3 hA)
                  | (have hq : c / 2 ^ i % 2 = 1 ∧ (best = none ∨ prP T D P n o y i j < p ∨ (prP T D P n o y i j = p ∧ wtP T D P n o y i j < w)) := ⟨(bt_1 _).mp c_25, Or.inr (Or.inl c_46)⟩; rw [if_pos hq] at hA; exact ih (i + 1) (some i) _ _ _ (by omega) (fun k hk => by cases hk; omega) hr3 hA)
                  | (have hq : c / 2 ^ i % 2 = 1 ∧ (best = none ∨ prP T D P n o y i j < p ∨ (prP T D P n o y i j = p ∧ wtP T D P n o y i j < w)) := ⟨(bt_1 _).mp c_25, Or.inr (Or.inr ⟨c_55, not_le_I.mp c_64⟩)⟩; rw [if_pos hq] at hA; exact ih (i + 1) (some i) _ _ _ (by omega) (fun k hk => by cases hk; omega) hr3 hA)
                  | (have hq : ¬ (c / 2 ^ i % 2 = 1 ∧ (best = none ∨ prP T D P n o y i j < p ∨ (prP T D P n o y i j = p ∧ wtP T D P n o y i j < w))) := fun z0 => z0.2.elim (fun z1 => c_37 (congrArg bO z1)) (fun z1 => z1.elim c_46 (fun z2 => absurd c_64 (not_le_I.mpr z2.2))); rw [if_neg hq] at hA; exact ih (i + 1) best p w _ (by omega) hb hr3 hA)
                  | (have hq : ¬ (c / 2 ^ i % 2 = 1 ∧ (best = none ∨ prP T D P n o y i j < p ∨ (prP T D P n o y i j = p ∧ wtP T D P n o y i j < w))) := fun z0 => z0.2.elim (fun z1 => c_37 (congrArg bO z1)) (fun z1 => z1.elim c_46 (fun z2 => c_55 z2.1)); rw [if_neg hq] at hA; exact ih (i + 1) best p w _ (by omega) hb hr3 hA)
  refine g_iconst (nx := 1) (-1) F dX6_cheapest_0 rfl rfl ?_
  refine g_istore_n (nx := 2) 3 F dX6_cheapest_1 rfl rfl (by decide) ?_
  try dsimp only [List.set]
  refine g_iconst (nx := 3) (0) F dX6_cheapest_2 rfl rfl ?_
  refine g_istore (nx := 5) F dX6_cheapest_3 rfl (by decide) ?_
  try dsimp only [List.set]
  refine g_iconst (nx := 6) (0) F dX6_cheapest_5 rfl rfl ?_
  refine g_istore (nx := 8) F dX6_cheapest_6 rfl (by decide) ?_
  try dsimp only [List.set]
  refine g_iconst (nx := 9) (0) F dX6_cheapest_8 rfl rfl ?_
  refine g_istore (nx := 11) F dX6_cheapest_9 rfl (by decide) ?_
  try dsimp only [List.set]
  exact L 10 0 none 0 0 _ (by omega) (fun k hk => by cases hk) hr rfl
set_option maxHeartbeats 4000000 in
set_option maxRecDepth 100000 in
theorem c_server_17 (T : Nat → TXT) (D P σ0 : zSt) (n s a : Nat) (o y : Int32) (j : Nat) (e : Nat) (σ : zSt) (he : EnvC σ0 D T s) (hr : RC 17 n s σ0 σ P) (hy : σ0 17 12 = y) (ho : σ0 17 14 = o) (hj : j < n) (hn : n ≤ 40) (ha : a < s) (hP : P 0 j = nI a) (hD : okD D s e) (hx : ∃ x, x < 65536 ∧ P 8 0 = nI x) : Con mX6_server 5 [.ref 17, .int (nI j)] σ (fun r τ => r = some (.int (nI (srvI T D n o y P j))) ∧ RC 17 n s σ0 τ (srvQ D P j)) := by
  have heσ := RC_env (by decide) hr he
  have hs8 := heσ.2.2.2.2.2.2.2.1
  obtain ⟨c, hDc, hc0, hc10, hce, hcw, hst, hsi, _⟩ := srvI_ok (T := T) (n := n) (o := o) (y := y) hD ha hs8 hP
  have hb10 := bcN_le c hc10
  have hb0 := bc_pos c hc10 hc0
  obtain ⟨x, hx, hPx⟩ := hx
  have hnx : nxN (P 8 0) = (25173 * x + 13849) % 65536 := by unfold nxN; rw [hPx, nI_tn (by omega)]
  have hix : (25173 : Int32) * nI x + 13849 - (25173 * nI x + 13849) / 65536 * 65536 = nI (nxN (P 8 0)) := by
    rw [show (25173 : Int32) = nI 25173 from rfl, show (13849 : Int32) = nI 13849 from rfl, show (65536 : Int32) = nI 65536 from rfl, pk_mul, nI_add, pk_rem (by omega) (by decide) (by decide), hnx]
  have hix2 : nI (nxN (P 8 0)) - nI (nxN (P 8 0)) / nI (bcN c) * nI (bcN c) = nI (nxN (P 8 0) % bcN c) := pk_rem (by rw [hnx]; omega) hb0 (by omega)
  have hsI : srvI T D n o y P j = if D 3 a = 0 then loF c 10 0 0 else if D 3 a = 2 then loF c 10 0 (nxN (P 8 0) % bcN c) else (cpF c (fun i => prP T D P n o y i j) (fun i => wtP T D P n o y i j) 10 0 none 0 0).getD 0 := by unfold srvI; rw [hcw, hst]
  have hsQ : srvQ D P j = if D 3 a = 2 then zu P 8 0 (nI (nxN (P 8 0))) else P := by unfold srvQ; rw [hst]
  have hlt : nxN (P 8 0) % bcN c < 10 := Nat.lt_of_lt_of_le (Nat.mod_lt _ hb0) hb10
  rw [hsI, hsQ]
  refine Con.of (lv := [.ref 17, .int (nI j), .long 0, .long 0, .long 0]) mk_X6_server rfl (Nat.le_of_ble_eq_true rfl) rfl (fun X F E => ?_)
  refine g_aload_n (nx := 1) 0 F dX6_server_0 rfl rfl rfl ?_
  refine g_getR (nx := 4) F dX6_server_1 rfl fl_RX6_43 rfl (by decide) (by decide) rfl ?_
  refine g_getR (nx := 7) F dX6_server_4 rfl fl_RX6_105 rfl (by decide) (by decide) rfl ?_
  refine g_aload_n (nx := 8) 0 F dX6_server_7 rfl rfl rfl ?_
  refine g_getR (nx := 11) F dX6_server_8 rfl fl_RX6_9 rfl (by decide) (by decide) rfl ?_
  refine g_iload_n (nx := 12) 1 F dX6_server_11 rfl rfl rfl ?_
  refine g_ialdN (nx := 13) (j) (nI a) F dX6_server_12 rfl rfl (by omega) ((congrFun (hr.2.2.2.2.1 0 (by decide)) j).trans hP) ?_
  refine g_ialdN (nx := 14) (a) (nI c) F dX6_server_13 rfl rfl (by omega) ((congrFun heσ.2.2.1 a).trans hDc) ?_
  refine g_istore_n (nx := 15) 2 F dX6_server_14 rfl rfl (by decide) ?_
  try dsimp only [List.set]
  refine g_aload_n (nx := 16) 0 F dX6_server_15 rfl rfl rfl ?_
  refine g_getR (nx := 19) F dX6_server_16 rfl fl_RX6_43 rfl (by decide) (by decide) rfl ?_
  refine g_getR (nx := 22) F dX6_server_19 rfl fl_RX6_108 rfl (by decide) (by decide) rfl ?_
  refine g_aload_n (nx := 23) 0 F dX6_server_22 rfl rfl rfl ?_
  refine g_getR (nx := 26) F dX6_server_23 rfl fl_RX6_9 rfl (by decide) (by decide) rfl ?_
  refine g_iload_n (nx := 27) 1 F dX6_server_26 rfl rfl rfl ?_
  refine g_ialdN (nx := 28) (j) (nI a) F dX6_server_27 rfl rfl (by omega) ((congrFun (hr.2.2.2.2.1 0 (by decide)) j).trans hP) ?_
  refine g_ialdN (nx := 29) (a) (D 3 a) F dX6_server_28 rfl rfl (by omega) (congrFun heσ.2.2.2.1 a) ?_
  refine g_istore_n (nx := 30) 3 F dX6_server_29 rfl rfl (by decide) ?_
  try dsimp only [List.set]
  refine g_iload_n (nx := 31) 3 F dX6_server_30 rfl rfl rfl ?_
  refine g_if_ne (nx := 34) 40 F dX6_server_31 rfl (by decide) (fun c_31 => ?_) (fun c_31 => ?_)
  · refine g_iload_n (nx := 41) 3 F dX6_server_40 rfl rfl rfl ?_
    refine g_iconst (nx := 42) (2) F dX6_server_41 rfl rfl ?_
    refine g_icmp_ne (nx := 45) 91 F dX6_server_42 rfl (by decide) (fun c_42 => ?_) (fun c_42 => ?_)
    · refine g_aload_n (nx := 92) 0 F dX6_server_91 rfl rfl rfl ?_
      refine g_iload_n (nx := 93) 2 F dX6_server_92 rfl rfl rfl ?_
      refine g_iload_n (nx := 94) 1 F dX6_server_93 rfl rfl rfl ?_
      refine g_callV (nx := 97) 2 4 [.int (nI c), .int (nI j)] F dX6_server_94 rfl ml_RX6_115 mo_X6_cheapest rfl rfl rfl rfl (Nat.le_of_ble_eq_true rfl) (by first | decide | omega) (c_cheapest_17 T D P σ0 n s a o y j c _ he hr hy ho hj hn ha hP hc10) (fun r_94 τ_94 q_94 => ?_)
      obtain ⟨rfl, hr94⟩ := q_94
      dsimp only [Option.toList, List.append, List.cons_append, List.nil_append]
      refine g_iret F E dX6_server_97 ?_
      rw [if_neg c_31, if_neg c_42, if_neg c_42]
      exact ⟨rfl, hr94⟩
    · refine g_iload_n (nx := 46) 2 F dX6_server_45 rfl rfl rfl ?_
      refine g_callS (nx := 49) 1 0 [.int (nI c)] F dX6_server_46 rfl ml_RX6_100 mo_J6_bitCount_0f7a4 rfl rfl (Nat.le_of_ble_eq_true rfl) (by first | decide | omega) (j_bitCount c _ hc10) (fun r_46 τ_46 q_46 => ?_)
      obtain ⟨rfl, et_46⟩ := q_46
      have et_46 := et_46.symm
      subst et_46
      dsimp only [Option.toList, List.append, List.cons_append, List.nil_append]
      refine g_istore (nx := 51) F dX6_server_49 rfl (by decide) ?_
      try dsimp only [List.set]
      refine g_aload_n (nx := 52) 0 F dX6_server_51 rfl rfl rfl ?_
      refine g_sipush (nx := 55) (25173) F dX6_server_52 rfl (by decide) ?_
      refine g_aload_n (nx := 56) 0 F dX6_server_55 rfl rfl rfl ?_
      refine g_getV (nx := 59) (nI x) F dX6_server_56 rfl fl_RX6_39 rfl (by decide) (by decide) rfl rfl (hr.2.2.1.trans hPx) ?_
      refine g_imul (nx := 60) F dX6_server_59 rfl ?_
      refine g_sipush (nx := 63) (13849) F dX6_server_60 rfl (by decide) ?_
      refine g_iadd (nx := 64) F dX6_server_63 rfl ?_
      refine g_ldc (nx := 66) (65536) F dX6_server_64 rfl co_RX6_114 ?_
      refine g_irem (nx := 67) F dX6_server_66 rfl (by decide) ?_
      rw [hix]
      refine g_putI (nx := 70) F dX6_server_67 rfl fl_RX6_39 fi_5_13 rfl (by decide) (by decide) rfl rfl ?_
      refine g_iload (nx := 72) F dX6_server_70 rfl rfl ?_
      refine g_if_le (nx := 75) 89 F dX6_server_72 rfl (by decide) (fun c_72 => absurd c_72 (by exact fun zq => absurd zq (nI_ge (a := 0) (b := bcN c) (by omega) (by omega)))) (fun c_72 => ?_)
      refine g_iload_n (nx := 76) 2 F dX6_server_75 rfl rfl rfl ?_
      refine g_aload_n (nx := 77) 0 F dX6_server_76 rfl rfl rfl ?_
      refine g_getV (nx := 80) (nI (nxN (P 8 0))) F dX6_server_77 rfl fl_RX6_39 rfl (by decide) (by decide) rfl rfl (rfl) ?_
      refine g_iload (nx := 82) F dX6_server_80 rfl rfl ?_
      refine g_irem (nx := 83) F dX6_server_82 rfl (by exact nI_ne0 hb0 (by omega)) ?_
      rw [hix2]
      refine g_callS (nx := 86) 2 0 [.int (nI c), .int (nI (nxN (P 8 0) % bcN c))] F dX6_server_83 rfl ml_RX6_111 mo_X6_atPlace rfl rfl (Nat.le_of_ble_eq_true rfl) (by first | decide | omega) (c_atPlace c (nxN (P 8 0) % bcN c) _ hc10 (by omega)) (fun r_83 τ_83 q_83 => ?_)
      obtain ⟨rfl, et_83⟩ := q_83
      have et_83 := et_83.symm
      subst et_83
      dsimp only [Option.toList, List.append, List.cons_append, List.nil_append]
      refine g_goto 90 F dX6_server_86 (by decide) ?_
      refine g_iret F E dX6_server_90 ?_
      rw [if_neg c_31, if_pos c_42, if_pos c_42]
      exact ⟨rfl, RC_x _ (by decide) hr⟩
  · refine g_iload_n (nx := 35) 2 F dX6_server_34 rfl rfl rfl ?_
    refine g_iconst (nx := 36) (0) F dX6_server_35 rfl rfl ?_
    refine g_callS (nx := 39) 2 0 [.int (nI c), .int (nI 0)] F dX6_server_36 rfl ml_RX6_111 mo_X6_atPlace rfl rfl (Nat.le_of_ble_eq_true rfl) (by first | decide | omega) (c_atPlace c 0 _ hc10 (by decide)) (fun r_36 τ_36 q_36 => ?_)
    obtain ⟨rfl, et_36⟩ := q_36
    have et_36 := et_36.symm
    subst et_36
    dsimp only [Option.toList, List.append, List.cons_append, List.nil_append]
    refine g_iret F E dX6_server_39 ?_
    rw [if_pos c_31, if_neg (by rw [c_31]; decide)]
    exact ⟨rfl, hr⟩
set_option maxHeartbeats 4000000 in
set_option maxRecDepth 100000 in
theorem c_isUnderWay_17 (n : Nat) (j : Int32) (σ : zSt) (hn : σ 17 8 = nI n) (h40 : n ≤ 40) : Con mX6_isUnderWay 0 [.ref 17, .int j] σ (fun r τ => r = some (.int (bI (0 ≤ j.toInt ∧ j.toInt < n ∧ σ 18 j.toInt.toNat < σ 3 6))) ∧ τ = σ) := by
  have hjn : 0 ≤ j.toInt → j = nI j.toInt.toNat := fun h => by rw [fa_eq, nI_toInt (by have := j.toInt_lt; omega)]; omega
  refine Con.of (lv := [.ref 17, .int j]) mk_X6_isUnderWay rfl (Nat.le_of_ble_eq_true rfl) rfl (fun X F E => ?_)
  refine g_iload_n (nx := 1) 1 F dX6_isUnderWay_0 rfl rfl rfl ?_
  refine g_if_lt (nx := 4) 32 F dX6_isUnderWay_1 rfl (by decide) (fun c_1 => ?_) (fun c_1 => ?_)
  · refine g_iconst (nx := 33) (0) F dX6_isUnderWay_32 rfl rfl ?_
    refine g_zret F E dX6_isUnderWay_33 (by first | rfl | assumption) ?_
    refine ⟨congrArg (fun z => some (Value.int z)) (Eq.symm ?_), rfl⟩
    clear F E
    rw [fa_lt] at *
    first | refine bI_f ?_ | refine bI_t ?_
    all_goals (try rw [fa_le, nI_toInt (by omega)] at c_9)
    all_goals (try rw [fa_le] at c_25)
    all_goals simp only [Int32.toInt_zero, fa_lt] at *
    all_goals omega
  · refine g_iload_n (nx := 5) 1 F dX6_isUnderWay_4 rfl rfl rfl ?_
    refine g_aload_n (nx := 6) 0 F dX6_isUnderWay_5 rfl rfl rfl ?_
    refine g_getV (nx := 9) (nI n) F dX6_isUnderWay_6 rfl fl_RX6_51 rfl (by decide) (by decide) rfl rfl (hn) ?_
    refine g_icmp_ge (nx := 12) 32 F dX6_isUnderWay_9 rfl (by decide) (fun c_9 => ?_) (fun c_9 => ?_)
    · refine g_iconst (nx := 33) (0) F dX6_isUnderWay_32 rfl rfl ?_
      refine g_zret F E dX6_isUnderWay_33 (by first | rfl | assumption) ?_
      refine ⟨congrArg (fun z => some (Value.int z)) (Eq.symm ?_), rfl⟩
      clear F E
      rw [fa_lt] at *
      first | refine bI_f ?_ | refine bI_t ?_
      all_goals (try rw [fa_le, nI_toInt (by omega)] at c_9)
      all_goals (try rw [fa_le] at c_25)
      all_goals simp only [Int32.toInt_zero, fa_lt] at *
      all_goals omega
    · refine g_aload_n (nx := 13) 0 F dX6_isUnderWay_12 rfl rfl rfl ?_
      refine g_getR (nx := 16) F dX6_isUnderWay_13 rfl fl_RX6_9 rfl (by decide) (by decide) rfl ?_
      refine g_iload_n (nx := 17) 1 F dX6_isUnderWay_16 rfl rfl rfl ?_
      rw [show j = nI j.toInt.toNat from hjn (by rw [fa_lt] at c_1; simp only [Int32.toInt_zero] at c_1; omega)]
      refine g_ialdN (nx := 18) (j.toInt.toNat) (_) F dX6_isUnderWay_17 rfl rfl (by rw [fa_lt] at c_1; rw [fa_le, nI_toInt (by omega)] at c_9; simp only [Int32.toInt_zero] at c_1; omega) (rfl) ?_
      refine g_aload_n (nx := 19) 0 F dX6_isUnderWay_18 rfl rfl rfl ?_
      refine g_getR (nx := 22) F dX6_isUnderWay_19 rfl fl_RX6_43 rfl (by decide) (by decide) rfl ?_
      refine g_getI (nx := 25) F dX6_isUnderWay_22 rfl fl_RX6_82 rfl (by decide) (by decide) rfl rfl ?_
      refine g_icmp_ge (nx := 28) 32 F dX6_isUnderWay_25 rfl (by decide) (fun c_25 => ?_) (fun c_25 => ?_)
      · refine g_iconst (nx := 33) (0) F dX6_isUnderWay_32 rfl rfl ?_
        refine g_zret F E dX6_isUnderWay_33 (by first | rfl | assumption) ?_
        refine ⟨congrArg (fun z => some (Value.int z)) (Eq.symm ?_), rfl⟩
        clear F E
        rw [fa_lt] at *
        first | refine bI_f ?_ | refine bI_t ?_
        all_goals (try rw [fa_le, nI_toInt (by omega)] at c_9)
        all_goals (try rw [fa_le] at c_25)
        all_goals simp only [Int32.toInt_zero, fa_lt] at *
        all_goals omega
      · refine g_iconst (nx := 29) (1) F dX6_isUnderWay_28 rfl rfl ?_
        refine g_goto 33 F dX6_isUnderWay_29 (by decide) ?_
        refine g_zret F E dX6_isUnderWay_33 (by first | rfl | assumption) ?_
        refine ⟨congrArg (fun z => some (Value.int z)) (Eq.symm ?_), rfl⟩
        clear F E
        rw [fa_lt] at *
        first | refine bI_f ?_ | refine bI_t ?_
        all_goals (try rw [fa_le, nI_toInt (by omega)] at c_9)
        all_goals (try rw [fa_le] at c_25)
        all_goals simp only [Int32.toInt_zero, fa_lt] at *
        all_goals omega
set_option maxHeartbeats 4000000 in
set_option maxRecDepth 100000 in
theorem c_goBy_17 (T : Nat → TXT) (D P σ0 : zSt) (n s mm e : Nat) (o y : Int32) (σ : zSt) (he : EnvC σ0 D T s) (hr : RC 17 n s σ0 σ P) (hy : σ0 17 12 = y) (ho : σ0 17 14 = o) (hn0 : σ0 17 8 = nI n) (hn : n ≤ 40) (hD : okD D s e) (hok : okP s n mm 0 (zu (zu P 8 1 0) 8 2 0)) : Con mX6_goBy 6 [.ref 17] σ (fun r τ => ∃ τ1, RC 17 n s σ0 τ1 (monP T D s n o y n 0 (zu (zu P 8 1 0) 8 2 0)) ∧ τ = zu (zu τ1 17 14 (nI (bcN ((monP T D s n o y n 0 (zu (zu P 8 1 0) 8 2 0)) 8 1).toInt.toNat))) 17 12 (y + 1) ∧ r = some (.int ((monP T D s n o y n 0 (zu (zu P 8 1 0) 8 2 0)) 8 2))) := by
  have hs8 := he.2.2.2.2.2.2.2.1
  refine Con.of (lv := [.ref 17, .long 0, .long 0]) mk_X6_goBy rfl (Nat.le_of_ble_eq_true rfl) rfl (fun X F E => ?_)
  have L : ∀ (q j : Nat) (Q : zSt) (τ : zSt), j + q = n → okP s n mm j Q → RC 17 n s σ0 τ Q → monP T D s n o y q j Q = monP T D s n o y n 0 (zu (zu P 8 1 0) 8 2 0) → Gs X 9 [.ref 17, .int (Q 8 2), .int (nI j)] [] τ := by
    intro q
    induction q with
    | zero =>
      intro j Q τ hj hok hr hA
      have hj : j = n := hj
      subst hj
      have hA : Q = _ := hA
      obtain ⟨t, ht, ht2⟩ := hok.2.2
      refine g_iload_n (nx := 10) 2 F dX6_goBy_9 rfl rfl rfl ?_
      refine g_aload_n (nx := 11) 0 F dX6_goBy_10 rfl rfl rfl ?_
      refine g_getV (nx := 14) (nI j) F dX6_goBy_11 rfl fl_RX6_51 rfl (by decide) (by decide) rfl rfl ((hr.2.1 8 (by decide) (by decide) (by decide) (by decide)).trans hn0) ?_
      refine g_icmp_ge (nx := 17) 44 F dX6_goBy_14 rfl (by decide) (fun c_14 => ?_) (fun c_14 => absurd c_14 (by exact fun zq => zq (nI_le (Nat.le_refl j) (by omega))))
      refine g_aload_n (nx := 45) 0 F dX6_goBy_44 rfl rfl rfl ?_
      refine g_aload_n (nx := 46) 0 F dX6_goBy_45 rfl rfl rfl ?_
      refine g_getV (nx := 49) (nI t) F dX6_goBy_46 rfl fl_RX6_85 rfl (by decide) (by decide) rfl rfl (hr.2.2.2.1.trans ht2) ?_
      refine g_callS (nx := 52) 1 0 [.int (nI t)] F dX6_goBy_49 rfl ml_RX6_100 mo_J6_bitCount_0f7a4 rfl rfl (Nat.le_of_ble_eq_true rfl) (by first | decide | omega) (j_bitCount t _ ht) (fun r_49 τ_49 q_49 => ?_)
      obtain ⟨rfl, et_49⟩ := q_49
      have et_49 := et_49.symm
      subst et_49
      dsimp only [Option.toList, List.append, List.cons_append, List.nil_append]
      refine g_putI (nx := 55) F dX6_goBy_52 rfl fl_RX6_62 fi_5_14 rfl (by decide) (by decide) rfl rfl ?_
      refine g_aload_n (nx := 56) 0 F dX6_goBy_55 rfl rfl rfl ?_
      refine g_dup (nx := 57) F dX6_goBy_56 rfl rfl ?_
      refine g_getV (nx := 60) (y) F dX6_goBy_57 rfl fl_RX6_54 rfl (by decide) (by decide) rfl rfl ((hr.2.1 12 (by decide) (by decide) (by decide) (by decide)).trans hy) ?_
      refine g_iconst (nx := 61) (1) F dX6_goBy_60 rfl rfl ?_
      refine g_iadd (nx := 62) F dX6_goBy_61 rfl ?_
      refine g_putI (nx := 65) F dX6_goBy_62 rfl fl_RX6_54 fi_5_12 rfl (by decide) (by decide) rfl rfl ?_
      refine g_iload_n (nx := 66) 1 F dX6_goBy_65 rfl rfl rfl ?_
      refine g_iret F E dX6_goBy_66 ?_
      refine ⟨τ, ?_, ?_, ?_⟩
      · rw [← hA]; exact hr
      · rw [← hA, ht2, nI_tn (by omega)]
      · rw [← hA]
    | succ q ih =>
      intro j Q τ hj hok hr hA
      have heτ := RC_env (by decide) hr he
      obtain ⟨⟨a, ha, hQ⟩, _⟩ := hok.1 j (by omega)
      have hok2 := okP_step (T := T) (o := o) (y := y) hD hok (show j < n by omega) hs8
      rw [monP] at hA
      unfold stepP at hA hok2
      refine g_iload_n (nx := 10) 2 F dX6_goBy_9 rfl rfl rfl ?_
      refine g_aload_n (nx := 11) 0 F dX6_goBy_10 rfl rfl rfl ?_
      refine g_getV (nx := 14) (nI n) F dX6_goBy_11 rfl fl_RX6_51 rfl (by decide) (by decide) rfl rfl ((hr.2.1 8 (by decide) (by decide) (by decide) (by decide)).trans hn0) ?_
      refine g_icmp_ge (nx := 17) 44 F dX6_goBy_14 rfl (by decide) (fun c_14 => absurd c_14 (by exact nI_ge (by omega) (by omega))) (fun c_14 => ?_)
      refine g_aload_n (nx := 18) 0 F dX6_goBy_17 rfl rfl rfl ?_
      refine g_iload_n (nx := 19) 2 F dX6_goBy_18 rfl rfl rfl ?_
      refine g_callV (nx := 22) 1 0 [.int (nI j)] F dX6_goBy_19 rfl ml_RX6_88 mo_X6_isUnderWay rfl rfl rfl rfl (Nat.le_of_ble_eq_true rfl) (by first | decide | omega) (c_isUnderWay_17 n (nI j) _ ((hr.2.1 8 (by decide) (by decide) (by decide) (by decide)).trans hn0) hn) (fun r_19 τ_19 q_19 => ?_)
      obtain ⟨rfl, et_19⟩ := q_19
      have et_19 := et_19.symm
      subst et_19
      dsimp only [Option.toList, List.append, List.cons_append, List.nil_append]
      rw [nI_tn (by omega), nI_toInt (by omega), show τ 18 j = Q 0 j from congrFun (hr.2.2.2.2.1 0 (by decide)) j, heτ.2.2.2.2.2.2.1]
      refine g_if_eq (nx := 25) 38 F dX6_goBy_22 rfl (by decide) (fun c_22 => ?_) (fun c_22 => ?_)
      · refine g_iinc (nx := 41) (1) F dX6_goBy_38 rfl rfl (by decide) (by decide) ?_
        try dsimp only [List.set]
        refine g_goto 9 F dX6_goBy_41 (by decide) ?_
        rw [nI_1]
        first
          | (have hc : ¬ Q 0 j < nI s := fun z => absurd (show bI (0 ≤ (j : Int) ∧ (j : Int) < (n : Int) ∧ Q 0 j < nI s) = 0 from c_22) (bI_n0.mpr ⟨by omega, by omega, z⟩); rw [if_neg hc] at hA hok2; exact ih (j + 1) Q _ (by omega) hok2 hr hA)
          | (rw [if_pos hc] at hA hok2; exact ih (j + 1) _ _ (by omega) hok2 hr33 hA)
      · refine g_iload_n (nx := 26) 1 F dX6_goBy_25 rfl rfl rfl ?_
        refine g_aload_n (nx := 27) 0 F dX6_goBy_26 rfl rfl rfl ?_
        refine g_aload_n (nx := 28) 0 F dX6_goBy_27 rfl rfl rfl ?_
        refine g_iload_n (nx := 29) 2 F dX6_goBy_28 rfl rfl rfl ?_
        refine g_callV (nx := 32) 1 5 [.int (nI j)] F dX6_goBy_29 rfl ml_RX6_92 mo_X6_server rfl rfl rfl rfl (Nat.le_of_ble_eq_true rfl) (by first | decide | omega) (c_server_17 T D Q σ0 n s a o y j e _ he hr hy ho (by omega) hn (by have hc := (bI_n0.mp c_22).2.2; rw [hQ] at hc; exact (nI_ltI (by omega) (by omega)).mp hc) hQ hD hok.2.1) (fun r_29 τ_29 q_29 => ?_)
        obtain ⟨rfl, hr29⟩ := q_29
        dsimp only [Option.toList, List.append, List.cons_append, List.nil_append]
        have hc := (bI_n0.mp c_22).2.2
        have ha2 : a < s := (nI_ltI (by omega) (by omega)).mp (by rw [← hQ]; exact hc)
        obtain ⟨_, _, _, _, _, _, _, hsi, _⟩ := srvI_ok (T := T) (n := n) (o := o) (y := y) hD ha2 hs8 hQ
        have hsi : srvI T D n o y Q j < 10 := Nat.lt_of_lt_of_le hsi hD.1
        refine g_iload_n (nx := 33) 2 F dX6_goBy_32 rfl rfl rfl ?_
        refine g_callV (nx := 36) 2 4 [.int (nI (srvI T D n o y Q j)), .int (nI j)] F dX6_goBy_33 rfl ml_RX6_96 mo_X6_serve rfl rfl rfl rfl (Nat.le_of_ble_eq_true rfl) (by first | decide | omega) (c_serve_17 T D (srvQ D Q j) σ0 n s a o y j (srvI T D n o y Q j) _ he hr29 hy ho (by omega) hn ha2 (by rw [srvQ_o.1 0 (by decide)]; exact hQ) hsi) (fun r_33 τ_33 q_33 => ?_)
        obtain ⟨v, rfl, hr33, hv⟩ := q_33
        dsimp only [Option.toList, List.append, List.cons_append, List.nil_append]
        refine g_iadd (nx := 37) F dX6_goBy_36 rfl ?_
        refine g_top _ (show Q 8 2 + v = servP T D s n o y (srvQ D Q j) (srvI T D n o y Q j) j 8 2 by rw [hv, srvQ_o.2 2 (by decide)]) ?_
        refine g_istore_n (nx := 38) 1 F dX6_goBy_37 rfl rfl (by decide) ?_
        try dsimp only [List.set]
        refine g_iinc (nx := 41) (1) F dX6_goBy_38 rfl rfl (by decide) (by decide) ?_
        try dsimp only [List.set]
        refine g_goto 9 F dX6_goBy_41 (by decide) ?_
        rw [nI_1]
        first
          | (have hc : ¬ Q 0 j < nI s := fun z => absurd (show bI (0 ≤ (j : Int) ∧ (j : Int) < (n : Int) ∧ Q 0 j < nI s) = 0 from c_22) (bI_n0.mpr ⟨by omega, by omega, z⟩); rw [if_neg hc] at hA hok2; exact ih (j + 1) Q _ (by omega) hok2 hr hA)
          | (rw [if_pos hc] at hA hok2; exact ih (j + 1) _ _ (by omega) hok2 hr33 hA)
  refine g_aload_n (nx := 1) 0 F dX6_goBy_0 rfl rfl rfl ?_
  refine g_iconst (nx := 2) (0) F dX6_goBy_1 rfl rfl ?_
  refine g_putI (nx := 5) F dX6_goBy_2 rfl fl_RX6_85 fi_5_15 rfl (by decide) (by decide) rfl rfl ?_
  refine g_iconst (nx := 6) (0) F dX6_goBy_5 rfl rfl ?_
  refine g_istore_n (nx := 7) 1 F dX6_goBy_6 rfl rfl (by decide) ?_
  try dsimp only [List.set]
  refine g_iconst (nx := 8) (0) F dX6_goBy_7 rfl rfl ?_
  refine g_istore_n (nx := 9) 2 F dX6_goBy_8 rfl rfl (by decide) ?_
  try dsimp only [List.set]
  exact L n 0 (zu (zu P 8 1 0) 8 2 0) _ (by omega) hok (RC_sum _ (RC_tk _ (by decide) hr)) rfl
set_option maxHeartbeats 4000000 in
set_option maxRecDepth 100000 in
theorem c_serve_27 (T : Nat → TXT) (D P σ0 : zSt) (n s a : Nat) (o y : Int32) (j : Nat) (i : Nat) (σ : zSt) (he : EnvC σ0 D T s) (hr : RC 27 n s σ0 σ P) (hy : σ0 27 12 = y) (ho : σ0 27 14 = o) (hj : j < n) (hn : n ≤ 40) (ha : a < s) (hP : P 0 j = nI a) (hi : i < 10) : Con mX6_serve 4 [.ref 27, .int (nI i), .int (nI j)] σ (fun r τ => ∃ v, r = some (.int v) ∧ RC 27 n s σ0 τ (servP T D s n o y P i j) ∧ servP T D s n o y P i j 8 2 = P 8 2 + v) := by
  have heσ := RC_env (by decide) hr he
  have hs8 := heσ.2.2.2.2.2.2.2.1
  refine Con.of (lv := [.ref 27, .int (nI i), .int (nI j), .long 0]) mk_X6_serve rfl (Nat.le_of_ble_eq_true rfl) rfl (fun X F E => ?_)
  refine g_aload_n (nx := 1) 0 F dX6_serve_0 rfl rfl rfl ?_
  refine g_iload_n (nx := 2) 1 F dX6_serve_1 rfl rfl rfl ?_
  refine g_iload_n (nx := 3) 2 F dX6_serve_2 rfl rfl rfl ?_
  refine g_callV (nx := 6) 2 3 [.int (nI i), .int (nI j)] F dX6_serve_3 rfl ml_RX6_118 mo_X6_meet rfl rfl rfl rfl (Nat.le_of_ble_eq_true rfl) (by first | decide | omega) (c_meet_27 T D P σ0 n s a o y i j _ heσ hr hy ho hi hj hn (by omega) hP) (fun r_3 τ_3 q_3 => ?_)
  obtain ⟨rfl, hr3, hp3, hw3⟩ := q_3
  dsimp only [Option.toList, List.append, List.cons_append, List.nil_append]
  have he3 := RC_env (by decide) hr3 he
  refine g_aload_n (nx := 7) 0 F dX6_serve_6 rfl rfl rfl ?_
  refine g_iload_n (nx := 8) 2 F dX6_serve_7 rfl rfl rfl ?_
  refine g_callV (nx := 11) 1 0 [.int (nI j)] F dX6_serve_8 rfl ml_RX6_162 mo_X6_pays rfl rfl rfl rfl (Nat.le_of_ble_eq_true rfl) (by first | decide | omega) (c_pays_27 j (prP T D P n o y i j) (wtP T D P n o y i j) τ_3 (by omega) hp3 hw3) (fun r_8 τ_8 q_8 => ?_)
  obtain ⟨rfl, et_8⟩ := q_8
  have et_8 := et_8.symm
  subst et_8
  dsimp only [Option.toList, List.append, List.cons_append, List.nil_append]
  rw [he3.2.2.2.2.1, he3.2.2.2.2.2.1, show τ_3 29 = P 1 from hr3.2.2.2.2.1 1 (by decide), show τ_3 30 = P 2 from hr3.2.2.2.2.1 2 (by decide)]
  refine g_if_eq (nx := 14) 33 F dX6_serve_11 rfl (by decide) (fun c_11 => ?_) (fun c_11 => ?_)
  · refine g_aload_n (nx := 34) 0 F dX6_serve_33 rfl rfl rfl ?_
    refine g_getR (nx := 37) F dX6_serve_34 rfl fl_RX6_43 rfl (by decide) (by decide) rfl ?_
    refine g_getR (nx := 40) F dX6_serve_37 rfl fl_RX6_150 rfl (by decide) (by decide) rfl ?_
    refine g_iload_n (nx := 41) 2 F dX6_serve_40 rfl rfl rfl ?_
    refine g_ialdN (nx := 42) (j) (D 4 j) F dX6_serve_41 rfl rfl (by omega) (congrFun he3.2.2.2.2.1 j) ?_
    refine g_iconst (nx := 43) (1) F dX6_serve_42 rfl rfl ?_
    refine g_icmp_eq (nx := 46) 53 F dX6_serve_43 rfl (by decide) (fun c_43 => ?_) (fun c_43 => ?_)
    · refine g_iconst (nx := 54) (1) F dX6_serve_53 rfl rfl ?_
      refine g_goto 58 F dX6_serve_54 (by decide) ?_
      refine g_istore_n (nx := 59) 3 F dX6_serve_58 rfl rfl (by decide) ?_
      try dsimp only [List.set]
      refine g_iload_n (nx := 60) 3 F dX6_serve_59 rfl rfl rfl ?_
      refine g_if_eq (nx := 63) 84 F dX6_serve_60 rfl (by decide) (fun c_60 => ?_) (fun c_60 => ?_)
      · refine g_aload_n (nx := 85) 0 F dX6_serve_84 rfl rfl rfl ?_
        refine g_getR (nx := 88) F dX6_serve_85 rfl fl_RX6_18 rfl (by decide) (by decide) rfl ?_
        refine g_iload_n (nx := 89) 2 F dX6_serve_88 rfl rfl rfl ?_
        refine g_dup2 (nx := 90) F dX6_serve_89 rfl rfl rfl ?_
        refine g_ialdN (nx := 91) (j) (P 2 j) F dX6_serve_90 rfl rfl (by omega) (congrFun (hr3.2.2.2.2.1 2 (by decide)) j) ?_
        refine g_iconst (nx := 92) (1) F dX6_serve_91 rfl rfl ?_
        refine g_iadd (nx := 93) F dX6_serve_92 rfl ?_
        refine g_iastN (nx := 94) (j) F dX6_serve_93 rfl rfl (by omega) ?_
        refine g_iconst (nx := 95) (0) F dX6_serve_94 rfl rfl ?_
        refine g_iret F E dX6_serve_95 ?_
        refine ⟨_, rfl, ?_⟩
        unfold servP
        rw [if_neg (bI_0.mp c_11)]
        first
          | exact absurd rfl c_60
          | exact absurd (show (1 : Int32) = 0 from c_60) (by decide)
          | (have hq : (D 4 j = 1 ∨ prP T D P n o y i j = 0) ∧ wtP T D P n o y i j ≤ P 2 j := ⟨Or.inl c_43, not_lt_I.mp c_73⟩; rw [if_pos hq]; exact ⟨hr78, by rw [goOnP_8, Int32.add_zero]⟩)
          | (have hq : (D 4 j = 1 ∨ prP T D P n o y i j = 0) ∧ wtP T D P n o y i j ≤ P 2 j := ⟨Or.inr c_50, not_lt_I.mp c_73⟩; rw [if_pos hq]; exact ⟨hr78, by rw [goOnP_8, Int32.add_zero]⟩)
          | (have hq : ¬ ((D 4 j = 1 ∨ prP T D P n o y i j = 0) ∧ wtP T D P n o y i j ≤ P 2 j) := fun z => absurd c_73 (not_lt_I.mpr z.2); rw [if_neg hq]; exact ⟨RC_upd 2 j _ (by decide) (by decide) (by decide) hr3, by rw [zu_ne _ (by decide), Int32.add_zero]⟩)
          | (have hq : ¬ ((D 4 j = 1 ∨ prP T D P n o y i j = 0) ∧ wtP T D P n o y i j ≤ P 2 j) := fun z => z.1.elim c_43 c_50; rw [if_neg hq]; exact ⟨RC_upd 2 j _ (by decide) (by decide) (by decide) hr3, by rw [zu_ne _ (by decide), Int32.add_zero]⟩)
      · refine g_aload_n (nx := 64) 0 F dX6_serve_63 rfl rfl rfl ?_
        refine g_getR (nx := 67) F dX6_serve_64 rfl fl_RX6_18 rfl (by decide) (by decide) rfl ?_
        refine g_iload_n (nx := 68) 2 F dX6_serve_67 rfl rfl rfl ?_
        refine g_ialdN (nx := 69) (j) (P 2 j) F dX6_serve_68 rfl rfl (by omega) (congrFun (hr3.2.2.2.2.1 2 (by decide)) j) ?_
        refine g_aload_n (nx := 70) 0 F dX6_serve_69 rfl rfl rfl ?_
        refine g_getV (nx := 73) (wtP T D P n o y i j) F dX6_serve_70 rfl fl_RX6_125 rfl (by decide) (by decide) rfl rfl (hw3) ?_
        refine g_icmp_lt (nx := 76) 84 F dX6_serve_73 rfl (by decide) (fun c_73 => ?_) (fun c_73 => ?_)
        · refine g_aload_n (nx := 85) 0 F dX6_serve_84 rfl rfl rfl ?_
          refine g_getR (nx := 88) F dX6_serve_85 rfl fl_RX6_18 rfl (by decide) (by decide) rfl ?_
          refine g_iload_n (nx := 89) 2 F dX6_serve_88 rfl rfl rfl ?_
          refine g_dup2 (nx := 90) F dX6_serve_89 rfl rfl rfl ?_
          refine g_ialdN (nx := 91) (j) (P 2 j) F dX6_serve_90 rfl rfl (by omega) (congrFun (hr3.2.2.2.2.1 2 (by decide)) j) ?_
          refine g_iconst (nx := 92) (1) F dX6_serve_91 rfl rfl ?_
          refine g_iadd (nx := 93) F dX6_serve_92 rfl ?_
          refine g_iastN (nx := 94) (j) F dX6_serve_93 rfl rfl (by omega) ?_
          refine g_iconst (nx := 95) (0) F dX6_serve_94 rfl rfl ?_
          refine g_iret F E dX6_serve_95 ?_
          refine ⟨_, rfl, ?_⟩
          unfold servP
          rw [if_neg (bI_0.mp c_11)]
          first
            | exact absurd rfl c_60
            | exact absurd (show (1 : Int32) = 0 from c_60) (by decide)
            | (have hq : (D 4 j = 1 ∨ prP T D P n o y i j = 0) ∧ wtP T D P n o y i j ≤ P 2 j := ⟨Or.inl c_43, not_lt_I.mp c_73⟩; rw [if_pos hq]; exact ⟨hr78, by rw [goOnP_8, Int32.add_zero]⟩)
            | (have hq : (D 4 j = 1 ∨ prP T D P n o y i j = 0) ∧ wtP T D P n o y i j ≤ P 2 j := ⟨Or.inr c_50, not_lt_I.mp c_73⟩; rw [if_pos hq]; exact ⟨hr78, by rw [goOnP_8, Int32.add_zero]⟩)
            | (have hq : ¬ ((D 4 j = 1 ∨ prP T D P n o y i j = 0) ∧ wtP T D P n o y i j ≤ P 2 j) := fun z => absurd c_73 (not_lt_I.mpr z.2); rw [if_neg hq]; exact ⟨RC_upd 2 j _ (by decide) (by decide) (by decide) hr3, by rw [zu_ne _ (by decide), Int32.add_zero]⟩)
            | (have hq : ¬ ((D 4 j = 1 ∨ prP T D P n o y i j = 0) ∧ wtP T D P n o y i j ≤ P 2 j) := fun z => z.1.elim c_43 c_50; rw [if_neg hq]; exact ⟨RC_upd 2 j _ (by decide) (by decide) (by decide) hr3, by rw [zu_ne _ (by decide), Int32.add_zero]⟩)
        · refine g_aload_n (nx := 77) 0 F dX6_serve_76 rfl rfl rfl ?_
          refine g_iload_n (nx := 78) 2 F dX6_serve_77 rfl rfl rfl ?_
          refine g_callV (nx := 81) 1 0 [.int (nI j)] F dX6_serve_78 rfl ml_RX6_168 mo_X6_goOn rfl rfl rfl rfl (Nat.le_of_ble_eq_true rfl) (by first | decide | omega) (c_goOn_27 P σ0 n s a y j τ_3 hr3 hy hj hn ha hs8 hP he3.2.2.2.2.2.2.1) (fun r_78 τ_78 q_78 => ?_)
          obtain ⟨rfl, hr78⟩ := q_78
          dsimp only [Option.toList, List.append, List.cons_append, List.nil_append]
          refine g_goto 94 F dX6_serve_81 (by decide) ?_
          refine g_iconst (nx := 95) (0) F dX6_serve_94 rfl rfl ?_
          refine g_iret F E dX6_serve_95 ?_
          refine ⟨_, rfl, ?_⟩
          unfold servP
          rw [if_neg (bI_0.mp c_11)]
          first
            | exact absurd rfl c_60
            | exact absurd (show (1 : Int32) = 0 from c_60) (by decide)
            | (have hq : (D 4 j = 1 ∨ prP T D P n o y i j = 0) ∧ wtP T D P n o y i j ≤ P 2 j := ⟨Or.inl c_43, not_lt_I.mp c_73⟩; rw [if_pos hq]; exact ⟨hr78, by rw [goOnP_8, Int32.add_zero]⟩)
            | (have hq : (D 4 j = 1 ∨ prP T D P n o y i j = 0) ∧ wtP T D P n o y i j ≤ P 2 j := ⟨Or.inr c_50, not_lt_I.mp c_73⟩; rw [if_pos hq]; exact ⟨hr78, by rw [goOnP_8, Int32.add_zero]⟩)
            | (have hq : ¬ ((D 4 j = 1 ∨ prP T D P n o y i j = 0) ∧ wtP T D P n o y i j ≤ P 2 j) := fun z => absurd c_73 (not_lt_I.mpr z.2); rw [if_neg hq]; exact ⟨RC_upd 2 j _ (by decide) (by decide) (by decide) hr3, by rw [zu_ne _ (by decide), Int32.add_zero]⟩)
            | (have hq : ¬ ((D 4 j = 1 ∨ prP T D P n o y i j = 0) ∧ wtP T D P n o y i j ≤ P 2 j) := fun z => z.1.elim c_43 c_50; rw [if_neg hq]; exact ⟨RC_upd 2 j _ (by decide) (by decide) (by decide) hr3, by rw [zu_ne _ (by decide), Int32.add_zero]⟩)
    · refine g_aload_n (nx := 47) 0 F dX6_serve_46 rfl rfl rfl ?_
      refine g_getV (nx := 50) (prP T D P n o y i j) F dX6_serve_47 rfl fl_RX6_122 rfl (by decide) (by decide) rfl rfl (hp3) ?_
      refine g_if_ne (nx := 53) 57 F dX6_serve_50 rfl (by decide) (fun c_50 => ?_) (fun c_50 => ?_)
      · refine g_iconst (nx := 58) (0) F dX6_serve_57 rfl rfl ?_
        refine g_istore_n (nx := 59) 3 F dX6_serve_58 rfl rfl (by decide) ?_
        try dsimp only [List.set]
        refine g_iload_n (nx := 60) 3 F dX6_serve_59 rfl rfl rfl ?_
        refine g_if_eq (nx := 63) 84 F dX6_serve_60 rfl (by decide) (fun c_60 => ?_) (fun c_60 => ?_)
        · refine g_aload_n (nx := 85) 0 F dX6_serve_84 rfl rfl rfl ?_
          refine g_getR (nx := 88) F dX6_serve_85 rfl fl_RX6_18 rfl (by decide) (by decide) rfl ?_
          refine g_iload_n (nx := 89) 2 F dX6_serve_88 rfl rfl rfl ?_
          refine g_dup2 (nx := 90) F dX6_serve_89 rfl rfl rfl ?_
          refine g_ialdN (nx := 91) (j) (P 2 j) F dX6_serve_90 rfl rfl (by omega) (congrFun (hr3.2.2.2.2.1 2 (by decide)) j) ?_
          refine g_iconst (nx := 92) (1) F dX6_serve_91 rfl rfl ?_
          refine g_iadd (nx := 93) F dX6_serve_92 rfl ?_
          refine g_iastN (nx := 94) (j) F dX6_serve_93 rfl rfl (by omega) ?_
          refine g_iconst (nx := 95) (0) F dX6_serve_94 rfl rfl ?_
          refine g_iret F E dX6_serve_95 ?_
          refine ⟨_, rfl, ?_⟩
          unfold servP
          rw [if_neg (bI_0.mp c_11)]
          first
            | exact absurd rfl c_60
            | exact absurd (show (1 : Int32) = 0 from c_60) (by decide)
            | (have hq : (D 4 j = 1 ∨ prP T D P n o y i j = 0) ∧ wtP T D P n o y i j ≤ P 2 j := ⟨Or.inl c_43, not_lt_I.mp c_73⟩; rw [if_pos hq]; exact ⟨hr78, by rw [goOnP_8, Int32.add_zero]⟩)
            | (have hq : (D 4 j = 1 ∨ prP T D P n o y i j = 0) ∧ wtP T D P n o y i j ≤ P 2 j := ⟨Or.inr c_50, not_lt_I.mp c_73⟩; rw [if_pos hq]; exact ⟨hr78, by rw [goOnP_8, Int32.add_zero]⟩)
            | (have hq : ¬ ((D 4 j = 1 ∨ prP T D P n o y i j = 0) ∧ wtP T D P n o y i j ≤ P 2 j) := fun z => absurd c_73 (not_lt_I.mpr z.2); rw [if_neg hq]; exact ⟨RC_upd 2 j _ (by decide) (by decide) (by decide) hr3, by rw [zu_ne _ (by decide), Int32.add_zero]⟩)
            | (have hq : ¬ ((D 4 j = 1 ∨ prP T D P n o y i j = 0) ∧ wtP T D P n o y i j ≤ P 2 j) := fun z => z.1.elim c_43 c_50; rw [if_neg hq]; exact ⟨RC_upd 2 j _ (by decide) (by decide) (by decide) hr3, by rw [zu_ne _ (by decide), Int32.add_zero]⟩)
        · refine g_aload_n (nx := 64) 0 F dX6_serve_63 rfl rfl rfl ?_
          refine g_getR (nx := 67) F dX6_serve_64 rfl fl_RX6_18 rfl (by decide) (by decide) rfl ?_
          refine g_iload_n (nx := 68) 2 F dX6_serve_67 rfl rfl rfl ?_
          refine g_ialdN (nx := 69) (j) (P 2 j) F dX6_serve_68 rfl rfl (by omega) (congrFun (hr3.2.2.2.2.1 2 (by decide)) j) ?_
          refine g_aload_n (nx := 70) 0 F dX6_serve_69 rfl rfl rfl ?_
          refine g_getV (nx := 73) (wtP T D P n o y i j) F dX6_serve_70 rfl fl_RX6_125 rfl (by decide) (by decide) rfl rfl (hw3) ?_
          refine g_icmp_lt (nx := 76) 84 F dX6_serve_73 rfl (by decide) (fun c_73 => ?_) (fun c_73 => ?_)
          · refine g_aload_n (nx := 85) 0 F dX6_serve_84 rfl rfl rfl ?_
            refine g_getR (nx := 88) F dX6_serve_85 rfl fl_RX6_18 rfl (by decide) (by decide) rfl ?_
            refine g_iload_n (nx := 89) 2 F dX6_serve_88 rfl rfl rfl ?_
            refine g_dup2 (nx := 90) F dX6_serve_89 rfl rfl rfl ?_
            refine g_ialdN (nx := 91) (j) (P 2 j) F dX6_serve_90 rfl rfl (by omega) (congrFun (hr3.2.2.2.2.1 2 (by decide)) j) ?_
            refine g_iconst (nx := 92) (1) F dX6_serve_91 rfl rfl ?_
            refine g_iadd (nx := 93) F dX6_serve_92 rfl ?_
            refine g_iastN (nx := 94) (j) F dX6_serve_93 rfl rfl (by omega) ?_
            refine g_iconst (nx := 95) (0) F dX6_serve_94 rfl rfl ?_
            refine g_iret F E dX6_serve_95 ?_
            refine ⟨_, rfl, ?_⟩
            unfold servP
            rw [if_neg (bI_0.mp c_11)]
            first
              | exact absurd rfl c_60
              | exact absurd (show (1 : Int32) = 0 from c_60) (by decide)
              | (have hq : (D 4 j = 1 ∨ prP T D P n o y i j = 0) ∧ wtP T D P n o y i j ≤ P 2 j := ⟨Or.inl c_43, not_lt_I.mp c_73⟩; rw [if_pos hq]; exact ⟨hr78, by rw [goOnP_8, Int32.add_zero]⟩)
              | (have hq : (D 4 j = 1 ∨ prP T D P n o y i j = 0) ∧ wtP T D P n o y i j ≤ P 2 j := ⟨Or.inr c_50, not_lt_I.mp c_73⟩; rw [if_pos hq]; exact ⟨hr78, by rw [goOnP_8, Int32.add_zero]⟩)
              | (have hq : ¬ ((D 4 j = 1 ∨ prP T D P n o y i j = 0) ∧ wtP T D P n o y i j ≤ P 2 j) := fun z => absurd c_73 (not_lt_I.mpr z.2); rw [if_neg hq]; exact ⟨RC_upd 2 j _ (by decide) (by decide) (by decide) hr3, by rw [zu_ne _ (by decide), Int32.add_zero]⟩)
              | (have hq : ¬ ((D 4 j = 1 ∨ prP T D P n o y i j = 0) ∧ wtP T D P n o y i j ≤ P 2 j) := fun z => z.1.elim c_43 c_50; rw [if_neg hq]; exact ⟨RC_upd 2 j _ (by decide) (by decide) (by decide) hr3, by rw [zu_ne _ (by decide), Int32.add_zero]⟩)
          · refine g_aload_n (nx := 77) 0 F dX6_serve_76 rfl rfl rfl ?_
            refine g_iload_n (nx := 78) 2 F dX6_serve_77 rfl rfl rfl ?_
            refine g_callV (nx := 81) 1 0 [.int (nI j)] F dX6_serve_78 rfl ml_RX6_168 mo_X6_goOn rfl rfl rfl rfl (Nat.le_of_ble_eq_true rfl) (by first | decide | omega) (c_goOn_27 P σ0 n s a y j τ_3 hr3 hy hj hn ha hs8 hP he3.2.2.2.2.2.2.1) (fun r_78 τ_78 q_78 => ?_)
            obtain ⟨rfl, hr78⟩ := q_78
            dsimp only [Option.toList, List.append, List.cons_append, List.nil_append]
            refine g_goto 94 F dX6_serve_81 (by decide) ?_
            refine g_iconst (nx := 95) (0) F dX6_serve_94 rfl rfl ?_
            refine g_iret F E dX6_serve_95 ?_
            refine ⟨_, rfl, ?_⟩
            unfold servP
            rw [if_neg (bI_0.mp c_11)]
            first
              | exact absurd rfl c_60
              | exact absurd (show (1 : Int32) = 0 from c_60) (by decide)
              | (have hq : (D 4 j = 1 ∨ prP T D P n o y i j = 0) ∧ wtP T D P n o y i j ≤ P 2 j := ⟨Or.inl c_43, not_lt_I.mp c_73⟩; rw [if_pos hq]; exact ⟨hr78, by rw [goOnP_8, Int32.add_zero]⟩)
              | (have hq : (D 4 j = 1 ∨ prP T D P n o y i j = 0) ∧ wtP T D P n o y i j ≤ P 2 j := ⟨Or.inr c_50, not_lt_I.mp c_73⟩; rw [if_pos hq]; exact ⟨hr78, by rw [goOnP_8, Int32.add_zero]⟩)
              | (have hq : ¬ ((D 4 j = 1 ∨ prP T D P n o y i j = 0) ∧ wtP T D P n o y i j ≤ P 2 j) := fun z => absurd c_73 (not_lt_I.mpr z.2); rw [if_neg hq]; exact ⟨RC_upd 2 j _ (by decide) (by decide) (by decide) hr3, by rw [zu_ne _ (by decide), Int32.add_zero]⟩)
              | (have hq : ¬ ((D 4 j = 1 ∨ prP T D P n o y i j = 0) ∧ wtP T D P n o y i j ≤ P 2 j) := fun z => z.1.elim c_43 c_50; rw [if_neg hq]; exact ⟨RC_upd 2 j _ (by decide) (by decide) (by decide) hr3, by rw [zu_ne _ (by decide), Int32.add_zero]⟩)
      · refine g_iconst (nx := 54) (1) F dX6_serve_53 rfl rfl ?_
        refine g_goto 58 F dX6_serve_54 (by decide) ?_
        refine g_istore_n (nx := 59) 3 F dX6_serve_58 rfl rfl (by decide) ?_
        try dsimp only [List.set]
        refine g_iload_n (nx := 60) 3 F dX6_serve_59 rfl rfl rfl ?_
        refine g_if_eq (nx := 63) 84 F dX6_serve_60 rfl (by decide) (fun c_60 => ?_) (fun c_60 => ?_)
        · refine g_aload_n (nx := 85) 0 F dX6_serve_84 rfl rfl rfl ?_
          refine g_getR (nx := 88) F dX6_serve_85 rfl fl_RX6_18 rfl (by decide) (by decide) rfl ?_
          refine g_iload_n (nx := 89) 2 F dX6_serve_88 rfl rfl rfl ?_
          refine g_dup2 (nx := 90) F dX6_serve_89 rfl rfl rfl ?_
          refine g_ialdN (nx := 91) (j) (P 2 j) F dX6_serve_90 rfl rfl (by omega) (congrFun (hr3.2.2.2.2.1 2 (by decide)) j) ?_
          refine g_iconst (nx := 92) (1) F dX6_serve_91 rfl rfl ?_
          refine g_iadd (nx := 93) F dX6_serve_92 rfl ?_
          refine g_iastN (nx := 94) (j) F dX6_serve_93 rfl rfl (by omega) ?_
          refine g_iconst (nx := 95) (0) F dX6_serve_94 rfl rfl ?_
          refine g_iret F E dX6_serve_95 ?_
          refine ⟨_, rfl, ?_⟩
          unfold servP
          rw [if_neg (bI_0.mp c_11)]
          first
            | exact absurd rfl c_60
            | exact absurd (show (1 : Int32) = 0 from c_60) (by decide)
            | (have hq : (D 4 j = 1 ∨ prP T D P n o y i j = 0) ∧ wtP T D P n o y i j ≤ P 2 j := ⟨Or.inl c_43, not_lt_I.mp c_73⟩; rw [if_pos hq]; exact ⟨hr78, by rw [goOnP_8, Int32.add_zero]⟩)
            | (have hq : (D 4 j = 1 ∨ prP T D P n o y i j = 0) ∧ wtP T D P n o y i j ≤ P 2 j := ⟨Or.inr c_50, not_lt_I.mp c_73⟩; rw [if_pos hq]; exact ⟨hr78, by rw [goOnP_8, Int32.add_zero]⟩)
            | (have hq : ¬ ((D 4 j = 1 ∨ prP T D P n o y i j = 0) ∧ wtP T D P n o y i j ≤ P 2 j) := fun z => absurd c_73 (not_lt_I.mpr z.2); rw [if_neg hq]; exact ⟨RC_upd 2 j _ (by decide) (by decide) (by decide) hr3, by rw [zu_ne _ (by decide), Int32.add_zero]⟩)
            | (have hq : ¬ ((D 4 j = 1 ∨ prP T D P n o y i j = 0) ∧ wtP T D P n o y i j ≤ P 2 j) := fun z => z.1.elim c_43 c_50; rw [if_neg hq]; exact ⟨RC_upd 2 j _ (by decide) (by decide) (by decide) hr3, by rw [zu_ne _ (by decide), Int32.add_zero]⟩)
        · refine g_aload_n (nx := 64) 0 F dX6_serve_63 rfl rfl rfl ?_
          refine g_getR (nx := 67) F dX6_serve_64 rfl fl_RX6_18 rfl (by decide) (by decide) rfl ?_
          refine g_iload_n (nx := 68) 2 F dX6_serve_67 rfl rfl rfl ?_
          refine g_ialdN (nx := 69) (j) (P 2 j) F dX6_serve_68 rfl rfl (by omega) (congrFun (hr3.2.2.2.2.1 2 (by decide)) j) ?_
          refine g_aload_n (nx := 70) 0 F dX6_serve_69 rfl rfl rfl ?_
          refine g_getV (nx := 73) (wtP T D P n o y i j) F dX6_serve_70 rfl fl_RX6_125 rfl (by decide) (by decide) rfl rfl (hw3) ?_
          refine g_icmp_lt (nx := 76) 84 F dX6_serve_73 rfl (by decide) (fun c_73 => ?_) (fun c_73 => ?_)
          · refine g_aload_n (nx := 85) 0 F dX6_serve_84 rfl rfl rfl ?_
            refine g_getR (nx := 88) F dX6_serve_85 rfl fl_RX6_18 rfl (by decide) (by decide) rfl ?_
            refine g_iload_n (nx := 89) 2 F dX6_serve_88 rfl rfl rfl ?_
            refine g_dup2 (nx := 90) F dX6_serve_89 rfl rfl rfl ?_
            refine g_ialdN (nx := 91) (j) (P 2 j) F dX6_serve_90 rfl rfl (by omega) (congrFun (hr3.2.2.2.2.1 2 (by decide)) j) ?_
            refine g_iconst (nx := 92) (1) F dX6_serve_91 rfl rfl ?_
            refine g_iadd (nx := 93) F dX6_serve_92 rfl ?_
            refine g_iastN (nx := 94) (j) F dX6_serve_93 rfl rfl (by omega) ?_
            refine g_iconst (nx := 95) (0) F dX6_serve_94 rfl rfl ?_
            refine g_iret F E dX6_serve_95 ?_
            refine ⟨_, rfl, ?_⟩
            unfold servP
            rw [if_neg (bI_0.mp c_11)]
            first
              | exact absurd rfl c_60
              | exact absurd (show (1 : Int32) = 0 from c_60) (by decide)
              | (have hq : (D 4 j = 1 ∨ prP T D P n o y i j = 0) ∧ wtP T D P n o y i j ≤ P 2 j := ⟨Or.inl c_43, not_lt_I.mp c_73⟩; rw [if_pos hq]; exact ⟨hr78, by rw [goOnP_8, Int32.add_zero]⟩)
              | (have hq : (D 4 j = 1 ∨ prP T D P n o y i j = 0) ∧ wtP T D P n o y i j ≤ P 2 j := ⟨Or.inr c_50, not_lt_I.mp c_73⟩; rw [if_pos hq]; exact ⟨hr78, by rw [goOnP_8, Int32.add_zero]⟩)
              | (have hq : ¬ ((D 4 j = 1 ∨ prP T D P n o y i j = 0) ∧ wtP T D P n o y i j ≤ P 2 j) := fun z => absurd c_73 (not_lt_I.mpr z.2); rw [if_neg hq]; exact ⟨RC_upd 2 j _ (by decide) (by decide) (by decide) hr3, by rw [zu_ne _ (by decide), Int32.add_zero]⟩)
              | (have hq : ¬ ((D 4 j = 1 ∨ prP T D P n o y i j = 0) ∧ wtP T D P n o y i j ≤ P 2 j) := fun z => z.1.elim c_43 c_50; rw [if_neg hq]; exact ⟨RC_upd 2 j _ (by decide) (by decide) (by decide) hr3, by rw [zu_ne _ (by decide), Int32.add_zero]⟩)
          · refine g_aload_n (nx := 77) 0 F dX6_serve_76 rfl rfl rfl ?_
            refine g_iload_n (nx := 78) 2 F dX6_serve_77 rfl rfl rfl ?_
            refine g_callV (nx := 81) 1 0 [.int (nI j)] F dX6_serve_78 rfl ml_RX6_168 mo_X6_goOn rfl rfl rfl rfl (Nat.le_of_ble_eq_true rfl) (by first | decide | omega) (c_goOn_27 P σ0 n s a y j τ_3 hr3 hy hj hn ha hs8 hP he3.2.2.2.2.2.2.1) (fun r_78 τ_78 q_78 => ?_)
            obtain ⟨rfl, hr78⟩ := q_78
            dsimp only [Option.toList, List.append, List.cons_append, List.nil_append]
            refine g_goto 94 F dX6_serve_81 (by decide) ?_
            refine g_iconst (nx := 95) (0) F dX6_serve_94 rfl rfl ?_
            refine g_iret F E dX6_serve_95 ?_
            refine ⟨_, rfl, ?_⟩
            unfold servP
            rw [if_neg (bI_0.mp c_11)]
            first
              | exact absurd rfl c_60
              | exact absurd (show (1 : Int32) = 0 from c_60) (by decide)
              | (have hq : (D 4 j = 1 ∨ prP T D P n o y i j = 0) ∧ wtP T D P n o y i j ≤ P 2 j := ⟨Or.inl c_43, not_lt_I.mp c_73⟩; rw [if_pos hq]; exact ⟨hr78, by rw [goOnP_8, Int32.add_zero]⟩)
              | (have hq : (D 4 j = 1 ∨ prP T D P n o y i j = 0) ∧ wtP T D P n o y i j ≤ P 2 j := ⟨Or.inr c_50, not_lt_I.mp c_73⟩; rw [if_pos hq]; exact ⟨hr78, by rw [goOnP_8, Int32.add_zero]⟩)
              | (have hq : ¬ ((D 4 j = 1 ∨ prP T D P n o y i j = 0) ∧ wtP T D P n o y i j ≤ P 2 j) := fun z => absurd c_73 (not_lt_I.mpr z.2); rw [if_neg hq]; exact ⟨RC_upd 2 j _ (by decide) (by decide) (by decide) hr3, by rw [zu_ne _ (by decide), Int32.add_zero]⟩)
              | (have hq : ¬ ((D 4 j = 1 ∨ prP T D P n o y i j = 0) ∧ wtP T D P n o y i j ≤ P 2 j) := fun z => z.1.elim c_43 c_50; rw [if_neg hq]; exact ⟨RC_upd 2 j _ (by decide) (by decide) (by decide) hr3, by rw [zu_ne _ (by decide), Int32.add_zero]⟩)
  · refine g_aload_n (nx := 15) 0 F dX6_serve_14 rfl rfl rfl ?_
    refine g_getV (nx := 18) (prP T D P n o y i j) F dX6_serve_15 rfl fl_RX6_122 rfl (by decide) (by decide) rfl rfl (hp3) ?_
    refine g_istore_n (nx := 19) 3 F dX6_serve_18 rfl rfl (by decide) ?_
    try dsimp only [List.set]
    refine g_aload_n (nx := 20) 0 F dX6_serve_19 rfl rfl rfl ?_
    refine g_iload_n (nx := 21) 1 F dX6_serve_20 rfl rfl rfl ?_
    refine g_iload_n (nx := 22) 2 F dX6_serve_21 rfl rfl rfl ?_
    refine g_iload_n (nx := 23) 3 F dX6_serve_22 rfl rfl rfl ?_
    refine g_callV (nx := 26) 3 3 [.int (nI i), .int (nI j), .int (prP T D P n o y i j)] F dX6_serve_23 rfl ml_RX6_165 mo_X6_give rfl rfl rfl rfl (Nat.le_of_ble_eq_true rfl) (by first | decide | omega) (c_give_27 T D P σ0 n s a o y i j (prP T D P n o y i j) τ_3 he3 hr3 hy ho hi hj hn (by omega) hP) (fun r_23 τ_23 q_23 => ?_)
    obtain ⟨rfl, hr23⟩ := q_23
    dsimp only [Option.toList, List.append, List.cons_append, List.nil_append]
    have he23 := RC_env (by decide) hr23 he
    refine g_aload_n (nx := 27) 0 F dX6_serve_26 rfl rfl rfl ?_
    refine g_iload_n (nx := 28) 2 F dX6_serve_27 rfl rfl rfl ?_
    refine g_callV (nx := 31) 1 0 [.int (nI j)] F dX6_serve_28 rfl ml_RX6_168 mo_X6_goOn rfl rfl rfl rfl (Nat.le_of_ble_eq_true rfl) (by first | decide | omega) (c_goOn_27 (giveP P i j (prP T D P n o y i j) (lwP T D P n o y i j (prP T D P n o y i j) 103) (lwP T D P n o y i j (prP T D P n o y i j) 107) (lwP T D P n o y i j (prP T D P n o y i j) 98)) σ0 n s a y j τ_23 hr23 hy hj hn ha hs8 (by rw [giveP_0]; exact hP) he23.2.2.2.2.2.2.1) (fun r_28 τ_28 q_28 => ?_)
    obtain ⟨rfl, hr28⟩ := q_28
    dsimp only [Option.toList, List.append, List.cons_append, List.nil_append]
    refine g_iload_n (nx := 32) 3 F dX6_serve_31 rfl rfl rfl ?_
    refine g_iret F E dX6_serve_32 ?_
    refine ⟨_, rfl, ?_⟩
    unfold servP
    rw [if_pos (bI_n0.mp c_11)]
    exact ⟨hr28, by rw [goOnP_8, (giveP_8 _ _ _ _ _ _ _).2.2]⟩
set_option maxHeartbeats 4000000 in
set_option maxRecDepth 100000 in
theorem c_cheapest_27 (T : Nat → TXT) (D P σ0 : zSt) (n s a : Nat) (o y : Int32) (j : Nat) (c : Nat) (σ : zSt) (he : EnvC σ0 D T s) (hr : RC 27 n s σ0 σ P) (hy : σ0 27 12 = y) (ho : σ0 27 14 = o) (hj : j < n) (hn : n ≤ 40) (ha : a < s) (hP : P 0 j = nI a) (hc : c < 1024) : Con mX6_cheapest 4 [.ref 27, .int (nI c), .int (nI j)] σ (fun r τ => r = some (.int (nI ((cpF c (fun i => prP T D P n o y i j) (fun i => wtP T D P n o y i j) 10 0 none 0 0).getD 0))) ∧ RC 27 n s σ0 τ P) := by
  have heσ := RC_env (by decide) hr he
  have hs8 := heσ.2.2.2.2.2.2.2.1
  refine Con.of (lv := [.ref 27, .int (nI c), .int (nI j), .long 0, .long 0, .long 0, .long 0]) mk_X6_cheapest rfl (Nat.le_of_ble_eq_true rfl) rfl (fun X F E => ?_)
  have L : ∀ (q i : Nat) (best : Option Nat) (p w : Int32) (τ : zSt), i + q = 10 → (∀ k, best = some k → k < 10) → RC 27 n s σ0 τ P → cpF c (fun i => prP T D P n o y i j) (fun i => wtP T D P n o y i j) q i best p w = cpF c (fun i => prP T D P n o y i j) (fun i => wtP T D P n o y i j) 10 0 none 0 0 → Gs X 11 [.ref 27, .int (nI c), .int (nI j), .int (bO best), .int p, .int w, .int (nI i)] [] τ := by
    intro q
    induction q with
    | zero =>
      intro i best p w τ hi hb hr hA
      have hi : i = 10 := hi
      subst hi
      refine g_iload (nx := 13) F dX6_cheapest_11 rfl rfl ?_
      refine g_bipush (nx := 15) (10) F dX6_cheapest_13 rfl (by decide) ?_
      refine g_icmp_ge (nx := 18) 88 F dX6_cheapest_15 rfl (by decide) (fun c_15 => ?_) (fun c_15 => absurd c_15 (by decide))
      refine g_iload_n (nx := 89) 3 F dX6_cheapest_88 rfl rfl rfl ?_
      refine g_iconst (nx := 90) (0) F dX6_cheapest_89 rfl rfl ?_
      refine g_mmax (nx := 93) F dX6_cheapest_90 rfl mm_Play_128 (by omega) (Nat.le_of_ble_eq_true rfl) ?_
      refine g_iret F E dX6_cheapest_93 ?_
      refine ⟨?_, hr⟩
      rw [← hA]
      cases best with
      | none => rfl
      | some k => exact congrArg (fun z => some (Value.int z)) (if_neg (nI_pos (by have := hb k rfl; omega)))
    | succ q ih =>
      intro i best p w τ hi hb hr hA
      have hbit := bit_ok c hc i (by omega)
      have heτ := RC_env (by decide) hr he
      rw [cpF] at hA
      refine g_iload (nx := 13) F dX6_cheapest_11 rfl rfl ?_
      refine g_bipush (nx := 15) (10) F dX6_cheapest_13 rfl (by decide) ?_
      refine g_icmp_ge (nx := 18) 88 F dX6_cheapest_15 rfl (by decide) (fun c_15 => absurd c_15 (by exact nI_ge (b := 10) (by omega) (by omega))) (fun c_15 => ?_)
      refine g_iload_n (nx := 19) 1 F dX6_cheapest_18 rfl rfl rfl ?_
      refine g_iload (nx := 21) F dX6_cheapest_19 rfl rfl ?_
      refine g_ishr (nx := 22) F dX6_cheapest_21 rfl ?_
      refine g_iconst (nx := 23) (1) F dX6_cheapest_22 rfl rfl ?_
      refine g_iand (nx := 24) F dX6_cheapest_23 rfl ?_
      refine g_iconst (nx := 25) (1) F dX6_cheapest_24 rfl rfl ?_
      rw [hbit]
      refine g_icmp_ne (nx := 28) 82 F dX6_cheapest_25 rfl (by decide) (fun c_25 => ?_) (fun c_25 => ?_)
      · refine g_iinc (nx := 85) (1) F dX6_cheapest_82 rfl rfl (by decide) (by decide) ?_
        try dsimp only [List.set]
        refine g_goto 11 F dX6_cheapest_85 (by decide) ?_
        rw [nI_1]
        first
          | (have hq : ¬ (c / 2 ^ i % 2 = 1 ∧ (best = none ∨ prP T D P n o y i j < p ∨ (prP T D P n o y i j = p ∧ wtP T D P n o y i j < w))) := fun z0 => c_25 ((bt_1 _).mpr z0.1); rw [if_neg hq] at hA; exact ih (i + 1) best p w _ (by omega) hb hr hA)
          | (have hq : c / 2 ^ i % 2 = 1 ∧ (best = none ∨ prP T D P n o y i j < p ∨ (prP T D P n o y i j = p ∧ wtP T D P n o y i j < w)) := ⟨(bt_1 _).mp c_25, Or.inl (bO_none hb c_37)⟩; rw [if_pos hq] at hA; exact ih (i + 1) (some i) _ _ _ (by omega) (fun k hk => by cases hk; omega) hr3 hA)
          | (have hq : c / 2 ^ i % 2 = 1 ∧ (best = none ∨ prP T D P n o y i j < p ∨ (prP T D P n o y i j = p ∧ wtP T D P n o y i j < w)) := ⟨(bt_1 _).mp c_25, Or.inr (Or.inl c_46)⟩; rw [if_pos hq] at hA; exact ih (i + 1) (some i) _ _ _ (by omega) (fun k hk => by cases hk; omega) hr3 hA)
          | (have hq : c / 2 ^ i % 2 = 1 ∧ (best = none ∨ prP T D P n o y i j < p ∨ (prP T D P n o y i j = p ∧ wtP T D P n o y i j < w)) := ⟨(bt_1 _).mp c_25, Or.inr (Or.inr ⟨c_55, not_le_I.mp c_64⟩)⟩; rw [if_pos hq] at hA; exact ih (i + 1) (some i) _ _ _ (by omega) (fun k hk => by cases hk; omega) hr3 hA)
          | (have hq : ¬ (c / 2 ^ i % 2 = 1 ∧ (best = none ∨ prP T D P n o y i j < p ∨ (prP T D P n o y i j = p ∧ wtP T D P n o y i j < w))) := fun z0 => z0.2.elim (fun z1 => c_37 (congrArg bO z1)) (fun z1 => z1.elim c_46 (fun z2 => absurd c_64 (not_le_I.mpr z2.2))); rw [if_neg hq] at hA; exact ih (i + 1) best p w _ (by omega) hb hr3 hA)
          | (have hq : ¬ (c / 2 ^ i % 2 = 1 ∧ (best = none ∨ prP T D P n o y i j < p ∨ (prP T D P n o y i j = p ∧ wtP T D P n o y i j < w))) := fun z0 => z0.2.elim (fun z1 => c_37 (congrArg bO z1)) (fun z1 => z1.elim c_46 (fun z2 => c_55 z2.1)); rw [if_neg hq] at hA; exact ih (i + 1) best p w _ (by omega) hb hr3 hA)
      · refine g_aload_n (nx := 29) 0 F dX6_cheapest_28 rfl rfl rfl ?_
        refine g_iload (nx := 31) F dX6_cheapest_29 rfl rfl ?_
        refine g_iload_n (nx := 32) 2 F dX6_cheapest_31 rfl rfl rfl ?_
        refine g_callV (nx := 35) 2 3 [.int (nI i), .int (nI j)] F dX6_cheapest_32 rfl ml_RX6_118 mo_X6_meet rfl rfl rfl rfl (Nat.le_of_ble_eq_true rfl) (by first | decide | omega) (c_meet_27 T D P σ0 n s a o y i j _ heτ hr hy ho (by omega) hj hn (by omega) hP) (fun r_32 τ_32 q_32 => ?_)
        obtain ⟨rfl, hr3, hp3, hw3⟩ := q_32
        dsimp only [Option.toList, List.append, List.cons_append, List.nil_append]
        refine g_iload_n (nx := 36) 3 F dX6_cheapest_35 rfl rfl rfl ?_
        refine g_iconst (nx := 37) (-1) F dX6_cheapest_36 rfl rfl ?_
        refine g_icmp_eq (nx := 40) 67 F dX6_cheapest_37 rfl (by decide) (fun c_37 => ?_) (fun c_37 => ?_)
        · refine g_iload (nx := 69) F dX6_cheapest_67 rfl rfl ?_
          refine g_istore_n (nx := 70) 3 F dX6_cheapest_69 rfl rfl (by decide) ?_
          try dsimp only [List.set]
          refine g_aload_n (nx := 71) 0 F dX6_cheapest_70 rfl rfl rfl ?_
          refine g_getV (nx := 74) (prP T D P n o y i j) F dX6_cheapest_71 rfl fl_RX6_122 rfl (by decide) (by decide) rfl rfl (hp3) ?_
          refine g_istore (nx := 76) F dX6_cheapest_74 rfl (by decide) ?_
          try dsimp only [List.set]
          refine g_aload_n (nx := 77) 0 F dX6_cheapest_76 rfl rfl rfl ?_
          refine g_getV (nx := 80) (wtP T D P n o y i j) F dX6_cheapest_77 rfl fl_RX6_125 rfl (by decide) (by decide) rfl rfl (hw3) ?_
          refine g_istore (nx := 82) F dX6_cheapest_80 rfl (by decide) ?_
          try dsimp only [List.set]
          refine g_iinc (nx := 85) (1) F dX6_cheapest_82 rfl rfl (by decide) (by decide) ?_
          try dsimp only [List.set]
          refine g_goto 11 F dX6_cheapest_85 (by decide) ?_
          rw [nI_1]
          first
            | (have hq : ¬ (c / 2 ^ i % 2 = 1 ∧ (best = none ∨ prP T D P n o y i j < p ∨ (prP T D P n o y i j = p ∧ wtP T D P n o y i j < w))) := fun z0 => c_25 ((bt_1 _).mpr z0.1); rw [if_neg hq] at hA; exact ih (i + 1) best p w _ (by omega) hb hr hA)
            | (have hq : c / 2 ^ i % 2 = 1 ∧ (best = none ∨ prP T D P n o y i j < p ∨ (prP T D P n o y i j = p ∧ wtP T D P n o y i j < w)) := ⟨(bt_1 _).mp c_25, Or.inl (bO_none hb c_37)⟩; rw [if_pos hq] at hA; exact ih (i + 1) (some i) _ _ _ (by omega) (fun k hk => by cases hk; omega) hr3 hA)
            | (have hq : c / 2 ^ i % 2 = 1 ∧ (best = none ∨ prP T D P n o y i j < p ∨ (prP T D P n o y i j = p ∧ wtP T D P n o y i j < w)) := ⟨(bt_1 _).mp c_25, Or.inr (Or.inl c_46)⟩; rw [if_pos hq] at hA; exact ih (i + 1) (some i) _ _ _ (by omega) (fun k hk => by cases hk; omega) hr3 hA)
            | (have hq : c / 2 ^ i % 2 = 1 ∧ (best = none ∨ prP T D P n o y i j < p ∨ (prP T D P n o y i j = p ∧ wtP T D P n o y i j < w)) := ⟨(bt_1 _).mp c_25, Or.inr (Or.inr ⟨c_55, not_le_I.mp c_64⟩)⟩; rw [if_pos hq] at hA; exact ih (i + 1) (some i) _ _ _ (by omega) (fun k hk => by cases hk; omega) hr3 hA)
            | (have hq : ¬ (c / 2 ^ i % 2 = 1 ∧ (best = none ∨ prP T D P n o y i j < p ∨ (prP T D P n o y i j = p ∧ wtP T D P n o y i j < w))) := fun z0 => z0.2.elim (fun z1 => c_37 (congrArg bO z1)) (fun z1 => z1.elim c_46 (fun z2 => absurd c_64 (not_le_I.mpr z2.2))); rw [if_neg hq] at hA; exact ih (i + 1) best p w _ (by omega) hb hr3 hA)
            | (have hq : ¬ (c / 2 ^ i % 2 = 1 ∧ (best = none ∨ prP T D P n o y i j < p ∨ (prP T D P n o y i j = p ∧ wtP T D P n o y i j < w))) := fun z0 => z0.2.elim (fun z1 => c_37 (congrArg bO z1)) (fun z1 => z1.elim c_46 (fun z2 => c_55 z2.1)); rw [if_neg hq] at hA; exact ih (i + 1) best p w _ (by omega) hb hr3 hA)
        · refine g_aload_n (nx := 41) 0 F dX6_cheapest_40 rfl rfl rfl ?_
          refine g_getV (nx := 44) (prP T D P n o y i j) F dX6_cheapest_41 rfl fl_RX6_122 rfl (by decide) (by decide) rfl rfl (hp3) ?_
          refine g_iload (nx := 46) F dX6_cheapest_44 rfl rfl ?_
          refine g_icmp_lt (nx := 49) 67 F dX6_cheapest_46 rfl (by decide) (fun c_46 => ?_) (fun c_46 => ?_)
          · refine g_iload (nx := 69) F dX6_cheapest_67 rfl rfl ?_
            refine g_istore_n (nx := 70) 3 F dX6_cheapest_69 rfl rfl (by decide) ?_
            try dsimp only [List.set]
            refine g_aload_n (nx := 71) 0 F dX6_cheapest_70 rfl rfl rfl ?_
            refine g_getV (nx := 74) (prP T D P n o y i j) F dX6_cheapest_71 rfl fl_RX6_122 rfl (by decide) (by decide) rfl rfl (hp3) ?_
            refine g_istore (nx := 76) F dX6_cheapest_74 rfl (by decide) ?_
            try dsimp only [List.set]
            refine g_aload_n (nx := 77) 0 F dX6_cheapest_76 rfl rfl rfl ?_
            refine g_getV (nx := 80) (wtP T D P n o y i j) F dX6_cheapest_77 rfl fl_RX6_125 rfl (by decide) (by decide) rfl rfl (hw3) ?_
            refine g_istore (nx := 82) F dX6_cheapest_80 rfl (by decide) ?_
            try dsimp only [List.set]
            refine g_iinc (nx := 85) (1) F dX6_cheapest_82 rfl rfl (by decide) (by decide) ?_
            try dsimp only [List.set]
            refine g_goto 11 F dX6_cheapest_85 (by decide) ?_
            rw [nI_1]
            first
              | (have hq : ¬ (c / 2 ^ i % 2 = 1 ∧ (best = none ∨ prP T D P n o y i j < p ∨ (prP T D P n o y i j = p ∧ wtP T D P n o y i j < w))) := fun z0 => c_25 ((bt_1 _).mpr z0.1); rw [if_neg hq] at hA; exact ih (i + 1) best p w _ (by omega) hb hr hA)
              | (have hq : c / 2 ^ i % 2 = 1 ∧ (best = none ∨ prP T D P n o y i j < p ∨ (prP T D P n o y i j = p ∧ wtP T D P n o y i j < w)) := ⟨(bt_1 _).mp c_25, Or.inl (bO_none hb c_37)⟩; rw [if_pos hq] at hA; exact ih (i + 1) (some i) _ _ _ (by omega) (fun k hk => by cases hk; omega) hr3 hA)
              | (have hq : c / 2 ^ i % 2 = 1 ∧ (best = none ∨ prP T D P n o y i j < p ∨ (prP T D P n o y i j = p ∧ wtP T D P n o y i j < w)) := ⟨(bt_1 _).mp c_25, Or.inr (Or.inl c_46)⟩; rw [if_pos hq] at hA; exact ih (i + 1) (some i) _ _ _ (by omega) (fun k hk => by cases hk; omega) hr3 hA)
              | (have hq : c / 2 ^ i % 2 = 1 ∧ (best = none ∨ prP T D P n o y i j < p ∨ (prP T D P n o y i j = p ∧ wtP T D P n o y i j < w)) := ⟨(bt_1 _).mp c_25, Or.inr (Or.inr ⟨c_55, not_le_I.mp c_64⟩)⟩; rw [if_pos hq] at hA; exact ih (i + 1) (some i) _ _ _ (by omega) (fun k hk => by cases hk; omega) hr3 hA)
              | (have hq : ¬ (c / 2 ^ i % 2 = 1 ∧ (best = none ∨ prP T D P n o y i j < p ∨ (prP T D P n o y i j = p ∧ wtP T D P n o y i j < w))) := fun z0 => z0.2.elim (fun z1 => c_37 (congrArg bO z1)) (fun z1 => z1.elim c_46 (fun z2 => absurd c_64 (not_le_I.mpr z2.2))); rw [if_neg hq] at hA; exact ih (i + 1) best p w _ (by omega) hb hr3 hA)
              | (have hq : ¬ (c / 2 ^ i % 2 = 1 ∧ (best = none ∨ prP T D P n o y i j < p ∨ (prP T D P n o y i j = p ∧ wtP T D P n o y i j < w))) := fun z0 => z0.2.elim (fun z1 => c_37 (congrArg bO z1)) (fun z1 => z1.elim c_46 (fun z2 => c_55 z2.1)); rw [if_neg hq] at hA; exact ih (i + 1) best p w _ (by omega) hb hr3 hA)
          · refine g_aload_n (nx := 50) 0 F dX6_cheapest_49 rfl rfl rfl ?_
            refine g_getV (nx := 53) (prP T D P n o y i j) F dX6_cheapest_50 rfl fl_RX6_122 rfl (by decide) (by decide) rfl rfl (hp3) ?_
            refine g_iload (nx := 55) F dX6_cheapest_53 rfl rfl ?_
            refine g_icmp_ne (nx := 58) 82 F dX6_cheapest_55 rfl (by decide) (fun c_55 => ?_) (fun c_55 => ?_)
            · refine g_iinc (nx := 85) (1) F dX6_cheapest_82 rfl rfl (by decide) (by decide) ?_
              try dsimp only [List.set]
              refine g_goto 11 F dX6_cheapest_85 (by decide) ?_
              rw [nI_1]
              first
                | (have hq : ¬ (c / 2 ^ i % 2 = 1 ∧ (best = none ∨ prP T D P n o y i j < p ∨ (prP T D P n o y i j = p ∧ wtP T D P n o y i j < w))) := fun z0 => c_25 ((bt_1 _).mpr z0.1); rw [if_neg hq] at hA; exact ih (i + 1) best p w _ (by omega) hb hr hA)
                | (have hq : c / 2 ^ i % 2 = 1 ∧ (best = none ∨ prP T D P n o y i j < p ∨ (prP T D P n o y i j = p ∧ wtP T D P n o y i j < w)) := ⟨(bt_1 _).mp c_25, Or.inl (bO_none hb c_37)⟩; rw [if_pos hq] at hA; exact ih (i + 1) (some i) _ _ _ (by omega) (fun k hk => by cases hk; omega) hr3 hA)
                | (have hq : c / 2 ^ i % 2 = 1 ∧ (best = none ∨ prP T D P n o y i j < p ∨ (prP T D P n o y i j = p ∧ wtP T D P n o y i j < w)) := ⟨(bt_1 _).mp c_25, Or.inr (Or.inl c_46)⟩; rw [if_pos hq] at hA; exact ih (i + 1) (some i) _ _ _ (by omega) (fun k hk => by cases hk; omega) hr3 hA)
                | (have hq : c / 2 ^ i % 2 = 1 ∧ (best = none ∨ prP T D P n o y i j < p ∨ (prP T D P n o y i j = p ∧ wtP T D P n o y i j < w)) := ⟨(bt_1 _).mp c_25, Or.inr (Or.inr ⟨c_55, not_le_I.mp c_64⟩)⟩; rw [if_pos hq] at hA; exact ih (i + 1) (some i) _ _ _ (by omega) (fun k hk => by cases hk; omega) hr3 hA)
                | (have hq : ¬ (c / 2 ^ i % 2 = 1 ∧ (best = none ∨ prP T D P n o y i j < p ∨ (prP T D P n o y i j = p ∧ wtP T D P n o y i j < w))) := fun z0 => z0.2.elim (fun z1 => c_37 (congrArg bO z1)) (fun z1 => z1.elim c_46 (fun z2 => absurd c_64 (not_le_I.mpr z2.2))); rw [if_neg hq] at hA; exact ih (i + 1) best p w _ (by omega) hb hr3 hA)
                | (have hq : ¬ (c / 2 ^ i % 2 = 1 ∧ (best = none ∨ prP T D P n o y i j < p ∨ (prP T D P n o y i j = p ∧ wtP T D P n o y i j < w))) := fun z0 => z0.2.elim (fun z1 => c_37 (congrArg bO z1)) (fun z1 => z1.elim c_46 (fun z2 => c_55 z2.1)); rw [if_neg hq] at hA; exact ih (i + 1) best p w _ (by omega) hb hr3 hA)
            · refine g_aload_n (nx := 59) 0 F dX6_cheapest_58 rfl rfl rfl ?_
              refine g_getV (nx := 62) (wtP T D P n o y i j) F dX6_cheapest_59 rfl fl_RX6_125 rfl (by decide) (by decide) rfl rfl (hw3) ?_
              refine g_iload (nx := 64) F dX6_cheapest_62 rfl rfl ?_
              refine g_icmp_ge (nx := 67) 82 F dX6_cheapest_64 rfl (by decide) (fun c_64 => ?_) (fun c_64 => ?_)
              · refine g_iinc (nx := 85) (1) F dX6_cheapest_82 rfl rfl (by decide) (by decide) ?_
                try dsimp only [List.set]
                refine g_goto 11 F dX6_cheapest_85 (by decide) ?_
                rw [nI_1]
                first
                  | (have hq : ¬ (c / 2 ^ i % 2 = 1 ∧ (best = none ∨ prP T D P n o y i j < p ∨ (prP T D P n o y i j = p ∧ wtP T D P n o y i j < w))) := fun z0 => c_25 ((bt_1 _).mpr z0.1); rw [if_neg hq] at hA; exact ih (i + 1) best p w _ (by omega) hb hr hA)
                  | (have hq : c / 2 ^ i % 2 = 1 ∧ (best = none ∨ prP T D P n o y i j < p ∨ (prP T D P n o y i j = p ∧ wtP T D P n o y i j < w)) := ⟨(bt_1 _).mp c_25, Or.inl (bO_none hb c_37)⟩; rw [if_pos hq] at hA; exact ih (i + 1) (some i) _ _ _ (by omega) (fun k hk => by cases hk; omega) hr3 hA)
                  | (have hq : c / 2 ^ i % 2 = 1 ∧ (best = none ∨ prP T D P n o y i j < p ∨ (prP T D P n o y i j = p ∧ wtP T D P n o y i j < w)) := ⟨(bt_1 _).mp c_25, Or.inr (Or.inl c_46)⟩; rw [if_pos hq] at hA; exact ih (i + 1) (some i) _ _ _ (by omega) (fun k hk => by cases hk; omega) hr3 hA)
                  | (have hq : c / 2 ^ i % 2 = 1 ∧ (best = none ∨ prP T D P n o y i j < p ∨ (prP T D P n o y i j = p ∧ wtP T D P n o y i j < w)) := ⟨(bt_1 _).mp c_25, Or.inr (Or.inr ⟨c_55, not_le_I.mp c_64⟩)⟩; rw [if_pos hq] at hA; exact ih (i + 1) (some i) _ _ _ (by omega) (fun k hk => by cases hk; omega) hr3 hA)
                  | (have hq : ¬ (c / 2 ^ i % 2 = 1 ∧ (best = none ∨ prP T D P n o y i j < p ∨ (prP T D P n o y i j = p ∧ wtP T D P n o y i j < w))) := fun z0 => z0.2.elim (fun z1 => c_37 (congrArg bO z1)) (fun z1 => z1.elim c_46 (fun z2 => absurd c_64 (not_le_I.mpr z2.2))); rw [if_neg hq] at hA; exact ih (i + 1) best p w _ (by omega) hb hr3 hA)
                  | (have hq : ¬ (c / 2 ^ i % 2 = 1 ∧ (best = none ∨ prP T D P n o y i j < p ∨ (prP T D P n o y i j = p ∧ wtP T D P n o y i j < w))) := fun z0 => z0.2.elim (fun z1 => c_37 (congrArg bO z1)) (fun z1 => z1.elim c_46 (fun z2 => c_55 z2.1)); rw [if_neg hq] at hA; exact ih (i + 1) best p w _ (by omega) hb hr3 hA)
              · refine g_iload (nx := 69) F dX6_cheapest_67 rfl rfl ?_
                refine g_istore_n (nx := 70) 3 F dX6_cheapest_69 rfl rfl (by decide) ?_
                try dsimp only [List.set]
                refine g_aload_n (nx := 71) 0 F dX6_cheapest_70 rfl rfl rfl ?_
                refine g_getV (nx := 74) (prP T D P n o y i j) F dX6_cheapest_71 rfl fl_RX6_122 rfl (by decide) (by decide) rfl rfl (hp3) ?_
                refine g_istore (nx := 76) F dX6_cheapest_74 rfl (by decide) ?_
                try dsimp only [List.set]
                refine g_aload_n (nx := 77) 0 F dX6_cheapest_76 rfl rfl rfl ?_
                refine g_getV (nx := 80) (wtP T D P n o y i j) F dX6_cheapest_77 rfl fl_RX6_125 rfl (by decide) (by decide) rfl rfl (hw3) ?_
                refine g_istore (nx := 82) F dX6_cheapest_80 rfl (by decide) ?_
                try dsimp only [List.set]
                refine g_iinc (nx := 85) (1) F dX6_cheapest_82 rfl rfl (by decide) (by decide) ?_
                try dsimp only [List.set]
                refine g_goto 11 F dX6_cheapest_85 (by decide) ?_
                rw [nI_1]
                first
                  | (have hq : ¬ (c / 2 ^ i % 2 = 1 ∧ (best = none ∨ prP T D P n o y i j < p ∨ (prP T D P n o y i j = p ∧ wtP T D P n o y i j < w))) := fun z0 => c_25 ((bt_1 _).mpr z0.1); rw [if_neg hq] at hA; exact ih (i + 1) best p w _ (by omega) hb hr hA)
                  | (have hq : c / 2 ^ i % 2 = 1 ∧ (best = none ∨ prP T D P n o y i j < p ∨ (prP T D P n o y i j = p ∧ wtP T D P n o y i j < w)) := ⟨(bt_1 _).mp c_25, Or.inl (bO_none hb c_37)⟩; rw [if_pos hq] at hA; exact ih (i + 1) (some i) _ _ _ (by omega) (fun k hk => by cases hk; omega) hr3 hA)
                  | (have hq : c / 2 ^ i % 2 = 1 ∧ (best = none ∨ prP T D P n o y i j < p ∨ (prP T D P n o y i j = p ∧ wtP T D P n o y i j < w)) := ⟨(bt_1 _).mp c_25, Or.inr (Or.inl c_46)⟩; rw [if_pos hq] at hA; exact ih (i + 1) (some i) _ _ _ (by omega) (fun k hk => by cases hk; omega) hr3 hA)
                  | (have hq : c / 2 ^ i % 2 = 1 ∧ (best = none ∨ prP T D P n o y i j < p ∨ (prP T D P n o y i j = p ∧ wtP T D P n o y i j < w)) := ⟨(bt_1 _).mp c_25, Or.inr (Or.inr ⟨c_55, not_le_I.mp c_64⟩)⟩; rw [if_pos hq] at hA; exact ih (i + 1) (some i) _ _ _ (by omega) (fun k hk => by cases hk; omega) hr3 hA)
                  | (have hq : ¬ (c / 2 ^ i % 2 = 1 ∧ (best = none ∨ prP T D P n o y i j < p ∨ (prP T D P n o y i j = p ∧ wtP T D P n o y i j < w))) := fun z0 => z0.2.elim (fun z1 => c_37 (congrArg bO z1)) (fun z1 => z1.elim c_46 (fun z2 => absurd c_64 (not_le_I.mpr z2.2))); rw [if_neg hq] at hA; exact ih (i + 1) best p w _ (by omega) hb hr3 hA)
                  | (have hq : ¬ (c / 2 ^ i % 2 = 1 ∧ (best = none ∨ prP T D P n o y i j < p ∨ (prP T D P n o y i j = p ∧ wtP T D P n o y i j < w))) := fun z0 => z0.2.elim (fun z1 => c_37 (congrArg bO z1)) (fun z1 => z1.elim c_46 (fun z2 => c_55 z2.1)); rw [if_neg hq] at hA; exact ih (i + 1) best p w _ (by omega) hb hr3 hA)
  refine g_iconst (nx := 1) (-1) F dX6_cheapest_0 rfl rfl ?_
  refine g_istore_n (nx := 2) 3 F dX6_cheapest_1 rfl rfl (by decide) ?_
  try dsimp only [List.set]
  refine g_iconst (nx := 3) (0) F dX6_cheapest_2 rfl rfl ?_
  refine g_istore (nx := 5) F dX6_cheapest_3 rfl (by decide) ?_
  try dsimp only [List.set]
  refine g_iconst (nx := 6) (0) F dX6_cheapest_5 rfl rfl ?_
  refine g_istore (nx := 8) F dX6_cheapest_6 rfl (by decide) ?_
  try dsimp only [List.set]
  refine g_iconst (nx := 9) (0) F dX6_cheapest_8 rfl rfl ?_
  refine g_istore (nx := 11) F dX6_cheapest_9 rfl (by decide) ?_
  try dsimp only [List.set]
  exact L 10 0 none 0 0 _ (by omega) (fun k hk => by cases hk) hr rfl
set_option maxHeartbeats 4000000 in
set_option maxRecDepth 100000 in
theorem c_server_27 (T : Nat → TXT) (D P σ0 : zSt) (n s a : Nat) (o y : Int32) (j : Nat) (e : Nat) (σ : zSt) (he : EnvC σ0 D T s) (hr : RC 27 n s σ0 σ P) (hy : σ0 27 12 = y) (ho : σ0 27 14 = o) (hj : j < n) (hn : n ≤ 40) (ha : a < s) (hP : P 0 j = nI a) (hD : okD D s e) (hx : ∃ x, x < 65536 ∧ P 8 0 = nI x) : Con mX6_server 5 [.ref 27, .int (nI j)] σ (fun r τ => r = some (.int (nI (srvI T D n o y P j))) ∧ RC 27 n s σ0 τ (srvQ D P j)) := by
  have heσ := RC_env (by decide) hr he
  have hs8 := heσ.2.2.2.2.2.2.2.1
  obtain ⟨c, hDc, hc0, hc10, hce, hcw, hst, hsi, _⟩ := srvI_ok (T := T) (n := n) (o := o) (y := y) hD ha hs8 hP
  have hb10 := bcN_le c hc10
  have hb0 := bc_pos c hc10 hc0
  obtain ⟨x, hx, hPx⟩ := hx
  have hnx : nxN (P 8 0) = (25173 * x + 13849) % 65536 := by unfold nxN; rw [hPx, nI_tn (by omega)]
  have hix : (25173 : Int32) * nI x + 13849 - (25173 * nI x + 13849) / 65536 * 65536 = nI (nxN (P 8 0)) := by
    rw [show (25173 : Int32) = nI 25173 from rfl, show (13849 : Int32) = nI 13849 from rfl, show (65536 : Int32) = nI 65536 from rfl, pk_mul, nI_add, pk_rem (by omega) (by decide) (by decide), hnx]
  have hix2 : nI (nxN (P 8 0)) - nI (nxN (P 8 0)) / nI (bcN c) * nI (bcN c) = nI (nxN (P 8 0) % bcN c) := pk_rem (by rw [hnx]; omega) hb0 (by omega)
  have hsI : srvI T D n o y P j = if D 3 a = 0 then loF c 10 0 0 else if D 3 a = 2 then loF c 10 0 (nxN (P 8 0) % bcN c) else (cpF c (fun i => prP T D P n o y i j) (fun i => wtP T D P n o y i j) 10 0 none 0 0).getD 0 := by unfold srvI; rw [hcw, hst]
  have hsQ : srvQ D P j = if D 3 a = 2 then zu P 8 0 (nI (nxN (P 8 0))) else P := by unfold srvQ; rw [hst]
  have hlt : nxN (P 8 0) % bcN c < 10 := Nat.lt_of_lt_of_le (Nat.mod_lt _ hb0) hb10
  rw [hsI, hsQ]
  refine Con.of (lv := [.ref 27, .int (nI j), .long 0, .long 0, .long 0]) mk_X6_server rfl (Nat.le_of_ble_eq_true rfl) rfl (fun X F E => ?_)
  refine g_aload_n (nx := 1) 0 F dX6_server_0 rfl rfl rfl ?_
  refine g_getR (nx := 4) F dX6_server_1 rfl fl_RX6_43 rfl (by decide) (by decide) rfl ?_
  refine g_getR (nx := 7) F dX6_server_4 rfl fl_RX6_105 rfl (by decide) (by decide) rfl ?_
  refine g_aload_n (nx := 8) 0 F dX6_server_7 rfl rfl rfl ?_
  refine g_getR (nx := 11) F dX6_server_8 rfl fl_RX6_9 rfl (by decide) (by decide) rfl ?_
  refine g_iload_n (nx := 12) 1 F dX6_server_11 rfl rfl rfl ?_
  refine g_ialdN (nx := 13) (j) (nI a) F dX6_server_12 rfl rfl (by omega) ((congrFun (hr.2.2.2.2.1 0 (by decide)) j).trans hP) ?_
  refine g_ialdN (nx := 14) (a) (nI c) F dX6_server_13 rfl rfl (by omega) ((congrFun heσ.2.2.1 a).trans hDc) ?_
  refine g_istore_n (nx := 15) 2 F dX6_server_14 rfl rfl (by decide) ?_
  try dsimp only [List.set]
  refine g_aload_n (nx := 16) 0 F dX6_server_15 rfl rfl rfl ?_
  refine g_getR (nx := 19) F dX6_server_16 rfl fl_RX6_43 rfl (by decide) (by decide) rfl ?_
  refine g_getR (nx := 22) F dX6_server_19 rfl fl_RX6_108 rfl (by decide) (by decide) rfl ?_
  refine g_aload_n (nx := 23) 0 F dX6_server_22 rfl rfl rfl ?_
  refine g_getR (nx := 26) F dX6_server_23 rfl fl_RX6_9 rfl (by decide) (by decide) rfl ?_
  refine g_iload_n (nx := 27) 1 F dX6_server_26 rfl rfl rfl ?_
  refine g_ialdN (nx := 28) (j) (nI a) F dX6_server_27 rfl rfl (by omega) ((congrFun (hr.2.2.2.2.1 0 (by decide)) j).trans hP) ?_
  refine g_ialdN (nx := 29) (a) (D 3 a) F dX6_server_28 rfl rfl (by omega) (congrFun heσ.2.2.2.1 a) ?_
  refine g_istore_n (nx := 30) 3 F dX6_server_29 rfl rfl (by decide) ?_
  try dsimp only [List.set]
  refine g_iload_n (nx := 31) 3 F dX6_server_30 rfl rfl rfl ?_
  refine g_if_ne (nx := 34) 40 F dX6_server_31 rfl (by decide) (fun c_31 => ?_) (fun c_31 => ?_)
  · refine g_iload_n (nx := 41) 3 F dX6_server_40 rfl rfl rfl ?_
    refine g_iconst (nx := 42) (2) F dX6_server_41 rfl rfl ?_
    refine g_icmp_ne (nx := 45) 91 F dX6_server_42 rfl (by decide) (fun c_42 => ?_) (fun c_42 => ?_)
    · refine g_aload_n (nx := 92) 0 F dX6_server_91 rfl rfl rfl ?_
      refine g_iload_n (nx := 93) 2 F dX6_server_92 rfl rfl rfl ?_
      refine g_iload_n (nx := 94) 1 F dX6_server_93 rfl rfl rfl ?_
      refine g_callV (nx := 97) 2 4 [.int (nI c), .int (nI j)] F dX6_server_94 rfl ml_RX6_115 mo_X6_cheapest rfl rfl rfl rfl (Nat.le_of_ble_eq_true rfl) (by first | decide | omega) (c_cheapest_27 T D P σ0 n s a o y j c _ he hr hy ho hj hn ha hP hc10) (fun r_94 τ_94 q_94 => ?_)
      obtain ⟨rfl, hr94⟩ := q_94
      dsimp only [Option.toList, List.append, List.cons_append, List.nil_append]
      refine g_iret F E dX6_server_97 ?_
      rw [if_neg c_31, if_neg c_42, if_neg c_42]
      exact ⟨rfl, hr94⟩
    · refine g_iload_n (nx := 46) 2 F dX6_server_45 rfl rfl rfl ?_
      refine g_callS (nx := 49) 1 0 [.int (nI c)] F dX6_server_46 rfl ml_RX6_100 mo_J6_bitCount_0f7a4 rfl rfl (Nat.le_of_ble_eq_true rfl) (by first | decide | omega) (j_bitCount c _ hc10) (fun r_46 τ_46 q_46 => ?_)
      obtain ⟨rfl, et_46⟩ := q_46
      have et_46 := et_46.symm
      subst et_46
      dsimp only [Option.toList, List.append, List.cons_append, List.nil_append]
      refine g_istore (nx := 51) F dX6_server_49 rfl (by decide) ?_
      try dsimp only [List.set]
      refine g_aload_n (nx := 52) 0 F dX6_server_51 rfl rfl rfl ?_
      refine g_sipush (nx := 55) (25173) F dX6_server_52 rfl (by decide) ?_
      refine g_aload_n (nx := 56) 0 F dX6_server_55 rfl rfl rfl ?_
      refine g_getV (nx := 59) (nI x) F dX6_server_56 rfl fl_RX6_39 rfl (by decide) (by decide) rfl rfl (hr.2.2.1.trans hPx) ?_
      refine g_imul (nx := 60) F dX6_server_59 rfl ?_
      refine g_sipush (nx := 63) (13849) F dX6_server_60 rfl (by decide) ?_
      refine g_iadd (nx := 64) F dX6_server_63 rfl ?_
      refine g_ldc (nx := 66) (65536) F dX6_server_64 rfl co_RX6_114 ?_
      refine g_irem (nx := 67) F dX6_server_66 rfl (by decide) ?_
      rw [hix]
      refine g_putI (nx := 70) F dX6_server_67 rfl fl_RX6_39 fi_5_13 rfl (by decide) (by decide) rfl rfl ?_
      refine g_iload (nx := 72) F dX6_server_70 rfl rfl ?_
      refine g_if_le (nx := 75) 89 F dX6_server_72 rfl (by decide) (fun c_72 => absurd c_72 (by exact fun zq => absurd zq (nI_ge (a := 0) (b := bcN c) (by omega) (by omega)))) (fun c_72 => ?_)
      refine g_iload_n (nx := 76) 2 F dX6_server_75 rfl rfl rfl ?_
      refine g_aload_n (nx := 77) 0 F dX6_server_76 rfl rfl rfl ?_
      refine g_getV (nx := 80) (nI (nxN (P 8 0))) F dX6_server_77 rfl fl_RX6_39 rfl (by decide) (by decide) rfl rfl (rfl) ?_
      refine g_iload (nx := 82) F dX6_server_80 rfl rfl ?_
      refine g_irem (nx := 83) F dX6_server_82 rfl (by exact nI_ne0 hb0 (by omega)) ?_
      rw [hix2]
      refine g_callS (nx := 86) 2 0 [.int (nI c), .int (nI (nxN (P 8 0) % bcN c))] F dX6_server_83 rfl ml_RX6_111 mo_X6_atPlace rfl rfl (Nat.le_of_ble_eq_true rfl) (by first | decide | omega) (c_atPlace c (nxN (P 8 0) % bcN c) _ hc10 (by omega)) (fun r_83 τ_83 q_83 => ?_)
      obtain ⟨rfl, et_83⟩ := q_83
      have et_83 := et_83.symm
      subst et_83
      dsimp only [Option.toList, List.append, List.cons_append, List.nil_append]
      refine g_goto 90 F dX6_server_86 (by decide) ?_
      refine g_iret F E dX6_server_90 ?_
      rw [if_neg c_31, if_pos c_42, if_pos c_42]
      exact ⟨rfl, RC_x _ (by decide) hr⟩
  · refine g_iload_n (nx := 35) 2 F dX6_server_34 rfl rfl rfl ?_
    refine g_iconst (nx := 36) (0) F dX6_server_35 rfl rfl ?_
    refine g_callS (nx := 39) 2 0 [.int (nI c), .int (nI 0)] F dX6_server_36 rfl ml_RX6_111 mo_X6_atPlace rfl rfl (Nat.le_of_ble_eq_true rfl) (by first | decide | omega) (c_atPlace c 0 _ hc10 (by decide)) (fun r_36 τ_36 q_36 => ?_)
    obtain ⟨rfl, et_36⟩ := q_36
    have et_36 := et_36.symm
    subst et_36
    dsimp only [Option.toList, List.append, List.cons_append, List.nil_append]
    refine g_iret F E dX6_server_39 ?_
    rw [if_pos c_31, if_neg (by rw [c_31]; decide)]
    exact ⟨rfl, hr⟩
set_option maxHeartbeats 4000000 in
set_option maxRecDepth 100000 in
theorem c_isUnderWay_27 (n : Nat) (j : Int32) (σ : zSt) (hn : σ 27 8 = nI n) (h40 : n ≤ 40) : Con mX6_isUnderWay 0 [.ref 27, .int j] σ (fun r τ => r = some (.int (bI (0 ≤ j.toInt ∧ j.toInt < n ∧ σ 28 j.toInt.toNat < σ 3 6))) ∧ τ = σ) := by
  have hjn : 0 ≤ j.toInt → j = nI j.toInt.toNat := fun h => by rw [fa_eq, nI_toInt (by have := j.toInt_lt; omega)]; omega
  refine Con.of (lv := [.ref 27, .int j]) mk_X6_isUnderWay rfl (Nat.le_of_ble_eq_true rfl) rfl (fun X F E => ?_)
  refine g_iload_n (nx := 1) 1 F dX6_isUnderWay_0 rfl rfl rfl ?_
  refine g_if_lt (nx := 4) 32 F dX6_isUnderWay_1 rfl (by decide) (fun c_1 => ?_) (fun c_1 => ?_)
  · refine g_iconst (nx := 33) (0) F dX6_isUnderWay_32 rfl rfl ?_
    refine g_zret F E dX6_isUnderWay_33 (by first | rfl | assumption) ?_
    refine ⟨congrArg (fun z => some (Value.int z)) (Eq.symm ?_), rfl⟩
    clear F E
    rw [fa_lt] at *
    first | refine bI_f ?_ | refine bI_t ?_
    all_goals (try rw [fa_le, nI_toInt (by omega)] at c_9)
    all_goals (try rw [fa_le] at c_25)
    all_goals simp only [Int32.toInt_zero, fa_lt] at *
    all_goals omega
  · refine g_iload_n (nx := 5) 1 F dX6_isUnderWay_4 rfl rfl rfl ?_
    refine g_aload_n (nx := 6) 0 F dX6_isUnderWay_5 rfl rfl rfl ?_
    refine g_getV (nx := 9) (nI n) F dX6_isUnderWay_6 rfl fl_RX6_51 rfl (by decide) (by decide) rfl rfl (hn) ?_
    refine g_icmp_ge (nx := 12) 32 F dX6_isUnderWay_9 rfl (by decide) (fun c_9 => ?_) (fun c_9 => ?_)
    · refine g_iconst (nx := 33) (0) F dX6_isUnderWay_32 rfl rfl ?_
      refine g_zret F E dX6_isUnderWay_33 (by first | rfl | assumption) ?_
      refine ⟨congrArg (fun z => some (Value.int z)) (Eq.symm ?_), rfl⟩
      clear F E
      rw [fa_lt] at *
      first | refine bI_f ?_ | refine bI_t ?_
      all_goals (try rw [fa_le, nI_toInt (by omega)] at c_9)
      all_goals (try rw [fa_le] at c_25)
      all_goals simp only [Int32.toInt_zero, fa_lt] at *
      all_goals omega
    · refine g_aload_n (nx := 13) 0 F dX6_isUnderWay_12 rfl rfl rfl ?_
      refine g_getR (nx := 16) F dX6_isUnderWay_13 rfl fl_RX6_9 rfl (by decide) (by decide) rfl ?_
      refine g_iload_n (nx := 17) 1 F dX6_isUnderWay_16 rfl rfl rfl ?_
      rw [show j = nI j.toInt.toNat from hjn (by rw [fa_lt] at c_1; simp only [Int32.toInt_zero] at c_1; omega)]
      refine g_ialdN (nx := 18) (j.toInt.toNat) (_) F dX6_isUnderWay_17 rfl rfl (by rw [fa_lt] at c_1; rw [fa_le, nI_toInt (by omega)] at c_9; simp only [Int32.toInt_zero] at c_1; omega) (rfl) ?_
      refine g_aload_n (nx := 19) 0 F dX6_isUnderWay_18 rfl rfl rfl ?_
      refine g_getR (nx := 22) F dX6_isUnderWay_19 rfl fl_RX6_43 rfl (by decide) (by decide) rfl ?_
      refine g_getI (nx := 25) F dX6_isUnderWay_22 rfl fl_RX6_82 rfl (by decide) (by decide) rfl rfl ?_
      refine g_icmp_ge (nx := 28) 32 F dX6_isUnderWay_25 rfl (by decide) (fun c_25 => ?_) (fun c_25 => ?_)
      · refine g_iconst (nx := 33) (0) F dX6_isUnderWay_32 rfl rfl ?_
        refine g_zret F E dX6_isUnderWay_33 (by first | rfl | assumption) ?_
        refine ⟨congrArg (fun z => some (Value.int z)) (Eq.symm ?_), rfl⟩
        clear F E
        rw [fa_lt] at *
        first | refine bI_f ?_ | refine bI_t ?_
        all_goals (try rw [fa_le, nI_toInt (by omega)] at c_9)
        all_goals (try rw [fa_le] at c_25)
        all_goals simp only [Int32.toInt_zero, fa_lt] at *
        all_goals omega
      · refine g_iconst (nx := 29) (1) F dX6_isUnderWay_28 rfl rfl ?_
        refine g_goto 33 F dX6_isUnderWay_29 (by decide) ?_
        refine g_zret F E dX6_isUnderWay_33 (by first | rfl | assumption) ?_
        refine ⟨congrArg (fun z => some (Value.int z)) (Eq.symm ?_), rfl⟩
        clear F E
        rw [fa_lt] at *
        first | refine bI_f ?_ | refine bI_t ?_
        all_goals (try rw [fa_le, nI_toInt (by omega)] at c_9)
        all_goals (try rw [fa_le] at c_25)
        all_goals simp only [Int32.toInt_zero, fa_lt] at *
        all_goals omega
set_option maxHeartbeats 4000000 in
set_option maxRecDepth 100000 in
theorem c_goBy_27 (T : Nat → TXT) (D P σ0 : zSt) (n s mm e : Nat) (o y : Int32) (σ : zSt) (he : EnvC σ0 D T s) (hr : RC 27 n s σ0 σ P) (hy : σ0 27 12 = y) (ho : σ0 27 14 = o) (hn0 : σ0 27 8 = nI n) (hn : n ≤ 40) (hD : okD D s e) (hok : okP s n mm 0 (zu (zu P 8 1 0) 8 2 0)) : Con mX6_goBy 6 [.ref 27] σ (fun r τ => ∃ τ1, RC 27 n s σ0 τ1 (monP T D s n o y n 0 (zu (zu P 8 1 0) 8 2 0)) ∧ τ = zu (zu τ1 27 14 (nI (bcN ((monP T D s n o y n 0 (zu (zu P 8 1 0) 8 2 0)) 8 1).toInt.toNat))) 27 12 (y + 1) ∧ r = some (.int ((monP T D s n o y n 0 (zu (zu P 8 1 0) 8 2 0)) 8 2))) := by
  have hs8 := he.2.2.2.2.2.2.2.1
  refine Con.of (lv := [.ref 27, .long 0, .long 0]) mk_X6_goBy rfl (Nat.le_of_ble_eq_true rfl) rfl (fun X F E => ?_)
  have L : ∀ (q j : Nat) (Q : zSt) (τ : zSt), j + q = n → okP s n mm j Q → RC 27 n s σ0 τ Q → monP T D s n o y q j Q = monP T D s n o y n 0 (zu (zu P 8 1 0) 8 2 0) → Gs X 9 [.ref 27, .int (Q 8 2), .int (nI j)] [] τ := by
    intro q
    induction q with
    | zero =>
      intro j Q τ hj hok hr hA
      have hj : j = n := hj
      subst hj
      have hA : Q = _ := hA
      obtain ⟨t, ht, ht2⟩ := hok.2.2
      refine g_iload_n (nx := 10) 2 F dX6_goBy_9 rfl rfl rfl ?_
      refine g_aload_n (nx := 11) 0 F dX6_goBy_10 rfl rfl rfl ?_
      refine g_getV (nx := 14) (nI j) F dX6_goBy_11 rfl fl_RX6_51 rfl (by decide) (by decide) rfl rfl ((hr.2.1 8 (by decide) (by decide) (by decide) (by decide)).trans hn0) ?_
      refine g_icmp_ge (nx := 17) 44 F dX6_goBy_14 rfl (by decide) (fun c_14 => ?_) (fun c_14 => absurd c_14 (by exact fun zq => zq (nI_le (Nat.le_refl j) (by omega))))
      refine g_aload_n (nx := 45) 0 F dX6_goBy_44 rfl rfl rfl ?_
      refine g_aload_n (nx := 46) 0 F dX6_goBy_45 rfl rfl rfl ?_
      refine g_getV (nx := 49) (nI t) F dX6_goBy_46 rfl fl_RX6_85 rfl (by decide) (by decide) rfl rfl (hr.2.2.2.1.trans ht2) ?_
      refine g_callS (nx := 52) 1 0 [.int (nI t)] F dX6_goBy_49 rfl ml_RX6_100 mo_J6_bitCount_0f7a4 rfl rfl (Nat.le_of_ble_eq_true rfl) (by first | decide | omega) (j_bitCount t _ ht) (fun r_49 τ_49 q_49 => ?_)
      obtain ⟨rfl, et_49⟩ := q_49
      have et_49 := et_49.symm
      subst et_49
      dsimp only [Option.toList, List.append, List.cons_append, List.nil_append]
      refine g_putI (nx := 55) F dX6_goBy_52 rfl fl_RX6_62 fi_5_14 rfl (by decide) (by decide) rfl rfl ?_
      refine g_aload_n (nx := 56) 0 F dX6_goBy_55 rfl rfl rfl ?_
      refine g_dup (nx := 57) F dX6_goBy_56 rfl rfl ?_
      refine g_getV (nx := 60) (y) F dX6_goBy_57 rfl fl_RX6_54 rfl (by decide) (by decide) rfl rfl ((hr.2.1 12 (by decide) (by decide) (by decide) (by decide)).trans hy) ?_
      refine g_iconst (nx := 61) (1) F dX6_goBy_60 rfl rfl ?_
      refine g_iadd (nx := 62) F dX6_goBy_61 rfl ?_
      refine g_putI (nx := 65) F dX6_goBy_62 rfl fl_RX6_54 fi_5_12 rfl (by decide) (by decide) rfl rfl ?_
      refine g_iload_n (nx := 66) 1 F dX6_goBy_65 rfl rfl rfl ?_
      refine g_iret F E dX6_goBy_66 ?_
      refine ⟨τ, ?_, ?_, ?_⟩
      · rw [← hA]; exact hr
      · rw [← hA, ht2, nI_tn (by omega)]
      · rw [← hA]
    | succ q ih =>
      intro j Q τ hj hok hr hA
      have heτ := RC_env (by decide) hr he
      obtain ⟨⟨a, ha, hQ⟩, _⟩ := hok.1 j (by omega)
      have hok2 := okP_step (T := T) (o := o) (y := y) hD hok (show j < n by omega) hs8
      rw [monP] at hA
      unfold stepP at hA hok2
      refine g_iload_n (nx := 10) 2 F dX6_goBy_9 rfl rfl rfl ?_
      refine g_aload_n (nx := 11) 0 F dX6_goBy_10 rfl rfl rfl ?_
      refine g_getV (nx := 14) (nI n) F dX6_goBy_11 rfl fl_RX6_51 rfl (by decide) (by decide) rfl rfl ((hr.2.1 8 (by decide) (by decide) (by decide) (by decide)).trans hn0) ?_
      refine g_icmp_ge (nx := 17) 44 F dX6_goBy_14 rfl (by decide) (fun c_14 => absurd c_14 (by exact nI_ge (by omega) (by omega))) (fun c_14 => ?_)
      refine g_aload_n (nx := 18) 0 F dX6_goBy_17 rfl rfl rfl ?_
      refine g_iload_n (nx := 19) 2 F dX6_goBy_18 rfl rfl rfl ?_
      refine g_callV (nx := 22) 1 0 [.int (nI j)] F dX6_goBy_19 rfl ml_RX6_88 mo_X6_isUnderWay rfl rfl rfl rfl (Nat.le_of_ble_eq_true rfl) (by first | decide | omega) (c_isUnderWay_27 n (nI j) _ ((hr.2.1 8 (by decide) (by decide) (by decide) (by decide)).trans hn0) hn) (fun r_19 τ_19 q_19 => ?_)
      obtain ⟨rfl, et_19⟩ := q_19
      have et_19 := et_19.symm
      subst et_19
      dsimp only [Option.toList, List.append, List.cons_append, List.nil_append]
      rw [nI_tn (by omega), nI_toInt (by omega), show τ 28 j = Q 0 j from congrFun (hr.2.2.2.2.1 0 (by decide)) j, heτ.2.2.2.2.2.2.1]
      refine g_if_eq (nx := 25) 38 F dX6_goBy_22 rfl (by decide) (fun c_22 => ?_) (fun c_22 => ?_)
      · refine g_iinc (nx := 41) (1) F dX6_goBy_38 rfl rfl (by decide) (by decide) ?_
        try dsimp only [List.set]
        refine g_goto 9 F dX6_goBy_41 (by decide) ?_
        rw [nI_1]
        first
          | (have hc : ¬ Q 0 j < nI s := fun z => absurd (show bI (0 ≤ (j : Int) ∧ (j : Int) < (n : Int) ∧ Q 0 j < nI s) = 0 from c_22) (bI_n0.mpr ⟨by omega, by omega, z⟩); rw [if_neg hc] at hA hok2; exact ih (j + 1) Q _ (by omega) hok2 hr hA)
          | (rw [if_pos hc] at hA hok2; exact ih (j + 1) _ _ (by omega) hok2 hr33 hA)
      · refine g_iload_n (nx := 26) 1 F dX6_goBy_25 rfl rfl rfl ?_
        refine g_aload_n (nx := 27) 0 F dX6_goBy_26 rfl rfl rfl ?_
        refine g_aload_n (nx := 28) 0 F dX6_goBy_27 rfl rfl rfl ?_
        refine g_iload_n (nx := 29) 2 F dX6_goBy_28 rfl rfl rfl ?_
        refine g_callV (nx := 32) 1 5 [.int (nI j)] F dX6_goBy_29 rfl ml_RX6_92 mo_X6_server rfl rfl rfl rfl (Nat.le_of_ble_eq_true rfl) (by first | decide | omega) (c_server_27 T D Q σ0 n s a o y j e _ he hr hy ho (by omega) hn (by have hc := (bI_n0.mp c_22).2.2; rw [hQ] at hc; exact (nI_ltI (by omega) (by omega)).mp hc) hQ hD hok.2.1) (fun r_29 τ_29 q_29 => ?_)
        obtain ⟨rfl, hr29⟩ := q_29
        dsimp only [Option.toList, List.append, List.cons_append, List.nil_append]
        have hc := (bI_n0.mp c_22).2.2
        have ha2 : a < s := (nI_ltI (by omega) (by omega)).mp (by rw [← hQ]; exact hc)
        obtain ⟨_, _, _, _, _, _, _, hsi, _⟩ := srvI_ok (T := T) (n := n) (o := o) (y := y) hD ha2 hs8 hQ
        have hsi : srvI T D n o y Q j < 10 := Nat.lt_of_lt_of_le hsi hD.1
        refine g_iload_n (nx := 33) 2 F dX6_goBy_32 rfl rfl rfl ?_
        refine g_callV (nx := 36) 2 4 [.int (nI (srvI T D n o y Q j)), .int (nI j)] F dX6_goBy_33 rfl ml_RX6_96 mo_X6_serve rfl rfl rfl rfl (Nat.le_of_ble_eq_true rfl) (by first | decide | omega) (c_serve_27 T D (srvQ D Q j) σ0 n s a o y j (srvI T D n o y Q j) _ he hr29 hy ho (by omega) hn ha2 (by rw [srvQ_o.1 0 (by decide)]; exact hQ) hsi) (fun r_33 τ_33 q_33 => ?_)
        obtain ⟨v, rfl, hr33, hv⟩ := q_33
        dsimp only [Option.toList, List.append, List.cons_append, List.nil_append]
        refine g_iadd (nx := 37) F dX6_goBy_36 rfl ?_
        refine g_top _ (show Q 8 2 + v = servP T D s n o y (srvQ D Q j) (srvI T D n o y Q j) j 8 2 by rw [hv, srvQ_o.2 2 (by decide)]) ?_
        refine g_istore_n (nx := 38) 1 F dX6_goBy_37 rfl rfl (by decide) ?_
        try dsimp only [List.set]
        refine g_iinc (nx := 41) (1) F dX6_goBy_38 rfl rfl (by decide) (by decide) ?_
        try dsimp only [List.set]
        refine g_goto 9 F dX6_goBy_41 (by decide) ?_
        rw [nI_1]
        first
          | (have hc : ¬ Q 0 j < nI s := fun z => absurd (show bI (0 ≤ (j : Int) ∧ (j : Int) < (n : Int) ∧ Q 0 j < nI s) = 0 from c_22) (bI_n0.mpr ⟨by omega, by omega, z⟩); rw [if_neg hc] at hA hok2; exact ih (j + 1) Q _ (by omega) hok2 hr hA)
          | (rw [if_pos hc] at hA hok2; exact ih (j + 1) _ _ (by omega) hok2 hr33 hA)
  refine g_aload_n (nx := 1) 0 F dX6_goBy_0 rfl rfl rfl ?_
  refine g_iconst (nx := 2) (0) F dX6_goBy_1 rfl rfl ?_
  refine g_putI (nx := 5) F dX6_goBy_2 rfl fl_RX6_85 fi_5_15 rfl (by decide) (by decide) rfl rfl ?_
  refine g_iconst (nx := 6) (0) F dX6_goBy_5 rfl rfl ?_
  refine g_istore_n (nx := 7) 1 F dX6_goBy_6 rfl rfl (by decide) ?_
  try dsimp only [List.set]
  refine g_iconst (nx := 8) (0) F dX6_goBy_7 rfl rfl ?_
  refine g_istore_n (nx := 9) 2 F dX6_goBy_8 rfl rfl (by decide) ?_
  try dsimp only [List.set]
  exact L n 0 (zu (zu P 8 1 0) 8 2 0) _ (by omega) hok (RC_sum _ (RC_tk _ (by decide) hr)) rfl
