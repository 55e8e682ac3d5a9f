theorem sg_lt {x : Nat} (h : 2 ≤ sgF x) : x < 256 := by
  unfold sgF at h
  repeat' split at h
  all_goals omega
theorem cm_lt {x : Nat} (h : ¬ cmF x = 0) : x < 256 := by
  unfold cmF at h
  repeat' split at h
  all_goals omega
theorem lt_lt {x : Nat} (h : ¬ ltF x = 99) : x < 256 := by
  unfold ltF at h
  repeat' split at h
  all_goals omega
def PF (t n : Nat) (c : Nat → Nat) (hd : Nat → Bool) (d : Nat) : Prop := ∀ (σ : zSt) (p o l : Nat) (op vl : Nat → Nat), pcS σ t c n (p, o, l, op, vl) → o + d = 6 → Con mX5_readFactor (3 * d + 6) [.ref 16] σ (pE t n c hd [(0, 0)] σ p o l op vl (fun a b x y => wfE a b x y (2 * d + 1)))
def PFs (t n : Nat) (c : Nat → Nat) (hd : Nat → Bool) (d : Nat) : Prop := ∀ (σ : zSt) (p o l : Nat) (op vl : Nat → Nat), pcS σ t c n (p, o, l, op, vl) → o + d = 6 → Con mX5_readFactors (3 * d + 7) [.ref 16] σ (pE t n c hd [(0, 0), (1, 0)] σ p o l op vl (fun a b x y => wfE a b x y (2 * d + 2)))
def PTm (t n : Nat) (c : Nat → Nat) (hd : Nat → Bool) (d : Nat) : Prop := ∀ (σ : zSt) (p o l : Nat) (op vl : Nat → Nat), pcS σ t c n (p, o, l, op, vl) → o + d = 6 → Con mX5_readTerms (3 * d + 8) [.ref 16] σ (pE t n c hd [(0, 0), (1, 0), (3, 0)] σ p o l op vl (fun a b x y => wfE a b x y (2 * d + 3)))
theorem pcS_letter {σ : zSt} {t n p o l o2 v : Nat} {c op vl : Nat → Nat} (H : pcS σ t c n (p, o, l, op, vl)) (hp : p < n) (hv : v < 1000000) (ho : o2 < 13) : pcS (zu (zu (zu (zu σ (t + 1) l (nI (256 * v + ck o2))) t 1 (nI (l + 1))) 16 3 (nI (p + 1))) 16 4 (sgI (c (p + 1)))) t c n (p + 1, o, l + 1, updN op l o2, updN vl l v) ∧ frC t σ (zu (zu (zu (zu σ (t + 1) l (nI (256 * v + ck o2))) t 1 (nI (l + 1))) 16 3 (nI (p + 1))) 16 4 (sgI (c (p + 1)))) := by
  obtain ⟨⟨a1, a2, a3, a4⟩, ⟨b1, b2, b3, b4, b5, b6⟩, ⟨c1, c2⟩, d1, d2, d3⟩ := H
  have hr := tx_rng a1
  have h : ∀ a, a ≠ 16 → (zu (zu σ 16 3 (nI (p + 1))) 16 4 (sgI (c (p + 1)))) a = σ a := fun a ha => by rw [zu_ne _ ha, zu_ne _ ha]
  have H1 : pcS (zu (zu σ 16 3 (nI (p + 1))) 16 4 (sgI (c (p + 1)))) t c n (p + 1, o, l, op, vl) := pcS_16 (σ := σ) ⟨⟨a1, a2, a3, a4⟩, ⟨b1, b2, b3, b4, b5, b6⟩, ⟨c1, c2⟩, d1, d2, d3⟩ h rfl rfl rfl rfl b5 b6 hp (by omega) d3
  have H2 := pcS_put (o2 := o2) (v := v) H1 (by omega) hv ho
  have e : zu (zu (zu (zu σ (t + 1) l (nI (256 * v + ck o2))) t 1 (nI (l + 1))) 16 3 (nI (p + 1))) 16 4 (sgI (c (p + 1))) = zu (zu (zu (zu σ 16 3 (nI (p + 1))) 16 4 (sgI (c (p + 1)))) (t + 1) l (nI (256 * v + ck o2))) t 1 (nI (l + 1)) := by
    rw [zu_swap _ (show t ≠ 16 by omega), zu_swap _ (show t + 1 ≠ 16 by omega), zu_swap _ (show t ≠ 16 by omega), zu_swap _ (show t + 1 ≠ 16 by omega)]
  rw [e]
  exact ⟨H2.1, (frC.of16 a1 h rfl).tr H2.2⟩
set_option maxHeartbeats 4000000 in
set_option maxRecDepth 100000 in
theorem c_put0 (t l o2 v : Nat) (σ : zSt) (ht : isT t) (hl1 : σ t 1 = nI l) (hl160 : l < 160) (hv : v < 1000000) (ho : o2 < 13) : Con mX10_put 0 [.ref t, .int (nI (ck o2)), .int (nI v)] σ (fun r τ => r = some (.int (nI l)) ∧ τ = zu (zu σ (t + 1) l (nI (256 * v + ck o2))) t 1 (nI (l + 1))) := by
  refine Con.of (lv := [.ref t, .int (nI (ck o2)), .int (nI v)]) mk_X10_put rfl (Nat.le_of_ble_eq_true rfl) rfl (fun X F E => ?_)
  have hr := tx_rng ht
  refine g_aload_n (nx := 1) 0 F dX10_put_0 rfl rfl rfl ?_
  refine g_getV (nx := 4) (nI l) F dX10_put_1 rfl fl_RX10_27 (tx_k ht) (by decide) (by decide) (tx_1 ht) rfl (hl1) ?_
  refine g_aload_n (nx := 5) 0 F dX10_put_4 rfl rfl rfl ?_
  refine g_getR (nx := 8) F dX10_put_5 rfl fl_RX10_9 (tx_k ht) (by decide) (by decide) (tx_0 ht) ?_
  refine g_alen (nx := 9) F dX10_put_8 rfl (tx_k1 ht) (Or.inr rfl) ?_
  refine g_icmp_lt (nx := 12) 17 F dX10_put_9 rfl (by decide) (fun c_9 => ?_) (fun c_9 => absurd c_9 (by exact fun zq => zq (nI_lt (b := 160) hl160 (by omega))))
  refine g_aload_n (nx := 18) 0 F dX10_put_17 rfl rfl rfl ?_
  refine g_getR (nx := 21) F dX10_put_18 rfl fl_RX10_9 (tx_k ht) (by decide) (by decide) (tx_0 ht) ?_
  refine g_aload_n (nx := 22) 0 F dX10_put_21 rfl rfl rfl ?_
  refine g_getV (nx := 25) (nI l) F dX10_put_22 rfl fl_RX10_27 (tx_k ht) (by decide) (by decide) (tx_1 ht) rfl (hl1) ?_
  refine g_iload_n (nx := 26) 2 F dX10_put_25 rfl rfl rfl ?_
  refine g_bipush (nx := 28) (8) F dX10_put_26 rfl (by decide) ?_
  refine g_ishl (nx := 29) F dX10_put_28 rfl ?_
  refine g_iload_n (nx := 30) 1 F dX10_put_29 rfl rfl rfl ?_
  refine g_ior (nx := 31) F dX10_put_30 rfl ?_
  refine g_top (nI (256 * v + ck o2)) (cd_enc (ck_lt o2) hv) ?_
  refine g_iastN (nx := 32) (l) F dX10_put_31 rfl (tx_k1 ht) (hl160) ?_
  refine g_aload_n (nx := 33) 0 F dX10_put_32 rfl rfl rfl ?_
  refine g_dup (nx := 34) F dX10_put_33 rfl rfl ?_
  refine g_getV (nx := 37) (nI l) F dX10_put_34 rfl fl_RX10_27 (tx_k ht) (by decide) (by decide) (tx_1 ht) rfl ((zur _ (show t ≠ t + 1 by omega) _ _ _).trans hl1) ?_
  refine g_iconst (nx := 38) (1) F dX10_put_37 rfl rfl ?_
  refine g_iadd (nx := 39) F dX10_put_38 rfl ?_
  rw [nI_1]
  refine g_putI (nx := 42) F dX10_put_39 rfl fl_RX10_27 fi_9_1 (tx_k ht) (by decide) (by decide) (tx_1 ht) rfl ?_
  refine g_aload_n (nx := 43) 0 F dX10_put_42 rfl rfl rfl ?_
  refine g_getV (nx := 46) (nI (l + 1)) F dX10_put_43 rfl fl_RX10_27 (tx_k ht) (by decide) (by decide) (tx_1 ht) rfl (zu_same _ _ _ _) ?_
  refine g_iconst (nx := 47) (1) F dX10_put_46 rfl rfl ?_
  refine g_isub (nx := 48) F dX10_put_47 rfl ?_
  refine g_iret F E dX10_put_48 ?_
  exact ⟨by rw [nI_pred], rfl⟩
set_option maxHeartbeats 4000000 in
set_option maxRecDepth 100000 in
theorem c_readFactor {t n : Nat} {c : Nat → Nat} {hd : Nat → Bool} {d : Nat} (ih : ∀ q, d = q + 1 → PTm t n c hd q) : PF t n c hd d := by
  intro σ p o l op vl H hod
  refine Con.of (lv := [.ref 16, .long 0]) mk_X5_readFactor rfl (Nat.le_of_ble_eq_true rfl) rfl (fun X F E => ?_)
  have hor := inC_or H.1.2.1 p
  by_cases hA : c p = 91
  · refine g_aload_n (nx := 1) 0 F dX5_readFactor_0 rfl rfl rfl ?_
    refine g_getV (nx := 4) (sgI (c p)) F dX5_readFactor_1 rfl fl_RX5_30 rfl (by decide) (by decide) rfl rfl (H.2.1.2.2.2.1) ?_
    refine g_bipush (nx := 6) (91) F dX5_readFactor_4 rfl (by decide) ?_
    refine g_icmp_ne (nx := 9) 50 F dX5_readFactor_6 rfl (by decide) (fun c_6 => absurd c_6 (by exact fun zq => zq ((sgI_eq hor (by decide)).mpr hA))) (fun c_6 => ?_)
    refine g_aload_n (nx := 10) 0 F dX5_readFactor_9 rfl rfl rfl ?_
    refine g_callV (nx := 13) 0 2 [] F dX5_readFactor_10 rfl ml_RX5_97 mo_X5_enter rfl rfl rfl rfl (Nat.le_of_ble_eq_true rfl) (by first | decide | omega) (c_enter t n p o l c op vl _ H (inC_lt H.1.2.1 (by omega))) (fun r_10 τ_10 q_10 => ?_)
    skip
    rcases q_10 with ⟨rfl, ho6, hS, hf⟩ | ⟨rfl, ho6, hF, hf⟩
    · dsimp only [Option.toList, List.append, List.cons_append, List.nil_append]
      refine g_if_eq (nx := 16) 36 F dX5_readFactor_13 rfl (by decide) (fun c_13 => absurd c_13 (by decide)) (fun c_13 => ?_)
      refine g_aload_n (nx := 17) 0 F dX5_readFactor_16 rfl rfl rfl ?_
      refine g_callV (nx := 20) 0 (3 * (d - 1) + 8) [] F dX5_readFactor_17 rfl ml_RX5_48 mo_X5_readTerms rfl rfl rfl rfl (Nat.le_of_ble_eq_true rfl) (by first | decide | omega) (ih (d - 1) (by omega) _ _ _ _ _ _ hS (by omega)) (fun r_17 τ_17 q_17 => ?_)
      skip
      rcases q_17 with ⟨rfl, p2, l2, op2, vl2, hS2, hf2, hp2, hl2, hk2, hw2, hR2⟩ | ⟨rfl, f2, e2, hF2, hf2, hR2⟩
      · dsimp only [Option.toList, List.append, List.cons_append, List.nil_append]
        refine g_if_eq (nx := 23) 36 F dX5_readFactor_20 rfl (by decide) (fun c_20 => absurd c_20 (by decide)) (fun c_20 => ?_)
        refine g_aload_n (nx := 24) 0 F dX5_readFactor_23 rfl rfl rfl ?_
        refine g_bipush (nx := 26) (93) F dX5_readFactor_24 rfl (by decide) ?_
        show Gs X 26 _ (.int (nI 93) :: .ref 16 :: []) _
        refine g_callV (nx := 29) 1 2 [.int (nI 93)] F dX5_readFactor_26 rfl ml_RX5_34 mo_X5_take rfl rfl rfl rfl (Nat.le_of_ble_eq_true rfl) (by first | decide | omega) (c_take 93 t n p2 (o + 1) l2 c op2 vl2 _ hS2 (by decide)) (fun r_26 τ_26 q_26 => ?_)
        skip
        rcases q_26 with ⟨rfl, h3, hS3, hf3⟩ | ⟨rfl, h3, hF3, hf3⟩
        · dsimp only [Option.toList, List.append, List.cons_append, List.nil_append]
          refine g_if_eq (nx := 32) 36 F dX5_readFactor_29 rfl (by decide) (fun c_29 => absurd c_29 (by decide)) (fun c_29 => ?_)
          refine g_iconst (nx := 33) (1) F dX5_readFactor_32 rfl rfl ?_
          refine g_goto 37 F dX5_readFactor_33 (by decide) ?_
          refine g_istore_n (nx := 38) 1 F dX5_readFactor_37 rfl rfl (by decide) ?_
          try dsimp only [List.set]
          refine g_aload_n (nx := 39) 0 F dX5_readFactor_38 rfl rfl rfl ?_
          refine g_dup (nx := 40) F dX5_readFactor_39 rfl rfl ?_
          refine g_getV (nx := 43) (nI (o + 1)) F dX5_readFactor_40 rfl fl_RX5_59 rfl (by decide) (by decide) rfl rfl (hS3.2.1.2.2.2.2.1) ?_
          refine g_iconst (nx := 44) (1) F dX5_readFactor_43 rfl rfl ?_
          refine g_isub (nx := 45) F dX5_readFactor_44 rfl ?_
          rw [nI_pred]
          refine g_putI (nx := 48) F dX5_readFactor_45 rfl fl_RX5_59 fi_4_5 rfl (by decide) (by decide) rfl rfl ?_
          have h4 := pcS_dn hS3
          refine g_iload_n (nx := 49) 1 F dX5_readFactor_48 rfl rfl rfl ?_
          refine g_zret F E dX5_readFactor_49 (by first | rfl | assumption) ?_
          exact Or.inl ⟨rfl, p2 + 1, l2, op2, vl2, h4.1, ((hf.tr hf2).tr hf3).tr h4.2, by omega, by omega, hk2, wfE_mono hw2 (by omega), fun K z => ((s0_open hA ho6).tr (hR2 _ _)).tr (s5_go h3)⟩
        · dsimp only [Option.toList, List.append, List.cons_append, List.nil_append]
          refine g_if_eq (nx := 32) 36 F dX5_readFactor_29 rfl (by decide) (fun c_29 => ?_) (fun c_29 => absurd c_29 (by exact fun zq => zq rfl))
          refine g_iconst (nx := 37) (0) F dX5_readFactor_36 rfl rfl ?_
          refine g_istore_n (nx := 38) 1 F dX5_readFactor_37 rfl rfl (by decide) ?_
          try dsimp only [List.set]
          refine g_aload_n (nx := 39) 0 F dX5_readFactor_38 rfl rfl rfl ?_
          refine g_dup (nx := 40) F dX5_readFactor_39 rfl rfl ?_
          refine g_getI (nx := 43) F dX5_readFactor_40 rfl fl_RX5_59 rfl (by decide) (by decide) rfl rfl ?_
          refine g_iconst (nx := 44) (1) F dX5_readFactor_43 rfl rfl ?_
          refine g_isub (nx := 45) F dX5_readFactor_44 rfl ?_
          refine g_putI (nx := 48) F dX5_readFactor_45 rfl fl_RX5_59 fi_4_5 rfl (by decide) (by decide) rfl rfl ?_
          have hG := pcF_dn hF3
          refine g_iload_n (nx := 49) 1 F dX5_readFactor_48 rfl rfl rfl ?_
          refine g_zret F E dX5_readFactor_49 (by first | rfl | assumption) ?_
          exact Or.inr ⟨rfl, 1, (p2, o + 1, l2, op2, vl2), hG.1, ((hf.tr hf2).tr hf3).tr hG.2, fun K z => ((s0_open hA ho6).tr (hR2 _ _)).tr (s5_bad h3)⟩
      · dsimp only [Option.toList, List.append, List.cons_append, List.nil_append]
        refine g_if_eq (nx := 23) 36 F dX5_readFactor_20 rfl (by decide) (fun c_20 => ?_) (fun c_20 => absurd c_20 (by exact fun zq => zq rfl))
        refine g_iconst (nx := 37) (0) F dX5_readFactor_36 rfl rfl ?_
        refine g_istore_n (nx := 38) 1 F dX5_readFactor_37 rfl rfl (by decide) ?_
        try dsimp only [List.set]
        refine g_aload_n (nx := 39) 0 F dX5_readFactor_38 rfl rfl rfl ?_
        refine g_dup (nx := 40) F dX5_readFactor_39 rfl rfl ?_
        refine g_getI (nx := 43) F dX5_readFactor_40 rfl fl_RX5_59 rfl (by decide) (by decide) rfl rfl ?_
        refine g_iconst (nx := 44) (1) F dX5_readFactor_43 rfl rfl ?_
        refine g_isub (nx := 45) F dX5_readFactor_44 rfl ?_
        refine g_putI (nx := 48) F dX5_readFactor_45 rfl fl_RX5_59 fi_4_5 rfl (by decide) (by decide) rfl rfl ?_
        have hG := pcF_dn hF2
        refine g_iload_n (nx := 49) 1 F dX5_readFactor_48 rfl rfl rfl ?_
        refine g_zret F E dX5_readFactor_49 (by first | rfl | assumption) ?_
        exact Or.inr ⟨rfl, f2, e2, hG.1, (hf.tr hf2).tr hG.2, fun K z => (s0_open hA ho6).tr (hR2 _ _)⟩
    · dsimp only [Option.toList, List.append, List.cons_append, List.nil_append]
      refine g_if_eq (nx := 16) 36 F dX5_readFactor_13 rfl (by decide) (fun c_13 => ?_) (fun c_13 => absurd c_13 (by exact fun zq => zq rfl))
      refine g_iconst (nx := 37) (0) F dX5_readFactor_36 rfl rfl ?_
      refine g_istore_n (nx := 38) 1 F dX5_readFactor_37 rfl rfl (by decide) ?_
      try dsimp only [List.set]
      refine g_aload_n (nx := 39) 0 F dX5_readFactor_38 rfl rfl rfl ?_
      refine g_dup (nx := 40) F dX5_readFactor_39 rfl rfl ?_
      refine g_getI (nx := 43) F dX5_readFactor_40 rfl fl_RX5_59 rfl (by decide) (by decide) rfl rfl ?_
      refine g_iconst (nx := 44) (1) F dX5_readFactor_43 rfl rfl ?_
      refine g_isub (nx := 45) F dX5_readFactor_44 rfl ?_
      refine g_putI (nx := 48) F dX5_readFactor_45 rfl fl_RX5_59 fi_4_5 rfl (by decide) (by decide) rfl rfl ?_
      have hG := pcF_dn hF
      refine g_iload_n (nx := 49) 1 F dX5_readFactor_48 rfl rfl rfl ?_
      refine g_zret F E dX5_readFactor_49 (by first | rfl | assumption) ?_
      exact Or.inr ⟨rfl, 5, (p, o, l, op, vl), hG.1, hf.tr hG.2, fun K z => s0_deep hA ho6⟩
  · by_cases hB : dg (c p) = true
    · refine g_aload_n (nx := 1) 0 F dX5_readFactor_0 rfl rfl rfl ?_
      refine g_getV (nx := 4) (sgI (c p)) F dX5_readFactor_1 rfl fl_RX5_30 rfl (by decide) (by decide) rfl rfl (H.2.1.2.2.2.1) ?_
      refine g_bipush (nx := 6) (91) F dX5_readFactor_4 rfl (by decide) ?_
      refine g_icmp_ne (nx := 9) 50 F dX5_readFactor_6 rfl (by decide) (fun c_6 => ?_) (fun c_6 => absurd c_6 (by exact fun zq => hA ((sgI_eq hor (by decide)).mp zq)))
      refine g_aload_n (nx := 51) 0 F dX5_readFactor_50 rfl rfl rfl ?_
      refine g_callV (nx := 54) 0 0 [] F dX5_readFactor_51 rfl ml_RX5_131 mo_X5_seesDigit rfl rfl rfl rfl (Nat.le_of_ble_eq_true rfl) (by first | decide | omega) (c_seesDigit t n _ _ _ c _ _ _ H) (fun r_51 τ_51 q_51 => ?_)
      obtain ⟨rfl, et_51⟩ := q_51
      have et_51 := et_51.symm
      subst et_51
      dsimp only [Option.toList, List.append, List.cons_append, List.nil_append]
      refine g_if_eq (nx := 57) 62 F dX5_readFactor_54 rfl (by decide) (fun c_54 => absurd c_54 (by exact bI_n0.mpr hB)) (fun c_54 => ?_)
      refine g_aload_n (nx := 58) 0 F dX5_readFactor_57 rfl rfl rfl ?_
      refine g_callV (nx := 61) 0 2 [] F dX5_readFactor_58 rfl ml_RX5_134 mo_X5_readNumber rfl rfl rfl rfl (Nat.le_of_ble_eq_true rfl) (by first | decide | omega) (c_readNumber t n p o l c op vl hd _ H hB) (fun r_58 τ_58 q_58 => ?_)
      skip
      rcases q_58 with ⟨rfl, p2, l2, op2, vl2, hS2, hf2, hp2, hl2, hk2, hw2, hR2⟩ | ⟨rfl, f2, e2, hF2, hf2, hR2⟩
      · dsimp only [Option.toList, List.append, List.cons_append, List.nil_append]
        refine g_zret F E dX5_readFactor_61 (by rfl) ?_
        exact Or.inl ⟨rfl, p2, l2, op2, vl2, hS2, hf2, hp2, hl2, hk2, wfE_mono hw2 (by omega), hR2⟩
      · dsimp only [Option.toList, List.append, List.cons_append, List.nil_append]
        refine g_zret F E dX5_readFactor_61 (by rfl) ?_
        exact Or.inr ⟨rfl, f2, e2, hF2, hf2, hR2⟩
    · by_cases hC : ltF (c p) = 99
      · refine g_aload_n (nx := 1) 0 F dX5_readFactor_0 rfl rfl rfl ?_
        refine g_getV (nx := 4) (sgI (c p)) F dX5_readFactor_1 rfl fl_RX5_30 rfl (by decide) (by decide) rfl rfl (H.2.1.2.2.2.1) ?_
        refine g_bipush (nx := 6) (91) F dX5_readFactor_4 rfl (by decide) ?_
        refine g_icmp_ne (nx := 9) 50 F dX5_readFactor_6 rfl (by decide) (fun c_6 => ?_) (fun c_6 => absurd c_6 (by exact fun zq => hA ((sgI_eq hor (by decide)).mp zq)))
        refine g_aload_n (nx := 51) 0 F dX5_readFactor_50 rfl rfl rfl ?_
        refine g_callV (nx := 54) 0 0 [] F dX5_readFactor_51 rfl ml_RX5_131 mo_X5_seesDigit rfl rfl rfl rfl (Nat.le_of_ble_eq_true rfl) (by first | decide | omega) (c_seesDigit t n _ _ _ c _ _ _ H) (fun r_51 τ_51 q_51 => ?_)
        obtain ⟨rfl, et_51⟩ := q_51
        have et_51 := et_51.symm
        subst et_51
        dsimp only [Option.toList, List.append, List.cons_append, List.nil_append]
        refine g_if_eq (nx := 57) 62 F dX5_readFactor_54 rfl (by decide) (fun c_54 => ?_) (fun c_54 => absurd c_54 (by exact fun zq => zq (bI_f hB)))
        refine g_aload_n (nx := 63) 0 F dX5_readFactor_62 rfl rfl rfl ?_
        refine g_ldcS (nx := 65) 2 F dX5_readFactor_63 rfl (by decide) rfl ?_
        refine g_callV (nx := 68) 1 4 [.ref 1002] F dX5_readFactor_65 rfl ml_RX5_82 mo_X5_sees rfl rfl rfl rfl (Nat.le_of_ble_eq_true rfl) (by first | decide | omega) (c_sees 2 t n p o l c op vl _ H (by decide)) (fun r_65 τ_65 q_65 => ?_)
        obtain ⟨rfl, et_65⟩ := q_65
        have et_65 := et_65.symm
        subst et_65
        dsimp only [Option.toList, List.append, List.cons_append, List.nil_append]
        refine g_if_ne (nx := 71) 77 F dX5_readFactor_68 rfl (by decide) (fun c_68 => absurd c_68 (by exact fun zq => zq (bI_f (fun z => absurd hC ((see_2 _ z.1).1.mp z.2))))) (fun c_68 => ?_)
        refine g_aload_n (nx := 72) 0 F dX5_readFactor_71 rfl rfl rfl ?_
        refine g_iconst (nx := 73) (1) F dX5_readFactor_72 rfl rfl ?_
        show Gs X 73 _ (.int (nI 1) :: .ref 16 :: []) _
        refine g_callV (nx := 76) 1 0 [.int (nI 1)] F dX5_readFactor_73 rfl ml_RX5_52 mo_X5_fail rfl rfl rfl rfl (Nat.le_of_ble_eq_true rfl) (by first | decide | omega) (c_fail t n _ _ _ 1 c _ _ _ H (by decide)) (fun r_73 τ_73 q_73 => ?_)
        obtain ⟨rfl, hF_73, hf_73⟩ := q_73
        dsimp only [Option.toList, List.append, List.cons_append, List.nil_append]
        refine g_zret F E dX5_readFactor_76 (by first | rfl | assumption) ?_
        exact Or.inr ⟨rfl, 1, (p, o, l, op, vl), hF_73, hf_73, fun K z => s0_bad hA hB hC⟩
      · have hlt := lt_lt hC
        have hl12 := ((see_2 _ hlt).2 hC).2
        have hlt2 := inC_lt (p := p) H.1.2.1 (by omega)
        have hn160 := H.1.2.2.1
        have hlp := H.2.2.2.2.1
        have hl160 : l < 160 := by omega
        refine g_aload_n (nx := 1) 0 F dX5_readFactor_0 rfl rfl rfl ?_
        refine g_getV (nx := 4) (sgI (c p)) F dX5_readFactor_1 rfl fl_RX5_30 rfl (by decide) (by decide) rfl rfl (H.2.1.2.2.2.1) ?_
        refine g_bipush (nx := 6) (91) F dX5_readFactor_4 rfl (by decide) ?_
        refine g_icmp_ne (nx := 9) 50 F dX5_readFactor_6 rfl (by decide) (fun c_6 => ?_) (fun c_6 => absurd c_6 (by exact fun zq => hA ((sgI_eq hor (by decide)).mp zq)))
        refine g_aload_n (nx := 51) 0 F dX5_readFactor_50 rfl rfl rfl ?_
        refine g_callV (nx := 54) 0 0 [] F dX5_readFactor_51 rfl ml_RX5_131 mo_X5_seesDigit rfl rfl rfl rfl (Nat.le_of_ble_eq_true rfl) (by first | decide | omega) (c_seesDigit t n _ _ _ c _ _ _ H) (fun r_51 τ_51 q_51 => ?_)
        obtain ⟨rfl, et_51⟩ := q_51
        have et_51 := et_51.symm
        subst et_51
        dsimp only [Option.toList, List.append, List.cons_append, List.nil_append]
        refine g_if_eq (nx := 57) 62 F dX5_readFactor_54 rfl (by decide) (fun c_54 => ?_) (fun c_54 => absurd c_54 (by exact fun zq => zq (bI_f hB)))
        refine g_aload_n (nx := 63) 0 F dX5_readFactor_62 rfl rfl rfl ?_
        refine g_ldcS (nx := 65) 2 F dX5_readFactor_63 rfl (by decide) rfl ?_
        refine g_callV (nx := 68) 1 4 [.ref 1002] F dX5_readFactor_65 rfl ml_RX5_82 mo_X5_sees rfl rfl rfl rfl (Nat.le_of_ble_eq_true rfl) (by first | decide | omega) (c_sees 2 t n p o l c op vl _ H (by decide)) (fun r_65 τ_65 q_65 => ?_)
        obtain ⟨rfl, et_65⟩ := q_65
        have et_65 := et_65.symm
        subst et_65
        dsimp only [Option.toList, List.append, List.cons_append, List.nil_append]
        refine g_if_ne (nx := 71) 77 F dX5_readFactor_68 rfl (by decide) (fun c_68 => ?_) (fun c_68 => absurd c_68 (by exact bI_n0.mpr ⟨hlt, (see_2 _ hlt).1.mpr hC⟩))
        refine g_aload_n (nx := 78) 0 F dX5_readFactor_77 rfl rfl rfl ?_
        refine g_getD (nx := 81) F dX5_readFactor_78 rfl fl_RX5_12 rfl (by decide) (by decide) rfl rfl ?_
        rw [H.2.1.1]
        refine g_bipush (nx := 83) (97) F dX5_readFactor_81 rfl (by decide) ?_
        refine g_ldcS (nx := 85) 2 F dX5_readFactor_83 rfl (by decide) rfl ?_
        refine g_aload_n (nx := 86) 0 F dX5_readFactor_85 rfl rfl rfl ?_
        refine g_getV (nx := 89) (sgI (c p)) F dX5_readFactor_86 rfl fl_RX5_30 rfl (by decide) (by decide) rfl rfl (H.2.1.2.2.2.1) ?_
        refine g_i2c (nx := 90) F dX5_readFactor_89 rfl ?_
        refine g_top (nI (c p)) (by rw [show sgI (c p) = nI (c p) from if_neg (by omega)]; exact i2c_ok _ hlt) ?_
        refine g_callSt (nx := 93) 1 3 [.int (nI (c p))] F dX5_readFactor_90 rfl ml_RX5_77 mo_J0_indexOf_0f7a4 (k := 2) (by decide) rfl rfl rfl (Nat.le_of_ble_eq_true rfl) (by omega) (j_indexOf 2 (c p) _ (by decide) hlt) (fun r_90 τ_90 q_90 => ?_)
        obtain ⟨rfl, et_90⟩ := q_90
        have et_90 := et_90.symm
        subst et_90
        dsimp only [Option.toList, List.append, List.cons_append, List.nil_append]
        refine g_top (nI (ltF (c p))) ((see_2 _ hlt).2 hC).1 ?_
        refine g_callV (nx := 96) 2 0 [.int (nI (ck 1)), .int (nI (ltF (c p)))] F dX5_readFactor_93 rfl ml_RX5_109 mo_X10_put (tx_k H.1.1) rfl rfl rfl (Nat.le_of_ble_eq_true rfl) (by first | decide | omega) (c_put0 t l 1 (ltF (c p)) _ H.1.1 H.2.2.1.1 hl160 (by omega) (by decide)) (fun r_93 τ_93 q_93 => ?_)
        obtain ⟨rfl, et_93⟩ := q_93
        dsimp only [Option.toList, List.append, List.cons_append, List.nil_append]
        have htr := tx_rng H.1.1
        have hb1 : τ_93 16 3 + 1 = nI (p + 1) := by rw [et_93, zu_ne _ (by omega), zu_ne _ (by omega), H.2.1.2.2.1, nI_1]
        have hb2 : τ_93 16 2 = nI n := by rw [et_93, zu_ne _ (by omega), zu_ne _ (by omega)]; exact H.2.1.2.1
        have hb3 : ∀ q, q < n → τ_93 2 q &&& 255 = nI (c q) := fun q hq => by rw [et_93, zu_ne _ (by omega), zu_ne _ (by omega)]; exact H.1.2.2.2 q hq
        refine g_pop (nx := 97) F dX5_readFactor_96 rfl rfl ?_
        refine g_aload_n (nx := 98) 0 F dX5_readFactor_97 rfl rfl rfl ?_
        refine g_callV (nx := 101) 0 1 [] F dX5_readFactor_98 rfl ml_RX5_68 mo_X5_advance rfl rfl rfl rfl (Nat.le_of_ble_eq_true rfl) (by first | decide | omega) (c_advance0 (p + 1) n c _ hb1 hb2 (by omega) H.1.2.2.1 H.1.2.1 hb3) (fun r_98 τ_98 q_98 => ?_)
        obtain ⟨rfl, et_98⟩ := q_98
        dsimp only [Option.toList, List.append, List.cons_append, List.nil_append]
        refine g_iconst (nx := 102) (1) F dX5_readFactor_101 rfl rfl ?_
        refine g_zret F E dX5_readFactor_102 (by first | rfl | assumption) ?_
        have hP := pcS_letter H hlt2 (v := ltF (c p)) (o2 := 1) (by omega) (by decide)
        rw [← et_93, ← et_98] at hP
        exact Or.inl ⟨rfl, p + 1, l + 1, updN op l 1, updN vl l (ltF (c p)), hP.1, hP.2, by omega, by omega, fun k hk => ⟨updN_ne _ _ (by omega), updN_ne _ _ (by omega)⟩, wfE_mono (wfE_num (Or.inr ⟨updN_at _ _ _, by rw [updN_at]; omega⟩)) (by omega), fun K z => s0_let hA hB hC⟩
set_option maxHeartbeats 4000000 in
set_option maxRecDepth 100000 in
theorem c_readFactors {t n : Nat} {c : Nat → Nat} {hd : Nat → Bool} {d : Nat} (hF : PF t n c hd d) : PFs t n c hd d := by
  intro σ p o l op vl H hod
  refine Con.of (lv := [.ref 16, .long 0, .long 0, .long 0]) mk_X5_readFactors rfl (Nat.le_of_ble_eq_true rfl) rfl (fun X F E => ?_)
  have L : ∀ (q k p1 l1 : Nat) (op1 vl1 : Nat → Nat) (τ : zSt) (z3 : Value), n ≤ p1 + q → pcS τ t c n (p1, o, l1, op1, vl1) → frC t σ τ → p < p1 → l1 + p ≤ l + p1 → k < p1 → (∀ k, k < l → op1 k = op k ∧ vl1 k = vl k) → wfE op1 vl1 l l1 (2 * d + 2) → (∀ K z, Rn c hd ([(0, 0), (1, 0)] ++ K, (p, o, l, op, vl), z) ((1, 0) :: K, (p1, o, l1, op1, vl1), z)) → Gs X 7 [.ref 16, .int 1, .int (nI k), z3] [] τ := by
    intro q
    induction q with
    | zero =>
      intro k p1 l1 op1 vl1 τ z3 hq H1 hf1 hp1 hl1 hk hk1 hw1 hR1
      have hn160 := H1.1.2.2.1
      have hA : ¬ (4 ≤ sgF (c p1)) := by rw [H1.1.2.1.2 p1 hq]; decide
      refine g_iload_n (nx := 8) 1 F dX5_readFactors_7 rfl rfl rfl ?_
      refine g_if_eq (nx := 11) 58 F dX5_readFactors_8 rfl (by decide) (fun c_8 => absurd c_8 (by decide)) (fun c_8 => ?_)
      refine g_aload_n (nx := 12) 0 F dX5_readFactors_11 rfl rfl rfl ?_
      refine g_ldcS (nx := 14) 3 F dX5_readFactors_12 rfl (by decide) rfl ?_
      refine g_callV (nx := 17) 1 4 [.ref 1003] F dX5_readFactors_14 rfl ml_RX5_82 mo_X5_sees rfl rfl rfl rfl (Nat.le_of_ble_eq_true rfl) (by first | decide | omega) (c_sees 3 t n p1 o l1 c op1 vl1 _ H1 (by decide)) (fun r_14 τ_14 q_14 => ?_)
      obtain ⟨rfl, et_14⟩ := q_14
      have et_14 := et_14.symm
      subst et_14
      dsimp only [Option.toList, List.append, List.cons_append, List.nil_append]
      refine g_if_eq (nx := 20) 58 F dX5_readFactors_17 rfl (by decide) (fun c_17 => ?_) (fun c_17 => absurd c_17 (by exact fun zq => zq (bI_f (fun z => hA ((see_3 _ z.1).1.mp z.2)))))
      refine g_iload_n (nx := 59) 1 F dX5_readFactors_58 rfl rfl rfl ?_
      refine g_zret F E dX5_readFactors_59 (by first | rfl | assumption) ?_
      exact Or.inl ⟨rfl, p1, l1, op1, vl1, H1, hf1, hp1, hl1, hk1, hw1, fun K z => (hR1 K z).tr (s1_end hA)⟩
    | succ q ih =>
      intro k p1 l1 op1 vl1 τ z3 hq H1 hf1 hp1 hl1 hk hk1 hw1 hR1
      have hn160 := H1.1.2.2.1
      have hlp := H.2.2.2.2.1
      by_cases hA : 4 ≤ sgF (c p1)
      · have hlt : c p1 < 256 := sg_lt (by omega)
        have hp1n := inC_lt (p := p1) H1.1.2.1 (by omega)
        have hck := (see_3 _ hlt).2 hA
        have hsg : sgI (c p1) = nI (ck (sgF (c p1))) := by rw [show sgI (c p1) = nI (c p1) from if_neg (by omega)]; exact congrArg nI hck.1.symm
        refine g_iload_n (nx := 8) 1 F dX5_readFactors_7 rfl rfl rfl ?_
        refine g_if_eq (nx := 11) 58 F dX5_readFactors_8 rfl (by decide) (fun c_8 => absurd c_8 (by decide)) (fun c_8 => ?_)
        refine g_aload_n (nx := 12) 0 F dX5_readFactors_11 rfl rfl rfl ?_
        refine g_ldcS (nx := 14) 3 F dX5_readFactors_12 rfl (by decide) rfl ?_
        refine g_callV (nx := 17) 1 4 [.ref 1003] F dX5_readFactors_14 rfl ml_RX5_82 mo_X5_sees rfl rfl rfl rfl (Nat.le_of_ble_eq_true rfl) (by first | decide | omega) (c_sees 3 t n p1 o l1 c op1 vl1 _ H1 (by decide)) (fun r_14 τ_14 q_14 => ?_)
        obtain ⟨rfl, et_14⟩ := q_14
        have et_14 := et_14.symm
        subst et_14
        dsimp only [Option.toList, List.append, List.cons_append, List.nil_append]
        refine g_if_eq (nx := 20) 58 F dX5_readFactors_17 rfl (by decide) (fun c_17 => absurd c_17 (by exact bI_n0.mpr ⟨hlt, (see_3 _ hlt).1.mpr hA⟩)) (fun c_17 => ?_)
        refine g_iload_n (nx := 21) 2 F dX5_readFactors_20 rfl rfl rfl ?_
        refine g_aload_n (nx := 22) 0 F dX5_readFactors_21 rfl rfl rfl ?_
        refine g_getV (nx := 25) (nI n) F dX5_readFactors_22 rfl fl_RX5_56 rfl (by decide) (by decide) rfl rfl (H1.2.1.2.1) ?_
        refine g_icmp_ge (nx := 28) 58 F dX5_readFactors_25 rfl (by decide) (fun c_25 => absurd c_25 (by exact nI_ge (by omega) (by omega))) (fun c_25 => ?_)
        refine g_aload_n (nx := 29) 0 F dX5_readFactors_28 rfl rfl rfl ?_
        refine g_getV (nx := 32) (sgI (c p1)) F dX5_readFactors_29 rfl fl_RX5_30 rfl (by decide) (by decide) rfl rfl (H1.2.1.2.2.2.1) ?_
        refine g_istore_n (nx := 33) 3 F dX5_readFactors_32 rfl rfl (by decide) ?_
        try dsimp only [List.set]
        refine g_aload_n (nx := 34) 0 F dX5_readFactors_33 rfl rfl rfl ?_
        refine g_callV (nx := 37) 0 1 [] F dX5_readFactors_34 rfl ml_RX5_68 mo_X5_advance rfl rfl rfl rfl (Nat.le_of_ble_eq_true rfl) (by first | decide | omega) (c_advance t n _ _ _ c _ _ _ H1 (hp1n)) (fun r_34 τ_34 q_34 => ?_)
        obtain ⟨rfl, hS_34, hf_34⟩ := q_34
        dsimp only [Option.toList, List.append, List.cons_append, List.nil_append]
        refine g_aload_n (nx := 38) 0 F dX5_readFactors_37 rfl rfl rfl ?_
        refine g_callV (nx := 41) 0 (3 * d + 6) [] F dX5_readFactors_38 rfl ml_RX5_126 mo_X5_readFactor rfl rfl rfl rfl (Nat.le_of_ble_eq_true rfl) (by first | decide | omega) (hF _ _ _ _ _ _ hS_34 hod) (fun r_38 τ_38 q_38 => ?_)
        skip
        rcases q_38 with ⟨rfl, p2, l2, op2, vl2, hS2, hf2, hp2, hl2, hk2, hw2, hR2⟩ | ⟨rfl, f2, e2, hF2, hf2, hR2⟩
        · dsimp only [Option.toList, List.append, List.cons_append, List.nil_append]
          have hcl2 := hS2.2.1.1
          have hw1l : l < l1 := hw1.1
          have hw2l : l1 < l2 := hw2.1
          refine g_istore_n (nx := 42) 1 F dX5_readFactors_41 rfl rfl (by decide) ?_
          try dsimp only [List.set]
          refine g_aload_n (nx := 43) 0 F dX5_readFactors_42 rfl rfl rfl ?_
          refine g_getD (nx := 46) F dX5_readFactors_43 rfl fl_RX5_12 rfl (by decide) (by decide) rfl rfl ?_
          rw [hcl2]
          refine g_iload_n (nx := 47) 3 F dX5_readFactors_46 rfl rfl rfl ?_
          refine g_iconst (nx := 48) (0) F dX5_readFactors_47 rfl rfl ?_
          rw [hsg]
          refine g_callV (nx := 51) 2 0 [.int (nI (ck (sgF (c p1)))), .int (nI 0)] F dX5_readFactors_48 rfl ml_RX5_109 mo_X10_put (tx_k hS2.1.1) rfl rfl rfl (Nat.le_of_ble_eq_true rfl) (by first | decide | omega) (c_put t n _ _ _ (sgF (c p1)) 0 c _ _ _ hS2 (by omega) (by decide) (by omega)) (fun r_48 τ_48 q_48 => ?_)
          obtain ⟨rfl, hS_48, hf_48⟩ := q_48
          dsimp only [Option.toList, List.append, List.cons_append, List.nil_append]
          refine g_pop (nx := 52) F dX5_readFactors_51 rfl rfl ?_
          refine g_iinc (nx := 55) (1) F dX5_readFactors_52 rfl rfl (by decide) (by decide) ?_
          try dsimp only [List.set]
          refine g_goto 7 F dX5_readFactors_55 (by decide) ?_
          rw [nI_1]
          refine ih (k + 1) p2 (l2 + 1) (updN op2 l2 (sgF (c p1))) (updN vl2 l2 0) _ _ (by omega) hS_48 (((hf1.tr hf_34).tr hf2).tr hf_48) (by omega) (by omega) (by omega) (fun k hk => ?_) ?_ (fun K z => (hR1 K z).tr ((s1_go hA).tr ((hR2 _ _).tr s2)))
          · rw [updN_ne _ _ (by omega), updN_ne _ _ (by omega), (hk2 k (by omega)).1, (hk2 k (by omega)).2]
            exact hk1 k hk
          · refine wfE_bin (g := 2 * d + 1) (wfE_congr hw1 (fun k hk => ?_)) (wfE_congr hw2 (fun k hk => ⟨updN_ne _ _ (by omega), updN_ne _ _ (by omega)⟩)) (by rw [updN_at]; omega) (by omega)
            rw [updN_ne _ _ (by omega), updN_ne _ _ (by omega)]
            exact hk2 k hk
        · dsimp only [Option.toList, List.append, List.cons_append, List.nil_append]
          have hcl2 := hF2.2.1
          refine g_istore_n (nx := 42) 1 F dX5_readFactors_41 rfl rfl (by decide) ?_
          try dsimp only [List.set]
          skip
          refine g_aload_n (nx := 43) 0 F dX5_readFactors_42 rfl rfl rfl ?_
          refine g_getD (nx := 46) F dX5_readFactors_43 rfl fl_RX5_12 rfl (by decide) (by decide) rfl rfl ?_
          rw [hcl2]
          refine g_iload_n (nx := 47) 3 F dX5_readFactors_46 rfl rfl rfl ?_
          refine g_iconst (nx := 48) (0) F dX5_readFactors_47 rfl rfl ?_
          rw [hsg]
          refine g_callV (nx := 51) 2 0 [.int (nI (ck (sgF (c p1)))), .int 0] F dX5_readFactors_48 rfl ml_RX5_109 mo_X10_put (tx_k hF2.1) rfl rfl rfl (Nat.le_of_ble_eq_true rfl) (by first | decide | omega) (c_putF t n _ _ (nI (ck (sgF (c p1)))) 0 _ hF2) (fun r_48 τ_48 q_48 => ?_)
          obtain ⟨⟨x_48, rfl⟩, hF_48, hf_48⟩ := q_48
          dsimp only [Option.toList, List.append, List.cons_append, List.nil_append]
          refine g_pop (nx := 52) F dX5_readFactors_51 rfl rfl ?_
          refine g_iinc (nx := 55) (1) F dX5_readFactors_52 rfl rfl (by decide) (by decide) ?_
          try dsimp only [List.set]
          refine g_goto 7 F dX5_readFactors_55 (by decide) ?_
          refine g_iload_n (nx := 8) 1 F dX5_readFactors_7 rfl rfl rfl ?_
          refine g_if_eq (nx := 11) 58 F dX5_readFactors_8 rfl (by decide) (fun c_8 => ?_) (fun c_8 => absurd c_8 (by exact fun zq => zq rfl))
          refine g_iload_n (nx := 59) 1 F dX5_readFactors_58 rfl rfl rfl ?_
          refine g_zret F E dX5_readFactors_59 (by first | rfl | assumption) ?_
          exact Or.inr ⟨rfl, f2, e2, hF_48, ((hf1.tr hf_34).tr hf2).tr hf_48, fun K z => (hR1 K z).tr ((s1_go hA).tr (hR2 _ _))⟩
      · refine g_iload_n (nx := 8) 1 F dX5_readFactors_7 rfl rfl rfl ?_
        refine g_if_eq (nx := 11) 58 F dX5_readFactors_8 rfl (by decide) (fun c_8 => absurd c_8 (by decide)) (fun c_8 => ?_)
        refine g_aload_n (nx := 12) 0 F dX5_readFactors_11 rfl rfl rfl ?_
        refine g_ldcS (nx := 14) 3 F dX5_readFactors_12 rfl (by decide) rfl ?_
        refine g_callV (nx := 17) 1 4 [.ref 1003] F dX5_readFactors_14 rfl ml_RX5_82 mo_X5_sees rfl rfl rfl rfl (Nat.le_of_ble_eq_true rfl) (by first | decide | omega) (c_sees 3 t n p1 o l1 c op1 vl1 _ H1 (by decide)) (fun r_14 τ_14 q_14 => ?_)
        obtain ⟨rfl, et_14⟩ := q_14
        have et_14 := et_14.symm
        subst et_14
        dsimp only [Option.toList, List.append, List.cons_append, List.nil_append]
        refine g_if_eq (nx := 20) 58 F dX5_readFactors_17 rfl (by decide) (fun c_17 => ?_) (fun c_17 => absurd c_17 (by exact fun zq => zq (bI_f (fun z => hA ((see_3 _ z.1).1.mp z.2)))))
        refine g_iload_n (nx := 59) 1 F dX5_readFactors_58 rfl rfl rfl ?_
        refine g_zret F E dX5_readFactors_59 (by first | rfl | assumption) ?_
        exact Or.inl ⟨rfl, p1, l1, op1, vl1, H1, hf1, hp1, hl1, hk1, hw1, fun K z => (hR1 K z).tr (s1_end hA)⟩
  refine g_aload_n (nx := 1) 0 F dX5_readFactors_0 rfl rfl rfl ?_
  refine g_callV (nx := 4) 0 (3 * d + 6) [] F dX5_readFactors_1 rfl ml_RX5_126 mo_X5_readFactor rfl rfl rfl rfl (Nat.le_of_ble_eq_true rfl) (by first | decide | omega) (hF _ _ _ _ _ _ H hod) (fun r_1 τ_1 q_1 => ?_)
  skip
  rcases q_1 with ⟨rfl, p2, l2, op2, vl2, hS2, hf2, hp2, hl2, hk2, hw2, hR2⟩ | ⟨rfl, f2, e2, hF2, hf2, hR2⟩
  · dsimp only [Option.toList, List.append, List.cons_append, List.nil_append]
    refine g_istore_n (nx := 5) 1 F dX5_readFactors_4 rfl rfl (by decide) ?_
    try dsimp only [List.set]
    refine g_iconst (nx := 6) (0) F dX5_readFactors_5 rfl rfl ?_
    refine g_istore_n (nx := 7) 2 F dX5_readFactors_6 rfl rfl (by decide) ?_
    try dsimp only [List.set]
    exact L n 0 p2 l2 op2 vl2 _ _ (by omega) hS2 hf2 hp2 hl2 (by omega) hk2 (wfE_mono hw2 (by omega)) (fun K z => hR2 _ _)
  · dsimp only [Option.toList, List.append, List.cons_append, List.nil_append]
    refine g_istore_n (nx := 5) 1 F dX5_readFactors_4 rfl rfl (by decide) ?_
    try dsimp only [List.set]
    refine g_iconst (nx := 6) (0) F dX5_readFactors_5 rfl rfl ?_
    refine g_istore_n (nx := 7) 2 F dX5_readFactors_6 rfl rfl (by decide) ?_
    try dsimp only [List.set]
    refine g_iload_n (nx := 8) 1 F dX5_readFactors_7 rfl rfl rfl ?_
    refine g_if_eq (nx := 11) 58 F dX5_readFactors_8 rfl (by decide) (fun c_8 => ?_) (fun c_8 => absurd c_8 (by exact fun zq => zq rfl))
    refine g_iload_n (nx := 59) 1 F dX5_readFactors_58 rfl rfl rfl ?_
    refine g_zret F E dX5_readFactors_59 (by first | rfl | assumption) ?_
    exact Or.inr ⟨rfl, f2, e2, hF2, hf2, fun K z => hR2 _ _⟩
set_option maxHeartbeats 4000000 in
set_option maxRecDepth 100000 in
theorem c_readTerms {t n : Nat} {c : Nat → Nat} {hd : Nat → Bool} {d : Nat} (hF : PFs t n c hd d) : PTm t n c hd d := by
  intro σ p o l op vl H hod
  refine Con.of (lv := [.ref 16, .long 0, .long 0, .long 0]) mk_X5_readTerms rfl (Nat.le_of_ble_eq_true rfl) rfl (fun X F E => ?_)
  have L : ∀ (q k p1 l1 : Nat) (op1 vl1 : Nat → Nat) (τ : zSt) (z3 : Value), n ≤ p1 + q → pcS τ t c n (p1, o, l1, op1, vl1) → frC t σ τ → p < p1 → l1 + p ≤ l + p1 → k < p1 → (∀ k, k < l → op1 k = op k ∧ vl1 k = vl k) → wfE op1 vl1 l l1 (2 * d + 3) → (∀ K z, Rn c hd ([(0, 0), (1, 0), (3, 0)] ++ K, (p, o, l, op, vl), z) ((3, 0) :: K, (p1, o, l1, op1, vl1), z)) → Gs X 7 [.ref 16, .int 1, .int (nI k), z3] [] τ := by
    intro q
    induction q with
    | zero =>
      intro k p1 l1 op1 vl1 τ z3 hq H1 hf1 hp1 hl1 hk hk1 hw1 hR1
      have hn160 := H1.1.2.2.1
      have hA : ¬ (sgF (c p1) = 2 ∨ sgF (c p1) = 3) := by rw [H1.1.2.1.2 p1 hq]; decide
      refine g_iload_n (nx := 8) 1 F dX5_readTerms_7 rfl rfl rfl ?_
      refine g_if_eq (nx := 11) 58 F dX5_readTerms_8 rfl (by decide) (fun c_8 => absurd c_8 (by decide)) (fun c_8 => ?_)
      refine g_aload_n (nx := 12) 0 F dX5_readTerms_11 rfl rfl rfl ?_
      refine g_ldcS (nx := 14) 4 F dX5_readTerms_12 rfl (by decide) rfl ?_
      refine g_callV (nx := 17) 1 4 [.ref 1004] F dX5_readTerms_14 rfl ml_RX5_82 mo_X5_sees rfl rfl rfl rfl (Nat.le_of_ble_eq_true rfl) (by first | decide | omega) (c_sees 4 t n p1 o l1 c op1 vl1 _ H1 (by decide)) (fun r_14 τ_14 q_14 => ?_)
      obtain ⟨rfl, et_14⟩ := q_14
      have et_14 := et_14.symm
      subst et_14
      dsimp only [Option.toList, List.append, List.cons_append, List.nil_append]
      refine g_if_eq (nx := 20) 58 F dX5_readTerms_17 rfl (by decide) (fun c_17 => ?_) (fun c_17 => absurd c_17 (by exact fun zq => zq (bI_f (fun z => hA ((see_4 _ z.1).1.mp z.2)))))
      refine g_iload_n (nx := 59) 1 F dX5_readTerms_58 rfl rfl rfl ?_
      refine g_zret F E dX5_readTerms_59 (by first | rfl | assumption) ?_
      exact Or.inl ⟨rfl, p1, l1, op1, vl1, H1, hf1, hp1, hl1, hk1, hw1, fun K z => (hR1 K z).tr (s3_end hA)⟩
    | succ q ih =>
      intro k p1 l1 op1 vl1 τ z3 hq H1 hf1 hp1 hl1 hk hk1 hw1 hR1
      have hn160 := H1.1.2.2.1
      have hlp := H.2.2.2.2.1
      by_cases hA : sgF (c p1) = 2 ∨ sgF (c p1) = 3
      · have hlt : c p1 < 256 := sg_lt (by omega)
        have hp1n := inC_lt (p := p1) H1.1.2.1 (by omega)
        have hck := (see_4 _ hlt).2 hA
        have hsg : sgI (c p1) = nI (ck (sgF (c p1))) := by rw [show sgI (c p1) = nI (c p1) from if_neg (by omega)]; exact congrArg nI hck.symm
        refine g_iload_n (nx := 8) 1 F dX5_readTerms_7 rfl rfl rfl ?_
        refine g_if_eq (nx := 11) 58 F dX5_readTerms_8 rfl (by decide) (fun c_8 => absurd c_8 (by decide)) (fun c_8 => ?_)
        refine g_aload_n (nx := 12) 0 F dX5_readTerms_11 rfl rfl rfl ?_
        refine g_ldcS (nx := 14) 4 F dX5_readTerms_12 rfl (by decide) rfl ?_
        refine g_callV (nx := 17) 1 4 [.ref 1004] F dX5_readTerms_14 rfl ml_RX5_82 mo_X5_sees rfl rfl rfl rfl (Nat.le_of_ble_eq_true rfl) (by first | decide | omega) (c_sees 4 t n p1 o l1 c op1 vl1 _ H1 (by decide)) (fun r_14 τ_14 q_14 => ?_)
        obtain ⟨rfl, et_14⟩ := q_14
        have et_14 := et_14.symm
        subst et_14
        dsimp only [Option.toList, List.append, List.cons_append, List.nil_append]
        refine g_if_eq (nx := 20) 58 F dX5_readTerms_17 rfl (by decide) (fun c_17 => absurd c_17 (by exact bI_n0.mpr ⟨hlt, (see_4 _ hlt).1.mpr hA⟩)) (fun c_17 => ?_)
        refine g_iload_n (nx := 21) 2 F dX5_readTerms_20 rfl rfl rfl ?_
        refine g_aload_n (nx := 22) 0 F dX5_readTerms_21 rfl rfl rfl ?_
        refine g_getV (nx := 25) (nI n) F dX5_readTerms_22 rfl fl_RX5_56 rfl (by decide) (by decide) rfl rfl (H1.2.1.2.1) ?_
        refine g_icmp_ge (nx := 28) 58 F dX5_readTerms_25 rfl (by decide) (fun c_25 => absurd c_25 (by exact nI_ge (by omega) (by omega))) (fun c_25 => ?_)
        refine g_aload_n (nx := 29) 0 F dX5_readTerms_28 rfl rfl rfl ?_
        refine g_getV (nx := 32) (sgI (c p1)) F dX5_readTerms_29 rfl fl_RX5_30 rfl (by decide) (by decide) rfl rfl (H1.2.1.2.2.2.1) ?_
        refine g_istore_n (nx := 33) 3 F dX5_readTerms_32 rfl rfl (by decide) ?_
        try dsimp only [List.set]
        refine g_aload_n (nx := 34) 0 F dX5_readTerms_33 rfl rfl rfl ?_
        refine g_callV (nx := 37) 0 1 [] F dX5_readTerms_34 rfl ml_RX5_68 mo_X5_advance rfl rfl rfl rfl (Nat.le_of_ble_eq_true rfl) (by first | decide | omega) (c_advance t n _ _ _ c _ _ _ H1 (hp1n)) (fun r_34 τ_34 q_34 => ?_)
        obtain ⟨rfl, hS_34, hf_34⟩ := q_34
        dsimp only [Option.toList, List.append, List.cons_append, List.nil_append]
        refine g_aload_n (nx := 38) 0 F dX5_readTerms_37 rfl rfl rfl ?_
        refine g_callV (nx := 41) 0 (3 * d + 7) [] F dX5_readTerms_38 rfl ml_RX5_121 mo_X5_readFactors rfl rfl rfl rfl (Nat.le_of_ble_eq_true rfl) (by first | decide | omega) (hF _ _ _ _ _ _ hS_34 hod) (fun r_38 τ_38 q_38 => ?_)
        skip
        rcases q_38 with ⟨rfl, p2, l2, op2, vl2, hS2, hf2, hp2, hl2, hk2, hw2, hR2⟩ | ⟨rfl, f2, e2, hF2, hf2, hR2⟩
        · dsimp only [Option.toList, List.append, List.cons_append, List.nil_append]
          have hcl2 := hS2.2.1.1
          have hw1l : l < l1 := hw1.1
          have hw2l : l1 < l2 := hw2.1
          refine g_istore_n (nx := 42) 1 F dX5_readTerms_41 rfl rfl (by decide) ?_
          try dsimp only [List.set]
          refine g_aload_n (nx := 43) 0 F dX5_readTerms_42 rfl rfl rfl ?_
          refine g_getD (nx := 46) F dX5_readTerms_43 rfl fl_RX5_12 rfl (by decide) (by decide) rfl rfl ?_
          rw [hcl2]
          refine g_iload_n (nx := 47) 3 F dX5_readTerms_46 rfl rfl rfl ?_
          refine g_iconst (nx := 48) (0) F dX5_readTerms_47 rfl rfl ?_
          rw [hsg]
          refine g_callV (nx := 51) 2 0 [.int (nI (ck (sgF (c p1)))), .int (nI 0)] F dX5_readTerms_48 rfl ml_RX5_109 mo_X10_put (tx_k hS2.1.1) rfl rfl rfl (Nat.le_of_ble_eq_true rfl) (by first | decide | omega) (c_put t n _ _ _ (sgF (c p1)) 0 c _ _ _ hS2 (by omega) (by decide) (by omega)) (fun r_48 τ_48 q_48 => ?_)
          obtain ⟨rfl, hS_48, hf_48⟩ := q_48
          dsimp only [Option.toList, List.append, List.cons_append, List.nil_append]
          refine g_pop (nx := 52) F dX5_readTerms_51 rfl rfl ?_
          refine g_iinc (nx := 55) (1) F dX5_readTerms_52 rfl rfl (by decide) (by decide) ?_
          try dsimp only [List.set]
          refine g_goto 7 F dX5_readTerms_55 (by decide) ?_
          rw [nI_1]
          refine ih (k + 1) p2 (l2 + 1) (updN op2 l2 (sgF (c p1))) (updN vl2 l2 0) _ _ (by omega) hS_48 (((hf1.tr hf_34).tr hf2).tr hf_48) (by omega) (by omega) (by omega) (fun k hk => ?_) ?_ (fun K z => (hR1 K z).tr ((s3_go hA).tr ((hR2 _ _).tr s2)))
          · rw [updN_ne _ _ (by omega), updN_ne _ _ (by omega), (hk2 k (by omega)).1, (hk2 k (by omega)).2]
            exact hk1 k hk
          · refine wfE_bin (g := 2 * d + 2) (wfE_congr hw1 (fun k hk => ?_)) (wfE_congr hw2 (fun k hk => ⟨updN_ne _ _ (by omega), updN_ne _ _ (by omega)⟩)) (by rw [updN_at]; omega) (by omega)
            rw [updN_ne _ _ (by omega), updN_ne _ _ (by omega)]
            exact hk2 k hk
        · dsimp only [Option.toList, List.append, List.cons_append, List.nil_append]
          have hcl2 := hF2.2.1
          refine g_istore_n (nx := 42) 1 F dX5_readTerms_41 rfl rfl (by decide) ?_
          try dsimp only [List.set]
          skip
          refine g_aload_n (nx := 43) 0 F dX5_readTerms_42 rfl rfl rfl ?_
          refine g_getD (nx := 46) F dX5_readTerms_43 rfl fl_RX5_12 rfl (by decide) (by decide) rfl rfl ?_
          rw [hcl2]
          refine g_iload_n (nx := 47) 3 F dX5_readTerms_46 rfl rfl rfl ?_
          refine g_iconst (nx := 48) (0) F dX5_readTerms_47 rfl rfl ?_
          rw [hsg]
          refine g_callV (nx := 51) 2 0 [.int (nI (ck (sgF (c p1)))), .int 0] F dX5_readTerms_48 rfl ml_RX5_109 mo_X10_put (tx_k hF2.1) rfl rfl rfl (Nat.le_of_ble_eq_true rfl) (by first | decide | omega) (c_putF t n _ _ (nI (ck (sgF (c p1)))) 0 _ hF2) (fun r_48 τ_48 q_48 => ?_)
          obtain ⟨⟨x_48, rfl⟩, hF_48, hf_48⟩ := q_48
          dsimp only [Option.toList, List.append, List.cons_append, List.nil_append]
          refine g_pop (nx := 52) F dX5_readTerms_51 rfl rfl ?_
          refine g_iinc (nx := 55) (1) F dX5_readTerms_52 rfl rfl (by decide) (by decide) ?_
          try dsimp only [List.set]
          refine g_goto 7 F dX5_readTerms_55 (by decide) ?_
          refine g_iload_n (nx := 8) 1 F dX5_readTerms_7 rfl rfl rfl ?_
          refine g_if_eq (nx := 11) 58 F dX5_readTerms_8 rfl (by decide) (fun c_8 => ?_) (fun c_8 => absurd c_8 (by exact fun zq => zq rfl))
          refine g_iload_n (nx := 59) 1 F dX5_readTerms_58 rfl rfl rfl ?_
          refine g_zret F E dX5_readTerms_59 (by first | rfl | assumption) ?_
          exact Or.inr ⟨rfl, f2, e2, hF_48, ((hf1.tr hf_34).tr hf2).tr hf_48, fun K z => (hR1 K z).tr ((s3_go hA).tr (hR2 _ _))⟩
      · refine g_iload_n (nx := 8) 1 F dX5_readTerms_7 rfl rfl rfl ?_
        refine g_if_eq (nx := 11) 58 F dX5_readTerms_8 rfl (by decide) (fun c_8 => absurd c_8 (by decide)) (fun c_8 => ?_)
        refine g_aload_n (nx := 12) 0 F dX5_readTerms_11 rfl rfl rfl ?_
        refine g_ldcS (nx := 14) 4 F dX5_readTerms_12 rfl (by decide) rfl ?_
        refine g_callV (nx := 17) 1 4 [.ref 1004] F dX5_readTerms_14 rfl ml_RX5_82 mo_X5_sees rfl rfl rfl rfl (Nat.le_of_ble_eq_true rfl) (by first | decide | omega) (c_sees 4 t n p1 o l1 c op1 vl1 _ H1 (by decide)) (fun r_14 τ_14 q_14 => ?_)
        obtain ⟨rfl, et_14⟩ := q_14
        have et_14 := et_14.symm
        subst et_14
        dsimp only [Option.toList, List.append, List.cons_append, List.nil_append]
        refine g_if_eq (nx := 20) 58 F dX5_readTerms_17 rfl (by decide) (fun c_17 => ?_) (fun c_17 => absurd c_17 (by exact fun zq => zq (bI_f (fun z => hA ((see_4 _ z.1).1.mp z.2)))))
        refine g_iload_n (nx := 59) 1 F dX5_readTerms_58 rfl rfl rfl ?_
        refine g_zret F E dX5_readTerms_59 (by first | rfl | assumption) ?_
        exact Or.inl ⟨rfl, p1, l1, op1, vl1, H1, hf1, hp1, hl1, hk1, hw1, fun K z => (hR1 K z).tr (s3_end hA)⟩
  refine g_aload_n (nx := 1) 0 F dX5_readTerms_0 rfl rfl rfl ?_
  refine g_callV (nx := 4) 0 (3 * d + 7) [] F dX5_readTerms_1 rfl ml_RX5_121 mo_X5_readFactors rfl rfl rfl rfl (Nat.le_of_ble_eq_true rfl) (by first | decide | omega) (hF _ _ _ _ _ _ H hod) (fun r_1 τ_1 q_1 => ?_)
  skip
  rcases q_1 with ⟨rfl, p2, l2, op2, vl2, hS2, hf2, hp2, hl2, hk2, hw2, hR2⟩ | ⟨rfl, f2, e2, hF2, hf2, hR2⟩
  · dsimp only [Option.toList, List.append, List.cons_append, List.nil_append]
    refine g_istore_n (nx := 5) 1 F dX5_readTerms_4 rfl rfl (by decide) ?_
    try dsimp only [List.set]
    refine g_iconst (nx := 6) (0) F dX5_readTerms_5 rfl rfl ?_
    refine g_istore_n (nx := 7) 2 F dX5_readTerms_6 rfl rfl (by decide) ?_
    try dsimp only [List.set]
    exact L n 0 p2 l2 op2 vl2 _ _ (by omega) hS2 hf2 hp2 hl2 (by omega) hk2 (wfE_mono hw2 (by omega)) (fun K z => hR2 _ _)
  · dsimp only [Option.toList, List.append, List.cons_append, List.nil_append]
    refine g_istore_n (nx := 5) 1 F dX5_readTerms_4 rfl rfl (by decide) ?_
    try dsimp only [List.set]
    refine g_iconst (nx := 6) (0) F dX5_readTerms_5 rfl rfl ?_
    refine g_istore_n (nx := 7) 2 F dX5_readTerms_6 rfl rfl (by decide) ?_
    try dsimp only [List.set]
    refine g_iload_n (nx := 8) 1 F dX5_readTerms_7 rfl rfl rfl ?_
    refine g_if_eq (nx := 11) 58 F dX5_readTerms_8 rfl (by decide) (fun c_8 => ?_) (fun c_8 => absurd c_8 (by exact fun zq => zq rfl))
    refine g_iload_n (nx := 59) 1 F dX5_readTerms_58 rfl rfl rfl ?_
    refine g_zret F E dX5_readTerms_59 (by first | rfl | assumption) ?_
    exact Or.inr ⟨rfl, f2, e2, hF2, hf2, fun K z => hR2 _ _⟩
theorem c_terms (t n : Nat) (c : Nat → Nat) (hd : Nat → Bool) : ∀ d, PTm t n c hd d
  | 0 => c_readTerms (c_readFactors (c_readFactor (fun q h => absurd h (by omega))))
  | d + 1 => c_readTerms (c_readFactors (c_readFactor (fun q h => by
    have e : q = d := by omega
    subst e
    exact c_terms t n c hd q)))
