def cpM (m : Nat → Option Nat) (σ : zSt) (k : Nat) : zSt := fun a => match m a with
  | some b => fa_fill (σ b) (σ a) k
  | none => σ a
theorem cpM_0 (m : Nat → Option Nat) (σ : zSt) : cpM m σ 0 = σ := by
  funext a
  unfold cpM
  split
  · exact fa_fill_0 _ _
  · rfl
theorem cpM_eq {m : Nat → Option Nat} {σ τ : zSt} {k : Nat} (h1 : ∀ a b, m a = some b → τ a = upd (fa_fill (σ b) (σ a) k) k (σ b k)) (h2 : ∀ a, m a = none → τ a = σ a) : τ = cpM m σ (k + 1) := by
  funext a
  unfold cpM
  split
  · rename_i b hb
    rw [h1 a b hb, fa_fill_succ]
  · rename_i hb
    exact h2 a hb
def cm1 (a : Nat) : Option Nat := if 187 ≤ a ∧ a ≤ 192 then some (a - 31) else none
def cm2 (a : Nat) : Option Nat := if a = 193 then some 148 else if a = 194 then some 149 else none
def cm3 (a : Nat) : Option Nat := if 156 ≤ a ∧ a ≤ 161 then some (a + 31) else none
def cm4 (a : Nat) : Option Nat := if a = 148 then some 193 else if a = 149 then some 194 else none
theorem cm1_step (σ : zSt) (k : Nat) : zu (zu (zu (zu (zu (zu (cpM cm1 σ k) 187 k (σ 156 k)) 188 k (σ 157 k)) 189 k (σ 158 k)) 190 k (σ 159 k)) 191 k (σ 160 k)) 192 k (σ 161 k) = cpM cm1 σ (k + 1) := by
  refine cpM_eq (fun a b h => ?_) (fun a h => ?_)
  · unfold cm1 at h
    split at h
    · rename_i hr
      rcases (show a = 187 ∨ a = 188 ∨ a = 189 ∨ a = 190 ∨ a = 191 ∨ a = 192 by omega) with rfl | rfl | rfl | rfl | rfl | rfl
      · cases h; rfl
      · cases h; rfl
      · cases h; rfl
      · cases h; rfl
      · cases h; rfl
      · cases h; rfl
    · cases h
  · unfold cm1 at h
    split at h
    · cases h
    · rename_i hr
      rw [zu_ne _ (by omega), zu_ne _ (by omega), zu_ne _ (by omega), zu_ne _ (by omega), zu_ne _ (by omega), zu_ne _ (by omega)]
      show cpM cm1 σ k a = σ a
      unfold cpM cm1
      rw [if_neg hr]
theorem cm3_step (σ : zSt) (k : Nat) : zu (zu (zu (zu (zu (zu (cpM cm3 σ k) 156 k (σ 187 k)) 157 k (σ 188 k)) 158 k (σ 189 k)) 159 k (σ 190 k)) 160 k (σ 191 k)) 161 k (σ 192 k) = cpM cm3 σ (k + 1) := by
  refine cpM_eq (fun a b h => ?_) (fun a h => ?_)
  · unfold cm3 at h
    split at h
    · rename_i hr
      rcases (show a = 156 ∨ a = 157 ∨ a = 158 ∨ a = 159 ∨ a = 160 ∨ a = 161 by omega) with rfl | rfl | rfl | rfl | rfl | rfl
      · cases h; rfl
      · cases h; rfl
      · cases h; rfl
      · cases h; rfl
      · cases h; rfl
      · cases h; rfl
    · cases h
  · unfold cm3 at h
    split at h
    · cases h
    · rename_i hr
      rw [zu_ne _ (by omega), zu_ne _ (by omega), zu_ne _ (by omega), zu_ne _ (by omega), zu_ne _ (by omega), zu_ne _ (by omega)]
      show cpM cm3 σ k a = σ a
      unfold cpM cm3
      rw [if_neg hr]
theorem cm2_step (σ : zSt) (k : Nat) : zu (zu (cpM cm2 σ k) 193 k (σ 148 k)) 194 k (σ 149 k) = cpM cm2 σ (k + 1) := by
  refine cpM_eq (fun a b h => ?_) (fun a h => ?_)
  · unfold cm2 at h
    split at h
    · rename_i hr; subst hr; cases h; rfl
    · split at h
      · rename_i hr; subst hr; cases h; rfl
      · cases h
  · unfold cm2 at h
    split at h
    · cases h
    · split at h
      · cases h
      · rename_i h1 h2
        rw [zu_ne _ h2, zu_ne _ h1]
        show cpM cm2 σ k a = σ a
        unfold cpM cm2
        rw [if_neg h1, if_neg h2]
theorem cm4_step (σ : zSt) (k : Nat) : zu (zu (cpM cm4 σ k) 148 k (σ 193 k)) 149 k (σ 194 k) = cpM cm4 σ (k + 1) := by
  refine cpM_eq (fun a b h => ?_) (fun a h => ?_)
  · unfold cm4 at h
    split at h
    · rename_i hr; subst hr; cases h; rfl
    · split at h
      · rename_i hr; subst hr; cases h; rfl
      · cases h
  · unfold cm4 at h
    split at h
    · cases h
    · split at h
      · cases h
      · rename_i h1 h2
        rw [zu_ne _ h2, zu_ne _ h1]
        show cpM cm4 σ k a = σ a
        unfold cpM cm4
        rw [if_neg h1, if_neg h2]
set_option maxHeartbeats 4000000 in
set_option maxRecDepth 100000 in
theorem k_laysBy (f e : Nat) (σ : zSt) (hf : σ 145 3 = nI f) (hf40 : f ≤ 40) (hc : σ 145 1 = nI e) (he : e ≤ 10) : Con mX12_laysBy 0 [.ref 145] σ (fun r τ => r = none ∧ τ = cpM cm2 (cpM cm1 σ f) e) := by
  refine Con.of (lv := [.ref 145, .long 0]) mk_X12_laysBy rfl (Nat.le_of_ble_eq_true rfl) rfl (fun X F E => ?_)
  have L2 : ∀ (q k : Nat), k + q = e → Gs X 90 [.ref 145, .int (nI k)] [] (cpM cm2 (cpM cm1 σ f) k) := by
    generalize hρ : cpM cm1 σ f = ρ
    have hc' : ρ 145 1 = nI e := by rw [← hρ]; exact hc
    intro q
    induction q with
    | zero =>
      intro k hk
      have hk : k = e := hk
      subst hk
      refine g_iload_n (nx := 91) 1 F dX12_laysBy_90 rfl rfl rfl ?_
      refine g_aload_n (nx := 92) 0 F dX12_laysBy_91 rfl rfl rfl ?_
      refine g_getV (nx := 95) (nI k) F dX12_laysBy_92 rfl fl_RX12_165 rfl (by decide) (by decide) rfl rfl (hc') ?_
      refine g_icmp_ge (nx := 98) 128 F dX12_laysBy_95 rfl (by decide) (fun c_95 => ?_) (fun c_95 => absurd c_95 (by exact fun zq => zq (nI_le (Nat.le_refl k) (by omega))))
      refine g_vret F E dX12_laysBy_128 ?_
      exact ⟨rfl, by rw [hρ]⟩
    | succ q ih =>
      intro k hk
      refine g_iload_n (nx := 91) 1 F dX12_laysBy_90 rfl rfl rfl ?_
      refine g_aload_n (nx := 92) 0 F dX12_laysBy_91 rfl rfl rfl ?_
      refine g_getV (nx := 95) (nI e) F dX12_laysBy_92 rfl fl_RX12_165 rfl (by decide) (by decide) rfl rfl (hc') ?_
      refine g_icmp_ge (nx := 98) 128 F dX12_laysBy_95 rfl (by decide) (fun c_95 => absurd c_95 (by exact nI_ge (by omega) (by omega))) (fun c_95 => ?_)
      refine g_aload_n (nx := 99) 0 F dX12_laysBy_98 rfl rfl rfl ?_
      refine g_getR (nx := 102) F dX12_laysBy_99 rfl fl_RX12_152 rfl (by decide) (by decide) rfl ?_
      refine g_iload_n (nx := 103) 1 F dX12_laysBy_102 rfl rfl rfl ?_
      refine g_aload_n (nx := 104) 0 F dX12_laysBy_103 rfl rfl rfl ?_
      refine g_getR (nx := 107) F dX12_laysBy_104 rfl fl_RX12_16 rfl (by decide) (by decide) rfl ?_
      refine g_iload_n (nx := 108) 1 F dX12_laysBy_107 rfl rfl rfl ?_
      refine g_ialdN (nx := 109) (k) (ρ 148 k) F dX12_laysBy_108 rfl rfl (by omega) (rfl) ?_
      refine g_iastN (nx := 110) (k) F dX12_laysBy_109 rfl rfl (by omega) ?_
      refine g_aload_n (nx := 111) 0 F dX12_laysBy_110 rfl rfl rfl ?_
      refine g_getR (nx := 114) F dX12_laysBy_111 rfl fl_RX12_155 rfl (by decide) (by decide) rfl ?_
      refine g_iload_n (nx := 115) 1 F dX12_laysBy_114 rfl rfl rfl ?_
      refine g_aload_n (nx := 116) 0 F dX12_laysBy_115 rfl rfl rfl ?_
      refine g_getR (nx := 119) F dX12_laysBy_116 rfl fl_RX12_19 rfl (by decide) (by decide) rfl ?_
      refine g_iload_n (nx := 120) 1 F dX12_laysBy_119 rfl rfl rfl ?_
      refine g_ialdN (nx := 121) (k) (ρ 149 k) F dX12_laysBy_120 rfl rfl (by omega) (rfl) ?_
      refine g_iastN (nx := 122) (k) F dX12_laysBy_121 rfl rfl (by omega) ?_
      refine g_iinc (nx := 125) (1) F dX12_laysBy_122 rfl rfl (by decide) (by decide) ?_
      try dsimp only [List.set]
      refine g_goto 90 F dX12_laysBy_125 (by decide) ?_
      rw [nI_1]
      refine g_st _ (cm2_step ρ k) ?_
      exact ih (k + 1) (by omega)
  have L1 : ∀ (q k : Nat), k + q = f → Gs X 2 [.ref 145, .int (nI k)] [] (cpM cm1 σ k) := by
    intro q
    induction q with
    | zero =>
      intro k hk
      have hk : k = f := hk
      subst hk
      refine g_iload_n (nx := 3) 1 F dX12_laysBy_2 rfl rfl rfl ?_
      refine g_aload_n (nx := 4) 0 F dX12_laysBy_3 rfl rfl rfl ?_
      refine g_getV (nx := 7) (nI k) F dX12_laysBy_4 rfl fl_RX12_171 rfl (by decide) (by decide) rfl rfl (hf) ?_
      refine g_icmp_ge (nx := 10) 88 F dX12_laysBy_7 rfl (by decide) (fun c_7 => ?_) (fun c_7 => absurd c_7 (by exact fun zq => zq (nI_le (Nat.le_refl k) (by omega))))
      refine g_iconst (nx := 89) (0) F dX12_laysBy_88 rfl rfl ?_
      refine g_istore_n (nx := 90) 1 F dX12_laysBy_89 rfl rfl (by decide) ?_
      try dsimp only [List.set]
      have := L2 e 0 (by omega)
      rw [cpM_0] at this
      exact this
    | succ q ih =>
      intro k hk
      refine g_iload_n (nx := 3) 1 F dX12_laysBy_2 rfl rfl rfl ?_
      refine g_aload_n (nx := 4) 0 F dX12_laysBy_3 rfl rfl rfl ?_
      refine g_getV (nx := 7) (nI f) F dX12_laysBy_4 rfl fl_RX12_171 rfl (by decide) (by decide) rfl rfl (hf) ?_
      refine g_icmp_ge (nx := 10) 88 F dX12_laysBy_7 rfl (by decide) (fun c_7 => absurd c_7 (by exact nI_ge (by omega) (by omega))) (fun c_7 => ?_)
      refine g_aload_n (nx := 11) 0 F dX12_laysBy_10 rfl rfl rfl ?_
      refine g_getR (nx := 14) F dX12_laysBy_11 rfl fl_RX12_134 rfl (by decide) (by decide) rfl ?_
      refine g_iload_n (nx := 15) 1 F dX12_laysBy_14 rfl rfl rfl ?_
      refine g_aload_n (nx := 16) 0 F dX12_laysBy_15 rfl rfl rfl ?_
      refine g_getR (nx := 19) F dX12_laysBy_16 rfl fl_RX12_40 rfl (by decide) (by decide) rfl ?_
      refine g_iload_n (nx := 20) 1 F dX12_laysBy_19 rfl rfl rfl ?_
      refine g_ialdN (nx := 21) (k) (σ 156 k) F dX12_laysBy_20 rfl rfl (by omega) (rfl) ?_
      refine g_iastN (nx := 22) (k) F dX12_laysBy_21 rfl rfl (by omega) ?_
      refine g_aload_n (nx := 23) 0 F dX12_laysBy_22 rfl rfl rfl ?_
      refine g_getR (nx := 26) F dX12_laysBy_23 rfl fl_RX12_137 rfl (by decide) (by decide) rfl ?_
      refine g_iload_n (nx := 27) 1 F dX12_laysBy_26 rfl rfl rfl ?_
      refine g_aload_n (nx := 28) 0 F dX12_laysBy_27 rfl rfl rfl ?_
      refine g_getR (nx := 31) F dX12_laysBy_28 rfl fl_RX12_43 rfl (by decide) (by decide) rfl ?_
      refine g_iload_n (nx := 32) 1 F dX12_laysBy_31 rfl rfl rfl ?_
      refine g_ialdN (nx := 33) (k) (σ 157 k) F dX12_laysBy_32 rfl rfl (by omega) (rfl) ?_
      refine g_iastN (nx := 34) (k) F dX12_laysBy_33 rfl rfl (by omega) ?_
      refine g_aload_n (nx := 35) 0 F dX12_laysBy_34 rfl rfl rfl ?_
      refine g_getR (nx := 38) F dX12_laysBy_35 rfl fl_RX12_140 rfl (by decide) (by decide) rfl ?_
      refine g_iload_n (nx := 39) 1 F dX12_laysBy_38 rfl rfl rfl ?_
      refine g_aload_n (nx := 40) 0 F dX12_laysBy_39 rfl rfl rfl ?_
      refine g_getR (nx := 43) F dX12_laysBy_40 rfl fl_RX12_46 rfl (by decide) (by decide) rfl ?_
      refine g_iload_n (nx := 44) 1 F dX12_laysBy_43 rfl rfl rfl ?_
      refine g_ialdN (nx := 45) (k) (σ 158 k) F dX12_laysBy_44 rfl rfl (by omega) (rfl) ?_
      refine g_iastN (nx := 46) (k) F dX12_laysBy_45 rfl rfl (by omega) ?_
      refine g_aload_n (nx := 47) 0 F dX12_laysBy_46 rfl rfl rfl ?_
      refine g_getR (nx := 50) F dX12_laysBy_47 rfl fl_RX12_143 rfl (by decide) (by decide) rfl ?_
      refine g_iload_n (nx := 51) 1 F dX12_laysBy_50 rfl rfl rfl ?_
      refine g_aload_n (nx := 52) 0 F dX12_laysBy_51 rfl rfl rfl ?_
      refine g_getR (nx := 55) F dX12_laysBy_52 rfl fl_RX12_49 rfl (by decide) (by decide) rfl ?_
      refine g_iload_n (nx := 56) 1 F dX12_laysBy_55 rfl rfl rfl ?_
      refine g_ialdN (nx := 57) (k) (σ 159 k) F dX12_laysBy_56 rfl rfl (by omega) (rfl) ?_
      refine g_iastN (nx := 58) (k) F dX12_laysBy_57 rfl rfl (by omega) ?_
      refine g_aload_n (nx := 59) 0 F dX12_laysBy_58 rfl rfl rfl ?_
      refine g_getR (nx := 62) F dX12_laysBy_59 rfl fl_RX12_146 rfl (by decide) (by decide) rfl ?_
      refine g_iload_n (nx := 63) 1 F dX12_laysBy_62 rfl rfl rfl ?_
      refine g_aload_n (nx := 64) 0 F dX12_laysBy_63 rfl rfl rfl ?_
      refine g_getR (nx := 67) F dX12_laysBy_64 rfl fl_RX12_52 rfl (by decide) (by decide) rfl ?_
      refine g_iload_n (nx := 68) 1 F dX12_laysBy_67 rfl rfl rfl ?_
      refine g_ialdN (nx := 69) (k) (σ 160 k) F dX12_laysBy_68 rfl rfl (by omega) (rfl) ?_
      refine g_iastN (nx := 70) (k) F dX12_laysBy_69 rfl rfl (by omega) ?_
      refine g_aload_n (nx := 71) 0 F dX12_laysBy_70 rfl rfl rfl ?_
      refine g_getR (nx := 74) F dX12_laysBy_71 rfl fl_RX12_149 rfl (by decide) (by decide) rfl ?_
      refine g_iload_n (nx := 75) 1 F dX12_laysBy_74 rfl rfl rfl ?_
      refine g_aload_n (nx := 76) 0 F dX12_laysBy_75 rfl rfl rfl ?_
      refine g_getR (nx := 79) F dX12_laysBy_76 rfl fl_RX12_55 rfl (by decide) (by decide) rfl ?_
      refine g_iload_n (nx := 80) 1 F dX12_laysBy_79 rfl rfl rfl ?_
      refine g_ialdN (nx := 81) (k) (σ 161 k) F dX12_laysBy_80 rfl rfl (by omega) (rfl) ?_
      refine g_iastN (nx := 82) (k) F dX12_laysBy_81 rfl rfl (by omega) ?_
      refine g_iinc (nx := 85) (1) F dX12_laysBy_82 rfl rfl (by decide) (by decide) ?_
      try dsimp only [List.set]
      refine g_goto 2 F dX12_laysBy_85 (by decide) ?_
      rw [nI_1]
      refine g_st _ (cm1_step σ k) ?_
      exact ih (k + 1) (by omega)
  refine g_iconst (nx := 1) (0) F dX12_laysBy_0 rfl rfl ?_
  refine g_istore_n (nx := 2) 1 F dX12_laysBy_1 rfl rfl (by decide) ?_
  try dsimp only [List.set]
  have := L1 f 0 (by omega)
  rw [cpM_0] at this
  exact this
set_option maxHeartbeats 4000000 in
set_option maxRecDepth 100000 in
theorem k_takesUp (f e : Nat) (σ : zSt) (hf : σ 145 3 = nI f) (hf40 : f ≤ 40) (hc : σ 145 1 = nI e) (he : e ≤ 10) : Con mX12_takesUp 0 [.ref 145] σ (fun r τ => r = none ∧ τ = cpM cm4 (cpM cm3 σ f) e) := by
  refine Con.of (lv := [.ref 145, .long 0]) mk_X12_takesUp rfl (Nat.le_of_ble_eq_true rfl) rfl (fun X F E => ?_)
  have L2 : ∀ (q k : Nat), k + q = e → Gs X 90 [.ref 145, .int (nI k)] [] (cpM cm4 (cpM cm3 σ f) k) := by
    generalize hρ : cpM cm3 σ f = ρ
    have hc' : ρ 145 1 = nI e := by rw [← hρ]; exact hc
    intro q
    induction q with
    | zero =>
      intro k hk
      have hk : k = e := hk
      subst hk
      refine g_iload_n (nx := 91) 1 F dX12_takesUp_90 rfl rfl rfl ?_
      refine g_aload_n (nx := 92) 0 F dX12_takesUp_91 rfl rfl rfl ?_
      refine g_getV (nx := 95) (nI k) F dX12_takesUp_92 rfl fl_RX12_165 rfl (by decide) (by decide) rfl rfl (hc') ?_
      refine g_icmp_ge (nx := 98) 128 F dX12_takesUp_95 rfl (by decide) (fun c_95 => ?_) (fun c_95 => absurd c_95 (by exact fun zq => zq (nI_le (Nat.le_refl k) (by omega))))
      refine g_vret F E dX12_takesUp_128 ?_
      exact ⟨rfl, by rw [hρ]⟩
    | succ q ih =>
      intro k hk
      refine g_iload_n (nx := 91) 1 F dX12_takesUp_90 rfl rfl rfl ?_
      refine g_aload_n (nx := 92) 0 F dX12_takesUp_91 rfl rfl rfl ?_
      refine g_getV (nx := 95) (nI e) F dX12_takesUp_92 rfl fl_RX12_165 rfl (by decide) (by decide) rfl rfl (hc') ?_
      refine g_icmp_ge (nx := 98) 128 F dX12_takesUp_95 rfl (by decide) (fun c_95 => absurd c_95 (by exact nI_ge (by omega) (by omega))) (fun c_95 => ?_)
      refine g_aload_n (nx := 99) 0 F dX12_takesUp_98 rfl rfl rfl ?_
      refine g_getR (nx := 102) F dX12_takesUp_99 rfl fl_RX12_16 rfl (by decide) (by decide) rfl ?_
      refine g_iload_n (nx := 103) 1 F dX12_takesUp_102 rfl rfl rfl ?_
      refine g_aload_n (nx := 104) 0 F dX12_takesUp_103 rfl rfl rfl ?_
      refine g_getR (nx := 107) F dX12_takesUp_104 rfl fl_RX12_152 rfl (by decide) (by decide) rfl ?_
      refine g_iload_n (nx := 108) 1 F dX12_takesUp_107 rfl rfl rfl ?_
      refine g_ialdN (nx := 109) (k) (ρ 193 k) F dX12_takesUp_108 rfl rfl (by omega) (rfl) ?_
      refine g_iastN (nx := 110) (k) F dX12_takesUp_109 rfl rfl (by omega) ?_
      refine g_aload_n (nx := 111) 0 F dX12_takesUp_110 rfl rfl rfl ?_
      refine g_getR (nx := 114) F dX12_takesUp_111 rfl fl_RX12_19 rfl (by decide) (by decide) rfl ?_
      refine g_iload_n (nx := 115) 1 F dX12_takesUp_114 rfl rfl rfl ?_
      refine g_aload_n (nx := 116) 0 F dX12_takesUp_115 rfl rfl rfl ?_
      refine g_getR (nx := 119) F dX12_takesUp_116 rfl fl_RX12_155 rfl (by decide) (by decide) rfl ?_
      refine g_iload_n (nx := 120) 1 F dX12_takesUp_119 rfl rfl rfl ?_
      refine g_ialdN (nx := 121) (k) (ρ 194 k) F dX12_takesUp_120 rfl rfl (by omega) (rfl) ?_
      refine g_iastN (nx := 122) (k) F dX12_takesUp_121 rfl rfl (by omega) ?_
      refine g_iinc (nx := 125) (1) F dX12_takesUp_122 rfl rfl (by decide) (by decide) ?_
      try dsimp only [List.set]
      refine g_goto 90 F dX12_takesUp_125 (by decide) ?_
      rw [nI_1]
      refine g_st _ (cm4_step ρ k) ?_
      exact ih (k + 1) (by omega)
  have L1 : ∀ (q k : Nat), k + q = f → Gs X 2 [.ref 145, .int (nI k)] [] (cpM cm3 σ k) := by
    intro q
    induction q with
    | zero =>
      intro k hk
      have hk : k = f := hk
      subst hk
      refine g_iload_n (nx := 3) 1 F dX12_takesUp_2 rfl rfl rfl ?_
      refine g_aload_n (nx := 4) 0 F dX12_takesUp_3 rfl rfl rfl ?_
      refine g_getV (nx := 7) (nI k) F dX12_takesUp_4 rfl fl_RX12_171 rfl (by decide) (by decide) rfl rfl (hf) ?_
      refine g_icmp_ge (nx := 10) 88 F dX12_takesUp_7 rfl (by decide) (fun c_7 => ?_) (fun c_7 => absurd c_7 (by exact fun zq => zq (nI_le (Nat.le_refl k) (by omega))))
      refine g_iconst (nx := 89) (0) F dX12_takesUp_88 rfl rfl ?_
      refine g_istore_n (nx := 90) 1 F dX12_takesUp_89 rfl rfl (by decide) ?_
      try dsimp only [List.set]
      have := L2 e 0 (by omega)
      rw [cpM_0] at this
      exact this
    | succ q ih =>
      intro k hk
      refine g_iload_n (nx := 3) 1 F dX12_takesUp_2 rfl rfl rfl ?_
      refine g_aload_n (nx := 4) 0 F dX12_takesUp_3 rfl rfl rfl ?_
      refine g_getV (nx := 7) (nI f) F dX12_takesUp_4 rfl fl_RX12_171 rfl (by decide) (by decide) rfl rfl (hf) ?_
      refine g_icmp_ge (nx := 10) 88 F dX12_takesUp_7 rfl (by decide) (fun c_7 => absurd c_7 (by exact nI_ge (by omega) (by omega))) (fun c_7 => ?_)
      refine g_aload_n (nx := 11) 0 F dX12_takesUp_10 rfl rfl rfl ?_
      refine g_getR (nx := 14) F dX12_takesUp_11 rfl fl_RX12_40 rfl (by decide) (by decide) rfl ?_
      refine g_iload_n (nx := 15) 1 F dX12_takesUp_14 rfl rfl rfl ?_
      refine g_aload_n (nx := 16) 0 F dX12_takesUp_15 rfl rfl rfl ?_
      refine g_getR (nx := 19) F dX12_takesUp_16 rfl fl_RX12_134 rfl (by decide) (by decide) rfl ?_
      refine g_iload_n (nx := 20) 1 F dX12_takesUp_19 rfl rfl rfl ?_
      refine g_ialdN (nx := 21) (k) (σ 187 k) F dX12_takesUp_20 rfl rfl (by omega) (rfl) ?_
      refine g_iastN (nx := 22) (k) F dX12_takesUp_21 rfl rfl (by omega) ?_
      refine g_aload_n (nx := 23) 0 F dX12_takesUp_22 rfl rfl rfl ?_
      refine g_getR (nx := 26) F dX12_takesUp_23 rfl fl_RX12_43 rfl (by decide) (by decide) rfl ?_
      refine g_iload_n (nx := 27) 1 F dX12_takesUp_26 rfl rfl rfl ?_
      refine g_aload_n (nx := 28) 0 F dX12_takesUp_27 rfl rfl rfl ?_
      refine g_getR (nx := 31) F dX12_takesUp_28 rfl fl_RX12_137 rfl (by decide) (by decide) rfl ?_
      refine g_iload_n (nx := 32) 1 F dX12_takesUp_31 rfl rfl rfl ?_
      refine g_ialdN (nx := 33) (k) (σ 188 k) F dX12_takesUp_32 rfl rfl (by omega) (rfl) ?_
      refine g_iastN (nx := 34) (k) F dX12_takesUp_33 rfl rfl (by omega) ?_
      refine g_aload_n (nx := 35) 0 F dX12_takesUp_34 rfl rfl rfl ?_
      refine g_getR (nx := 38) F dX12_takesUp_35 rfl fl_RX12_46 rfl (by decide) (by decide) rfl ?_
      refine g_iload_n (nx := 39) 1 F dX12_takesUp_38 rfl rfl rfl ?_
      refine g_aload_n (nx := 40) 0 F dX12_takesUp_39 rfl rfl rfl ?_
      refine g_getR (nx := 43) F dX12_takesUp_40 rfl fl_RX12_140 rfl (by decide) (by decide) rfl ?_
      refine g_iload_n (nx := 44) 1 F dX12_takesUp_43 rfl rfl rfl ?_
      refine g_ialdN (nx := 45) (k) (σ 189 k) F dX12_takesUp_44 rfl rfl (by omega) (rfl) ?_
      refine g_iastN (nx := 46) (k) F dX12_takesUp_45 rfl rfl (by omega) ?_
      refine g_aload_n (nx := 47) 0 F dX12_takesUp_46 rfl rfl rfl ?_
      refine g_getR (nx := 50) F dX12_takesUp_47 rfl fl_RX12_49 rfl (by decide) (by decide) rfl ?_
      refine g_iload_n (nx := 51) 1 F dX12_takesUp_50 rfl rfl rfl ?_
      refine g_aload_n (nx := 52) 0 F dX12_takesUp_51 rfl rfl rfl ?_
      refine g_getR (nx := 55) F dX12_takesUp_52 rfl fl_RX12_143 rfl (by decide) (by decide) rfl ?_
      refine g_iload_n (nx := 56) 1 F dX12_takesUp_55 rfl rfl rfl ?_
      refine g_ialdN (nx := 57) (k) (σ 190 k) F dX12_takesUp_56 rfl rfl (by omega) (rfl) ?_
      refine g_iastN (nx := 58) (k) F dX12_takesUp_57 rfl rfl (by omega) ?_
      refine g_aload_n (nx := 59) 0 F dX12_takesUp_58 rfl rfl rfl ?_
      refine g_getR (nx := 62) F dX12_takesUp_59 rfl fl_RX12_52 rfl (by decide) (by decide) rfl ?_
      refine g_iload_n (nx := 63) 1 F dX12_takesUp_62 rfl rfl rfl ?_
      refine g_aload_n (nx := 64) 0 F dX12_takesUp_63 rfl rfl rfl ?_
      refine g_getR (nx := 67) F dX12_takesUp_64 rfl fl_RX12_146 rfl (by decide) (by decide) rfl ?_
      refine g_iload_n (nx := 68) 1 F dX12_takesUp_67 rfl rfl rfl ?_
      refine g_ialdN (nx := 69) (k) (σ 191 k) F dX12_takesUp_68 rfl rfl (by omega) (rfl) ?_
      refine g_iastN (nx := 70) (k) F dX12_takesUp_69 rfl rfl (by omega) ?_
      refine g_aload_n (nx := 71) 0 F dX12_takesUp_70 rfl rfl rfl ?_
      refine g_getR (nx := 74) F dX12_takesUp_71 rfl fl_RX12_55 rfl (by decide) (by decide) rfl ?_
      refine g_iload_n (nx := 75) 1 F dX12_takesUp_74 rfl rfl rfl ?_
      refine g_aload_n (nx := 76) 0 F dX12_takesUp_75 rfl rfl rfl ?_
      refine g_getR (nx := 79) F dX12_takesUp_76 rfl fl_RX12_149 rfl (by decide) (by decide) rfl ?_
      refine g_iload_n (nx := 80) 1 F dX12_takesUp_79 rfl rfl rfl ?_
      refine g_ialdN (nx := 81) (k) (σ 192 k) F dX12_takesUp_80 rfl rfl (by omega) (rfl) ?_
      refine g_iastN (nx := 82) (k) F dX12_takesUp_81 rfl rfl (by omega) ?_
      refine g_iinc (nx := 85) (1) F dX12_takesUp_82 rfl rfl (by decide) (by decide) ?_
      try dsimp only [List.set]
      refine g_goto 2 F dX12_takesUp_85 (by decide) ?_
      rw [nI_1]
      refine g_st _ (cm3_step σ k) ?_
      exact ih (k + 1) (by omega)
  refine g_iconst (nx := 1) (0) F dX12_takesUp_0 rfl rfl ?_
  refine g_istore_n (nx := 2) 1 F dX12_takesUp_1 rfl rfl (by decide) ?_
  try dsimp only [List.set]
  have := L1 f 0 (by omega)
  rw [cpM_0] at this
  exact this
