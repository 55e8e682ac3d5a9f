set_option maxHeartbeats 4000000 in
set_option maxRecDepth 100000 in
theorem c_goBy0 (y : Int32) (σ : zSt) (hn : σ 17 8 = 0) (hy : σ 17 12 = y) : Con mX6_goBy 1 [.ref 17] σ (fun r τ => r = some (.int 0) ∧ τ = zu (zu (zu σ 17 15 0) 17 14 0) 17 12 (y + 1)) := by
  refine Con.of (lv := [.ref 17, .long 0, .long 0]) mk_X6_goBy rfl (Nat.le_of_ble_eq_true rfl) rfl (fun X F E => ?_)
  refine g_aload_n (nx := 1) 0 F dX6_goBy_0 rfl rfl rfl ?_
  refine g_iconst (nx := 2) (0) F dX6_goBy_1 rfl rfl ?_
  refine g_putI (nx := 5) F dX6_goBy_2 rfl fl_RX6_85 fi_5_15 rfl (by decide) (by decide) rfl rfl ?_
  refine g_iconst (nx := 6) (0) F dX6_goBy_5 rfl rfl ?_
  refine g_istore_n (nx := 7) 1 F dX6_goBy_6 rfl rfl (by decide) ?_
  try dsimp only [List.set]
  refine g_iconst (nx := 8) (0) F dX6_goBy_7 rfl rfl ?_
  refine g_istore_n (nx := 9) 2 F dX6_goBy_8 rfl rfl (by decide) ?_
  try dsimp only [List.set]
  refine g_iload_n (nx := 10) 2 F dX6_goBy_9 rfl rfl rfl ?_
  refine g_aload_n (nx := 11) 0 F dX6_goBy_10 rfl rfl rfl ?_
  refine g_getV (nx := 14) (0) F dX6_goBy_11 rfl fl_RX6_51 rfl (by decide) (by decide) rfl rfl (hn) ?_
  refine g_icmp_ge (nx := 17) 44 F dX6_goBy_14 rfl (by decide) (fun c_14 => ?_) (fun c_14 => absurd c_14 (by exact fun zq => zq (by decide)))
  refine g_aload_n (nx := 45) 0 F dX6_goBy_44 rfl rfl rfl ?_
  refine g_aload_n (nx := 46) 0 F dX6_goBy_45 rfl rfl rfl ?_
  refine g_getV (nx := 49) (nI 0) F dX6_goBy_46 rfl fl_RX6_85 rfl (by decide) (by decide) rfl rfl (rfl) ?_
  refine g_callS (nx := 52) 1 0 [.int (nI 0)] F dX6_goBy_49 rfl ml_RX6_100 mo_J6_bitCount_0f7a4 rfl rfl (Nat.le_of_ble_eq_true rfl) (by first | decide | omega) (j_bitCount 0 _ (by decide)) (fun r_49 τ_49 q_49 => ?_)
  obtain ⟨rfl, et_49⟩ := q_49
  have et_49 := et_49.symm
  subst et_49
  dsimp only [Option.toList, List.append, List.cons_append, List.nil_append]
  refine g_putI (nx := 55) F dX6_goBy_52 rfl fl_RX6_62 fi_5_14 rfl (by decide) (by decide) rfl rfl ?_
  refine g_aload_n (nx := 56) 0 F dX6_goBy_55 rfl rfl rfl ?_
  refine g_dup (nx := 57) F dX6_goBy_56 rfl rfl ?_
  refine g_getV (nx := 60) (y) F dX6_goBy_57 rfl fl_RX6_54 rfl (by decide) (by decide) rfl rfl (hy) ?_
  refine g_iconst (nx := 61) (1) F dX6_goBy_60 rfl rfl ?_
  refine g_iadd (nx := 62) F dX6_goBy_61 rfl ?_
  refine g_putI (nx := 65) F dX6_goBy_62 rfl fl_RX6_54 fi_5_12 rfl (by decide) (by decide) rfl rfl ?_
  refine g_iload_n (nx := 66) 1 F dX6_goBy_65 rfl rfl rfl ?_
  refine g_iret F E dX6_goBy_66 ?_
  exact ⟨rfl, rfl⟩
set_option maxHeartbeats 4000000 in
set_option maxRecDepth 100000 in
theorem c_month0 (y : Nat) (σ : zSt) (hn : σ 17 8 = 0) (hy : σ 17 12 = nI y) (h239 : y < 239) : Con mX11_month 7 [.ref 0] σ (fun r τ => r = some (.int 0) ∧ τ = zu (zu (zu σ 17 15 0) 17 14 0) 17 12 (nI (y + 1))) := by
  refine Con.of (lv := [.ref 0]) mk_X11_month rfl (Nat.le_of_ble_eq_true rfl) rfl (fun X F E => ?_)
  refine g_aload_n (nx := 1) 0 F dX11_month_0 rfl rfl rfl ?_
  refine g_getR (nx := 4) F dX11_month_1 rfl fl_RX11_44 rfl (by decide) (by decide) rfl ?_
  refine g_getV (nx := 7) (nI y) F dX11_month_4 rfl fl_RX11_108 rfl (by decide) (by decide) rfl rfl (hy) ?_
  refine g_sipush (nx := 10) (239) F dX11_month_7 rfl (by decide) ?_
  refine g_icmp_lt (nx := 13) 15 F dX11_month_10 rfl (by decide) (fun c_10 => ?_) (fun c_10 => absurd c_10 (by exact fun zq => zq (nI_lt (a := y) (b := 239) (by omega) (by omega))))
  refine g_aload_n (nx := 16) 0 F dX11_month_15 rfl rfl rfl ?_
  refine g_getR (nx := 19) F dX11_month_16 rfl fl_RX11_44 rfl (by decide) (by decide) rfl ?_
  refine g_callV (nx := 22) 0 1 [] F dX11_month_19 rfl ml_RX11_162 mo_X6_goBy rfl rfl rfl rfl (Nat.le_of_ble_eq_true rfl) (by first | decide | omega) (c_goBy0 (nI y) _ hn hy) (fun r_19 τ_19 q_19 => ?_)
  obtain ⟨rfl, et_19⟩ := q_19
  rw [nI_1] at et_19
  subst et_19
  dsimp only [Option.toList, List.append, List.cons_append, List.nil_append]
  refine g_iret F E dX11_month_22 ?_
  exact ⟨rfl, rfl⟩
theorem mon_0 (T : Nat → TXT) (D : zSt) (s n : Nat) (o y : Int32) (P : zSt) : monP T D s n o y 0 0 P = P := rfl
theorem pv_c (σ : zSt) (x : Int32) : zu (zu (zu (pv0 σ) 8 1 x) 8 1 0) 8 2 0 = pv0 σ := by
  funext i
  by_cases h : i = 8
  · subst h
    rw [zu_at, zu_at, zu_at]
    funext k
    show upd (upd (upd (pv0 σ 8) 1 x) 1 0) 2 0 k = pv0 σ 8 k
    unfold upd
    by_cases k2 : k = 2
    · rw [if_pos k2, k2]; rfl
    · rw [if_neg k2]
      by_cases k1 : k = 1
      · rw [if_pos k1, k1]; rfl
      · rw [if_neg k1, if_neg k1]
  · rw [zu_ne _ h, zu_ne _ h, zu_ne _ h]
theorem pv_k (σ : zSt) (x z : Int32) : zu (zu (zu (zu (pv0 σ) 8 1 x) 8 2 z) 8 2 0) 8 1 0 = pv0 σ := by
  funext i
  by_cases h : i = 8
  · subst h
    rw [zu_at, zu_at, zu_at, zu_at]
    funext k
    show upd (upd (upd (upd (pv0 σ 8) 1 x) 2 z) 2 0) 1 0 k = pv0 σ 8 k
    unfold upd
    by_cases k1 : k = 1
    · rw [if_pos k1, k1]; rfl
    · rw [if_neg k1]
      by_cases k2 : k = 2
      · rw [if_pos k2, k2]; rfl
      · rw [if_neg k2, if_neg k2, if_neg k1]
  · rw [zu_ne _ h, zu_ne _ h, zu_ne _ h, zu_ne _ h]
theorem RC_hi {n s : Nat} {σ τ P : zSt} (h : RC 17 n s σ τ P) : ∀ a, 145 ≤ a → τ a = σ a := fun a ha => h.1 a (by omega) (by omega) (by omega)
theorem fc_same (T : Nat → TXT) (D P : zSt) (n : Nat) (o y : Int32) (i j : Nat) (a b c : Int32) : prP T D (zu P 8 1 a) n o y i j = prP T D (zu (zu P 8 1 b) 8 2 c) n o y i j ∧ wtP T D (zu P 8 1 a) n o y i j = wtP T D (zu (zu P 8 1 b) 8 2 c) n o y i j ∧ ∀ x h, lwP T D (zu P 8 1 a) n o y i j x h = lwP T D (zu (zu P 8 1 b) 8 2 c) n o y i j x h := ⟨rfl, rfl, fun _ _ => rfl⟩
/-! VALUES -/
def wI (w : Nat → Nat) (p X : Nat) : Nat → Nat := fun k => if k < p then w k else if k = p then X else w (k - 1)
theorem wI_ins {f : Nat → Int32} {w : Nat → Nat} {m p X : Nat} (hp : p ≤ m) (h : ∀ k, k < m → f k = nI (w k) ∧ w k ≤ 10000) (hX : X ≤ 10000) : ∀ k, k < m + 1 → insF f p m (nI X) k = nI (wI w p X k) ∧ wI w p X k ≤ 10000 := by
  intro k hk
  unfold wI
  by_cases h1 : k < p
  · rw [if_pos h1, insF_lt _ _ h1]
    exact h k (by omega)
  · rw [if_neg h1]
    by_cases h2 : k = p
    · rw [if_pos h2, h2, insF_at]
      exact ⟨rfl, hX⟩
    · rw [if_neg h2, insF_gt _ _ (by omega) (by omega)]
      exact h (k - 1) (by omega)
theorem wI_srd {w : Nat → Nat} {m p X : Nat} (hp : p ≤ m) (h : srd w m) (h1 : ∀ k, p ≤ k → k < m → w k ≤ X) (h2 : p = 0 ∨ X ≤ w (p - 1)) : srd (wI w p X) (m + 1) := by
  intro i j hij hj
  unfold wI
  by_cases j1 : j < p
  · rw [if_pos j1, if_pos (by omega)]
    exact h i j hij (by omega)
  · rw [if_neg j1]
    by_cases j2 : j = p
    · rw [if_pos j2, if_pos (by omega)]
      rcases h2 with z | z
      · omega
      · rcases Nat.lt_or_ge i (p - 1) with q | q
        · exact Nat.le_trans z (h i (p - 1) q (by omega))
        · rw [show i = p - 1 by omega]; exact z
    · rw [if_neg j2]
      by_cases i1 : i < p
      · rw [if_pos i1]
        rcases Nat.lt_or_ge i (j - 1) with q | q
        · exact h i (j - 1) q (by omega)
        · omega
      · rw [if_neg i1]
        by_cases i2 : i = p
        · rw [if_pos i2]
          exact h1 (j - 1) (by omega) (by omega)
        · rw [if_neg i2]
          exact h (i - 1) (j - 1) (by omega) (by omega)
theorem wI_ct {w : Nat → Nat} {p X : Nat} (P : Nat → Bool) : ∀ {m : Nat}, p ≤ m → fb_ct (fun k => P (wI w p X k)) (m + 1) = fb_ct (fun k => P (w k)) m + (if P X then 1 else 0) := by
  intro m
  induction m with
  | zero =>
    intro hp
    have e : p = 0 := by omega
    subst e
    rfl
  | succ m ih =>
    intro hp
    rcases Nat.lt_or_ge p (m + 1) with q | q
    · rw [fb_ct_succ, ih (by omega), fb_ct_succ]
      have e : wI w p X (m + 1) = w m := by
        unfold wI
        rw [if_neg (by omega), if_neg (by omega)]
        rfl
      rw [e]
      omega
    · have e : p = m + 1 := by omega
      subst e
      rw [fb_ct_succ]
      have e1 : fb_ct (fun k => P (wI w (m + 1) X k)) (m + 1) = fb_ct (fun k => P (w k)) (m + 1) := fb_ct_cong (fun k hk => by
        show P (wI w (m + 1) X k) = P (w k)
        unfold wI
        rw [if_pos hk])
      have e2 : wI w (m + 1) X (m + 1) = X := by
        unfold wI
        rw [if_neg (by omega), if_pos rfl]
      rw [e1, e2]
theorem updN_ct {w : Nat → Nat} {m X : Nat} (P : Nat → Bool) : fb_ct (fun k => P (updN w m X k)) (m + 1) = fb_ct (fun k => P (w k)) m + (if P X then 1 else 0) := by
  rw [fb_ct_succ, updN_at]
  congr 1
  exact fb_ct_cong (fun k hk => by rw [updN_ne _ _ (by omega)])
theorem pr_value (p : Int32) {σ : zSt} (hI : Inv σ) : Pair mX11_value mX12_value 1 1 [.int p] σ := by
  have hI0 := hI
  obtain ⟨e, s, n, y, u, T, ⟨i1, i2, i3, i5, i6, i7, i8, i9⟩, i4⟩ := hI
  obtain ⟨m, w, w2, h1, h2, h3, h4, h5, h6, h7⟩ := i6
  refine ⟨_, c_value m p σ h2 h1, fun r τ q1 => ?_⟩
  rcases q1 with ⟨hA, P, hP, hP1, hP2, hr, rfl⟩ | ⟨hA, hr, et⟩
  · refine ⟨_, k_value m p _ h3 h1, fun r2 ρ q2 => ?_⟩
    rcases q2 with ⟨_, hr2, rfl⟩ | ⟨hB, _, _⟩
    · obtain ⟨X, hX, rfl⟩ := nI_rng (n := 10000) hA.1.1 hA.1.2
      have hm20 := hA.2
      refine ⟨_, hr, hr2, e, s, n, y, u, T, ⟨i1, i2, J3_c (σ := σ) (fun a ha => by rw [zu_ne _ (by omega), zu_ne _ (by omega), zu_ne _ (by omega), zs_ne _ (by omega)]) rfl rfl rfl rfl rfl i3, J5_c (σ := σ) rfl rfl rfl rfl (fun a a1 a2 => by rw [zu_ne _ (by omega), zu_ne _ (by omega), zu_ne _ (by omega), zs_ne _ (by omega)]) (fun a a1 a2 => by rw [zu_ne _ (by omega), zu_ne _ (by omega), zu_ne _ (by omega), zs_ne _ (by omega)]) i5, ⟨m + 1, wI w P X, updN w2 m X, hm20, rfl, rfl, wI_ins hP h4 hX, wI_srd hP h5 (fun k k1 k2 => ?_) ?_, fun k hk => ?_, fun Pd => ?_⟩, i7, i8, J9_c (σ := σ) i1.1.2.2 (fun a ha => by rw [zu_ne _ (by omega), zu_ne _ (by omega), zu_ne _ (by omega), zs_ne _ (by omega)]) i5 rfl (fun a a1 a2 => by rw [zu_ne _ (by omega), zu_ne _ (by omega), zu_ne _ (by omega), zs_ne _ (by omega)]) (fun a a1 a2 => by rw [zu_ne _ (by omega), zu_ne _ (by omega), zu_ne _ (by omega), zs_ne _ (by omega)]) i9⟩, i4⟩
      · have := hP1 k k1 k2
        rw [(h4 k k2).1] at this
        have h10 := (h4 k k2).2
        exact Nat.le_of_lt ((nI_ltI (by omega) (by omega)).mp this)
      · rcases hP2 with z | z
        · exact Or.inl z
        · rcases Nat.eq_zero_or_pos P with z0 | z0
          · exact Or.inl z0
          · have h10 := (h4 (P - 1) (by omega)).2
            rw [(h4 (P - 1) (by omega)).1] at z
            exact Or.inr ((nI_leI (by omega) (by omega)).mp z)
      · show upd (σ 177) m (nI X) k = nI (updN w2 m X k) ∧ updN w2 m X k ≤ 10000
        unfold upd updN
        by_cases ek : k = m
        · rw [if_pos ek, if_pos ek]
          exact ⟨rfl, hX⟩
        · rw [if_neg ek, if_neg ek]
          exact h6 k (by omega)
      · rw [wI_ct Pd hP, updN_ct, h7]
    · exact absurd hA hB
  · have et := et.symm
    subst et
    refine ⟨_, k_value m p _ h3 h1, fun r2 ρ q2 => ?_⟩
    rcases q2 with ⟨hB, _, _⟩ | ⟨_, hr2, rfl⟩
    · exact absurd hB hA
    · exact ⟨_, hr, hr2, hI0⟩
theorem upd_ct (f g : Nat → Int32) (m : Nat) (x z : Int32) (P : Int32 → Int32 → Bool) : fb_ct (fun k => P (upd f m x k) (upd g m z k)) (m + 1) = fb_ct (fun k => P (f k) (g k)) m + (if P x z then 1 else 0) := by
  rw [fb_ct_succ, show upd f m x m = x from if_pos rfl, show upd g m z m = z from if_pos rfl]
  congr 1
  refine fb_ct_cong (fun k hk => ?_)
  unfold upd
  rw [if_neg (by omega), if_neg (by omega)]
theorem pr_entry (p q : Int32) {σ : zSt} (hI : Inv σ) : Pair mX11_entry mX12_entry 1 1 [.int p, .int q] σ := by
  have hI0 := hI
  obtain ⟨e, s, n, y, u, T, ⟨i1, i2, i3, i5, i6, i7, i8, i9⟩, i4⟩ := hI
  obtain ⟨m, h1, h2, h3, h4, h5⟩ := i7
  have es : (σ 3 6).toInt = (σ 145 2).toInt := by rw [i1.2.1.1, i1.2.1.2.1]
  refine ⟨_, c_entry m p q σ h2 h1, fun r τ q1 => ?_⟩
  rcases q1 with ⟨hA, P, hP, hP1, hP2, hr, rfl⟩ | ⟨hA, hr, et⟩
  · refine ⟨_, k_entry m p q _ h3 h1, fun r2 ρ q2 => ?_⟩
    rcases q2 with ⟨_, hr2, rfl⟩ | ⟨hB, _, _⟩
    · refine ⟨_, hr, hr2, e, s, n, y, u, T, ⟨i1, i2, J3_c (σ := σ) (fun a ha => by rw [zu_ne _ (by omega), zu_ne _ (by omega), zu_ne _ (by omega), zu_ne _ (by omega), zs_ne _ (by omega), zs_ne _ (by omega)]) rfl rfl rfl rfl rfl i3, J5_c (σ := σ) rfl rfl rfl rfl (fun a a1 a2 => by rw [zu_ne _ (by omega), zu_ne _ (by omega), zu_ne _ (by omega), zu_ne _ (by omega), zs_ne _ (by omega), zs_ne _ (by omega)]) (fun a a1 a2 => by rw [zu_ne _ (by omega), zu_ne _ (by omega), zu_ne _ (by omega), zu_ne _ (by omega), zs_ne _ (by omega), zs_ne _ (by omega)]) i5, i6, ⟨m + 1, hA.2.2, rfl, rfl, srt_ins h4 hP hP2 hP1, fun Pd => ?_⟩, i8, J9_c (σ := σ) i1.1.2.2 (fun a ha => by rw [zu_ne _ (by omega), zu_ne _ (by omega), zu_ne _ (by omega), zu_ne _ (by omega), zs_ne _ (by omega), zs_ne _ (by omega)]) i5 rfl (fun a a1 a2 => by rw [zu_ne _ (by omega), zu_ne _ (by omega), zu_ne _ (by omega), zu_ne _ (by omega), zs_ne _ (by omega), zs_ne _ (by omega)]) (fun a a1 a2 => by rw [zu_ne _ (by omega), zu_ne _ (by omega), zu_ne _ (by omega), zu_ne _ (by omega), zs_ne _ (by omega), zs_ne _ (by omega)]) i9⟩, i4⟩
      show fb_ct (fun k => Pd (insF (σ 53) P m q k) (insF (σ 54) P m p k)) (m + 1) = fb_ct (fun k => Pd (upd (σ 179) m q k) (upd (σ 178) m p k)) (m + 1)
      rw [ins_ct (σ 53) (σ 54) Pd P m q p hP, upd_ct, h5]
    · exact absurd (show _ from by have h := hA; rw [es] at h; exact h) hB
  · have et := et.symm
    subst et
    refine ⟨_, k_entry m p q _ h3 h1, fun r2 ρ q2 => ?_⟩
    rcases q2 with ⟨hB, _, _⟩ | ⟨_, hr2, rfl⟩
    · exact absurd (show _ from by have h := hB; rw [← es] at h; exact h) hA
    · exact ⟨_, hr, hr2, hI0⟩
/-! GO-BETWEENS -/
theorem Sol_same {c n : Nat} {S S2 : Nat → Nat} {L L2 M M2 : Nat → Int32} {a b : Nat → Int} (h : ∀ g, g < n → S2 g = S g ∧ L2 g = L g ∧ M2 g = M g) (hS : Sol c n S L M a b) : Sol c n S2 L2 M2 a b := by
  refine ⟨hS.1, fun g hg i hi => ?_⟩
  obtain ⟨e1, e2, e3⟩ := h g hg
  rw [e1, e2, e3]
  exact hS.2 g hg i hi
theorem GrI_same {c n : Nat} {S S2 : Nat → Nat} {L L2 M M2 : Nat → Int32} {lo hi : Nat → Int32} {tv : Prop} (h : ∀ g, g < n → S2 g = S g ∧ L2 g = L g ∧ M2 g = M g) (hG : GrI c n S L M lo hi tv) : GrI c n S2 L2 M2 lo hi tv := by
  have h' : ∀ g, g < n → S g = S2 g ∧ L g = L2 g ∧ M g = M2 g := fun g hg => ⟨(h g hg).1.symm, (h g hg).2.1.symm, (h g hg).2.2.symm⟩
  rcases hG with ⟨ht, hr, hs, hm⟩ | ⟨ht, hn⟩
  · exact Or.inl ⟨ht, hr, Sol_same h hs, fun a b hab => hm a b (Sol_same h' hab)⟩
  · exact Or.inr ⟨ht, fun z => hn (by obtain ⟨a, b, hab⟩ := z; exact ⟨a, b, Sol_same h' hab⟩)⟩
theorem pr_go (x p a b : Int32) {σ : zSt} (hI : Inv σ) : Pair mX11_go mX12_go 3 1 [.int x, .int p, .int a, .int b] σ := by
  have hI0 := hI
  obtain ⟨e, s, n, y, u, T, ⟨i1, i2, i3, i5, i6, i7, i8, i9⟩, i4⟩ := hI
  obtain ⟨m, S, L, M, tv, h1, h2, h3, h4, h5, h6, h7, h8⟩ := i8
  have he := i1.1.2.2
  obtain ⟨S2, hS2⟩ : ∃ S2 : Nat → Nat, S2 = updN S m x.toInt.toNat := ⟨_, rfl⟩
  obtain ⟨L2, hL2⟩ : ∃ L2 : Nat → Int32, L2 = upd L m (p - b) := ⟨_, rfl⟩
  obtain ⟨M2, hM2⟩ : ∃ M2 : Nat → Int32, M2 = upd M m (p - a) := ⟨_, rfl⟩
  have hold : ∀ g, g < m → S2 g = S g ∧ L2 g = L g ∧ M2 g = M g := fun g hg => by
    rw [hS2, hL2, hM2]
    unfold upd
    exact ⟨updN_ne _ _ (by omega), if_neg (by omega), if_neg (by omega)⟩
  have hnew : S2 m = x.toInt.toNat ∧ L2 m = p - b ∧ M2 m = p - a := by
    rw [hS2, hL2, hM2]
    exact ⟨updN_at _ _ _, if_pos rfl, if_pos rfl⟩
  have hx1 : (x ≠ 0 ∧ isset x (nI e)) ∧ isin p 30000 ∧ (0 ≤ a.toInt ∧ a.toInt ≤ b.toInt ∧ b.toInt ≤ p.toInt) ∧ m < 8 → x = nI (S2 m) ∧ S2 m < 2 ^ e := fun hA => by
    obtain ⟨c, hc, _, hc2⟩ := set_nat he hA.1.1 hA.1.2
    have hc3 : 2 ^ e ≤ 2 ^ 10 := Nat.pow_le_pow_right (by decide) he
    rw [hnew.1, hc, nI_tn (by omega)]
    exact ⟨rfl, hc2⟩
  have hpb : isin p 30000 ∧ (0 ≤ a.toInt ∧ a.toInt ≤ b.toInt ∧ b.toInt ≤ p.toInt) → (0 ≤ (p - b).toInt ∧ (p - b).toInt ≤ 30000) ∧ (0 ≤ (p - a).toInt ∧ (p - a).toInt ≤ 30000) := fun hA => by
    obtain ⟨P, hP, rfl⟩ := nI_rng (n := 30000) hA.1.1 hA.1.2
    have e1 : (nI P).toInt = P := nI_toInt (by omega)
    rw [e1] at hA
    obtain ⟨A, hA2, rfl⟩ := nI_rng (x := a) (n := P) hA.2.1 (by omega)
    obtain ⟨B, hB2, rfl⟩ := nI_rng (x := b) (n := P) (by omega) hA.2.2.2
    rw [pk_sub hB2, pk_sub hA2, nI_toInt (by omega), nI_toInt (by omega)]
    omega
  refine ⟨_, c_go e m S2 L2 M2 (tv = true) x p a b σ i1.1.1 h2 h1 (fun hA => ⟨(hx1 hA).1, hnew.2.1, hnew.2.2⟩) (fun hA => ⟨he, fun g hg => ?_⟩) (fun g hg => by rw [(hold g hg).1, (hold g hg).2.1, (hold g hg).2.2]; exact (h5 g hg).1) h6 (GrI_same hold h7), fun r τ q1 => ?_⟩
  · by_cases eg : g = m
    · rw [eg, hnew.2.1, hnew.2.2]
      exact ⟨(hx1 hA).2, hpb ⟨hA.2.1, hA.2.2.1⟩⟩
    · rw [(hold g (by omega)).1, (hold g (by omega)).2.1, (hold g (by omega)).2.2]
      exact h4.2 g (by omega)
  · rcases q1 with ⟨hA, hr, lo, hi, tv2, dec, et, hG2, hout⟩ | ⟨hA, hr, et⟩
    · have hτ : ∀ q, 145 ≤ q → τ q = σ q := fun q hq => by rw [et, zu_ne _ (by omega), zs_ne _ (by omega), zs_ne _ (by omega), zu_ne _ (by omega), zu_ne _ (by omega), zu_ne _ (by omega), zu_ne _ (by omega)]
      refine ⟨_, k_go m x p a b τ (by rw [hτ 145 (by decide)]; exact h3) h1, fun r2 ρ q2 => ?_⟩
      have ec : τ 145 1 = nI e := by rw [hτ 145 (by decide)]; exact i1.1.2.1
      rw [ec] at q2
      rcases q2 with ⟨_, hr2, et2⟩ | ⟨hB, _, _⟩
      · have hx2 := hx1 hA
        obtain ⟨tvb, htvb⟩ : ∃ t : Bool, (t = true ↔ tv2) := by
          by_cases z : tv2
          · exact ⟨true, fun _ => z, fun _ => rfl⟩
          · exact ⟨false, fun h => absurd h (by decide), fun h => absurd h z⟩
        subst et
        subst et2
        refine ⟨_, hr, hr2, e, s, n, y, u, T, ⟨i1, i2, J3_c (σ := σ) (fun a ha => by rw [zu_ne _ (by omega), zu_ne _ (by omega), zu_ne _ (by omega), zu_ne _ (by omega), zu_ne _ (by omega), zu_ne _ (by omega), zs_ne _ (by omega), zs_ne _ (by omega), zu_ne _ (by omega), zu_ne _ (by omega), zu_ne _ (by omega), zu_ne _ (by omega)]) rfl rfl rfl rfl rfl i3, J5_c (σ := σ) rfl rfl rfl rfl (fun a a1 a2 => by rw [zu_ne _ (by omega), zu_ne _ (by omega), zu_ne _ (by omega), zu_ne _ (by omega), zu_ne _ (by omega), zu_ne _ (by omega), zs_ne _ (by omega), zs_ne _ (by omega), zu_ne _ (by omega), zu_ne _ (by omega), zu_ne _ (by omega), zu_ne _ (by omega)]) (fun a a1 a2 => by rw [zu_ne _ (by omega), zu_ne _ (by omega), zu_ne _ (by omega), zu_ne _ (by omega), zu_ne _ (by omega), zu_ne _ (by omega), zs_ne _ (by omega), zs_ne _ (by omega), zu_ne _ (by omega), zu_ne _ (by omega), zu_ne _ (by omega), zu_ne _ (by omega)]) i5, i6, i7, ⟨m + 1, S2, L2, M2, tvb, hA.2.2.2, rfl, rfl, ⟨he, fun g hg => ?_⟩, fun g hg => ?_, bI_c htvb.symm, ?_, fun q q1 q2 => ?_⟩, J9_c (σ := σ) i1.1.2.2 (fun a ha => by rw [zu_ne _ (by omega), zu_ne _ (by omega), zu_ne _ (by omega), zu_ne _ (by omega), zu_ne _ (by omega), zu_ne _ (by omega), zs_ne _ (by omega), zs_ne _ (by omega), zu_ne _ (by omega), zu_ne _ (by omega), zu_ne _ (by omega), zu_ne _ (by omega)]) i5 rfl (fun a a1 a2 => by rw [zu_ne _ (by omega), zu_ne _ (by omega), zu_ne _ (by omega), zu_ne _ (by omega), zu_ne _ (by omega), zu_ne _ (by omega), zs_ne _ (by omega), zs_ne _ (by omega), zu_ne _ (by omega), zu_ne _ (by omega), zu_ne _ (by omega), zu_ne _ (by omega)]) (fun a a1 a2 => by rw [zu_ne _ (by omega), zu_ne _ (by omega), zu_ne _ (by omega), zu_ne _ (by omega), zu_ne _ (by omega), zu_ne _ (by omega), zs_ne _ (by omega), zs_ne _ (by omega), zu_ne _ (by omega), zu_ne _ (by omega), zu_ne _ (by omega), zu_ne _ (by omega)]) i9⟩, i4⟩
        · by_cases eg : g = m
          · rw [eg, hnew.2.1, hnew.2.2]
            exact ⟨hx2.2, hpb ⟨hA.2.1, hA.2.2.1⟩⟩
          · rw [(hold g (by omega)).1, (hold g (by omega)).2.1, (hold g (by omega)).2.2]
            exact h4.2 g (by omega)
        · show (upd (σ 56) m (nI (S2 m)) g = nI (S2 g) ∧ upd (σ 57) m (L2 m) g = L2 g ∧ upd (σ 58) m (M2 m) g = M2 g) ∧ upd (σ 180) m x g = nI (S2 g) ∧ upd (σ 181) m p g - upd (σ 183) m b g = L2 g ∧ upd (σ 181) m p g - upd (σ 182) m a g = M2 g
          unfold upd
          by_cases eg : g = m
          · rw [if_pos eg, if_pos eg, if_pos eg, if_pos eg, if_pos eg, if_pos eg, if_pos eg, eg]
            exact ⟨⟨rfl, rfl, rfl⟩, hx2.1, hnew.2.1.symm, hnew.2.2.symm⟩
          · rw [if_neg eg, if_neg eg, if_neg eg, if_neg eg, if_neg eg, if_neg eg, if_neg eg, (hold g (by omega)).1, (hold g (by omega)).2.1, (hold g (by omega)).2.2]
            exact h5 g (by omega)
        · have : GrI e (m + 1) S2 L2 M2 lo hi (tvb = true) := by rw [show (tvb = true) = tv2 from propext htvb]; exact hG2
          exact this
        · have := hout q q1
          show lo q = 0 ∧ hi q = 10000
          rw [this.1, this.2]
          exact h8 q q1 q2
      · exact absurd hA hB
    · have et := et.symm
      subst et
      refine ⟨_, k_go m x p a b _ h3 h1, fun r2 ρ q2 => ?_⟩
      rw [i1.1.2.1] at q2
      rcases q2 with ⟨hB, _, _⟩ | ⟨_, hr2, rfl⟩
      · exact absurd hB hA
      · exact ⟨_, hr, hr2, hI0⟩
