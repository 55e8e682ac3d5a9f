def fr27 (σ τ : zSt) : Prop := ∀ a, a ≠ 14 → a ≠ 15 → (a < 27 ∨ 36 < a) → τ a = σ a
def pvC (B : Nat) (τ : zSt) : zSt := fun i => if i < 8 then τ (B + 1 + i) else fun k => if k = 0 then τ B 13 else if k = 1 then τ B 15 else 0
theorem RC_self {B n s : Nat} {τ : zSt} (h : ∀ k, k ≤ s → τ (B + 9) k = nI (cntN (τ (B + 1)) (nI k) n)) : RC B n s τ τ (pvC B τ) := ⟨fun _ _ _ _ => rfl, fun _ _ _ _ _ => rfl, rfl, rfl, fun i hi => (if_pos hi).symm, h⟩
theorem RC_re {B n s : Nat} {σ0 τ1 τ2 P : zSt} (hB : B = 17 ∨ B = 27) (h : RC B n s σ0 τ1 P) (h1 : ∀ a, a ≠ B → τ2 a = τ1 a) (h2 : ∀ k, k = 13 ∨ k = 15 → τ2 B k = τ1 B k) : RC B n s τ2 τ2 P := by
  obtain ⟨r1, r2, r3, r4, r5, r6⟩ := h
  refine ⟨fun _ _ _ _ => rfl, fun _ _ _ _ _ => rfl, (h2 13 (by omega)).trans r3, (h2 15 (by omega)).trans r4, fun i hi => (h1 _ (by omega)).trans (r5 i hi), fun k hk => ?_⟩
  rw [h1 _ (by omega)]
  exact r6 k hk
def adm1 (D Q : zSt) (j : Nat) : zSt := zu (zu (zu (zu (zu (zu Q 0 j 0) 1 j (D 6 j)) 2 j 0) 3 j 0) 4 j 0) 5 j (-1)
def adP (D : zSt) : Nat → Nat → zSt → zSt
  | 0, _, P => P
  | q + 1, j, P => adP D q (j + 1) (adm1 D P j)
theorem adP_o {D : zSt} : ∀ (q j : Nat) (P : zSt), (∀ i, i < 3 → ∀ k, k < j + q → adP D q j P i k = if j ≤ k then ag0 D 0 i k else P i k) ∧ adP D q j P 8 = P 8
  | 0, j, P => ⟨fun i hi k hk => by rw [if_neg (by omega)]; rfl, rfl⟩
  | q + 1, j, P => by
    obtain ⟨h1, h2⟩ := adP_o (D := D) q (j + 1) (adm1 D P j)
    refine ⟨fun i hi k hk => ?_, h2⟩
    rw [adP, h1 i hi k (by omega)]
    by_cases e : k = j
    · subst e
      rw [if_neg (by omega), if_pos (Nat.le_refl _)]
      match i, hi with
      | 0, _ => exact if_pos rfl
      | 1, _ => exact if_pos rfl
      | 2, _ => exact if_pos rfl
    · by_cases e2 : j ≤ k
      · rw [if_pos e2, if_pos (by omega)]
      · rw [if_neg e2, if_neg (by omega)]
        match i, hi with
        | 0, _ => exact if_neg e
        | 1, _ => exact if_neg e
        | 2, _ => exact if_neg e
theorem RC_adm {j s : Nat} {τ Q D : zSt} (h : RC 27 j s τ τ Q) (hs : s ≤ 8) (h10 : τ 10 j = D 6 j) : RC 27 (j + 1) s (zu (zu (zu (zu (zu (zu (zu (zu τ 28 j 0) 29 j (τ 10 j)) 30 j 0) 31 j 0) 32 j 0) 33 j (-1)) 36 0 (τ 36 0 + 1)) 27 8 (nI (j + 1))) (zu (zu (zu (zu (zu (zu (zu (zu τ 28 j 0) 29 j (τ 10 j)) 30 j 0) 31 j 0) 32 j 0) 33 j (-1)) 36 0 (τ 36 0 + 1)) 27 8 (nI (j + 1))) (adm1 D Q j) := by
  obtain ⟨r1, r2, r3, r4, r5, r6⟩ := h
  refine ⟨fun _ _ _ _ => rfl, fun _ _ _ _ _ => rfl, r3, r4, fun i hi => ?_, fun k hk => ?_⟩
  · match i, hi with
    | 0, _ => show upd (τ 28) j 0 = upd (Q 0) j 0; rw [show τ 28 = Q 0 from r5 0 (by decide)]
    | 1, _ => show upd (τ 29) j (τ 10 j) = upd (Q 1) j (D 6 j); rw [show τ 29 = Q 1 from r5 1 (by decide), h10]
    | 2, _ => show upd (τ 30) j 0 = upd (Q 2) j 0; rw [show τ 30 = Q 2 from r5 2 (by decide)]
    | 3, _ => show upd (τ 31) j 0 = upd (Q 3) j 0; rw [show τ 31 = Q 3 from r5 3 (by decide)]
    | 4, _ => show upd (τ 32) j 0 = upd (Q 4) j 0; rw [show τ 32 = Q 4 from r5 4 (by decide)]
    | 5, _ => show upd (τ 33) j (-1) = upd (Q 5) j (-1); rw [show τ 33 = Q 5 from r5 5 (by decide)]
    | 6, _ => exact r5 6 (by decide)
    | 7, _ => exact r5 7 (by decide)
  · show upd (τ 36) 0 (τ 36 0 + 1) k = nI (cntN (upd (Q 0) j 0) (nI k) (j + 1))
    rw [cntN, cnt_out (Nat.le_refl _), show upd (Q 0) j 0 j = 0 from if_pos rfl]
    unfold upd
    by_cases e : k = 0
    · subst e
      rw [if_pos rfl, if_pos (show (0 : Int32) = nI 0 from rfl), show τ 36 0 = _ from r6 0 (by omega), nI_1]
    · rw [if_neg e, if_neg (show ¬ (0 : Int32) = nI k from fun z => absurd ((nI_eq (a := 0) (b := k) (by decide) (by omega)).mp z) (by omega))]
      exact r6 k hk
def dnF (g : Nat → Int32) (s : Nat) : Nat → Nat
  | 0 => 0
  | n + 1 => dnF g s n + if g n < nI s then 0 else 1
theorem dnF_congr {f g : Nat → Int32} {s : Nat} : ∀ {n : Nat}, (∀ j, j < n → f j = g j) → dnF f s n = dnF g s n
  | 0, _ => rfl
  | n + 1, h => by rw [dnF, dnF, dnF_congr (fun j hj => h j (by omega)), h n (by omega)]
theorem dnF_le (f : Nat → Int32) (s : Nat) : ∀ n, dnF f s n ≤ n
  | 0 => Nat.le_refl _
  | n + 1 => by have := dnF_le f s n; rw [dnF]; split <;> omega
/-- how many had come by a MONTH -/
def nnOK (cm nn : Nat → Nat) (f : Nat) : Prop := ∀ y, nn y ≤ f ∧ ∀ j, j < f → (cm j ≤ y ↔ j < nn y)
def pvn (nn : Nat → Nat) (y : Nat) : Nat := if y = 0 then 0 else nn (y - 1)
theorem nn_mo {cm nn : Nat → Nat} {f : Nat} (h : nnOK cm nn f) (y : Nat) : nn y ≤ nn (y + 1) := by
  rcases Nat.lt_or_ge (nn (y + 1)) (nn y) with z | z
  · have h1 := h y
    have h2 := (h (y + 1)).2 (nn (y + 1)) (by omega)
    have h3 := h1.2 (nn (y + 1)) (by omega)
    omega
  · exact z
theorem pvn_le {cm nn : Nat → Nat} {f : Nat} (h : nnOK cm nn f) (y : Nat) : pvn nn y ≤ nn y := by
  unfold pvn
  split
  · omega
  · have := nn_mo h (y - 1)
    rw [show y - 1 + 1 = y by omega] at this
    exact this
theorem pvn_in {cm nn : Nat → Nat} {f y j : Nat} (h : nnOK cm nn f) (h1 : pvn nn y ≤ j) (h2 : j < nn y) : cm j = y := by
  have hf := (h y).1
  have a := ((h y).2 j (by omega)).mpr h2
  unfold pvn at h1
  split at h1
  · omega
  · have b := (h (y - 1)).2 j (by omega)
    omega
theorem pvn_out {cm nn : Nat → Nat} {f y : Nat} (h : nnOK cm nn f) (h1 : nn y < f) : cm (nn y) ≠ y := by
  have := (h y).2 (nn y) h1
  omega
set_option maxHeartbeats 4000000 in
set_option maxRecDepth 100000 in
theorem c_begin (s : Nat) (σ : zSt) (hs : s ≤ 8) : Con mX6_begin 1 [.ref 27] σ (fun r τ => r = none ∧ fr27 σ τ ∧ RC 27 0 s τ τ (pvC 27 τ) ∧ τ 27 8 = nI 0 ∧ τ 27 12 = nI 0 ∧ τ 27 13 = σ 3 13 ∧ τ 27 14 = 0) := by
  refine Con.of (lv := [.ref 27]) mk_X6_begin rfl (Nat.le_of_ble_eq_true rfl) rfl (fun X F E => ?_)
  refine g_aload_n (nx := 1) 0 F dX6_begin_0 rfl rfl rfl ?_
  refine g_iconst (nx := 2) (0) F dX6_begin_1 rfl rfl ?_
  refine g_putI (nx := 5) F dX6_begin_2 rfl fl_RX6_51 fi_5_8 rfl (by decide) (by decide) rfl rfl ?_
  refine g_aload_n (nx := 6) 0 F dX6_begin_5 rfl rfl rfl ?_
  refine g_iconst (nx := 7) (0) F dX6_begin_6 rfl rfl ?_
  refine g_putI (nx := 10) F dX6_begin_7 rfl fl_RX6_54 fi_5_12 rfl (by decide) (by decide) rfl rfl ?_
  refine g_aload_n (nx := 11) 0 F dX6_begin_10 rfl rfl rfl ?_
  refine g_aload_n (nx := 12) 0 F dX6_begin_11 rfl rfl rfl ?_
  refine g_getR (nx := 15) F dX6_begin_12 rfl fl_RX6_43 rfl (by decide) (by decide) rfl ?_
  refine g_getI (nx := 18) F dX6_begin_15 rfl fl_RX6_57 rfl (by decide) (by decide) rfl rfl ?_
  refine g_putI (nx := 21) F dX6_begin_18 rfl fl_RX6_39 fi_5_13 rfl (by decide) (by decide) rfl rfl ?_
  refine g_aload_n (nx := 22) 0 F dX6_begin_21 rfl rfl rfl ?_
  refine g_iconst (nx := 23) (0) F dX6_begin_22 rfl rfl ?_
  refine g_putI (nx := 26) F dX6_begin_23 rfl fl_RX6_62 fi_5_14 rfl (by decide) (by decide) rfl rfl ?_
  refine g_aload_n (nx := 27) 0 F dX6_begin_26 rfl rfl rfl ?_
  refine g_getR (nx := 30) F dX6_begin_27 rfl fl_RX6_30 rfl (by decide) (by decide) rfl ?_
  refine g_iconst (nx := 31) (0) F dX6_begin_30 rfl rfl ?_
  refine g_callS (nx := 34) 2 0 [.ref 34, .int 0] F dX6_begin_31 rfl ml_RX6_65 mo_J7_fill_53178 rfl rfl (Nat.le_of_ble_eq_true rfl) (by first | decide | omega) (j_fill 34 10 0 _ rfl) (fun r_31 τ_31 q_31 => ?_)
  obtain ⟨rfl, et_31⟩ := q_31
  subst et_31
  dsimp only [Option.toList, List.append, List.cons_append, List.nil_append]
  refine g_aload_n (nx := 35) 0 F dX6_begin_34 rfl rfl rfl ?_
  refine g_getR (nx := 38) F dX6_begin_35 rfl fl_RX6_33 rfl (by decide) (by decide) rfl ?_
  refine g_iconst (nx := 39) (0) F dX6_begin_38 rfl rfl ?_
  refine g_callS (nx := 42) 2 0 [.ref 35, .int 0] F dX6_begin_39 rfl ml_RX6_65 mo_J7_fill_53178 rfl rfl (Nat.le_of_ble_eq_true rfl) (by first | decide | omega) (j_fill 35 10 0 _ rfl) (fun r_39 τ_39 q_39 => ?_)
  obtain ⟨rfl, et_39⟩ := q_39
  subst et_39
  dsimp only [Option.toList, List.append, List.cons_append, List.nil_append]
  refine g_aload_n (nx := 43) 0 F dX6_begin_42 rfl rfl rfl ?_
  refine g_getR (nx := 46) F dX6_begin_43 rfl fl_RX6_36 rfl (by decide) (by decide) rfl ?_
  refine g_iconst (nx := 47) (0) F dX6_begin_46 rfl rfl ?_
  refine g_callS (nx := 50) 2 0 [.ref 36, .int 0] F dX6_begin_47 rfl ml_RX6_65 mo_J7_fill_53178 rfl rfl (Nat.le_of_ble_eq_true rfl) (by first | decide | omega) (j_fill 36 9 0 _ rfl) (fun r_47 τ_47 q_47 => ?_)
  obtain ⟨rfl, et_47⟩ := q_47
  subst et_47
  dsimp only [Option.toList, List.append, List.cons_append, List.nil_append]
  refine g_vret F E dX6_begin_50 ?_
  refine ⟨rfl, fun a a1 a2 a3 => ?_, RC_self (fun k hk => ?_), rfl, rfl, rfl, rfl⟩
  · rw [zs_ne _ (by omega), zs_ne _ (by omega), zs_ne _ (by omega), zu_ne _ (by omega), zu_ne _ (by omega), zu_ne _ (by omega), zu_ne _ (by omega)]
  · exact if_pos (show k < 9 by omega)
set_option maxHeartbeats 4000000 in
set_option maxRecDepth 100000 in
theorem c_admitThose (D P : zSt) (s m m2 f y : Nat) (cm : Nat → Nat) (σ : zSt) (hr : RC 27 m s σ σ P) (h8 : σ 27 8 = nI m) (hs : s ≤ 8) (hf : σ 3 11 = nI f) (hf40 : f ≤ 40) (hy : y ≤ 239) (hcm : ∀ j, j < f → σ 12 j = nI (cm j) ∧ cm j ≤ 239) (hD6 : σ 10 = D 6) (h1 : m ≤ m2) (h2 : m2 ≤ f) (hin : ∀ j, m ≤ j → j < m2 → cm j = y) (hout : m2 < f → cm m2 ≠ y) : Con mX6_admitThoseOf 1 [.ref 27, .int (nI y)] σ (fun r τ => r = none ∧ fr27 σ τ ∧ RC 27 m2 s τ τ (adP D (m2 - m) m P) ∧ τ 27 8 = nI m2 ∧ ∀ k, k ≠ 8 → τ 27 k = σ 27 k) := by
  refine Con.of (lv := [.ref 27, .int (nI y), .long 0]) mk_X6_admitThoseOf rfl (Nat.le_of_ble_eq_true rfl) rfl (fun X F E => ?_)
  have L : ∀ (q j : Nat) (Q τ : zSt), j + q = m2 → m ≤ j → fr27 σ τ → RC 27 j s τ τ Q → τ 27 8 = nI j → (∀ k, k ≠ 8 → τ 27 k = σ 27 k) → adP D q j Q = adP D (m2 - m) m P → Gs X 5 [.ref 27, .int (nI y), .int (nI j)] [] τ := by
    intro q
    induction q with
    | zero =>
      intro j Q τ hj hmj hf27 hr h8 hk hA
      have hj : j = m2 := hj
      subst hj
      have hA : Q = _ := hA
      have e12 := hf27 12 (by decide) (by decide) (by decide)
      have e3 := hf27 3 (by decide) (by decide) (by decide)
      refine g_iload_n (nx := 6) 2 F dX6_admitThoseOf_5 rfl rfl rfl ?_
      refine g_aload_n (nx := 7) 0 F dX6_admitThoseOf_6 rfl rfl rfl ?_
      refine g_getR (nx := 10) F dX6_admitThoseOf_7 rfl fl_RX6_43 rfl (by decide) (by decide) rfl ?_
      refine g_getV (nx := 13) (nI f) F dX6_admitThoseOf_10 rfl fl_RX6_72 rfl (by decide) (by decide) rfl rfl ((congrFun e3 11).trans hf) ?_
      refine g_icmp_ge (nx := 16) 40 F dX6_admitThoseOf_13 rfl (by decide) (fun c_13 => ?_) (fun c_13 => ?_)
      · refine g_vret F E dX6_admitThoseOf_40 ?_
        exact ⟨rfl, hf27, by rw [← hA]; exact hr, h8, hk⟩
      · refine g_aload_n (nx := 17) 0 F dX6_admitThoseOf_16 rfl rfl rfl ?_
        refine g_getR (nx := 20) F dX6_admitThoseOf_17 rfl fl_RX6_43 rfl (by decide) (by decide) rfl ?_
        refine g_getR (nx := 23) F dX6_admitThoseOf_20 rfl fl_RX6_75 rfl (by decide) (by decide) rfl ?_
        refine g_iload_n (nx := 24) 2 F dX6_admitThoseOf_23 rfl rfl rfl ?_
        refine g_ialdN (nx := 25) (j) (nI (cm j)) F dX6_admitThoseOf_24 rfl rfl (by rw [fa_le] at c_13; rw [nI_toInt (by omega), nI_toInt (by omega)] at c_13; omega) ((congrFun e12 j).trans (hcm j (by rw [fa_le] at c_13; rw [nI_toInt (by omega), nI_toInt (by omega)] at c_13; omega)).1) ?_
        refine g_iload_n (nx := 26) 1 F dX6_admitThoseOf_25 rfl rfl rfl ?_
        refine g_icmp_ne (nx := 29) 40 F dX6_admitThoseOf_26 rfl (by decide) (fun c_26 => ?_) (fun c_26 => ?_)
        · refine g_vret F E dX6_admitThoseOf_40 ?_
          exact ⟨rfl, hf27, by rw [← hA]; exact hr, h8, hk⟩
        · have hjf : j < f := by rw [fa_le] at c_13; rw [nI_toInt (by omega), nI_toInt (by omega)] at c_13; omega
          exact absurd ((nI_eq (by have := (hcm j hjf).2; omega) (by omega)).mp c_26) (hout hjf)
    | succ q ih =>
      intro j Q τ hj hmj hf27 hr h8 hk hA
      have e12 := hf27 12 (by decide) (by decide) (by decide)
      have e10 := hf27 10 (by decide) (by decide) (by decide)
      have e3 := hf27 3 (by decide) (by decide) (by decide)
      have hcj := hin j hmj (by omega)
      refine g_iload_n (nx := 6) 2 F dX6_admitThoseOf_5 rfl rfl rfl ?_
      refine g_aload_n (nx := 7) 0 F dX6_admitThoseOf_6 rfl rfl rfl ?_
      refine g_getR (nx := 10) F dX6_admitThoseOf_7 rfl fl_RX6_43 rfl (by decide) (by decide) rfl ?_
      refine g_getV (nx := 13) (nI f) F dX6_admitThoseOf_10 rfl fl_RX6_72 rfl (by decide) (by decide) rfl rfl ((congrFun e3 11).trans hf) ?_
      refine g_icmp_ge (nx := 16) 40 F dX6_admitThoseOf_13 rfl (by decide) (fun c_13 => absurd c_13 (by exact nI_ge (by omega) (by omega))) (fun c_13 => ?_)
      refine g_aload_n (nx := 17) 0 F dX6_admitThoseOf_16 rfl rfl rfl ?_
      refine g_getR (nx := 20) F dX6_admitThoseOf_17 rfl fl_RX6_43 rfl (by decide) (by decide) rfl ?_
      refine g_getR (nx := 23) F dX6_admitThoseOf_20 rfl fl_RX6_75 rfl (by decide) (by decide) rfl ?_
      refine g_iload_n (nx := 24) 2 F dX6_admitThoseOf_23 rfl rfl rfl ?_
      refine g_ialdN (nx := 25) (j) (nI (cm j)) F dX6_admitThoseOf_24 rfl rfl (by omega) ((congrFun e12 j).trans (hcm j (by omega)).1) ?_
      refine g_iload_n (nx := 26) 1 F dX6_admitThoseOf_25 rfl rfl rfl ?_
      refine g_icmp_ne (nx := 29) 40 F dX6_admitThoseOf_26 rfl (by decide) (fun c_26 => absurd c_26 (by exact fun zq => zq (by rw [hcj]))) (fun c_26 => ?_)
      refine g_aload_n (nx := 30) 0 F dX6_admitThoseOf_29 rfl rfl rfl ?_
      refine g_iload_n (nx := 31) 2 F dX6_admitThoseOf_30 rfl rfl rfl ?_
      refine g_callV (nx := 34) 1 0 [.int (nI j)] F dX6_admitThoseOf_31 rfl ml_RX6_78 mo_X6_admit rfl rfl rfl rfl (Nat.le_of_ble_eq_true rfl) (by first | decide | omega) (c_admit_27 j (τ 36 0) _ rfl (by omega)) (fun r_31 τ_31 q_31 => ?_)
      obtain ⟨rfl, et_31⟩ := q_31
      subst et_31
      dsimp only [Option.toList, List.append, List.cons_append, List.nil_append]
      refine g_iinc (nx := 37) (1) F dX6_admitThoseOf_34 rfl rfl (by decide) (by decide) ?_
      try dsimp only [List.set]
      refine g_goto 5 F dX6_admitThoseOf_37 (by decide) ?_
      rw [nI_1]
      refine ih (j + 1) (adm1 D Q j) _ (by omega) (by omega) (fun a a1 a2 a3 => ?_) (RC_adm hr hs (by rw [e10, hD6])) rfl (fun k hk8 => ?_) hA
      · rw [zu_ne _ (by omega), zu_ne _ (by omega), zu_ne _ (by omega), zu_ne _ (by omega), zu_ne _ (by omega), zu_ne _ (by omega), zu_ne _ (by omega), zu_ne _ (by omega)]
        exact hf27 a a1 a2 a3
      · rw [zu_off _ _ _ _ _ hk8]
        exact hk k hk8
  refine g_aload_n (nx := 1) 0 F dX6_admitThoseOf_0 rfl rfl rfl ?_
  refine g_getV (nx := 4) (nI m) F dX6_admitThoseOf_1 rfl fl_RX6_51 rfl (by decide) (by decide) rfl rfl (h8) ?_
  refine g_istore_n (nx := 5) 2 F dX6_admitThoseOf_4 rfl rfl (by decide) ?_
  try dsimp only [List.set]
  exact L (m2 - m) m P _ (by omega) (Nat.le_refl _) (fun _ _ _ _ => rfl) hr h8 (fun _ _ => rfl) rfl
set_option maxHeartbeats 4000000 in
set_option maxRecDepth 100000 in
theorem c_howManyDone (s n : Nat) (σ : zSt) (hn : σ 27 8 = nI n) (h40 : n ≤ 40) (hs : σ 3 6 = nI s) : Con mX6_howManyDone 1 [.ref 27] σ (fun r τ => r = some (.int (nI (dnF (σ 28) s n))) ∧ τ = σ) := by
  refine Con.of (lv := [.ref 27, .long 0, .long 0]) mk_X6_howManyDone rfl (Nat.le_of_ble_eq_true rfl) rfl (fun X F E => ?_)
  have L : ∀ (q j : Nat), j + q = n → Gs X 4 [.ref 27, .int (nI (dnF (σ 28) s j)), .int (nI j)] [] σ := by
    intro q
    induction q with
    | zero =>
      intro j hj
      have hj : j = n := hj
      subst hj
      refine g_iload_n (nx := 5) 2 F dX6_howManyDone_4 rfl rfl rfl ?_
      refine g_aload_n (nx := 6) 0 F dX6_howManyDone_5 rfl rfl rfl ?_
      refine g_getV (nx := 9) (nI j) F dX6_howManyDone_6 rfl fl_RX6_51 rfl (by decide) (by decide) rfl rfl (hn) ?_
      refine g_icmp_ge (nx := 12) 29 F dX6_howManyDone_9 rfl (by decide) (fun c_9 => ?_) (fun c_9 => absurd c_9 (by exact fun zq => zq (nI_le (Nat.le_refl j) (by omega))))
      refine g_iload_n (nx := 30) 1 F dX6_howManyDone_29 rfl rfl rfl ?_
      refine g_iret F E dX6_howManyDone_30 ?_
      exact ⟨rfl, rfl⟩
    | succ q ih =>
      intro j hj
      have ih := ih (j + 1) (by omega)
      rw [dnF] at ih
      refine g_iload_n (nx := 5) 2 F dX6_howManyDone_4 rfl rfl rfl ?_
      refine g_aload_n (nx := 6) 0 F dX6_howManyDone_5 rfl rfl rfl ?_
      refine g_getV (nx := 9) (nI n) F dX6_howManyDone_6 rfl fl_RX6_51 rfl (by decide) (by decide) rfl rfl (hn) ?_
      refine g_icmp_ge (nx := 12) 29 F dX6_howManyDone_9 rfl (by decide) (fun c_9 => absurd c_9 (by exact nI_ge (by omega) (by omega))) (fun c_9 => ?_)
      refine g_aload_n (nx := 13) 0 F dX6_howManyDone_12 rfl rfl rfl ?_
      refine g_iload_n (nx := 14) 2 F dX6_howManyDone_13 rfl rfl rfl ?_
      refine g_callV (nx := 17) 1 0 [.int (nI j)] F dX6_howManyDone_14 rfl ml_RX6_88 mo_X6_isUnderWay rfl rfl rfl rfl (Nat.le_of_ble_eq_true rfl) (by first | decide | omega) (c_isUnderWay_27 n (nI j) _ hn h40) (fun r_14 τ_14 q_14 => ?_)
      obtain ⟨rfl, et_14⟩ := q_14
      have et_14 := et_14.symm
      subst et_14
      dsimp only [Option.toList, List.append, List.cons_append, List.nil_append]
      rw [nI_tn (by omega), nI_toInt (n := j) (by omega), hs]
      refine g_if_ne (nx := 20) 23 F dX6_howManyDone_17 rfl (by decide) (fun c_17 => ?_) (fun c_17 => ?_)
      · refine g_iinc (nx := 26) (1) F dX6_howManyDone_23 rfl rfl (by decide) (by decide) ?_
        try dsimp only [List.set]
        refine g_goto 4 F dX6_howManyDone_26 (by decide) ?_
        first
          | (have hq := (bI_n0.mp c_17).2.2; rw [if_pos hq] at ih; rw [nI_1]; exact ih)
          | (have hq : ¬ σ 28 j < nI s := fun z => bI_0.mp c_17 ⟨by omega, by omega, z⟩; rw [if_neg hq] at ih; rw [nI_1, nI_1]; exact ih)
      · refine g_iinc (nx := 23) (1) F dX6_howManyDone_20 rfl rfl (by decide) (by decide) ?_
        try dsimp only [List.set]
        refine g_iinc (nx := 26) (1) F dX6_howManyDone_23 rfl rfl (by decide) (by decide) ?_
        try dsimp only [List.set]
        refine g_goto 4 F dX6_howManyDone_26 (by decide) ?_
        first
          | (have hq := (bI_n0.mp c_17).2.2; rw [if_pos hq] at ih; rw [nI_1]; exact ih)
          | (have hq : ¬ σ 28 j < nI s := fun z => bI_0.mp c_17 ⟨by omega, by omega, z⟩; rw [if_neg hq] at ih; rw [nI_1, nI_1]; exact ih)
  refine g_iconst (nx := 1) (0) F dX6_howManyDone_0 rfl rfl ?_
  refine g_istore_n (nx := 2) 1 F dX6_howManyDone_1 rfl rfl (by decide) ?_
  try dsimp only [List.set]
  refine g_iconst (nx := 3) (0) F dX6_howManyDone_2 rfl rfl ?_
  refine g_istore_n (nx := 4) 2 F dX6_howManyDone_3 rfl rfl (by decide) ?_
  try dsimp only [List.set]
  exact L n 0 (by omega)
set_option maxHeartbeats 4000000 in
set_option maxRecDepth 100000 in
theorem c_standsLike (n : Nat) (σ : zSt) (hn : σ 27 8 = nI n) (h40 : n ≤ 40) : Con mX6_standsLike 0 [.ref 27, .ref 17] σ (fun r τ => r = some (.int (bI (∀ j, j < n → σ 28 j = σ 18 j))) ∧ τ = σ) := by
  refine Con.of (lv := [.ref 27, .ref 17, .long 0]) mk_X6_standsLike rfl (Nat.le_of_ble_eq_true rfl) rfl (fun X F E => ?_)
  have L : ∀ (q j : Nat), j + q = n → (∀ k, k < j → σ 28 k = σ 18 k) → Gs X 2 [.ref 27, .ref 17, .int (nI j)] [] σ := by
    intro q
    induction q with
    | zero =>
      intro j hj hk
      have hj : j = n := hj
      subst hj
      refine g_iload_n (nx := 3) 2 F dX6_standsLike_2 rfl rfl rfl ?_
      refine g_aload_n (nx := 4) 0 F dX6_standsLike_3 rfl rfl rfl ?_
      refine g_getV (nx := 7) (nI j) F dX6_standsLike_4 rfl fl_RX6_51 rfl (by decide) (by decide) rfl rfl (hn) ?_
      refine g_icmp_ge (nx := 10) 33 F dX6_standsLike_7 rfl (by decide) (fun c_7 => ?_) (fun c_7 => absurd c_7 (by exact fun zq => zq (nI_le (Nat.le_refl j) (by omega))))
      refine g_iconst (nx := 34) (1) F dX6_standsLike_33 rfl rfl ?_
      refine g_zret F E dX6_standsLike_34 (by first | rfl | assumption) ?_
      exact ⟨congrArg (fun z => some (Value.int z)) (bI_t hk).symm, rfl⟩
    | succ q ih =>
      intro j hj hk
      refine g_iload_n (nx := 3) 2 F dX6_standsLike_2 rfl rfl rfl ?_
      refine g_aload_n (nx := 4) 0 F dX6_standsLike_3 rfl rfl rfl ?_
      refine g_getV (nx := 7) (nI n) F dX6_standsLike_4 rfl fl_RX6_51 rfl (by decide) (by decide) rfl rfl (hn) ?_
      refine g_icmp_ge (nx := 10) 33 F dX6_standsLike_7 rfl (by decide) (fun c_7 => absurd c_7 (by exact nI_ge (by omega) (by omega))) (fun c_7 => ?_)
      refine g_aload_n (nx := 11) 0 F dX6_standsLike_10 rfl rfl rfl ?_
      refine g_getR (nx := 14) F dX6_standsLike_11 rfl fl_RX6_9 rfl (by decide) (by decide) rfl ?_
      refine g_iload_n (nx := 15) 2 F dX6_standsLike_14 rfl rfl rfl ?_
      refine g_ialdN (nx := 16) (j) (_) F dX6_standsLike_15 rfl rfl (by omega) (rfl) ?_
      refine g_aload_n (nx := 17) 1 F dX6_standsLike_16 rfl rfl rfl ?_
      refine g_getR (nx := 20) F dX6_standsLike_17 rfl fl_RX6_9 rfl (by decide) (by decide) rfl ?_
      refine g_iload_n (nx := 21) 2 F dX6_standsLike_20 rfl rfl rfl ?_
      refine g_ialdN (nx := 22) (j) (_) F dX6_standsLike_21 rfl rfl (by omega) (rfl) ?_
      refine g_icmp_eq (nx := 25) 27 F dX6_standsLike_22 rfl (by decide) (fun c_22 => ?_) (fun c_22 => ?_)
      · refine g_iinc (nx := 30) (1) F dX6_standsLike_27 rfl rfl (by decide) (by decide) ?_
        try dsimp only [List.set]
        refine g_goto 2 F dX6_standsLike_30 (by decide) ?_
        rw [nI_1]
        refine ih (j + 1) (by omega) (fun k hk2 => ?_)
        by_cases e : k = j
        · subst e; exact c_22
        · exact hk k (by omega)
      · refine g_iconst (nx := 26) (0) F dX6_standsLike_25 rfl rfl ?_
        refine g_zret F E dX6_standsLike_26 (by first | rfl | assumption) ?_
        exact ⟨congrArg (fun z => some (Value.int z)) (bI_f (fun z => c_22 (z j (by omega)))).symm, rfl⟩
  refine g_iconst (nx := 1) (0) F dX6_standsLike_0 rfl rfl ?_
  refine g_istore_n (nx := 2) 2 F dX6_standsLike_1 rfl rfl (by decide) ?_
  try dsimp only [List.set]
  exact L n 0 (by omega) (fun k hk => absurd hk (Nat.not_lt_zero k))
def agA (T : Nat → TXT) (D : zSt) (s f : Nat) (nn : Nat → Nat) (sd : Int32) (Y : Nat) (st : Nat → Int32) (w : Int32) : Int32 := if w = 1 then (agS T D s nn sd Y).2.2 else if w = 0 then nI (dnF ((agS T D s nn sd Y).1 0) s f) else bI (∀ j, j < f → (agS T D s nn sd Y).1 0 j = st j)
theorem coE_rst {n : Nat} {P Q : zSt} (h1 : ∀ i, i < 3 → ∀ j, j < n → P i j = Q i j) (h2 : P 8 0 = Q 8 0) : coE n (rst P) (rst Q) := by
  refine ⟨fun i hi j hj => ?_, fun k hk => ?_⟩
  · unfold rst
    rw [zu_ne _ (by omega), zu_ne _ (by omega), zu_ne _ (by omega), zu_ne _ (by omega)]
    exact h1 i hi j hj
  · match k, hk with
    | 0, _ => exact h2
    | 1, _ => rfl
    | 2, _ => rfl
theorem ag_adm {T : Nat → TXT} {D P : zSt} {s e f y : Nat} {cm nn : Nat → Nat} {sd : Int32} (hD : okD D s e) (hs : s ≤ 8) (hsd : ∃ x, x < 65536 ∧ sd = nI x) (hnn : nnOK cm nn f) (h1 : ∀ i, i < 3 → ∀ j, j < pvn nn y → P i j = (agS T D s nn sd y).1 i j) : ∀ i, i < 3 → ∀ j, j < nn y → adP D (nn y - pvn nn y) (pvn nn y) P i j = (agS T D s nn sd y).1 i j := by
  intro i hi j hj
  have hle := pvn_le hnn y
  rw [(adP_o (D := D) (nn y - pvn nn y) (pvn nn y) P).1 i hi j (by omega)]
  by_cases e : pvn nn y ≤ j
  · rw [if_pos e, (agS_ok (T := T) hD hs hsd (nn_mo hnn) y).2 i hi j (by
      unfold pvn at e
      split at e
      · exact Or.inl ‹_›
      · exact Or.inr e)]
    match i, hi with
    | 0, _ => rfl
    | 1, _ => rfl
    | 2, _ => rfl
  · rw [if_neg e]
    exact h1 i hi j (by omega)
set_option maxHeartbeats 4000000 in
set_option maxRecDepth 100000 in
theorem c_again (T : Nat → TXT) (D : zSt) (s e f Y : Nat) (cm nn : Nat → Nat) (sd w : Int32) (σ : zSt) (he : EnvC σ D T s) (hD : okD D s e) (hsd0 : σ 3 13 = sd) (hsd : ∃ x, x < 65536 ∧ sd = nI x) (hnn : nnOK cm nn f) (hnf : nn Y = f) (hf : σ 3 11 = nI f) (hf40 : f ≤ 40) (hcm : ∀ j, j < f → σ 12 j = nI (cm j) ∧ cm j ≤ 239) (hD6 : σ 10 = D 6) (hY : σ 17 12 = nI Y) (hY2 : Y ≤ 239) : Con mX11_again 7 [.ref 0, .int w] σ (fun r τ => (isin w 2 ∧ r = some (.int (agA T D s f nn sd Y (σ 18) w)) ∧ fr27 σ τ) ∨ (¬ isin w 2 ∧ r = some (.int (-1)) ∧ τ = σ)) := by
  refine Con.of (lv := [.ref 0, .int w, .long 0, .long 0]) mk_X11_again rfl (Nat.le_of_ble_eq_true rfl) rfl (fun X F E => ?_)
  have hs8 := he.2.2.2.2.2.2.2.1
  have L : isin w 2 → ∀ (q y : Nat) (τ : zSt), y + q = Y → (∃ P, fr27 σ τ ∧ RC 27 (pvn nn y) s τ τ P ∧ (∀ i, i < 3 → ∀ j, j < pvn nn y → P i j = (agS T D s nn sd y).1 i j) ∧ P 8 0 = (agS T D s nn sd y).1 8 0 ∧ τ 27 8 = nI (pvn nn y) ∧ τ 27 12 = nI y ∧ τ 27 14 = (agS T D s nn sd y).2.1) → Gs X 21 [.ref 0, .int w, .int (agS T D s nn sd y).2.2, .int (nI y)] [] τ := by
    intro hA q
    induction q with
    | zero =>
      intro y τ hq hst
      have hq : y = Y := hq
      subst hq
      obtain ⟨P, hf27, hr, hP, hP8, h8, h12, h14⟩ := hst
      have e17 := hf27 17 (by decide) (by decide) (by decide)
      have e18 := hf27 18 (by decide) (by decide) (by decide)
      have hadm := ag_adm (T := T) (P := P) hD hs8 hsd hnn hP
      refine g_iload_n (nx := 22) 3 F dX11_again_21 rfl rfl rfl ?_
      refine g_aload_n (nx := 23) 0 F dX11_again_22 rfl rfl rfl ?_
      refine g_getR (nx := 26) F dX11_again_23 rfl fl_RX11_44 rfl (by decide) (by decide) rfl ?_
      refine g_getV (nx := 29) (nI y) F dX11_again_26 rfl fl_RX11_108 rfl (by decide) (by decide) rfl rfl ((congrFun e17 12).trans hY) ?_
      refine g_icmp_ge (nx := 32) 56 F dX11_again_29 rfl (by decide) (fun c_29 => ?_) (fun c_29 => absurd c_29 (by exact fun zq => zq (nI_le (Nat.le_refl y) (by omega))))
      refine g_aload_n (nx := 57) 0 F dX11_again_56 rfl rfl rfl ?_
      refine g_getR (nx := 60) F dX11_again_57 rfl fl_RX11_48 rfl (by decide) (by decide) rfl ?_
      refine g_aload_n (nx := 61) 0 F dX11_again_60 rfl rfl rfl ?_
      refine g_getR (nx := 64) F dX11_again_61 rfl fl_RX11_44 rfl (by decide) (by decide) rfl ?_
      refine g_getV (nx := 67) (nI y) F dX11_again_64 rfl fl_RX11_108 rfl (by decide) (by decide) rfl rfl ((congrFun e17 12).trans hY) ?_
      refine g_callV (nx := 70) 1 1 [.int (nI y)] F dX11_again_67 rfl ml_RX11_321 mo_X6_admitThoseOf rfl rfl rfl rfl (Nat.le_of_ble_eq_true rfl) (by first | decide | omega) (c_admitThose D P s (pvn nn y) (nn y) f y cm _ hr h8 hs8 ((congrFun (hf27 3 (by decide) (by decide) (by decide)) 11).trans hf) hf40 (by omega) (fun j hj => ⟨(congrFun (hf27 12 (by decide) (by decide) (by decide)) j).trans (hcm j hj).1, (hcm j hj).2⟩) ((hf27 10 (by decide) (by decide) (by decide)).trans hD6) (pvn_le hnn y) (hnn y).1 (fun j j1 j2 => pvn_in hnn j1 j2) (fun z => pvn_out hnn z)) (fun r_67 τ_67 q_67 => ?_)
      obtain ⟨rfl, hfa, hra, h8a, hka⟩ := q_67
      dsimp only [Option.toList, List.append, List.cons_append, List.nil_append]
      rw [hnf] at hra h8a hadm
      have hfr : fr27 σ τ_67 := fun a a1 a2 a3 => (hfa a a1 a2 a3).trans (hf27 a a1 a2 a3)
      have hst2 : ∀ j, j < f → τ_67 28 j = (agS T D s nn sd y).1 0 j := fun j hj => (congrFun (show τ_67 28 = _ from hra.2.2.2.2.1 0 (by decide)) j).trans (hadm 0 (by decide) j hj)
      refine g_iload_n (nx := 71) 1 F dX11_again_70 rfl rfl rfl ?_
      refine g_iconst (nx := 72) (1) F dX11_again_71 rfl rfl ?_
      refine g_icmp_ne (nx := 75) 77 F dX11_again_72 rfl (by decide) (fun c_72 => ?_) (fun c_72 => ?_)
      · refine g_iload_n (nx := 78) 1 F dX11_again_77 rfl rfl rfl ?_
        refine g_if_ne (nx := 81) 91 F dX11_again_78 rfl (by decide) (fun c_78 => ?_) (fun c_78 => ?_)
        · refine g_aload_n (nx := 92) 0 F dX11_again_91 rfl rfl rfl ?_
          refine g_getR (nx := 95) F dX11_again_92 rfl fl_RX11_48 rfl (by decide) (by decide) rfl ?_
          refine g_aload_n (nx := 96) 0 F dX11_again_95 rfl rfl rfl ?_
          refine g_getR (nx := 99) F dX11_again_96 rfl fl_RX11_44 rfl (by decide) (by decide) rfl ?_
          refine g_callV (nx := 102) 1 0 [.ref 17] F dX11_again_99 rfl ml_RX11_327 mo_X6_standsLike rfl rfl rfl rfl (Nat.le_of_ble_eq_true rfl) (by first | decide | omega) (c_standsLike f _ h8a hf40) (fun r_99 τ_99 q_99 => ?_)
          obtain ⟨rfl, et_99⟩ := q_99
          have et_99 := et_99.symm
          subst et_99
          dsimp only [Option.toList, List.append, List.cons_append, List.nil_append]
          refine g_if_eq (nx := 105) 109 F dX11_again_102 rfl (by decide) (fun c_102 => ?_) (fun c_102 => ?_)
          · refine g_iconst (nx := 110) (0) F dX11_again_109 rfl rfl ?_
            refine g_iret F E dX11_again_110 ?_
            refine Or.inl ⟨hA, ?_, hfr⟩
            unfold agA
            rw [if_neg c_72]
            first
              | (rw [if_pos c_78, dnF_congr hst2])
              | (rw [if_neg c_78]; refine congrArg (fun z => some (Value.int z)) (Eq.symm ?_); have hq := bI_n0.mp c_102; refine bI_t (fun j hj => ?_); rw [← hst2 j hj]; exact (hq j hj).trans (congrFun (hfr 18 (by decide) (by decide) (by decide)) j))
              | (rw [if_neg c_78]; refine congrArg (fun z => some (Value.int z)) (Eq.symm ?_); have hq := bI_0.mp c_102; refine bI_f (fun z => hq (fun j hj => ?_)); rw [hst2 j hj]; exact (z j hj).trans (congrFun (hfr 18 (by decide) (by decide) (by decide)) j).symm)
          · refine g_iconst (nx := 106) (1) F dX11_again_105 rfl rfl ?_
            refine g_goto 110 F dX11_again_106 (by decide) ?_
            refine g_iret F E dX11_again_110 ?_
            refine Or.inl ⟨hA, ?_, hfr⟩
            unfold agA
            rw [if_neg c_72]
            first
              | (rw [if_pos c_78, dnF_congr hst2])
              | (rw [if_neg c_78]; refine congrArg (fun z => some (Value.int z)) (Eq.symm ?_); have hq := bI_n0.mp c_102; refine bI_t (fun j hj => ?_); rw [← hst2 j hj]; exact (hq j hj).trans (congrFun (hfr 18 (by decide) (by decide) (by decide)) j))
              | (rw [if_neg c_78]; refine congrArg (fun z => some (Value.int z)) (Eq.symm ?_); have hq := bI_0.mp c_102; refine bI_f (fun z => hq (fun j hj => ?_)); rw [hst2 j hj]; exact (z j hj).trans (congrFun (hfr 18 (by decide) (by decide) (by decide)) j).symm)
        · refine g_aload_n (nx := 82) 0 F dX11_again_81 rfl rfl rfl ?_
          refine g_getR (nx := 85) F dX11_again_82 rfl fl_RX11_48 rfl (by decide) (by decide) rfl ?_
          refine g_callV (nx := 88) 0 1 [] F dX11_again_85 rfl ml_RX11_324 mo_X6_howManyDone rfl rfl rfl rfl (Nat.le_of_ble_eq_true rfl) (by first | decide | omega) (c_howManyDone s f _ h8a hf40 ((congrFun (hfr 3 (by decide) (by decide) (by decide)) 6).trans he.2.2.2.2.2.2.1)) (fun r_85 τ_85 q_85 => ?_)
          obtain ⟨rfl, et_85⟩ := q_85
          have et_85 := et_85.symm
          subst et_85
          dsimp only [Option.toList, List.append, List.cons_append, List.nil_append]
          refine g_goto 110 F dX11_again_88 (by decide) ?_
          refine g_iret F E dX11_again_110 ?_
          refine Or.inl ⟨hA, ?_, hfr⟩
          unfold agA
          rw [if_neg c_72]
          first
            | (rw [if_pos c_78, dnF_congr hst2])
            | (rw [if_neg c_78]; refine congrArg (fun z => some (Value.int z)) (Eq.symm ?_); have hq := bI_n0.mp c_102; refine bI_t (fun j hj => ?_); rw [← hst2 j hj]; exact (hq j hj).trans (congrFun (hfr 18 (by decide) (by decide) (by decide)) j))
            | (rw [if_neg c_78]; refine congrArg (fun z => some (Value.int z)) (Eq.symm ?_); have hq := bI_0.mp c_102; refine bI_f (fun z => hq (fun j hj => ?_)); rw [hst2 j hj]; exact (z j hj).trans (congrFun (hfr 18 (by decide) (by decide) (by decide)) j).symm)
      · refine g_iload_n (nx := 76) 2 F dX11_again_75 rfl rfl rfl ?_
        refine g_iret F E dX11_again_76 ?_
        exact Or.inl ⟨hA, by unfold agA; rw [if_pos c_72], hfr⟩
    | succ q ih =>
      intro y τ hq hst
      obtain ⟨P, hf27, hr, hP, hP8, h8, h12, h14⟩ := hst
      have e17 := hf27 17 (by decide) (by decide) (by decide)
      have hadm := ag_adm (T := T) (P := P) hD hs8 hsd hnn hP
      have hle := pvn_le hnn y
      have hle2 := (hnn y).1
      have hag := agS_ok (T := T) hD hs8 hsd (nn_mo hnn) y
      have ih := ih (y + 1)
      refine g_iload_n (nx := 22) 3 F dX11_again_21 rfl rfl rfl ?_
      refine g_aload_n (nx := 23) 0 F dX11_again_22 rfl rfl rfl ?_
      refine g_getR (nx := 26) F dX11_again_23 rfl fl_RX11_44 rfl (by decide) (by decide) rfl ?_
      refine g_getV (nx := 29) (nI Y) F dX11_again_26 rfl fl_RX11_108 rfl (by decide) (by decide) rfl rfl ((congrFun e17 12).trans hY) ?_
      refine g_icmp_ge (nx := 32) 56 F dX11_again_29 rfl (by decide) (fun c_29 => absurd c_29 (by exact nI_ge (by omega) (by omega))) (fun c_29 => ?_)
      refine g_aload_n (nx := 33) 0 F dX11_again_32 rfl rfl rfl ?_
      refine g_getR (nx := 36) F dX11_again_33 rfl fl_RX11_48 rfl (by decide) (by decide) rfl ?_
      refine g_iload_n (nx := 37) 3 F dX11_again_36 rfl rfl rfl ?_
      refine g_callV (nx := 40) 1 1 [.int (nI y)] F dX11_again_37 rfl ml_RX11_321 mo_X6_admitThoseOf rfl rfl rfl rfl (Nat.le_of_ble_eq_true rfl) (by first | decide | omega) (c_admitThose D P s (pvn nn y) (nn y) f y cm _ hr h8 hs8 ((congrFun (hf27 3 (by decide) (by decide) (by decide)) 11).trans hf) hf40 (by omega) (fun j hj => ⟨(congrFun (hf27 12 (by decide) (by decide) (by decide)) j).trans (hcm j hj).1, (hcm j hj).2⟩) ((hf27 10 (by decide) (by decide) (by decide)).trans hD6) (pvn_le hnn y) (hnn y).1 (fun j j1 j2 => pvn_in hnn j1 j2) (fun z => pvn_out hnn z)) (fun r_37 τ_37 q_37 => ?_)
      obtain ⟨rfl, hfa, hra, h8a, hka⟩ := q_37
      dsimp only [Option.toList, List.append, List.cons_append, List.nil_append]
      have hfr : fr27 σ τ_37 := fun a a1 a2 a3 => (hfa a a1 a2 a3).trans (hf27 a a1 a2 a3)
      have hce := coE_rst hadm (show adP D (nn y - pvn nn y) (pvn nn y) P 8 0 = (agS T D s nn sd y).1 8 0 by rw [(adP_o _ _ _).2]; exact hP8)
      refine g_iload_n (nx := 41) 2 F dX11_again_40 rfl rfl rfl ?_
      refine g_aload_n (nx := 42) 0 F dX11_again_41 rfl rfl rfl ?_
      refine g_getR (nx := 45) F dX11_again_42 rfl fl_RX11_48 rfl (by decide) (by decide) rfl ?_
      refine g_callV (nx := 48) 0 6 [] F dX11_again_45 rfl ml_RX11_162 mo_X6_goBy rfl rfl rfl rfl (Nat.le_of_ble_eq_true rfl) (by first | decide | omega) (c_goBy_27 T D (adP D (nn y - pvn nn y) (pvn nn y) P) τ_37 (nn y) s y e (agS T D s nn sd y).2.1 (nI y) τ_37 (EnvC_congr (fun a ha => hfr a (by omega) (by omega) (by omega)) he) hra ((hka 12 (by decide)).trans h12) ((hka 14 (by decide)).trans h14) h8a (by omega) hD (okP_coE hce (okP_rst (hag.1 (nn y))))) (fun r_45 τ_45 q_45 => ?_)
      obtain ⟨τ1, hg1, et_45, rfl⟩ := q_45
      subst et_45
      dsimp only [Option.toList, List.append, List.cons_append, List.nil_append]
      have hcm2 := coE_mon (T := T) (s := s) (D := D) (o := (agS T D s nn sd y).2.1) (y := nI y) (nn y) 0 _ _ (by omega) hce
      refine g_top _ (hcm2.2 2 (by decide)) ?_
      refine g_iadd (nx := 49) F dX11_again_48 rfl ?_
      refine g_istore_n (nx := 50) 2 F dX11_again_49 rfl rfl (by decide) ?_
      try dsimp only [List.set]
      refine g_iinc (nx := 53) (1) F dX11_again_50 rfl rfl (by decide) (by decide) ?_
      try dsimp only [List.set]
      refine g_goto 21 F dX11_again_53 (by decide) ?_
      rw [nI_1]
      refine ih _ (by omega) ⟨_, fun a a1 a2 a3 => ?_, RC_re (by decide) hg1 (fun a ha => ?_) (fun k hk => ?_), hcm2.1, hcm2.2 0 (by decide), ?_, ?_, ?_⟩
      · rw [zu_ne _ (by omega), zu_ne _ (by omega), hg1.1 a a1 a2 (by omega)]
        exact hfr a a1 a2 a3
      · rw [zu_ne _ ha, zu_ne _ ha]
      · rw [zu_off _ _ _ _ _ (by omega), zu_off _ _ _ _ _ (by omega)]
      · rw [zu_off _ _ _ _ _ (by decide), zu_off _ _ _ _ _ (by decide)]
        exact (hg1.2.1 8 (by decide) (by decide) (by decide) (by decide)).trans h8a
      · rw [zu_same]
      · rw [zu_off _ _ _ _ _ (by decide), zu_same]
        exact congrArg (fun z : Int32 => nI (bcN z.toInt.toNat)) (hcm2.2 1 (by decide))
  by_cases hA : isin w 2
  · refine g_iload_n (nx := 1) 1 F dX11_again_0 rfl rfl rfl ?_
    refine g_iconst (nx := 2) (2) F dX11_again_1 rfl rfl ?_
    refine g_callS (nx := 5) 2 0 [.int w, .int 2] F dX11_again_2 rfl ml_RX11_79 mo_X11_isOutside rfl rfl (Nat.le_of_ble_eq_true rfl) (by first | decide | omega) (c_isOutside w 2 _) (fun r_2 τ_2 q_2 => ?_)
    obtain ⟨rfl, et_2⟩ := q_2
    have et_2 := et_2.symm
    subst et_2
    dsimp only [Option.toList, List.append, List.cons_append, List.nil_append]
    refine g_if_eq (nx := 8) 10 F dX11_again_5 rfl (by decide) (fun c_5 => ?_) (fun c_5 => absurd c_5 (by exact fun zq => zq (bI_f (by unfold isin at hA; simp only [Int32.reduceToInt]; omega))))
    refine g_aload_n (nx := 11) 0 F dX11_again_10 rfl rfl rfl ?_
    refine g_getR (nx := 14) F dX11_again_11 rfl fl_RX11_48 rfl (by decide) (by decide) rfl ?_
    refine g_callV (nx := 17) 0 1 [] F dX11_again_14 rfl ml_RX11_318 mo_X6_begin rfl rfl rfl rfl (Nat.le_of_ble_eq_true rfl) (by first | decide | omega) (c_begin s _ hs8) (fun r_14 τ_14 q_14 => ?_)
    obtain ⟨rfl, hb1, hb2, hb3, hb4, hb5, hb6⟩ := q_14
    dsimp only [Option.toList, List.append, List.cons_append, List.nil_append]
    refine g_iconst (nx := 18) (0) F dX11_again_17 rfl rfl ?_
    refine g_istore_n (nx := 19) 2 F dX11_again_18 rfl rfl (by decide) ?_
    try dsimp only [List.set]
    refine g_iconst (nx := 20) (0) F dX11_again_19 rfl rfl ?_
    refine g_istore_n (nx := 21) 3 F dX11_again_20 rfl rfl (by decide) ?_
    try dsimp only [List.set]
    exact L hA Y 0 _ (by omega) ⟨_, hb1, hb2, fun i _ j hj => absurd hj (Nat.not_lt_zero j), hb5.trans hsd0, hb3, hb4, hb6⟩
  · refine g_iload_n (nx := 1) 1 F dX11_again_0 rfl rfl rfl ?_
    refine g_iconst (nx := 2) (2) F dX11_again_1 rfl rfl ?_
    refine g_callS (nx := 5) 2 0 [.int w, .int 2] F dX11_again_2 rfl ml_RX11_79 mo_X11_isOutside rfl rfl (Nat.le_of_ble_eq_true rfl) (by first | decide | omega) (c_isOutside w 2 _) (fun r_2 τ_2 q_2 => ?_)
    obtain ⟨rfl, et_2⟩ := q_2
    have et_2 := et_2.symm
    subst et_2
    dsimp only [Option.toList, List.append, List.cons_append, List.nil_append]
    refine g_if_eq (nx := 8) 10 F dX11_again_5 rfl (by decide) (fun c_5 => absurd c_5 (by exact bI_n0.mpr (by unfold isin at hA; simp only [Int32.reduceToInt]; omega))) (fun c_5 => ?_)
    refine g_iconst (nx := 9) (-1) F dX11_again_8 rfl rfl ?_
    refine g_iret F E dX11_again_9 ?_
    exact Or.inr ⟨hA, rfl, rfl⟩
