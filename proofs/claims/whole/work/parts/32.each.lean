set_option maxHeartbeats 4000000 in
set_option maxRecDepth 100000 in
theorem j_fill (a n : Nat) (v : Int32) (σ : zSt) (hk : zk a = (13, n)) : Con mJ7_fill_53178 0 [.ref a, .int v] σ (fun r τ => r = none ∧ τ = zs σ a (fun k => if k < n then v else σ a k)) := by
  refine Con.of (lv := [.ref a, .int v, .long 0, .long 0]) mk_J7_fill_53178 rfl (Nat.le_of_ble_eq_true rfl) rfl (fun X F E => ?_)
  have h31 := zk_small hk
  have L : ∀ (q j : Nat), j + q = n → Gs X 5 [.ref a, .int v, .int (nI j), .int (nI n)] [] (zs σ a (fun k => if k < j then v else σ a k)) := by
    intro q
    induction q with
    | zero =>
      intro j hj
      have hj : j = n := hj
      subst hj
      refine g_iload_n (nx := 6) 2 F dJ7_fill_53178_5 rfl rfl rfl ?_
      refine g_iload_n (nx := 7) 3 F dJ7_fill_53178_6 rfl rfl rfl ?_
      refine g_icmp_ge (nx := 10) 20 F dJ7_fill_53178_7 rfl (by decide) (fun c_7 => ?_) (fun c_7 => absurd c_7 (by exact fun zq => zq (nI_le (Nat.le_refl j) h31)))
      refine g_vret F E dJ7_fill_53178_20 ?_
      exact ⟨rfl, rfl⟩
    | succ q ih =>
      intro j hj
      refine g_iload_n (nx := 6) 2 F dJ7_fill_53178_5 rfl rfl rfl ?_
      refine g_iload_n (nx := 7) 3 F dJ7_fill_53178_6 rfl rfl rfl ?_
      refine g_icmp_ge (nx := 10) 20 F dJ7_fill_53178_7 rfl (by decide) (fun c_7 => absurd c_7 (by exact nI_ge (by omega) h31)) (fun c_7 => ?_)
      refine g_aload_n (nx := 11) 0 F dJ7_fill_53178_10 rfl rfl rfl ?_
      refine g_iload_n (nx := 12) 2 F dJ7_fill_53178_11 rfl rfl rfl ?_
      refine g_iload_n (nx := 13) 1 F dJ7_fill_53178_12 rfl rfl rfl ?_
      refine g_iastN (nx := 14) (j) F dJ7_fill_53178_13 rfl hk (by omega) ?_
      refine g_iinc (nx := 17) (1) F dJ7_fill_53178_14 rfl rfl (by decide) (by decide) ?_
      try dsimp only [List.set]
      refine g_goto 5 F dJ7_fill_53178_17 (by decide) ?_
      rw [nI_1, zs_zu]
      refine g_st (zs σ a (fun k => if k < (j + 1) then v else σ a k)) ?_ (ih (j + 1) (by omega))
      congr 1
      funext k
      unfold upd
      by_cases e : k = j
      · rw [if_pos e, if_pos (by omega)]
      · rw [if_neg e]
        by_cases e2 : k < j
        · simp only [if_pos e2, if_pos (show k < j + 1 by omega)]
        · simp only [if_neg e2, if_neg (show ¬ k < j + 1 by omega)]
  refine g_iconst (nx := 1) (0) F dJ7_fill_53178_0 rfl rfl ?_
  refine g_istore_n (nx := 2) 2 F dJ7_fill_53178_1 rfl rfl (by decide) ?_
  try dsimp only [List.set]
  refine g_aload_n (nx := 3) 0 F dJ7_fill_53178_2 rfl rfl rfl ?_
  refine g_alen (nx := 4) F dJ7_fill_53178_3 rfl hk (Or.inr rfl) ?_
  refine g_istore_n (nx := 5) 3 F dJ7_fill_53178_4 rfl rfl (by decide) ?_
  try dsimp only [List.set]
  refine g_st (zs σ a (fun k => if k < 0 then v else σ a k)) ?_ (L n 0 (by omega))
  rw [zs_id]
  funext k
  rw [if_neg (Nat.not_lt_zero k)]
theorem bpK_ex (w : Nat → Nat) (n o : Nat) : ∀ k, k ≤ n → ∃ best most, bpK w n o k best most
  | 0, _ => ⟨0, 0, Or.inl ⟨rfl, rfl, fun j hj => absurd hj (Nat.not_lt_zero j)⟩⟩
  | k + 1, hk => by
    obtain ⟨best, most, h⟩ := bpK_ex w n o k (by omega)
    have hcp : 0 < cw w n (w k) := fb_ct_pos.mpr ⟨k, by omega, decide_eq_true (Nat.le_refl _)⟩
    rcases Nat.lt_or_ge o (w k) with hok | hok
    · by_cases hm : (w k - o) * cw w n (w k) < most ∨ ((w k - o) * cw w n (w k) = most ∧ best ≤ w k - o)
      · exact ⟨_, _, bpK_keep hcp hok h hm⟩
      · exact ⟨_, _, bpK_new hok h (by omega)⟩
    · exact ⟨_, _, bpK_skip hok h⟩
theorem bpX_is (w : Nat → Nat) (n o : Nat) : IsBest w n o (bpX w n o) := by
  obtain ⟨best, most, h⟩ := bpK_ex w n o n (Nat.le_refl n)
  have := bpK_end h
  rw [bpX_eq this]
  exact this
theorem bpX_same {w u : Nat → Nat} {n : Nat} (hc : ∀ P : Nat → Bool, fb_ct (fun k => P (w k)) n = fb_ct (fun k => P (u k)) n) (o : Nat) : bpX w n o = bpX u n o := IsBest_one hc (bpX_is w n o) (bpX_is u n o)
theorem bpX_le {w : Nat → Nat} {n o : Nat} (hw : ∀ k, k < n → w k ≤ 10000) : bpX w n o = 0 ∨ o + bpX w n o ≤ 10000 := IsBest_le (bpX_is w n o) hw
/-! ONE FOR ALL, EACH FOR HIMSELF -/
noncomputable def oneR (w : Nat → Nat) (n : Nat) (x : Int32) : Int32 := if isin x 1 then (if x = 0 then nI (bpX w n 0) else nI (bpX w n 0 * cw w n (bpX w n 0))) else -1
def eaH (B : Nat → Nat) (pr : Nat → Nat) (all : Nat) : Nat → (Nat → Nat) × Nat × Bool
  | 0 => (pr, all, false)
  | h + 1 => (fun k => if k = h then B ((eaH B pr all h).2.1 - (eaH B pr all h).1 h) else (eaH B pr all h).1 k, ((eaH B pr all h).2.1 - (eaH B pr all h).1 h) + B ((eaH B pr all h).2.1 - (eaH B pr all h).1 h), (eaH B pr all h).2.2 || decide (B ((eaH B pr all h).2.1 - (eaH B pr all h).1 h) ≠ (eaH B pr all h).1 h))
def eaL (B : Nat → Nat) (m : Nat) : Nat → (Nat → Nat) → Nat → Option Nat
  | 0, _, _ => none
  | f + 1, pr, all => if (eaH B pr all m).2.2 then eaL B m f (eaH B pr all m).1 (eaH B pr all m).2.1 else some (eaH B pr all m).2.1
def eaV (w : Nat → Nat) (n : Nat) (x : Int32) : Option Nat → Int32
  | none => -2
  | some a => if x = 0 then nI a else nI (a * cw w n a)
noncomputable def eachR (w : Nat → Nat) (n : Nat) (m x : Int32) : Int32 := if ((1 ≤ m.toInt ∧ m.toInt ≤ 11) ∧ isin x 1) then eaV w n x (eaL (bpX w n) m.toInt.toNat 100 (fun _ => 0) 0) else -1
theorem eaH_inv {B : Nat → Nat} {m : Nat} (hB : ∀ o, B o = 0 ∨ o + B o ≤ 10000) {pr : Nat → Nat} {all : Nat} (h0 : all = fb_sm pr m) (h1 : all ≤ 10000) : ∀ h, h ≤ m → (eaH B pr all h).2.1 = fb_sm (eaH B pr all h).1 m ∧ (eaH B pr all h).2.1 ≤ 10000
  | 0, _ => ⟨h0, h1⟩
  | h + 1, hm => by
    obtain ⟨a1, a2⟩ := eaH_inv hB h0 h1 h (by omega)
    have hle := fb_sm_part (eaH B pr all h).1 (show h < m by omega)
    have hle2 : (eaH B pr all h).1 h ≤ (eaH B pr all h).2.1 := by omega
    have hu := fb_sm_upd (eaH B pr all h).1 (B ((eaH B pr all h).2.1 - (eaH B pr all h).1 h)) (show h < m by omega)
    have hb := hB ((eaH B pr all h).2.1 - (eaH B pr all h).1 h)
    refine ⟨?_, ?_⟩
    · show ((eaH B pr all h).2.1 - (eaH B pr all h).1 h) + B ((eaH B pr all h).2.1 - (eaH B pr all h).1 h) = fb_sm (fun k => if k = h then B ((eaH B pr all h).2.1 - (eaH B pr all h).1 h) else (eaH B pr all h).1 k) m
      omega
    · show ((eaH B pr all h).2.1 - (eaH B pr all h).1 h) + B ((eaH B pr all h).2.1 - (eaH B pr all h).1 h) ≤ 10000
      omega
theorem fb_sm_le1 (f : Nat → Nat) {i n : Nat} (h : i < n) : f i ≤ fb_sm f n := by
  have := fb_sm_part f h
  omega
theorem fb_sm_0 : ∀ m, fb_sm (fun _ => 0) m = 0
  | 0 => rfl
  | m + 1 => by rw [fb_sm_succ, fb_sm_0 m]
set_option maxHeartbeats 4000000 in
set_option maxRecDepth 100000 in
theorem c_one (n : Nat) (w : Nat → Nat) (x : Int32) (σ : zSt) (hn : σ 49 1 = nI n) (h : n ≤ 20) (hw : ∀ k, k < n → σ 50 k = nI (w k) ∧ w k ≤ 10000) (hs : srd w n) : Con mX11_one 1 [.ref 0, .int x] σ (fun r τ => r = some (.int (oneR w n x)) ∧ τ = σ) := by
  refine Con.of (lv := [.ref 0, .int x, .long 0]) mk_X11_one rfl (Nat.le_of_ble_eq_true rfl) rfl (fun X F E => ?_)
  have hb := bpX_le (n := n) (o := 0) (fun k hk => (hw k hk).2)
  by_cases hA : isin x 1
  · refine g_iload_n (nx := 1) 1 F dX11_one_0 rfl rfl rfl ?_
    refine g_iconst (nx := 2) (1) F dX11_one_1 rfl rfl ?_
    refine g_callS (nx := 5) 2 0 [.int x, .int 1] F dX11_one_2 rfl ml_RX11_79 mo_X11_isOutside rfl rfl (Nat.le_of_ble_eq_true rfl) (by first | decide | omega) (c_isOutside x 1 _) (fun r_2 τ_2 q_2 => ?_)
    obtain ⟨rfl, et_2⟩ := q_2
    have et_2 := et_2.symm
    subst et_2
    dsimp only [Option.toList, List.append, List.cons_append, List.nil_append]
    refine g_if_eq (nx := 8) 10 F dX11_one_5 rfl (by decide) (fun c_5 => ?_) (fun c_5 => absurd c_5 (by exact fun q => q (bI_f (by simp only [Int32.reduceToInt]; omega))))
    refine g_aload_n (nx := 11) 0 F dX11_one_10 rfl rfl rfl ?_
    refine g_getR (nx := 14) F dX11_one_11 rfl fl_RX11_61 rfl (by decide) (by decide) rfl ?_
    refine g_iconst (nx := 15) (0) F dX11_one_14 rfl rfl ?_
    show Gs X 15 _ (.int (nI 0) :: .ref 49 :: []) _
    refine g_callV (nx := 18) 1 0 [.int (nI 0)] F dX11_one_15 rfl ml_RX11_262 mo_X1_bestPrice rfl rfl rfl rfl (Nat.le_of_ble_eq_true rfl) (by first | decide | omega) (c_bestPrice n 0 w _ hn h (by omega) hw hs) (fun r_15 τ_15 q_15 => ?_)
    obtain ⟨p_15, rfl, rfl, hp_15⟩ := q_15
    dsimp only [Option.toList, List.append, List.cons_append, List.nil_append]
    refine g_istore_n (nx := 19) 2 F dX11_one_18 rfl rfl (by decide) ?_
    try dsimp only [List.set]
    refine g_iload_n (nx := 20) 1 F dX11_one_19 rfl rfl rfl ?_
    refine g_if_ne (nx := 23) 27 F dX11_one_20 rfl (by decide) (fun c_20 => ?_) (fun c_20 => ?_)
    · refine g_aload_n (nx := 28) 0 F dX11_one_27 rfl rfl rfl ?_
      refine g_getR (nx := 31) F dX11_one_28 rfl fl_RX11_61 rfl (by decide) (by decide) rfl ?_
      refine g_iload_n (nx := 32) 2 F dX11_one_31 rfl rfl rfl ?_
      refine g_callV (nx := 35) 1 0 [.int (nI (bpX w n 0))] F dX11_one_32 rfl ml_RX11_265 mo_X1_brings rfl rfl rfl rfl (Nat.le_of_ble_eq_true rfl) (by first | decide | omega) (c_brings n (bpX w n 0) w _ hn h (by omega) hw hs) (fun r_32 τ_32 q_32 => ?_)
      obtain ⟨rfl, et_32⟩ := q_32
      have et_32 := et_32.symm
      subst et_32
      dsimp only [Option.toList, List.append, List.cons_append, List.nil_append]
      refine g_iret F E dX11_one_35 ?_
      exact ⟨by rw [oneR, if_pos hA]; first | rw [if_pos (by assumption)] | rw [if_neg (by assumption)], rfl⟩
    · refine g_iload_n (nx := 24) 2 F dX11_one_23 rfl rfl rfl ?_
      refine g_goto 35 F dX11_one_24 (by decide) ?_
      refine g_iret F E dX11_one_35 ?_
      exact ⟨by rw [oneR, if_pos hA]; first | rw [if_pos (by assumption)] | rw [if_neg (by assumption)], rfl⟩
  · refine g_iload_n (nx := 1) 1 F dX11_one_0 rfl rfl rfl ?_
    refine g_iconst (nx := 2) (1) F dX11_one_1 rfl rfl ?_
    refine g_callS (nx := 5) 2 0 [.int x, .int 1] F dX11_one_2 rfl ml_RX11_79 mo_X11_isOutside rfl rfl (Nat.le_of_ble_eq_true rfl) (by first | decide | omega) (c_isOutside x 1 _) (fun r_2 τ_2 q_2 => ?_)
    obtain ⟨rfl, et_2⟩ := q_2
    have et_2 := et_2.symm
    subst et_2
    dsimp only [Option.toList, List.append, List.cons_append, List.nil_append]
    refine g_if_eq (nx := 8) 10 F dX11_one_5 rfl (by decide) (fun c_5 => ?_) (fun c_5 => ?_)
    · exfalso
      clear F E
      simp only [isin, bI_0, bI_n0, ne_eq, Decidable.not_not] at *
      (try simp only [fa_eq, fa_lt, fa_le, Int32.reduceToInt, Int32.toInt_zero] at *)
      omega
    · refine g_iconst (nx := 9) (-1) F dX11_one_8 rfl rfl ?_
      refine g_iret F E dX11_one_9 ?_
      exact ⟨by rw [oneR, if_neg hA], rfl⟩
set_option maxHeartbeats 4000000 in
set_option maxRecDepth 100000 in
theorem k_one (n : Nat) (w : Nat → Nat) (x : Int32) (σ : zSt) (hn : σ 145 51 = nI n) (h : n ≤ 20) (hw : ∀ k, k < n → σ 177 k = nI (w k) ∧ w k ≤ 10000) : Con mX12_one 2 [.ref 145, .int x] σ (fun r τ => r = some (.int (oneR w n x)) ∧ τ = σ) := by
  refine Con.of (lv := [.ref 145, .int x, .long 0]) mk_X12_one rfl (Nat.le_of_ble_eq_true rfl) rfl (fun X F E => ?_)
  have hb := bpX_le (n := n) (o := 0) (fun k hk => (hw k hk).2)
  by_cases hA : isin x 1
  · refine g_iload_n (nx := 1) 1 F dX12_one_0 rfl rfl rfl ?_
    refine g_iconst (nx := 2) (0) F dX12_one_1 rfl rfl ?_
    refine g_iconst (nx := 3) (1) F dX12_one_2 rfl rfl ?_
    refine g_callS (nx := 6) 3 0 [.int x, .int 0, .int 1] F dX12_one_3 rfl ml_RX12_174 mo_X12_in rfl rfl (Nat.le_of_ble_eq_true rfl) (by first | decide | omega) (k_in x 0 1 _) (fun r_3 τ_3 q_3 => ?_)
    obtain ⟨rfl, et_3⟩ := q_3
    have et_3 := et_3.symm
    subst et_3
    dsimp only [Option.toList, List.append, List.cons_append, List.nil_append]
    refine g_if_ne (nx := 9) 11 F dX12_one_6 rfl (by decide) (fun c_6 => ?_) (fun c_6 => absurd c_6 (by exact bI_n0.mpr (by simp only [Int32.reduceToInt]; omega)))
    refine g_aload_n (nx := 12) 0 F dX12_one_11 rfl rfl rfl ?_
    refine g_iconst (nx := 13) (0) F dX12_one_12 rfl rfl ?_
    show Gs X 13 _ (.int (nI 0) :: .ref 145 :: []) _
    refine g_callV (nx := 16) 1 1 [.int (nI 0)] F dX12_one_13 rfl ml_RX12_380 mo_X12_bestPrice rfl rfl rfl rfl (Nat.le_of_ble_eq_true rfl) (by first | decide | omega) (k_bestPrice n 0 w _ hn h (by omega) hw) (fun r_13 τ_13 q_13 => ?_)
    obtain ⟨p_13, rfl, rfl, hp_13⟩ := q_13
    dsimp only [Option.toList, List.append, List.cons_append, List.nil_append]
    refine g_istore_n (nx := 17) 2 F dX12_one_16 rfl rfl (by decide) ?_
    try dsimp only [List.set]
    refine g_iload_n (nx := 18) 1 F dX12_one_17 rfl rfl rfl ?_
    refine g_if_ne (nx := 21) 25 F dX12_one_18 rfl (by decide) (fun c_18 => ?_) (fun c_18 => ?_)
    · refine g_iload_n (nx := 26) 2 F dX12_one_25 rfl rfl rfl ?_
      refine g_aload_n (nx := 27) 0 F dX12_one_26 rfl rfl rfl ?_
      refine g_iload_n (nx := 28) 2 F dX12_one_27 rfl rfl rfl ?_
      refine g_callV (nx := 31) 1 0 [.int (nI (bpX w n 0))] F dX12_one_28 rfl ml_RX12_377 mo_X12_whoPay rfl rfl rfl rfl (Nat.le_of_ble_eq_true rfl) (by first | decide | omega) (k_whoPay n (bpX w n 0) w _ hn h (by omega) hw) (fun r_28 τ_28 q_28 => ?_)
      obtain ⟨rfl, et_28⟩ := q_28
      have et_28 := et_28.symm
      subst et_28
      dsimp only [Option.toList, List.append, List.cons_append, List.nil_append]
      refine g_imul (nx := 32) F dX12_one_31 rfl ?_
      try rw [pk_mul]
      refine g_iret F E dX12_one_32 ?_
      exact ⟨by rw [oneR, if_pos hA]; first | rw [if_pos (by assumption)] | rw [if_neg (by assumption)], rfl⟩
    · refine g_iload_n (nx := 22) 2 F dX12_one_21 rfl rfl rfl ?_
      refine g_goto 32 F dX12_one_22 (by decide) ?_
      try rw [pk_mul]
      refine g_iret F E dX12_one_32 ?_
      exact ⟨by rw [oneR, if_pos hA]; first | rw [if_pos (by assumption)] | rw [if_neg (by assumption)], rfl⟩
  · refine g_iload_n (nx := 1) 1 F dX12_one_0 rfl rfl rfl ?_
    refine g_iconst (nx := 2) (0) F dX12_one_1 rfl rfl ?_
    refine g_iconst (nx := 3) (1) F dX12_one_2 rfl rfl ?_
    refine g_callS (nx := 6) 3 0 [.int x, .int 0, .int 1] F dX12_one_3 rfl ml_RX12_174 mo_X12_in rfl rfl (Nat.le_of_ble_eq_true rfl) (by first | decide | omega) (k_in x 0 1 _) (fun r_3 τ_3 q_3 => ?_)
    obtain ⟨rfl, et_3⟩ := q_3
    have et_3 := et_3.symm
    subst et_3
    dsimp only [Option.toList, List.append, List.cons_append, List.nil_append]
    refine g_if_ne (nx := 9) 11 F dX12_one_6 rfl (by decide) (fun c_6 => ?_) (fun c_6 => ?_)
    · exfalso
      clear F E
      simp only [isin, bI_0, bI_n0, ne_eq, Decidable.not_not] at *
      (try simp only [fa_eq, fa_lt, fa_le, Int32.reduceToInt, Int32.toInt_zero] at *)
      omega
    · refine g_iconst (nx := 10) (-1) F dX12_one_9 rfl rfl ?_
      refine g_iret F E dX12_one_10 ?_
      exact ⟨by rw [oneR, if_neg hA], rfl⟩
set_option maxHeartbeats 4000000 in
set_option maxRecDepth 100000 in
theorem c_settle (n mh : Nat) (w : Nat → Nat) (σ : zSt) (hmh : mh ≤ 11) (hn : σ 49 1 = nI n) (hn20 : n ≤ 20) (hw : ∀ k, k < n → σ 50 k = nI (w k) ∧ w k ≤ 10000) (hs : srd w n) : Con mX1_settle 1 [.ref 49, .int (nI mh)] σ (fun r τ => (∃ g, τ = zs σ 51 g) ∧ r = some (.int (eaV w n 0 (eaL (bpX w n) mh 100 (fun _ => 0) 0)))) := by
  refine Con.of (lv := [.ref 49, .int (nI mh), .long 0, .long 0, .long 0, .long 0, .long 0, .long 0]) mk_X1_settle rfl (Nat.le_of_ble_eq_true rfl) rfl (fun X F E => ?_)
  have hB : ∀ o, bpX w n o = 0 ∨ o + bpX w n o ≤ 10000 := fun o => bpX_le (fun k hk => (hw k hk).2)
  have L : ∀ (f rd : Nat) (pr : Nat → Nat) (all : Nat) (g : Nat → Int32) (z1 z2 z3 z4 : Value), rd + f = 100 → all = fb_sm pr mh → all ≤ 10000 → (∀ k, k < 11 → g k = nI (pr k)) → Gs X 12 [.ref 49, .int (nI mh), .int (nI all), .int (nI rd), z1, z2, z3, z4] [] (zs σ 51 g) → True := fun _ _ _ _ _ _ _ _ _ _ _ _ _ _ => trivial
  clear L
  have L : ∀ (f rd : Nat) (pr : Nat → Nat) (all : Nat) (g : Nat → Int32) (z1 z2 z3 z4 : Value), rd + f = 100 → all = fb_sm pr mh → all ≤ 10000 → (∀ k, k < 11 → g k = nI (pr k)) → eaL (bpX w n) mh f pr all = eaL (bpX w n) mh 100 (fun _ => 0) 0 → Gs X 12 [.ref 49, .int (nI mh), .int (nI all), .int (nI rd), z1, z2, z3, z4] [] (zs σ 51 g) := by
    intro f
    induction f with
    | zero =>
      intro rd pr all g z1 z2 z3 z4 hrd ha0 ha1 hg hE
      have hrd : rd = 100 := hrd
      subst hrd
      refine g_iload_n (nx := 13) 3 F dX1_settle_12 rfl rfl rfl ?_
      refine g_bipush (nx := 15) (100) F dX1_settle_13 rfl (by decide) ?_
      refine g_icmp_ge (nx := 18) 108 F dX1_settle_15 rfl (by decide) (fun c_15 => ?_) (fun c_15 => absurd c_15 (by decide))
      refine g_bipush (nx := 110) (-2) F dX1_settle_108 rfl (by decide) ?_
      refine g_iret F E dX1_settle_110 ?_
      exact ⟨⟨g, rfl⟩, by rw [← hE]; rfl⟩
    | succ f ih =>
      intro rd pr all g z1 z2 z3 z4 hrd ha0 ha1 hg hE
      have LI : ∀ (q h : Nat) (g : Nat → Int32) (z3 z4 : Value), h + q = mh → (∀ k, k < 11 → g k = nI ((eaH (bpX w n) pr all h).1 k)) → Gs X 24 [.ref 49, .int (nI mh), .int (nI (eaH (bpX w n) pr all h).2.1), .int (nI rd), .int (bI ((eaH (bpX w n) pr all h).2.2 = true)), .int (nI h), z3, z4] [] (zs σ 51 g) := by
        intro q
        induction q with
        | zero =>
          intro h g z3 z4 hh hg
          have hh : h = mh := hh
          subst hh
          obtain ⟨i1, i2⟩ := eaH_inv hB ha0 ha1 h (Nat.le_refl h)
          refine g_iload (nx := 26) F dX1_settle_24 rfl rfl ?_
          refine g_iload_n (nx := 27) 1 F dX1_settle_26 rfl rfl rfl ?_
          refine g_icmp_ge (nx := 30) 95 F dX1_settle_27 rfl (by decide) (fun c_27 => ?_) (fun c_27 => absurd c_27 (by exact fun zq => zq (nI_le (Nat.le_refl h) (by omega))))
          refine g_iload (nx := 97) F dX1_settle_95 rfl rfl ?_
          refine g_if_ne (nx := 100) 102 F dX1_settle_97 rfl (by decide) (fun c_97 => ?_) (fun c_97 => ?_)
          · refine g_iinc (nx := 105) (1) F dX1_settle_102 rfl rfl (by decide) (by decide) ?_
            try dsimp only [List.set]
            refine g_goto 12 F dX1_settle_105 (by decide) ?_
            rw [eaL, if_pos (bI_n0.mp c_97)] at hE
            rw [nI_1]
            exact ih (rd + 1) _ _ g _ _ _ _ (by omega) i1 i2 hg hE
          · refine g_iload_n (nx := 101) 2 F dX1_settle_100 rfl rfl rfl ?_
            refine g_iret F E dX1_settle_101 ?_
            rw [eaL, if_neg (bI_0.mp c_97)] at hE
            exact ⟨⟨g, rfl⟩, by rw [← hE]; rfl⟩
        | succ q ihq =>
          intro h g z3 z4 hh hg
          obtain ⟨i1, i2⟩ := eaH_inv hB ha0 ha1 h (by omega)
          have hle : (eaH (bpX w n) pr all h).1 h ≤ (eaH (bpX w n) pr all h).2.1 := by rw [i1]; exact fb_sm_le1 _ (by omega)
          have hbo := hB ((eaH (bpX w n) pr all h).2.1 - (eaH (bpX w n) pr all h).1 h)
          have hprl : (eaH (bpX w n) pr all h).1 h ≤ 10000 := by omega
          refine g_iload (nx := 26) F dX1_settle_24 rfl rfl ?_
          refine g_iload_n (nx := 27) 1 F dX1_settle_26 rfl rfl rfl ?_
          refine g_icmp_ge (nx := 30) 95 F dX1_settle_27 rfl (by decide) (fun c_27 => absurd c_27 (by exact nI_ge (by omega) (by omega))) (fun c_27 => ?_)
          refine g_iload (nx := 32) F dX1_settle_30 rfl rfl ?_
          refine g_aload_n (nx := 33) 0 F dX1_settle_32 rfl rfl rfl ?_
          refine g_getR (nx := 36) F dX1_settle_33 rfl fl_RX1_15 rfl (by decide) (by decide) rfl ?_
          refine g_alen (nx := 37) F dX1_settle_36 rfl rfl (Or.inr rfl) ?_
          refine g_icmp_ge (nx := 40) 95 F dX1_settle_37 rfl (by decide) (fun c_37 => absurd c_37 (by exact nI_ge (b := 11) (by omega) (by omega))) (fun c_37 => ?_)
          refine g_iload_n (nx := 41) 2 F dX1_settle_40 rfl rfl rfl ?_
          refine g_aload_n (nx := 42) 0 F dX1_settle_41 rfl rfl rfl ?_
          refine g_getR (nx := 45) F dX1_settle_42 rfl fl_RX1_15 rfl (by decide) (by decide) rfl ?_
          refine g_iload (nx := 47) F dX1_settle_45 rfl rfl ?_
          refine g_ialdN (nx := 48) (h) (nI ((eaH (bpX w n) pr all h).1 h)) F dX1_settle_47 rfl rfl (by omega) (hg h (by omega)) ?_
          refine g_isub (nx := 49) F dX1_settle_48 rfl ?_
          rw [pk_sub hle]
          refine g_istore (nx := 51) F dX1_settle_49 rfl (by decide) ?_
          try dsimp only [List.set]
          refine g_aload_n (nx := 52) 0 F dX1_settle_51 rfl rfl rfl ?_
          refine g_iload (nx := 54) F dX1_settle_52 rfl rfl ?_
          refine g_callV (nx := 57) 1 0 [.int (nI ((eaH (bpX w n) pr all h).2.1 - (eaH (bpX w n) pr all h).1 h))] F dX1_settle_54 rfl ml_RX1_28 mo_X1_bestPrice rfl rfl rfl rfl (Nat.le_of_ble_eq_true rfl) (by first | decide | omega) (c_bestPrice n ((eaH (bpX w n) pr all h).2.1 - (eaH (bpX w n) pr all h).1 h) w _ hn hn20 (by omega) hw hs) (fun r_54 τ_54 q_54 => ?_)
          obtain ⟨p_54, rfl, et_54, hp_54⟩ := q_54
          subst et_54
          dsimp only [Option.toList, List.append, List.cons_append, List.nil_append]
          refine g_istore (nx := 59) F dX1_settle_57 rfl (by decide) ?_
          try dsimp only [List.set]
          refine g_iload (nx := 61) F dX1_settle_59 rfl rfl ?_
          refine g_aload_n (nx := 62) 0 F dX1_settle_61 rfl rfl rfl ?_
          refine g_getR (nx := 65) F dX1_settle_62 rfl fl_RX1_15 rfl (by decide) (by decide) rfl ?_
          refine g_iload (nx := 67) F dX1_settle_65 rfl rfl ?_
          refine g_ialdN (nx := 68) (h) (nI ((eaH (bpX w n) pr all h).1 h)) F dX1_settle_67 rfl rfl (by omega) (hg h (by omega)) ?_
          refine g_icmp_eq (nx := 71) 89 F dX1_settle_68 rfl (by decide) (fun c_68 => ?_) (fun c_68 => ?_)
          · refine g_iinc (nx := 92) (1) F dX1_settle_89 rfl rfl (by decide) (by decide) ?_
            try dsimp only [List.set]
            refine g_goto 24 F dX1_settle_92 (by decide) ?_
            rw [nI_1]
            first
              | (rw [zs_zu]
                 have hne : bpX w n ((eaH (bpX w n) pr all h).2.1 - (eaH (bpX w n) pr all h).1 h) ≠ (eaH (bpX w n) pr all h).1 h := fun e => c_68 (by rw [e])
                 have hh2 := fun z3 z4 => ihq (h + 1) (upd g h (nI (bpX w n ((eaH (bpX w n) pr all h).2.1 - (eaH (bpX w n) pr all h).1 h)))) z3 z4 (by omega) (fun k hk => by
                   unfold upd
                   simp only [eaH]
                   by_cases e : k = h
                   · rw [if_pos e, if_pos e]
                   · rw [if_neg e, if_neg e]; exact hg k hk)
                 have e2 : bI ((eaH (bpX w n) pr all (h + 1)).2.2 = true) = 1 := bI_t (by simp [eaH, hne])
                 rw [e2] at hh2
                 exact hh2 _ _)
              | (have heq : bpX w n ((eaH (bpX w n) pr all h).2.1 - (eaH (bpX w n) pr all h).1 h) = (eaH (bpX w n) pr all h).1 h := (nI_eq (by omega) (by omega)).mp c_68
                 have hh2 := fun z3 z4 => ihq (h + 1) g z3 z4 (by omega) (fun k hk => by
                   simp only [eaH]
                   by_cases e : k = h
                   · rw [if_pos e, heq, e]; exact hg h (by omega)
                   · rw [if_neg e]; exact hg k hk)
                 have e1 : (eaH (bpX w n) pr all (h + 1)).2.1 = (eaH (bpX w n) pr all h).2.1 := by
                   show (eaH (bpX w n) pr all h).2.1 - (eaH (bpX w n) pr all h).1 h + bpX w n ((eaH (bpX w n) pr all h).2.1 - (eaH (bpX w n) pr all h).1 h) = (eaH (bpX w n) pr all h).2.1
                   omega
                 have e2 : bI ((eaH (bpX w n) pr all (h + 1)).2.2 = true) = bI ((eaH (bpX w n) pr all h).2.2 = true) := bI_c (by simp [eaH, heq])
                 rw [e1, e2] at hh2
                 exact hh2 _ _)
          · refine g_aload_n (nx := 72) 0 F dX1_settle_71 rfl rfl rfl ?_
            refine g_getR (nx := 75) F dX1_settle_72 rfl fl_RX1_15 rfl (by decide) (by decide) rfl ?_
            refine g_iload (nx := 77) F dX1_settle_75 rfl rfl ?_
            refine g_iload (nx := 79) F dX1_settle_77 rfl rfl ?_
            refine g_iastN (nx := 80) (h) F dX1_settle_79 rfl rfl (by omega) ?_
            refine g_iload (nx := 82) F dX1_settle_80 rfl rfl ?_
            refine g_iload (nx := 84) F dX1_settle_82 rfl rfl ?_
            refine g_iadd (nx := 85) F dX1_settle_84 rfl ?_
            rw [nI_add]
            refine g_istore_n (nx := 86) 2 F dX1_settle_85 rfl rfl (by decide) ?_
            try dsimp only [List.set]
            refine g_iconst (nx := 87) (1) F dX1_settle_86 rfl rfl ?_
            refine g_istore (nx := 89) F dX1_settle_87 rfl (by decide) ?_
            try dsimp only [List.set]
            refine g_iinc (nx := 92) (1) F dX1_settle_89 rfl rfl (by decide) (by decide) ?_
            try dsimp only [List.set]
            refine g_goto 24 F dX1_settle_92 (by decide) ?_
            rw [nI_1]
            first
              | (rw [zs_zu]
                 have hne : bpX w n ((eaH (bpX w n) pr all h).2.1 - (eaH (bpX w n) pr all h).1 h) ≠ (eaH (bpX w n) pr all h).1 h := fun e => c_68 (by rw [e])
                 have hh2 := fun z3 z4 => ihq (h + 1) (upd g h (nI (bpX w n ((eaH (bpX w n) pr all h).2.1 - (eaH (bpX w n) pr all h).1 h)))) z3 z4 (by omega) (fun k hk => by
                   unfold upd
                   simp only [eaH]
                   by_cases e : k = h
                   · rw [if_pos e, if_pos e]
                   · rw [if_neg e, if_neg e]; exact hg k hk)
                 have e2 : bI ((eaH (bpX w n) pr all (h + 1)).2.2 = true) = 1 := bI_t (by simp [eaH, hne])
                 rw [e2] at hh2
                 exact hh2 _ _)
              | (have heq : bpX w n ((eaH (bpX w n) pr all h).2.1 - (eaH (bpX w n) pr all h).1 h) = (eaH (bpX w n) pr all h).1 h := (nI_eq (by omega) (by omega)).mp c_68
                 have hh2 := fun z3 z4 => ihq (h + 1) g z3 z4 (by omega) (fun k hk => by
                   simp only [eaH]
                   by_cases e : k = h
                   · rw [if_pos e, heq, e]; exact hg h (by omega)
                   · rw [if_neg e]; exact hg k hk)
                 have e1 : (eaH (bpX w n) pr all (h + 1)).2.1 = (eaH (bpX w n) pr all h).2.1 := by
                   show (eaH (bpX w n) pr all h).2.1 - (eaH (bpX w n) pr all h).1 h + bpX w n ((eaH (bpX w n) pr all h).2.1 - (eaH (bpX w n) pr all h).1 h) = (eaH (bpX w n) pr all h).2.1
                   omega
                 have e2 : bI ((eaH (bpX w n) pr all (h + 1)).2.2 = true) = bI ((eaH (bpX w n) pr all h).2.2 = true) := bI_c (by simp [eaH, heq])
                 rw [e1, e2] at hh2
                 exact hh2 _ _)
      refine g_iload_n (nx := 13) 3 F dX1_settle_12 rfl rfl rfl ?_
      refine g_bipush (nx := 15) (100) F dX1_settle_13 rfl (by decide) ?_
      refine g_icmp_ge (nx := 18) 108 F dX1_settle_15 rfl (by decide) (fun c_15 => absurd c_15 (by exact nI_ge (b := 100) (by omega) (by omega))) (fun c_15 => ?_)
      refine g_iconst (nx := 19) (0) F dX1_settle_18 rfl rfl ?_
      refine g_istore (nx := 21) F dX1_settle_19 rfl (by decide) ?_
      try dsimp only [List.set]
      refine g_iconst (nx := 22) (0) F dX1_settle_21 rfl rfl ?_
      refine g_istore (nx := 24) F dX1_settle_22 rfl (by decide) ?_
      try dsimp only [List.set]
      have hh := LI mh 0 g z3 z4 (by omega) hg
      rw [bI_f (by simp [eaH])] at hh
      exact hh
  refine g_aload_n (nx := 1) 0 F dX1_settle_0 rfl rfl rfl ?_
  refine g_getR (nx := 4) F dX1_settle_1 rfl fl_RX1_15 rfl (by decide) (by decide) rfl ?_
  refine g_iconst (nx := 5) (0) F dX1_settle_4 rfl rfl ?_
  refine g_callS (nx := 8) 2 0 [.ref 51, .int 0] F dX1_settle_5 rfl ml_RX1_22 mo_J7_fill_53178 rfl rfl (Nat.le_of_ble_eq_true rfl) (by first | decide | omega) (j_fill 51 11 0 _ rfl) (fun r_5 τ_5 q_5 => ?_)
  obtain ⟨rfl, et_5⟩ := q_5
  have et_5 := et_5.symm
  subst et_5
  dsimp only [Option.toList, List.append, List.cons_append, List.nil_append]
  refine g_iconst (nx := 9) (0) F dX1_settle_8 rfl rfl ?_
  refine g_istore_n (nx := 10) 2 F dX1_settle_9 rfl rfl (by decide) ?_
  try dsimp only [List.set]
  refine g_iconst (nx := 11) (0) F dX1_settle_10 rfl rfl ?_
  refine g_istore_n (nx := 12) 3 F dX1_settle_11 rfl rfl (by decide) ?_
  try dsimp only [List.set]
  exact L 100 0 (fun _ => 0) 0 _ _ _ _ _ (by omega) (fb_sm_0 mh).symm (by omega) (fun k hk => by rw [if_pos hk]; rfl) rfl
