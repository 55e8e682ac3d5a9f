theorem s7x {c : Nat → Nat} {hd : Nat → Bool} {K : TK} {z : CS} {p o l : Nat} {op vl : Nat → Nat} : Rn c hd ((7, 0) :: K, (p, o + 1, l, op, vl), z) (K, (p, o, l + 1, updN op l 10, updN vl l 0), z) := by
  have h := s7 (c := c) (hd := hd) (K := K) (z := z) (p := p) (o := o + 1) (l := l) (a := 0) (op := op) (vl := vl)
  rw [Nat.add_sub_cancel] at h
  exact h
theorem s10x {c : Nat → Nat} {hd : Nat → Bool} {K : TK} {z : CS} {p o l : Nat} {op vl : Nat → Nat} (h1 : c p = 41) : Rn c hd ((10, 0) :: K, (p, o + 1, l, op, vl), z) (K, (p + 1, o, l, op, vl), z) := by
  have h := s10_go (c := c) (hd := hd) (K := K) (z := z) (p := p) (o := o + 1) (l := l) (a := 0) (op := op) (vl := vl) h1
  rw [Nat.add_sub_cancel] at h
  exact h
def laV : List Nat → Nat → (Nat → Nat) → Nat → Nat
  | [], _, vl => vl
  | x :: r, l, vl => laV r l (updN vl x l)
theorem laV_app : ∀ (x y : List Nat) (l : Nat) (vl : Nat → Nat), laV (x ++ y) l vl = laV y l (laV x l vl)
  | [], _, _, _ => rfl
  | _ :: x, y, l, _ => laV_app x y l _
def jw (k : Nat) (x : List Nat) : TK := x.map (fun v => (k, v))
theorem jw_len (k : Nat) (x : List Nat) : (jw k x).length = x.length := List.length_map _
theorem jw_snd (k : Nat) (x : List Nat) : (jw k x).map (fun q => q.2) = x := by
  unfold jw
  rw [List.map_map]
  exact List.map_id' x
theorem Rn_la {c : Nat → Nat} {hd : Nat → Bool} {p o l : Nat} {K : TK} {z : CS} {op : Nat → Nat} : ∀ (x : List Nat) (vl : Nat → Nat), Rn c hd (jw 12 x ++ K, (p, o, l, op, vl), z) (K, (p, o, l, op, laV x l vl), z)
  | [], _ => Rn.rf _ _ _
  | a :: x, vl => Rn.tr (b := (jw 12 x ++ K, (p, o, l, op, updN vl a l), z)) s12 (Rn_la x (updN vl a l))
theorem kcS_pushW {σ : zSt} {n p o l x v : Nat} {c op vl : Nat → Nat} {w : TK} (H : kcS σ c n (p, o, l, op, vl) w) (hx : x ≤ 14) (hv : v < 1000) (hw : w.length < 170) : kcS (zu (zu σ 164 w.length (nI (1048576 * x + v))) 145 30 (nI (w.length + 1))) c n (p, o, l, op, vl) ((x, v) :: w) ∧ frK σ (zu (zu σ 164 w.length (nI (1048576 * x + v))) 145 30 (nI (w.length + 1))) := by
  obtain ⟨⟨a1, a2, a3⟩, ⟨b1, b2, b3, b4, b5⟩, ⟨c1, c2⟩, d1, d2, d3, d4⟩ := H
  refine ⟨⟨⟨a1, a2, a3⟩, ⟨b1, b2, b3, b4, rfl⟩, ⟨c1, ?_⟩, d1, d2, d3, hw⟩, (frK.w σ 164 w.length _ (Or.inr rfl)).tr (frK.u _ 30 _ (by decide))⟩
  rw [zu_ne _ (show (164 : Nat) ≠ 145 by decide), zu_at]
  exact wtA_push c2 hx hv
theorem kcS_land {σ : zSt} {n p o l : Nat} {c op vl : Nat → Nat} {x : Nat × Nat} {w : TK} (H : kcS σ c n (p, o, l, op, vl) (x :: w)) (hj : x.2 < l) : kcS (zu (zu σ 163 x.2 (nI (1048576 * op x.2 + l))) 145 30 (nI w.length)) c n (p, o, l, op, updN vl x.2 l) w ∧ frK σ (zu (zu σ 163 x.2 (nI (1048576 * op x.2 + l))) 145 30 (nI w.length)) := by
  obtain ⟨⟨a1, a2, a3⟩, ⟨b1, b2, b3, b4, b5⟩, ⟨c1, c2⟩, d1, d2, d3, d4⟩ := H
  refine ⟨⟨⟨a1, a2, a3⟩, ⟨b1, b2, b3, b4, rfl⟩, ⟨fun k hk => ?_, c2.2.2.2⟩, d1, d2, d3, Nat.le_of_succ_le d4⟩, (frK.w σ 163 x.2 _ (Or.inl rfl)).tr (frK.u _ 30 _ (by decide))⟩
  rw [zu_ne _ (show (163 : Nat) ≠ 145 by decide)]
  have hk2 := c1 k hk
  by_cases e : k = x.2
  · rw [e, zu_same, updN_at]
    rw [e] at hk2
    exact ⟨rfl, by omega, hk2.2.2⟩
  · rw [zu_off _ _ _ _ _ e, updN_ne _ _ e]
    exact hk2
set_option maxHeartbeats 4000000 in
set_option maxRecDepth 100000 in
theorem k_endsPiece (n p o l nn : Nat) (c op vl : Nat → Nat) (hd : Nat → Bool) (w w1 : TK) (σ : zSt) (H : kcS σ c n (p, o + nn, l, op, vl) w) (hw : w = List.replicate nn (10, 0) ++ w1) (hlp : l + nn ≤ 170) (hnt : ∀ x ∈ w1.head?, ¬ x.1 = 10) : Con mX12_endsPiece 1 [.ref 145] σ (fun r τ => r = none ∧ ∃ op2 vl2, kcS τ c n (p, o, l + nn, op2, vl2) w1 ∧ frK σ τ ∧ ∀ K z, Rn c hd (List.replicate nn (7, 0) ++ K, (p, o + nn, l, op, vl), z) (K, (p, o, l + nn, op2, vl2), z)) := by
  refine Con.of (lv := [.ref 145]) mk_X12_endsPiece rfl (Nat.le_of_ble_eq_true rfl) rfl (fun X F E => ?_)
  subst hw
  have L : ∀ (k l1 : Nat) (op1 vl1 : Nat → Nat) (τ : zSt), kcS τ c n (p, o + k, l1, op1, vl1) (List.replicate k (10, 0) ++ w1) → frK σ τ → l1 + k = l + nn → (∀ K z, Rn c hd (List.replicate nn (7, 0) ++ K, (p, o + nn, l, op, vl), z) (List.replicate k (7, 0) ++ K, (p, o + k, l1, op1, vl1), z)) → Gs X 0 [.ref 145] [] τ := by
    intro k
    induction k with
    | zero =>
      intro l1 op1 vl1 τ H1 hf1 hl1 hR1
      have hl1 : l1 = l + nn := hl1
      subst hl1
      have H1 : kcS τ c n (p, o, l + nn, op1, vl1) w1 := H1
      have hv : tpI w1 ≠ 10 := by
        cases w1 with
        | nil => decide
        | cons y w2 =>
          have hy := H1.2.2.1.2.2.1
          intro zq
          exact hnt y rfl ((nI_eq (b := 10) (by omega) (by omega)).mp zq)
      refine g_aload_n (nx := 1) 0 F dX12_endsPiece_0 rfl rfl rfl ?_
      refine g_callV (nx := 4) 0 0 [] F dX12_endsPiece_1 rfl ml_RX12_227 mo_X12_top rfl rfl rfl rfl (Nat.le_of_ble_eq_true rfl) (by first | decide | omega) (k_top n _ _ _ c _ _ _ _ H1) (fun r_1 τ_1 q_1 => ?_)
      obtain ⟨rfl, et_1⟩ := q_1
      have et_1 := et_1.symm
      subst et_1
      dsimp only [Option.toList, List.append, List.cons_append, List.nil_append]
      refine g_bipush (nx := 6) (10) F dX12_endsPiece_4 rfl (by decide) ?_
      refine g_icmp_ne (nx := 9) 39 F dX12_endsPiece_6 rfl (by decide) (fun c_6 => ?_) (fun c_6 => absurd c_6 (by exact hv))
      refine g_vret F E dX12_endsPiece_39 ?_
      exact ⟨rfl, op1, vl1, H1, hf1, hR1⟩
    | succ k ih =>
      intro l1 op1 vl1 τ H1 hf1 hl1 hR1
      have H1 : kcS τ c n (p, o + k + 1, l1, op1, vl1) ((10, 0) :: (List.replicate k (10, 0) ++ w1)) := H1
      have hR1 : ∀ K z, Rn c hd (List.replicate nn (7, 0) ++ K, (p, o + nn, l, op, vl), z) ((7, 0) :: (List.replicate k (7, 0) ++ K), (p, o + k + 1, l1, op1, vl1), z) := hR1
      refine g_aload_n (nx := 1) 0 F dX12_endsPiece_0 rfl rfl rfl ?_
      refine g_callV (nx := 4) 0 0 [] F dX12_endsPiece_1 rfl ml_RX12_227 mo_X12_top rfl rfl rfl rfl (Nat.le_of_ble_eq_true rfl) (by first | decide | omega) (k_top n _ _ _ c _ _ _ _ H1) (fun r_1 τ_1 q_1 => ?_)
      obtain ⟨rfl, et_1⟩ := q_1
      have et_1 := et_1.symm
      subst et_1
      dsimp only [Option.toList, List.append, List.cons_append, List.nil_append]
      refine g_bipush (nx := 6) (10) F dX12_endsPiece_4 rfl (by decide) ?_
      refine g_icmp_ne (nx := 9) 39 F dX12_endsPiece_6 rfl (by decide) (fun c_6 => absurd c_6 (by exact fun zq => zq rfl)) (fun c_6 => ?_)
      refine g_aload_n (nx := 10) 0 F dX12_endsPiece_9 rfl rfl rfl ?_
      refine g_bipush (nx := 12) (10) F dX12_endsPiece_10 rfl (by decide) ?_
      refine g_iconst (nx := 13) (0) F dX12_endsPiece_12 rfl rfl ?_
      refine g_callV (nx := 16) 2 0 [.int (10), .int (0)] F dX12_endsPiece_13 rfl ml_RX12_230 mo_X12_says rfl rfl rfl rfl (Nat.le_of_ble_eq_true rfl) (by first | decide | omega) (k_says n _ _ _ (10) (0) c _ _ (10) (0) _ _ H1 (rfl) (rfl) (by omega) (by decide) (by decide)) (fun r_13 τ_13 q_13 => ?_)
      obtain ⟨rfl, hS_13, hf_13⟩ := q_13
      dsimp only [Option.toList, List.append, List.cons_append, List.nil_append]
      refine g_aload_n (nx := 17) 0 F dX12_endsPiece_16 rfl rfl rfl ?_
      refine g_aload_n (nx := 18) 0 F dX12_endsPiece_17 rfl rfl rfl ?_
      refine g_getV (nx := 21) (nI ((List.replicate k (10, 0) ++ w1).length + 1)) F dX12_endsPiece_18 rfl fl_RX12_224 rfl (by decide) (by decide) rfl rfl (hS_13.2.1.2.2.2.2) ?_
      refine g_iconst (nx := 22) (1) F dX12_endsPiece_21 rfl rfl ?_
      refine g_isub (nx := 23) F dX12_endsPiece_22 rfl ?_
      rw [nI_pred]
      refine g_putI (nx := 26) F dX12_endsPiece_23 rfl fl_RX12_224 fi_11_30 rfl (by decide) (by decide) rfl rfl ?_
      refine g_aload_n (nx := 27) 0 F dX12_endsPiece_26 rfl rfl rfl ?_
      refine g_aload_n (nx := 28) 0 F dX12_endsPiece_27 rfl rfl rfl ?_
      refine g_getV (nx := 31) (nI (o + k + 1)) F dX12_endsPiece_28 rfl fl_RX12_221 rfl (by decide) (by decide) rfl rfl (hS_13.2.1.2.2.1) ?_
      refine g_iconst (nx := 32) (1) F dX12_endsPiece_31 rfl rfl ?_
      refine g_isub (nx := 33) F dX12_endsPiece_32 rfl ?_
      rw [nI_pred]
      refine g_putI (nx := 36) F dX12_endsPiece_33 rfl fl_RX12_221 fi_11_28 rfl (by decide) (by decide) rfl rfl ?_
      refine g_goto 0 F dX12_endsPiece_36 (by decide) ?_
      refine ih (l1 + 1) (updN op1 l1 10) (updN vl1 l1 0) _ (kcS_145 hS_13 (fun a ha => by rw [zu_ne _ ha, zu_ne _ ha]) hS_13.2.1.1 rfl rfl rfl rfl (fun h => h.2.2.2) hS_13.2.2.2.1 (Nat.le_of_succ_le hS_13.2.2.2.2.1) (Nat.le_of_succ_le hS_13.2.2.2.2.2.2)) (((hf1.tr hf_13).tr (frK.u _ 30 _ (by decide))).tr (frK.u _ 28 _ (by decide))) (by omega) (fun K z => (hR1 K z).tr s7x)
  exact L nn l op vl σ H (frK.rf σ) rfl (fun K z => Rn.rf _ _ _)
set_option maxHeartbeats 4000000 in
set_option maxRecDepth 100000 in
theorem k_lands (n p o l : Nat) (c op vl : Nat → Nat) (js0 w w1 : TK) (b : Int32) (σ : zSt) (H : kcS σ c n (p, o, l, op, vl) w) (hw : w = js0 ++ w1) (hjs0 : ∀ x ∈ js0, (x.1 = 11 ∨ (¬ b.toInt = 0 ∧ x.1 = 12)) ∧ x.2 < l) (hnt : ∀ x ∈ w1.head?, ¬ (x.1 = 11 ∨ (¬ b.toInt = 0 ∧ x.1 = 12))) : Con mX12_lands 1 [.ref 145, .int b] σ (fun r τ => r = none ∧ kcS τ c n (p, o, l, op, laV (js0.map (fun q => q.2)) l vl) w1 ∧ frK σ τ) := by
  refine Con.of (lv := [.ref 145, .int b, .long 0]) mk_X12_lands rfl (Nat.le_of_ble_eq_true rfl) rfl (fun X F E => ?_)
  subst hw
  have L : ∀ (js : TK) (vl1 : Nat → Nat) (τ : zSt) (z2 : Value), kcS τ c n (p, o, l, op, vl1) (js ++ w1) → frK σ τ → (∀ x ∈ js, (x.1 = 11 ∨ (¬ b.toInt = 0 ∧ x.1 = 12)) ∧ x.2 < l) → laV (js.map (fun q => q.2)) l vl1 = laV (js0.map (fun q => q.2)) l vl → Gs X 0 [.ref 145, .int b, z2] [] τ := by
    intro js
    induction js with
    | nil =>
      intro vl1 τ z2 H1 hf1 hjs hV1
      have hV1 : vl1 = laV (js0.map (fun q => q.2)) l vl := hV1
      subst hV1
      have H1 : kcS τ c n (p, o, l, op, laV (js0.map (fun q => q.2)) l vl) w1 := H1
      have Z : Gs X 73 [.ref 145, .int b, z2] [] τ := by
        refine g_vret F E dX12_lands_73 ?_
        exact ⟨rfl, H1, hf1⟩
      have hw : ∃ v : Int, (tpI w1).toInt = v ∧ ¬ v = 11 ∧ (¬ b.toInt = 0 → ¬ v = 12) := by
        cases w1 with
        | nil => exact ⟨-1, rfl, by decide, fun _ => by decide⟩
        | cons y w2 =>
          have hy := H1.2.2.1.2.2.1
          have hz := hnt y rfl
          refine ⟨y.1, nI_toInt (by omega), fun q => hz (Or.inl (by omega)), fun q q2 => hz (Or.inr ⟨q, by omega⟩)⟩
      obtain ⟨v, ht, hv1, hv2⟩ := hw
      refine g_aload_n (nx := 1) 0 F dX12_lands_0 rfl rfl rfl ?_
      refine g_callV (nx := 4) 0 0 [] F dX12_lands_1 rfl ml_RX12_227 mo_X12_top rfl rfl rfl rfl (Nat.le_of_ble_eq_true rfl) (by first | decide | omega) (k_top n _ _ _ c _ _ _ _ H1) (fun r_1 τ_1 q_1 => ?_)
      obtain ⟨rfl, et_1⟩ := q_1
      have et_1 := et_1.symm
      subst et_1
      dsimp only [Option.toList, List.append, List.cons_append, List.nil_append]
      refine g_bipush (nx := 6) (11) F dX12_lands_4 rfl (by decide) ?_
      refine g_icmp_eq (nx := 9) 22 F dX12_lands_6 rfl (by decide) (fun c_6 => ?_) (fun c_6 => ?_)
      · exfalso
        clear F E Z H H1
        simp only [ht, fa_lt, fa_le, fa_eq, ne_eq, Int32.reduceToInt, Int32.toInt_zero, Decidable.not_not] at *
        omega
      · refine g_iload_n (nx := 10) 1 F dX12_lands_9 rfl rfl rfl ?_
        refine g_if_eq (nx := 13) 73 F dX12_lands_10 rfl (by decide) (fun c_10 => ?_) (fun c_10 => ?_)
        · exact Z
        · refine g_aload_n (nx := 14) 0 F dX12_lands_13 rfl rfl rfl ?_
          refine g_callV (nx := 17) 0 0 [] F dX12_lands_14 rfl ml_RX12_227 mo_X12_top rfl rfl rfl rfl (Nat.le_of_ble_eq_true rfl) (by first | decide | omega) (k_top n _ _ _ c _ _ _ _ H1) (fun r_14 τ_14 q_14 => ?_)
          obtain ⟨rfl, et_14⟩ := q_14
          have et_14 := et_14.symm
          subst et_14
          dsimp only [Option.toList, List.append, List.cons_append, List.nil_append]
          refine g_bipush (nx := 19) (12) F dX12_lands_17 rfl (by decide) ?_
          refine g_icmp_ne (nx := 22) 73 F dX12_lands_19 rfl (by decide) (fun c_19 => ?_) (fun c_19 => ?_)
          · exact Z
          · exfalso
            clear F E Z H H1
            simp only [ht, fa_lt, fa_le, fa_eq, ne_eq, Int32.reduceToInt, Int32.toInt_zero, Decidable.not_not] at *
            omega
    | cons x js ih =>
      intro vl1 τ z2 H1 hf1 hjs hV1
      have hx := hjs x List.mem_cons_self
      have H1 : kcS τ c n (p, o, l, op, vl1) (x :: (js ++ w1)) := H1
      have hV1 : laV (js.map (fun q => q.2)) l (updN vl1 x.2 l) = laV (js0.map (fun q => q.2)) l vl := hV1
      have hx1 := H1.2.2.1.2
      have hxs := H1.2.2.1.1 x.2 hx.2
      have hl170 := H1.2.2.2.2.2.1
      have hw170 : (js ++ w1).length + 1 ≤ 170 := H1.2.2.2.2.2.2
      have hP := kcS_land H1 hx.2
      have ht : (nI x.1).toInt = x.1 := nI_toInt (by omega)
      have T : Gs X 22 [.ref 145, .int b, z2] [] τ := by
        refine g_aload_n (nx := 23) 0 F dX12_lands_22 rfl rfl rfl ?_
        refine g_getR (nx := 26) F dX12_lands_23 rfl fl_RX12_65 rfl (by decide) (by decide) rfl ?_
        refine g_aload_n (nx := 27) 0 F dX12_lands_26 rfl rfl rfl ?_
        refine g_getV (nx := 30) (nI ((js ++ w1).length + 1)) F dX12_lands_27 rfl fl_RX12_224 rfl (by decide) (by decide) rfl rfl (H1.2.1.2.2.2.2) ?_
        refine g_iconst (nx := 31) (1) F dX12_lands_30 rfl rfl ?_
        refine g_isub (nx := 32) F dX12_lands_31 rfl ?_
        rw [nI_pred]
        refine g_ialdN (nx := 33) ((js ++ w1).length) (nI (1048576 * x.1 + x.2)) F dX12_lands_32 rfl rfl (by omega) (hx1.1) ?_
        refine g_ldc (nx := 35) (1048576) F dX12_lands_33 rfl co_RX12_220 ?_
        refine g_irem (nx := 36) F dX12_lands_35 rfl (by decide) ?_
        refine g_top (nI x.2) (wt_vl hx1.2.1 hx1.2.2.1) ?_
        refine g_istore_n (nx := 37) 2 F dX12_lands_36 rfl rfl (by decide) ?_
        try dsimp only [List.set]
        refine g_aload_n (nx := 38) 0 F dX12_lands_37 rfl rfl rfl ?_
        refine g_getR (nx := 41) F dX12_lands_38 rfl fl_RX12_62 rfl (by decide) (by decide) rfl ?_
        refine g_iload_n (nx := 42) 2 F dX12_lands_41 rfl rfl rfl ?_
        refine g_ldc (nx := 44) (1048576) F dX12_lands_42 rfl co_RX12_220 ?_
        refine g_aload_n (nx := 45) 0 F dX12_lands_44 rfl rfl rfl ?_
        refine g_getR (nx := 48) F dX12_lands_45 rfl fl_RX12_62 rfl (by decide) (by decide) rfl ?_
        refine g_iload_n (nx := 49) 2 F dX12_lands_48 rfl rfl rfl ?_
        refine g_ialdN (nx := 50) (x.2) (nI (1048576 * op x.2 + vl1 x.2)) F dX12_lands_49 rfl rfl (by omega) (hxs.1) ?_
        refine g_ldc (nx := 52) (1048576) F dX12_lands_50 rfl co_RX12_220 ?_
        refine g_idiv (nx := 53) F dX12_lands_52 rfl (by decide) ?_
        refine g_imul (nx := 54) F dX12_lands_53 rfl ?_
        refine g_aload_n (nx := 55) 0 F dX12_lands_54 rfl rfl rfl ?_
        refine g_getV (nx := 58) (nI l) F dX12_lands_55 rfl fl_RX12_217 rfl (by decide) (by decide) rfl rfl (H1.2.1.2.2.2.1) ?_
        refine g_iadd (nx := 59) F dX12_lands_58 rfl ?_
        refine g_top (nI (1048576 * op x.2 + l)) (by rw [cm_op hxs.2.2 hxs.2.1, wt_enc]) ?_
        refine g_iastN (nx := 60) (x.2) F dX12_lands_59 rfl rfl (by omega) ?_
        refine g_aload_n (nx := 61) 0 F dX12_lands_60 rfl rfl rfl ?_
        refine g_aload_n (nx := 62) 0 F dX12_lands_61 rfl rfl rfl ?_
        refine g_getV (nx := 65) (nI ((js ++ w1).length + 1)) F dX12_lands_62 rfl fl_RX12_224 rfl (by decide) (by decide) rfl rfl (H1.2.1.2.2.2.2) ?_
        refine g_iconst (nx := 66) (1) F dX12_lands_65 rfl rfl ?_
        refine g_isub (nx := 67) F dX12_lands_66 rfl ?_
        rw [nI_pred]
        refine g_putI (nx := 70) F dX12_lands_67 rfl fl_RX12_224 fi_11_30 rfl (by decide) (by decide) rfl rfl ?_
        refine g_goto 0 F dX12_lands_70 (by decide) ?_
        exact ih (updN vl1 x.2 l) _ _ hP.1 (hf1.tr hP.2) (fun y hy => hjs y (List.mem_cons_of_mem _ hy)) hV1
      refine g_aload_n (nx := 1) 0 F dX12_lands_0 rfl rfl rfl ?_
      refine g_callV (nx := 4) 0 0 [] F dX12_lands_1 rfl ml_RX12_227 mo_X12_top rfl rfl rfl rfl (Nat.le_of_ble_eq_true rfl) (by first | decide | omega) (k_top n _ _ _ c _ _ _ _ H1) (fun r_1 τ_1 q_1 => ?_)
      obtain ⟨rfl, et_1⟩ := q_1
      have et_1 := et_1.symm
      subst et_1
      dsimp only [Option.toList, List.append, List.cons_append, List.nil_append]
      refine g_bipush (nx := 6) (11) F dX12_lands_4 rfl (by decide) ?_
      refine g_icmp_eq (nx := 9) 22 F dX12_lands_6 rfl (by decide) (fun c_6 => ?_) (fun c_6 => ?_)
      · exact T
      · refine g_iload_n (nx := 10) 1 F dX12_lands_9 rfl rfl rfl ?_
        refine g_if_eq (nx := 13) 73 F dX12_lands_10 rfl (by decide) (fun c_10 => ?_) (fun c_10 => ?_)
        · exfalso
          clear F E T H H1 ih hjs hP hx1 hxs
          simp only [tpI, ht, fa_lt, fa_le, fa_eq, ne_eq, Int32.reduceToInt, Int32.toInt_zero, Decidable.not_not] at *
          omega
        · refine g_aload_n (nx := 14) 0 F dX12_lands_13 rfl rfl rfl ?_
          refine g_callV (nx := 17) 0 0 [] F dX12_lands_14 rfl ml_RX12_227 mo_X12_top rfl rfl rfl rfl (Nat.le_of_ble_eq_true rfl) (by first | decide | omega) (k_top n _ _ _ c _ _ _ _ H1) (fun r_14 τ_14 q_14 => ?_)
          obtain ⟨rfl, et_14⟩ := q_14
          have et_14 := et_14.symm
          subst et_14
          dsimp only [Option.toList, List.append, List.cons_append, List.nil_append]
          refine g_bipush (nx := 19) (12) F dX12_lands_17 rfl (by decide) ?_
          refine g_icmp_ne (nx := 22) 73 F dX12_lands_19 rfl (by decide) (fun c_19 => ?_) (fun c_19 => ?_)
          · exfalso
            clear F E T H H1 ih hjs hP hx1 hxs
            simp only [tpI, ht, fa_lt, fa_le, fa_eq, ne_eq, Int32.reduceToInt, Int32.toInt_zero, Decidable.not_not] at *
            omega
          · exact T
  exact L js0 vl σ _ H (frK.rf σ) hjs0 rfl
set_option maxHeartbeats 4000000 in
set_option maxRecDepth 100000 in
theorem k_jumps (x n p o l : Nat) (c op vl : Nat → Nat) (a : Int32) (w : TK) (σ : zSt) (H : kcS σ c n (p, o, l, op, vl) w) (ha : a = nI x) (hx : x < 13) (hp : p < n) (hw : w.length < 170) (hl : l < 170) : Con mX12_jumps 1 [.ref 145, .int a] σ (fun r τ => r = none ∧ kcS τ c n (p + 1, o, l + 1, updN op l x, updN vl l 0) ((x, l) :: w) ∧ frK σ τ) := by
  refine Con.of (lv := [.ref 145, .int a]) mk_X12_jumps rfl (Nat.le_of_ble_eq_true rfl) rfl (fun X F E => ?_)
  have hw170 := H.2.2.2.2.2.2
  have hn160 := H.1.2.1
  subst ha
  have hP := kcS_pushW (x := x) (v := l) H (by omega) (by omega) hw
  refine g_aload_n (nx := 1) 0 F dX12_jumps_0 rfl rfl rfl ?_
  refine g_getR (nx := 4) F dX12_jumps_1 rfl fl_RX12_65 rfl (by decide) (by decide) rfl ?_
  refine g_aload_n (nx := 5) 0 F dX12_jumps_4 rfl rfl rfl ?_
  refine g_getV (nx := 8) (nI w.length) F dX12_jumps_5 rfl fl_RX12_224 rfl (by decide) (by decide) rfl rfl (H.2.1.2.2.2.2) ?_
  refine g_ldc (nx := 10) (1048576) F dX12_jumps_8 rfl co_RX12_220 ?_
  refine g_iload_n (nx := 11) 1 F dX12_jumps_10 rfl rfl rfl ?_
  refine g_imul (nx := 12) F dX12_jumps_11 rfl ?_
  refine g_aload_n (nx := 13) 0 F dX12_jumps_12 rfl rfl rfl ?_
  refine g_getV (nx := 16) (nI l) F dX12_jumps_13 rfl fl_RX12_217 rfl (by decide) (by decide) rfl rfl (H.2.1.2.2.2.1) ?_
  refine g_iadd (nx := 17) F dX12_jumps_16 rfl ?_
  refine g_top (nI (1048576 * x + l)) (wt_enc x l) ?_
  refine g_iastN (nx := 18) (w.length) F dX12_jumps_17 rfl rfl (by omega) ?_
  refine g_aload_n (nx := 19) 0 F dX12_jumps_18 rfl rfl rfl ?_
  refine g_aload_n (nx := 20) 0 F dX12_jumps_19 rfl rfl rfl ?_
  refine g_getV (nx := 23) (nI w.length) F dX12_jumps_20 rfl fl_RX12_224 rfl (by decide) (by decide) rfl rfl (H.2.1.2.2.2.2) ?_
  refine g_iconst (nx := 24) (1) F dX12_jumps_23 rfl rfl ?_
  refine g_iadd (nx := 25) F dX12_jumps_24 rfl ?_
  rw [nI_1]
  refine g_putI (nx := 28) F dX12_jumps_25 rfl fl_RX12_224 fi_11_30 rfl (by decide) (by decide) rfl rfl ?_
  obtain ⟨σ1, e1⟩ : ∃ s, s = zu (zu σ 164 w.length (nI (1048576 * x + l))) 145 30 (nI (w.length + 1)) := ⟨_, rfl⟩
  rw [← e1] at hP
  rw [← e1]
  refine g_aload_n (nx := 29) 0 F dX12_jumps_28 rfl rfl rfl ?_
  refine g_iload_n (nx := 30) 1 F dX12_jumps_29 rfl rfl rfl ?_
  refine g_iconst (nx := 31) (0) F dX12_jumps_30 rfl rfl ?_
  refine g_callV (nx := 34) 2 0 [.int (nI x), .int (0)] F dX12_jumps_31 rfl ml_RX12_230 mo_X12_says rfl rfl rfl rfl (Nat.le_of_ble_eq_true rfl) (by first | decide | omega) (k_says n _ _ _ (x) (0) c _ _ (nI x) (0) _ _ hP.1 (rfl) (rfl) (by omega) (by decide) (by omega)) (fun r_31 τ_31 q_31 => ?_)
  obtain ⟨rfl, hS_31, hf_31⟩ := q_31
  dsimp only [Option.toList, List.append, List.cons_append, List.nil_append]
  refine g_aload_n (nx := 35) 0 F dX12_jumps_34 rfl rfl rfl ?_
  refine g_aload_n (nx := 36) 0 F dX12_jumps_35 rfl rfl rfl ?_
  refine g_getV (nx := 39) (nI p) F dX12_jumps_36 rfl fl_RX12_193 rfl (by decide) (by decide) rfl rfl (hS_31.2.1.1) ?_
  refine g_iconst (nx := 40) (1) F dX12_jumps_39 rfl rfl ?_
  refine g_iadd (nx := 41) F dX12_jumps_40 rfl ?_
  rw [nI_1]
  refine g_putI (nx := 44) F dX12_jumps_41 rfl fl_RX12_193 fi_11_25 rfl (by decide) (by decide) rfl rfl ?_
  refine g_vret F E dX12_jumps_44 ?_
  exact ⟨rfl, kcS_145 hS_31 (fun a ha => by rw [zu_ne _ ha]) rfl rfl hS_31.2.1.2.2.1 rfl hS_31.2.1.2.2.2.2 id hp hS_31.2.2.2.2.1 hS_31.2.2.2.2.2.2, (hP.2.tr hf_31).tr (frK.u _ 25 _ (by decide))⟩
set_option maxHeartbeats 4000000 in
set_option maxRecDepth 100000 in
theorem k_readsCompared (n p o l nn : Nat) (c op vl : Nat → Nat) (hd : Nat → Bool) (w w1 : TK) (σ : zSt) (H : kcS σ c n (p, o + nn, l, op, vl) w) (hw : w = List.replicate nn (10, 0) ++ w1) (hA : ¬ c p = 40) (hB : ¬ c p = 33) (hntw : ntW w) (hlp : l + nn ≤ p) (hwp : w.length ≤ p) (hnt : ∀ x ∈ w1.head?, ¬ x.1 = 10) : Con mX12_readsCompared 5 [.ref 145] σ (fun r τ => (r = some (.int 1) ∧ ∃ p2 l2 op2 vl2, kcS τ c n (p2, o, l2, op2, vl2) w1 ∧ frK σ τ ∧ p < p2 ∧ (l2 + p ≤ l + nn + p2 ∧ l ≤ l2) ∧ ∀ K z, Rn c hd ((6, 0) :: (List.replicate nn (7, 0) ++ K), (p, o + nn, l, op, vl), z) (K, (p2, o, l2, op2, vl2), z)) ∨ (r = some (.int 0) ∧ ∃ (f : Nat) (e : ES), kcF τ f e.1 ∧ frK σ τ ∧ ∀ K z, Rn c hd ((6, 0) :: (List.replicate nn (7, 0) ++ K), (p, o + nn, l, op, vl), z) ([(99, f)], e, z))) := by
  refine Con.of (lv := [.ref 145, .long 0]) mk_X12_readsCompared rfl (Nat.le_of_ble_eq_true rfl) rfl (fun X F E => ?_)
  have hn160 := H.1.2.1
  refine g_aload_n (nx := 1) 0 F dX12_readsCompared_0 rfl rfl rfl ?_
  refine g_callV (nx := 4) 0 4 [] F dX12_readsCompared_1 rfl ml_RX12_257 mo_X12_readsSum rfl rfl rfl rfl (Nat.le_of_ble_eq_true rfl) (by first | decide | omega) (k_readsSum n p (o + nn) l c op vl hd w _ H hntw (by omega) hwp) (fun r_1 τ_1 q_1 => ?_)
  skip
  rcases q_1 with ⟨rfl, p2, l2, op2, vl2, hS2, hf2, hp2, hl2, hR2⟩ | ⟨rfl, f2, e2, hF2, hf2, hR2⟩
  · dsimp only [Option.toList, List.append, List.cons_append, List.nil_append]
    have hor2 := inC_or hS2.1.1 p2
    have hcm : cmF (c p2) = if c p2 = 60 then 7 else if c p2 = 62 then 8 else if c p2 = 61 then 9 else 0 := rfl
    have hwl := congrArg List.length hw
    simp only [List.length_append, List.length_replicate] at hwl
    by_cases hC7 : c p2 = 60
    · have hk7 : cmF (c p2) = 7 := by rw [hcm, if_pos hC7]
      have hC : ¬ cmF (c p2) = 0 := by omega
      have hp2n := inC_lt (p := p2) hS2.1.1 (by omega)
      refine g_if_ne (nx := 7) 9 F dX12_readsCompared_4 rfl (by decide) (fun c_4 => ?_) (fun c_4 => absurd c_4 (by decide))
      refine g_aload_n (nx := 10) 0 F dX12_readsCompared_9 rfl rfl rfl ?_
      refine g_callV (nx := 13) 0 0 [] F dX12_readsCompared_10 rfl ml_RX12_199 mo_X12_here rfl rfl rfl rfl (Nat.le_of_ble_eq_true rfl) (by first | decide | omega) (k_here n _ _ _ c _ _ _ _ hS2) (fun r_10 τ_10 q_10 => ?_)
      obtain ⟨rfl, et_10⟩ := q_10
      have et_10 := et_10.symm
      subst et_10
      dsimp only [Option.toList, List.append, List.cons_append, List.nil_append]
      refine g_bipush (nx := 15) (60) F dX12_readsCompared_13 rfl (by decide) ?_
      refine g_icmp_ne (nx := 18) 23 F dX12_readsCompared_15 rfl (by decide) (fun c_15 => absurd c_15 (by exact fun zq => zq ((sgI_eq hor2 (by decide)).mpr hC7))) (fun c_15 => ?_)
      refine g_bipush (nx := 20) (7) F dX12_readsCompared_18 rfl (by decide) ?_
      refine g_goto 52 F dX12_readsCompared_20 (by decide) ?_
      refine g_top (nI (cmF (c p2))) (by rw [hk7]; rfl) ?_
      refine g_istore_n (nx := 53) 1 F dX12_readsCompared_52 rfl rfl (by decide) ?_
      try dsimp only [List.set]
      have hcmn : ¬ nI (cmF (c p2)) = -1 := nI_m1 (by omega)
      refine g_iload_n (nx := 54) 1 F dX12_readsCompared_53 rfl rfl rfl ?_
      refine g_iconst (nx := 55) (-1) F dX12_readsCompared_54 rfl rfl ?_
      refine g_icmp_ne (nx := 58) 68 F dX12_readsCompared_55 rfl (by decide) (fun c_55 => ?_) (fun c_55 => absurd c_55 hcmn)
      refine g_aload_n (nx := 69) 0 F dX12_readsCompared_68 rfl rfl rfl ?_
      refine g_aload_n (nx := 70) 0 F dX12_readsCompared_69 rfl rfl rfl ?_
      refine g_getV (nx := 73) (nI p2) F dX12_readsCompared_70 rfl fl_RX12_193 rfl (by decide) (by decide) rfl rfl (hS2.2.1.1) ?_
      refine g_iconst (nx := 74) (1) F dX12_readsCompared_73 rfl rfl ?_
      refine g_iadd (nx := 75) F dX12_readsCompared_74 rfl ?_
      rw [nI_1]
      refine g_putI (nx := 78) F dX12_readsCompared_75 rfl fl_RX12_193 fi_11_25 rfl (by decide) (by decide) rfl rfl ?_
      have H3 : kcS (zu τ_1 145 25 (nI (p2 + 1))) c n (p2 + 1, o + nn, l2, op2, vl2) w := kcS_145 hS2 (fun a ha => by rw [zu_ne _ ha]) rfl rfl hS2.2.1.2.2.1 rfl hS2.2.1.2.2.2.2 id hp2n hS2.2.2.2.2.1 hS2.2.2.2.2.2.2
      refine g_aload_n (nx := 79) 0 F dX12_readsCompared_78 rfl rfl rfl ?_
      refine g_callV (nx := 82) 0 4 [] F dX12_readsCompared_79 rfl ml_RX12_257 mo_X12_readsSum rfl rfl rfl rfl (Nat.le_of_ble_eq_true rfl) (by first | decide | omega) (k_readsSum n (p2 + 1) (o + nn) l2 c op2 vl2 hd w _ H3 hntw (by omega) (by omega)) (fun r_79 τ_79 q_79 => ?_)
      skip
      rcases q_79 with ⟨rfl, p3, l3, op3, vl3, hS3, hf3, hp3, hl3, hR3⟩ | ⟨rfl, f3, e3, hF3, hf3, hR3⟩
      · dsimp only [Option.toList, List.append, List.cons_append, List.nil_append]
        have hp3n := hS3.2.2.2.1
        refine g_if_ne (nx := 85) 87 F dX12_readsCompared_82 rfl (by decide) (fun c_82 => ?_) (fun c_82 => absurd c_82 (by decide))
        refine g_aload_n (nx := 88) 0 F dX12_readsCompared_87 rfl rfl rfl ?_
        refine g_iload_n (nx := 89) 1 F dX12_readsCompared_88 rfl rfl rfl ?_
        refine g_iconst (nx := 90) (0) F dX12_readsCompared_89 rfl rfl ?_
        refine g_callV (nx := 93) 2 0 [.int (nI (cmF (c p2))), .int (0)] F dX12_readsCompared_90 rfl ml_RX12_230 mo_X12_says rfl rfl rfl rfl (Nat.le_of_ble_eq_true rfl) (by first | decide | omega) (k_says n _ _ _ (cmF (c p2)) (0) c _ _ (nI (cmF (c p2))) (0) _ _ hS3 (rfl) (rfl) (by omega) (by decide) (by omega)) (fun r_90 τ_90 q_90 => ?_)
        obtain ⟨rfl, hS_90, hf_90⟩ := q_90
        dsimp only [Option.toList, List.append, List.cons_append, List.nil_append]
        refine g_aload_n (nx := 94) 0 F dX12_readsCompared_93 rfl rfl rfl ?_
        refine g_callV (nx := 97) 0 1 [] F dX12_readsCompared_94 rfl ml_RX12_260 mo_X12_endsPiece rfl rfl rfl rfl (Nat.le_of_ble_eq_true rfl) (by first | decide | omega) (k_endsPiece n p3 o _ nn c _ _ hd w w1 _ hS_90 hw (by omega) hnt) (fun r_94 τ_94 q_94 => ?_)
        obtain ⟨rfl, op5, vl5, hS5, hf5, hR5⟩ := q_94
        dsimp only [Option.toList, List.append, List.cons_append, List.nil_append]
        refine g_iconst (nx := 98) (1) F dX12_readsCompared_97 rfl rfl ?_
        refine g_zret F E dX12_readsCompared_98 (by first | rfl | assumption) ?_
        refine Or.inl ⟨rfl, p3, l3 + 1 + nn, op5, vl5, hS5, ((((hf2.tr (frK.u _ 25 _ (by decide))).tr hf3).tr hf_90).tr hf5), by omega, by omega, fun K z => ?_⟩
        exact (((((s6_cmp hA hB).tr (hR2 _ _)).tr (s11_go hC)).tr (hR3 _ _)).tr s2).tr (hR5 K z)
      · dsimp only [Option.toList, List.append, List.cons_append, List.nil_append]
        refine g_if_ne (nx := 85) 87 F dX12_readsCompared_82 rfl (by decide) (fun c_82 => absurd c_82 (by exact fun zq => zq rfl)) (fun c_82 => ?_)
        refine g_iconst (nx := 86) (0) F dX12_readsCompared_85 rfl rfl ?_
        refine g_zret F E dX12_readsCompared_86 (by first | rfl | assumption) ?_
        exact Or.inr ⟨rfl, f3, e3, hF3, (hf2.tr (frK.u _ 25 _ (by decide))).tr hf3, fun K z => (((s6_cmp hA hB).tr (hR2 _ _)).tr (s11_go hC)).tr (hR3 _ _)⟩
    · by_cases hC8 : c p2 = 62
      · have hk8 : cmF (c p2) = 8 := by rw [hcm, if_neg hC7, if_pos hC8]
        have hC : ¬ cmF (c p2) = 0 := by omega
        have hp2n := inC_lt (p := p2) hS2.1.1 (by omega)
        refine g_if_ne (nx := 7) 9 F dX12_readsCompared_4 rfl (by decide) (fun c_4 => ?_) (fun c_4 => absurd c_4 (by decide))
        refine g_aload_n (nx := 10) 0 F dX12_readsCompared_9 rfl rfl rfl ?_
        refine g_callV (nx := 13) 0 0 [] F dX12_readsCompared_10 rfl ml_RX12_199 mo_X12_here rfl rfl rfl rfl (Nat.le_of_ble_eq_true rfl) (by first | decide | omega) (k_here n _ _ _ c _ _ _ _ hS2) (fun r_10 τ_10 q_10 => ?_)
        obtain ⟨rfl, et_10⟩ := q_10
        have et_10 := et_10.symm
        subst et_10
        dsimp only [Option.toList, List.append, List.cons_append, List.nil_append]
        refine g_bipush (nx := 15) (60) F dX12_readsCompared_13 rfl (by decide) ?_
        refine g_icmp_ne (nx := 18) 23 F dX12_readsCompared_15 rfl (by decide) (fun c_15 => ?_) (fun c_15 => absurd c_15 (by exact fun zq => hC7 ((sgI_eq hor2 (by decide)).mp zq)))
        refine g_aload_n (nx := 24) 0 F dX12_readsCompared_23 rfl rfl rfl ?_
        refine g_callV (nx := 27) 0 0 [] F dX12_readsCompared_24 rfl ml_RX12_199 mo_X12_here rfl rfl rfl rfl (Nat.le_of_ble_eq_true rfl) (by first | decide | omega) (k_here n _ _ _ c _ _ _ _ hS2) (fun r_24 τ_24 q_24 => ?_)
        obtain ⟨rfl, et_24⟩ := q_24
        have et_24 := et_24.symm
        subst et_24
        dsimp only [Option.toList, List.append, List.cons_append, List.nil_append]
        refine g_bipush (nx := 29) (62) F dX12_readsCompared_27 rfl (by decide) ?_
        refine g_icmp_ne (nx := 32) 37 F dX12_readsCompared_29 rfl (by decide) (fun c_29 => absurd c_29 (by exact fun zq => zq ((sgI_eq hor2 (by decide)).mpr hC8))) (fun c_29 => ?_)
        refine g_bipush (nx := 34) (8) F dX12_readsCompared_32 rfl (by decide) ?_
        refine g_goto 52 F dX12_readsCompared_34 (by decide) ?_
        refine g_top (nI (cmF (c p2))) (by rw [hk8]; rfl) ?_
        refine g_istore_n (nx := 53) 1 F dX12_readsCompared_52 rfl rfl (by decide) ?_
        try dsimp only [List.set]
        have hcmn : ¬ nI (cmF (c p2)) = -1 := nI_m1 (by omega)
        refine g_iload_n (nx := 54) 1 F dX12_readsCompared_53 rfl rfl rfl ?_
        refine g_iconst (nx := 55) (-1) F dX12_readsCompared_54 rfl rfl ?_
        refine g_icmp_ne (nx := 58) 68 F dX12_readsCompared_55 rfl (by decide) (fun c_55 => ?_) (fun c_55 => absurd c_55 hcmn)
        refine g_aload_n (nx := 69) 0 F dX12_readsCompared_68 rfl rfl rfl ?_
        refine g_aload_n (nx := 70) 0 F dX12_readsCompared_69 rfl rfl rfl ?_
        refine g_getV (nx := 73) (nI p2) F dX12_readsCompared_70 rfl fl_RX12_193 rfl (by decide) (by decide) rfl rfl (hS2.2.1.1) ?_
        refine g_iconst (nx := 74) (1) F dX12_readsCompared_73 rfl rfl ?_
        refine g_iadd (nx := 75) F dX12_readsCompared_74 rfl ?_
        rw [nI_1]
        refine g_putI (nx := 78) F dX12_readsCompared_75 rfl fl_RX12_193 fi_11_25 rfl (by decide) (by decide) rfl rfl ?_
        have H3 : kcS (zu τ_1 145 25 (nI (p2 + 1))) c n (p2 + 1, o + nn, l2, op2, vl2) w := kcS_145 hS2 (fun a ha => by rw [zu_ne _ ha]) rfl rfl hS2.2.1.2.2.1 rfl hS2.2.1.2.2.2.2 id hp2n hS2.2.2.2.2.1 hS2.2.2.2.2.2.2
        refine g_aload_n (nx := 79) 0 F dX12_readsCompared_78 rfl rfl rfl ?_
        refine g_callV (nx := 82) 0 4 [] F dX12_readsCompared_79 rfl ml_RX12_257 mo_X12_readsSum rfl rfl rfl rfl (Nat.le_of_ble_eq_true rfl) (by first | decide | omega) (k_readsSum n (p2 + 1) (o + nn) l2 c op2 vl2 hd w _ H3 hntw (by omega) (by omega)) (fun r_79 τ_79 q_79 => ?_)
        skip
        rcases q_79 with ⟨rfl, p3, l3, op3, vl3, hS3, hf3, hp3, hl3, hR3⟩ | ⟨rfl, f3, e3, hF3, hf3, hR3⟩
        · dsimp only [Option.toList, List.append, List.cons_append, List.nil_append]
          have hp3n := hS3.2.2.2.1
          refine g_if_ne (nx := 85) 87 F dX12_readsCompared_82 rfl (by decide) (fun c_82 => ?_) (fun c_82 => absurd c_82 (by decide))
          refine g_aload_n (nx := 88) 0 F dX12_readsCompared_87 rfl rfl rfl ?_
          refine g_iload_n (nx := 89) 1 F dX12_readsCompared_88 rfl rfl rfl ?_
          refine g_iconst (nx := 90) (0) F dX12_readsCompared_89 rfl rfl ?_
          refine g_callV (nx := 93) 2 0 [.int (nI (cmF (c p2))), .int (0)] F dX12_readsCompared_90 rfl ml_RX12_230 mo_X12_says rfl rfl rfl rfl (Nat.le_of_ble_eq_true rfl) (by first | decide | omega) (k_says n _ _ _ (cmF (c p2)) (0) c _ _ (nI (cmF (c p2))) (0) _ _ hS3 (rfl) (rfl) (by omega) (by decide) (by omega)) (fun r_90 τ_90 q_90 => ?_)
          obtain ⟨rfl, hS_90, hf_90⟩ := q_90
          dsimp only [Option.toList, List.append, List.cons_append, List.nil_append]
          refine g_aload_n (nx := 94) 0 F dX12_readsCompared_93 rfl rfl rfl ?_
          refine g_callV (nx := 97) 0 1 [] F dX12_readsCompared_94 rfl ml_RX12_260 mo_X12_endsPiece rfl rfl rfl rfl (Nat.le_of_ble_eq_true rfl) (by first | decide | omega) (k_endsPiece n p3 o _ nn c _ _ hd w w1 _ hS_90 hw (by omega) hnt) (fun r_94 τ_94 q_94 => ?_)
          obtain ⟨rfl, op5, vl5, hS5, hf5, hR5⟩ := q_94
          dsimp only [Option.toList, List.append, List.cons_append, List.nil_append]
          refine g_iconst (nx := 98) (1) F dX12_readsCompared_97 rfl rfl ?_
          refine g_zret F E dX12_readsCompared_98 (by first | rfl | assumption) ?_
          refine Or.inl ⟨rfl, p3, l3 + 1 + nn, op5, vl5, hS5, ((((hf2.tr (frK.u _ 25 _ (by decide))).tr hf3).tr hf_90).tr hf5), by omega, by omega, fun K z => ?_⟩
          exact (((((s6_cmp hA hB).tr (hR2 _ _)).tr (s11_go hC)).tr (hR3 _ _)).tr s2).tr (hR5 K z)
        · dsimp only [Option.toList, List.append, List.cons_append, List.nil_append]
          refine g_if_ne (nx := 85) 87 F dX12_readsCompared_82 rfl (by decide) (fun c_82 => absurd c_82 (by exact fun zq => zq rfl)) (fun c_82 => ?_)
          refine g_iconst (nx := 86) (0) F dX12_readsCompared_85 rfl rfl ?_
          refine g_zret F E dX12_readsCompared_86 (by first | rfl | assumption) ?_
          exact Or.inr ⟨rfl, f3, e3, hF3, (hf2.tr (frK.u _ 25 _ (by decide))).tr hf3, fun K z => (((s6_cmp hA hB).tr (hR2 _ _)).tr (s11_go hC)).tr (hR3 _ _)⟩
      · by_cases hC9 : c p2 = 61
        · have hk9 : cmF (c p2) = 9 := by rw [hcm, if_neg hC7, if_neg hC8, if_pos hC9]
          have hC : ¬ cmF (c p2) = 0 := by omega
          have hp2n := inC_lt (p := p2) hS2.1.1 (by omega)
          refine g_if_ne (nx := 7) 9 F dX12_readsCompared_4 rfl (by decide) (fun c_4 => ?_) (fun c_4 => absurd c_4 (by decide))
          refine g_aload_n (nx := 10) 0 F dX12_readsCompared_9 rfl rfl rfl ?_
          refine g_callV (nx := 13) 0 0 [] F dX12_readsCompared_10 rfl ml_RX12_199 mo_X12_here rfl rfl rfl rfl (Nat.le_of_ble_eq_true rfl) (by first | decide | omega) (k_here n _ _ _ c _ _ _ _ hS2) (fun r_10 τ_10 q_10 => ?_)
          obtain ⟨rfl, et_10⟩ := q_10
          have et_10 := et_10.symm
          subst et_10
          dsimp only [Option.toList, List.append, List.cons_append, List.nil_append]
          refine g_bipush (nx := 15) (60) F dX12_readsCompared_13 rfl (by decide) ?_
          refine g_icmp_ne (nx := 18) 23 F dX12_readsCompared_15 rfl (by decide) (fun c_15 => ?_) (fun c_15 => absurd c_15 (by exact fun zq => hC7 ((sgI_eq hor2 (by decide)).mp zq)))
          refine g_aload_n (nx := 24) 0 F dX12_readsCompared_23 rfl rfl rfl ?_
          refine g_callV (nx := 27) 0 0 [] F dX12_readsCompared_24 rfl ml_RX12_199 mo_X12_here rfl rfl rfl rfl (Nat.le_of_ble_eq_true rfl) (by first | decide | omega) (k_here n _ _ _ c _ _ _ _ hS2) (fun r_24 τ_24 q_24 => ?_)
          obtain ⟨rfl, et_24⟩ := q_24
          have et_24 := et_24.symm
          subst et_24
          dsimp only [Option.toList, List.append, List.cons_append, List.nil_append]
          refine g_bipush (nx := 29) (62) F dX12_readsCompared_27 rfl (by decide) ?_
          refine g_icmp_ne (nx := 32) 37 F dX12_readsCompared_29 rfl (by decide) (fun c_29 => ?_) (fun c_29 => absurd c_29 (by exact fun zq => hC8 ((sgI_eq hor2 (by decide)).mp zq)))
          refine g_aload_n (nx := 38) 0 F dX12_readsCompared_37 rfl rfl rfl ?_
          refine g_callV (nx := 41) 0 0 [] F dX12_readsCompared_38 rfl ml_RX12_199 mo_X12_here rfl rfl rfl rfl (Nat.le_of_ble_eq_true rfl) (by first | decide | omega) (k_here n _ _ _ c _ _ _ _ hS2) (fun r_38 τ_38 q_38 => ?_)
          obtain ⟨rfl, et_38⟩ := q_38
          have et_38 := et_38.symm
          subst et_38
          dsimp only [Option.toList, List.append, List.cons_append, List.nil_append]
          refine g_bipush (nx := 43) (61) F dX12_readsCompared_41 rfl (by decide) ?_
          refine g_icmp_ne (nx := 46) 51 F dX12_readsCompared_43 rfl (by decide) (fun c_43 => absurd c_43 (by exact fun zq => zq ((sgI_eq hor2 (by decide)).mpr hC9))) (fun c_43 => ?_)
          refine g_bipush (nx := 48) (9) F dX12_readsCompared_46 rfl (by decide) ?_
          refine g_goto 52 F dX12_readsCompared_48 (by decide) ?_
          refine g_top (nI (cmF (c p2))) (by rw [hk9]; rfl) ?_
          refine g_istore_n (nx := 53) 1 F dX12_readsCompared_52 rfl rfl (by decide) ?_
          try dsimp only [List.set]
          have hcmn : ¬ nI (cmF (c p2)) = -1 := nI_m1 (by omega)
          refine g_iload_n (nx := 54) 1 F dX12_readsCompared_53 rfl rfl rfl ?_
          refine g_iconst (nx := 55) (-1) F dX12_readsCompared_54 rfl rfl ?_
          refine g_icmp_ne (nx := 58) 68 F dX12_readsCompared_55 rfl (by decide) (fun c_55 => ?_) (fun c_55 => absurd c_55 hcmn)
          refine g_aload_n (nx := 69) 0 F dX12_readsCompared_68 rfl rfl rfl ?_
          refine g_aload_n (nx := 70) 0 F dX12_readsCompared_69 rfl rfl rfl ?_
          refine g_getV (nx := 73) (nI p2) F dX12_readsCompared_70 rfl fl_RX12_193 rfl (by decide) (by decide) rfl rfl (hS2.2.1.1) ?_
          refine g_iconst (nx := 74) (1) F dX12_readsCompared_73 rfl rfl ?_
          refine g_iadd (nx := 75) F dX12_readsCompared_74 rfl ?_
          rw [nI_1]
          refine g_putI (nx := 78) F dX12_readsCompared_75 rfl fl_RX12_193 fi_11_25 rfl (by decide) (by decide) rfl rfl ?_
          have H3 : kcS (zu τ_1 145 25 (nI (p2 + 1))) c n (p2 + 1, o + nn, l2, op2, vl2) w := kcS_145 hS2 (fun a ha => by rw [zu_ne _ ha]) rfl rfl hS2.2.1.2.2.1 rfl hS2.2.1.2.2.2.2 id hp2n hS2.2.2.2.2.1 hS2.2.2.2.2.2.2
          refine g_aload_n (nx := 79) 0 F dX12_readsCompared_78 rfl rfl rfl ?_
          refine g_callV (nx := 82) 0 4 [] F dX12_readsCompared_79 rfl ml_RX12_257 mo_X12_readsSum rfl rfl rfl rfl (Nat.le_of_ble_eq_true rfl) (by first | decide | omega) (k_readsSum n (p2 + 1) (o + nn) l2 c op2 vl2 hd w _ H3 hntw (by omega) (by omega)) (fun r_79 τ_79 q_79 => ?_)
          skip
          rcases q_79 with ⟨rfl, p3, l3, op3, vl3, hS3, hf3, hp3, hl3, hR3⟩ | ⟨rfl, f3, e3, hF3, hf3, hR3⟩
          · dsimp only [Option.toList, List.append, List.cons_append, List.nil_append]
            have hp3n := hS3.2.2.2.1
            refine g_if_ne (nx := 85) 87 F dX12_readsCompared_82 rfl (by decide) (fun c_82 => ?_) (fun c_82 => absurd c_82 (by decide))
            refine g_aload_n (nx := 88) 0 F dX12_readsCompared_87 rfl rfl rfl ?_
            refine g_iload_n (nx := 89) 1 F dX12_readsCompared_88 rfl rfl rfl ?_
            refine g_iconst (nx := 90) (0) F dX12_readsCompared_89 rfl rfl ?_
            refine g_callV (nx := 93) 2 0 [.int (nI (cmF (c p2))), .int (0)] F dX12_readsCompared_90 rfl ml_RX12_230 mo_X12_says rfl rfl rfl rfl (Nat.le_of_ble_eq_true rfl) (by first | decide | omega) (k_says n _ _ _ (cmF (c p2)) (0) c _ _ (nI (cmF (c p2))) (0) _ _ hS3 (rfl) (rfl) (by omega) (by decide) (by omega)) (fun r_90 τ_90 q_90 => ?_)
            obtain ⟨rfl, hS_90, hf_90⟩ := q_90
            dsimp only [Option.toList, List.append, List.cons_append, List.nil_append]
            refine g_aload_n (nx := 94) 0 F dX12_readsCompared_93 rfl rfl rfl ?_
            refine g_callV (nx := 97) 0 1 [] F dX12_readsCompared_94 rfl ml_RX12_260 mo_X12_endsPiece rfl rfl rfl rfl (Nat.le_of_ble_eq_true rfl) (by first | decide | omega) (k_endsPiece n p3 o _ nn c _ _ hd w w1 _ hS_90 hw (by omega) hnt) (fun r_94 τ_94 q_94 => ?_)
            obtain ⟨rfl, op5, vl5, hS5, hf5, hR5⟩ := q_94
            dsimp only [Option.toList, List.append, List.cons_append, List.nil_append]
            refine g_iconst (nx := 98) (1) F dX12_readsCompared_97 rfl rfl ?_
            refine g_zret F E dX12_readsCompared_98 (by first | rfl | assumption) ?_
            refine Or.inl ⟨rfl, p3, l3 + 1 + nn, op5, vl5, hS5, ((((hf2.tr (frK.u _ 25 _ (by decide))).tr hf3).tr hf_90).tr hf5), by omega, by omega, fun K z => ?_⟩
            exact (((((s6_cmp hA hB).tr (hR2 _ _)).tr (s11_go hC)).tr (hR3 _ _)).tr s2).tr (hR5 K z)
          · dsimp only [Option.toList, List.append, List.cons_append, List.nil_append]
            refine g_if_ne (nx := 85) 87 F dX12_readsCompared_82 rfl (by decide) (fun c_82 => absurd c_82 (by exact fun zq => zq rfl)) (fun c_82 => ?_)
            refine g_iconst (nx := 86) (0) F dX12_readsCompared_85 rfl rfl ?_
            refine g_zret F E dX12_readsCompared_86 (by first | rfl | assumption) ?_
            exact Or.inr ⟨rfl, f3, e3, hF3, (hf2.tr (frK.u _ 25 _ (by decide))).tr hf3, fun K z => (((s6_cmp hA hB).tr (hR2 _ _)).tr (s11_go hC)).tr (hR3 _ _)⟩
        · have hC : cmF (c p2) = 0 := by rw [hcm, if_neg hC7, if_neg hC8, if_neg hC9]
          refine g_if_ne (nx := 7) 9 F dX12_readsCompared_4 rfl (by decide) (fun c_4 => ?_) (fun c_4 => absurd c_4 (by decide))
          refine g_aload_n (nx := 10) 0 F dX12_readsCompared_9 rfl rfl rfl ?_
          refine g_callV (nx := 13) 0 0 [] F dX12_readsCompared_10 rfl ml_RX12_199 mo_X12_here rfl rfl rfl rfl (Nat.le_of_ble_eq_true rfl) (by first | decide | omega) (k_here n _ _ _ c _ _ _ _ hS2) (fun r_10 τ_10 q_10 => ?_)
          obtain ⟨rfl, et_10⟩ := q_10
          have et_10 := et_10.symm
          subst et_10
          dsimp only [Option.toList, List.append, List.cons_append, List.nil_append]
          refine g_bipush (nx := 15) (60) F dX12_readsCompared_13 rfl (by decide) ?_
          refine g_icmp_ne (nx := 18) 23 F dX12_readsCompared_15 rfl (by decide) (fun c_15 => ?_) (fun c_15 => absurd c_15 (by exact fun zq => hC7 ((sgI_eq hor2 (by decide)).mp zq)))
          refine g_aload_n (nx := 24) 0 F dX12_readsCompared_23 rfl rfl rfl ?_
          refine g_callV (nx := 27) 0 0 [] F dX12_readsCompared_24 rfl ml_RX12_199 mo_X12_here rfl rfl rfl rfl (Nat.le_of_ble_eq_true rfl) (by first | decide | omega) (k_here n _ _ _ c _ _ _ _ hS2) (fun r_24 τ_24 q_24 => ?_)
          obtain ⟨rfl, et_24⟩ := q_24
          have et_24 := et_24.symm
          subst et_24
          dsimp only [Option.toList, List.append, List.cons_append, List.nil_append]
          refine g_bipush (nx := 29) (62) F dX12_readsCompared_27 rfl (by decide) ?_
          refine g_icmp_ne (nx := 32) 37 F dX12_readsCompared_29 rfl (by decide) (fun c_29 => ?_) (fun c_29 => absurd c_29 (by exact fun zq => hC8 ((sgI_eq hor2 (by decide)).mp zq)))
          refine g_aload_n (nx := 38) 0 F dX12_readsCompared_37 rfl rfl rfl ?_
          refine g_callV (nx := 41) 0 0 [] F dX12_readsCompared_38 rfl ml_RX12_199 mo_X12_here rfl rfl rfl rfl (Nat.le_of_ble_eq_true rfl) (by first | decide | omega) (k_here n _ _ _ c _ _ _ _ hS2) (fun r_38 τ_38 q_38 => ?_)
          obtain ⟨rfl, et_38⟩ := q_38
          have et_38 := et_38.symm
          subst et_38
          dsimp only [Option.toList, List.append, List.cons_append, List.nil_append]
          refine g_bipush (nx := 43) (61) F dX12_readsCompared_41 rfl (by decide) ?_
          refine g_icmp_ne (nx := 46) 51 F dX12_readsCompared_43 rfl (by decide) (fun c_43 => ?_) (fun c_43 => absurd c_43 (by exact fun zq => hC9 ((sgI_eq hor2 (by decide)).mp zq)))
          refine g_iconst (nx := 52) (-1) F dX12_readsCompared_51 rfl rfl ?_
          refine g_istore_n (nx := 53) 1 F dX12_readsCompared_52 rfl rfl (by decide) ?_
          try dsimp only [List.set]
          refine g_iload_n (nx := 54) 1 F dX12_readsCompared_53 rfl rfl rfl ?_
          refine g_iconst (nx := 55) (-1) F dX12_readsCompared_54 rfl rfl ?_
          refine g_icmp_ne (nx := 58) 68 F dX12_readsCompared_55 rfl (by decide) (fun c_55 => absurd c_55 (by exact fun zq => zq rfl)) (fun c_55 => ?_)
          refine g_aload_n (nx := 59) 0 F dX12_readsCompared_58 rfl rfl rfl ?_
          refine g_iconst (nx := 60) (1) F dX12_readsCompared_59 rfl rfl ?_
          refine g_aload_n (nx := 61) 0 F dX12_readsCompared_60 rfl rfl rfl ?_
          refine g_getV (nx := 64) (nI p2) F dX12_readsCompared_61 rfl fl_RX12_193 rfl (by decide) (by decide) rfl rfl (hS2.2.1.1) ?_
          refine g_callV (nx := 67) 2 0 [.int 1, .int (nI p2)] F dX12_readsCompared_64 rfl ml_RX12_206 mo_X12_wrong rfl rfl rfl rfl (Nat.le_of_ble_eq_true rfl) (by first | decide | omega) (k_wrong n _ _ _ 1 c _ _ 1 _ hS2 rfl) (fun r_64 τ_64 q_64 => ?_)
          obtain ⟨rfl, hF_64, hf_64⟩ := q_64
          dsimp only [Option.toList, List.append, List.cons_append, List.nil_append]
          refine g_zret F E dX12_readsCompared_67 (by first | rfl | assumption) ?_
          exact Or.inr ⟨rfl, 1, (p2, o + nn, l2, op2, vl2), hF_64, hf2.tr hf_64, fun K z => ((s6_cmp hA hB).tr (hR2 _ _)).tr (s11_bad hC)⟩
  · dsimp only [Option.toList, List.append, List.cons_append, List.nil_append]
    refine g_if_ne (nx := 7) 9 F dX12_readsCompared_4 rfl (by decide) (fun c_4 => absurd c_4 (by exact fun zq => zq rfl)) (fun c_4 => ?_)
    refine g_iconst (nx := 8) (0) F dX12_readsCompared_7 rfl rfl ?_
    refine g_zret F E dX12_readsCompared_8 (by first | rfl | assumption) ?_
    exact Or.inr ⟨rfl, f2, e2, hF2, hf2, fun K z => (s6_cmp hA hB).tr (hR2 _ _)⟩
