theorem sR_app (w : TK) : ∀ r : List LV, sR r w = sR r [] ++ w
  | [] => rfl
  | q :: r => by
    show (14, 0) :: (mS q.2 ++ (mS q.1 ++ sR r w)) = (14, 0) :: (mS q.2 ++ (mS q.1 ++ sR r [])) ++ w
    rw [sR_app w r, List.cons_append, List.append_assoc, List.append_assoc]
theorem sK_app (a m : List Nat) (r : List LV) (w : TK) : sK a m r w = sK a m r [] ++ w := by
  unfold sK
  rw [sR_app w r, List.append_assoc, List.append_assoc]
theorem sK_pops (a m : List Nat) (r : List LV) (w : TK) : sK a m r w = mS (m ++ a) ++ sR r w := by
  unfold sK mS
  rw [List.map_append, List.append_assoc]
theorem any_mS {x : List Nat} (h : ∀ y ∈ x, y ≠ 14) : (mS x).any is14 = false := by
  rw [List.any_eq_false]
  intro y hy
  obtain ⟨v, h1, rfl⟩ := List.mem_map.mp hy
  have := h v h1
  unfold is14
  simp only [decide_eq_true_eq]
  exact this
theorem any_0 {a m : List Nat} (h : okA a m) : (sK a m [] []).any is14 = false := by
  show (mS m ++ (mS a ++ [])).any is14 = false
  rw [List.any_append, List.any_append, any_mS (fun y hy => by have := h.2 y hy; omega), any_mS (fun y hy => by have := h.1 y hy; omega)]
  rfl
theorem any_1 {a m : List Nat} (q : LV) (r : List LV) : (sK a m (q :: r) []).any is14 = true := by
  show (mS m ++ (mS a ++ (14, 0) :: _)).any is14 = true
  rw [List.any_append, List.any_append, List.any_cons, show is14 (14, 0) = true from rfl, Bool.true_or, Bool.or_true, Bool.or_true]
/-- what a reading of the reference says -/
def kE (n : Nat) (c : Nat → Nat) (hd : Nat → Bool) (X : TK) (w : TK) (σ : zSt) (p o l : Nat) (op vl : Nat → Nat) (r : Option Value) (τ : zSt) : Prop :=
  (r = some (.int 1) ∧ ∃ p2 l2 op2 vl2, kcS τ c n (p2, o, l2, op2, vl2) w ∧ frK σ τ ∧ p < p2 ∧ (l2 + p ≤ l + p2 ∧ l ≤ l2) ∧ ∀ K z, Rn c hd (X ++ K, (p, o, l, op, vl), z) (K, (p2, o, l2, op2, vl2), z)) ∨
  (r = some (.int 0) ∧ ∃ (f : Nat) (e : ES), kcF τ f e.1 ∧ frK σ τ ∧ ∀ K z, Rn c hd (X ++ K, (p, o, l, op, vl), z) ([(99, f)], e, z))
def kF (n : Nat) (c : Nat → Nat) (hd : Nat → Bool) (a m : List Nat) (r : List LV) (w : TK) (σ : zSt) (p o l : Nat) (op vl : Nat → Nat) (x : Option Value) (τ : zSt) : Prop :=
  (x = some (.int 1) ∧ ∃ (p2 o2 : Nat) (op2 vl2 : Nat → Nat) (a2 m2 : List Nat) (r2 : List LV), kcS τ c n (p2, o2, l + 1, op2, vl2) (sK a2 m2 r2 w) ∧ frK σ τ ∧ p < p2 ∧ o2 + r.length = o + r2.length ∧ a2.length + m2.length + cL r2 = a.length + m.length + cL r ∧ okA a2 m2 ∧ okL r2 ∧ (sK a2 m2 r2 w).length + p < (sK a m r w).length + p2 ∧ ∀ K z, Rn c hd ((0, 0) :: tK a m r K, (p, o, l, op, vl), z) (tK a2 m2 r2 K, (p2, o2, l + 1, op2, vl2), z)) ∨
  (x = some (.int 0) ∧ ∃ (f : Nat) (e : ES), kcF τ f e.1 ∧ frK σ τ ∧ ∀ K z, Rn c hd ((0, 0) :: tK a m r K, (p, o, l, op, vl), z) ([(99, f)], e, z))
set_option maxHeartbeats 4000000 in
set_option maxRecDepth 100000 in
theorem k_readsFactor (n p o l : Nat) (c op vl : Nat → Nat) (hd : Nat → Bool) (a m : List Nat) (r : List LV) (w0 : TK) (σ : zSt) (H : kcS σ c n (p, o, l, op, vl) (sK a m r w0)) (hok0 : okA a m) (hokr0 : okL r) (hlp : l ≤ p) (hwp : (sK a m r w0).length ≤ p) : Con mX12_readsFactor 3 [.ref 145] σ (kF n c hd a m r w0 σ p o l op vl) := by
  refine Con.of (lv := [.ref 145, .long 0]) mk_X12_readsFactor rfl (Nat.le_of_ble_eq_true rfl) rfl (fun X F E => ?_)
  have hn160 := H.1.2.1
  have L : ∀ (q p1 o1 : Nat) (a1 m1 : List Nat) (r1 : List LV) (τ : zSt) (z1 : Value), n < p1 + q → kcS τ c n (p1, o1, l, op, vl) (sK a1 m1 r1 w0) → frK σ τ → okA a1 m1 → okL r1 → o1 + r.length = o + r1.length → a1.length + m1.length + cL r1 = a.length + m.length + cL r → p ≤ p1 → (sK a1 m1 r1 w0).length + p ≤ (sK a m r w0).length + p1 → (∀ K z, Rn c hd ((0, 0) :: tK a m r K, (p, o, l, op, vl), z) ((0, 0) :: tK a1 m1 r1 K, (p1, o1, l, op, vl), z)) → Gs X 0 [.ref 145, z1] [] τ := by
    intro q
    induction q with
    | zero =>
      intro p1 o1 a1 m1 r1 τ z1 hq H1
      exact absurd H1.2.2.2.1 (by omega)
    | succ q ih =>
      intro p1 o1 a1 m1 r1 τ z1 hq H1 hf1 hok hokr ho1 hc1 hp1 hw1 hR1
      have hpn := H1.2.2.2.1
      have hor := inC_or H1.1.1 p1
      by_cases hA : c p1 = 91
      · refine g_aload_n (nx := 1) 0 F dX12_readsFactor_0 rfl rfl rfl ?_
        refine g_callV (nx := 4) 0 0 [] F dX12_readsFactor_1 rfl ml_RX12_199 mo_X12_here rfl rfl rfl rfl (Nat.le_of_ble_eq_true rfl) (by first | decide | omega) (k_here n _ _ _ c _ _ _ _ H1) (fun r_1 τ_1 q_1 => ?_)
        obtain ⟨rfl, et_1⟩ := q_1
        have et_1 := et_1.symm
        subst et_1
        dsimp only [Option.toList, List.append, List.cons_append, List.nil_append]
        refine g_bipush (nx := 6) (91) F dX12_readsFactor_4 rfl (by decide) ?_
        refine g_icmp_ne (nx := 9) 20 F dX12_readsFactor_6 rfl (by decide) (fun c_6 => absurd c_6 (by exact fun zq => zq ((sgI_eq hor (by decide)).mpr hA))) (fun c_6 => ?_)
        refine g_aload_n (nx := 10) 0 F dX12_readsFactor_9 rfl rfl rfl ?_
        refine g_bipush (nx := 12) (14) F dX12_readsFactor_10 rfl (by decide) ?_
        refine g_callV (nx := 15) 1 1 [.int 14] F dX12_readsFactor_12 rfl ml_RX12_234 mo_X12_opens rfl rfl rfl rfl (Nat.le_of_ble_eq_true rfl) (by first | decide | omega) (k_opens 14 n p1 o1 l c op vl 14 _ _ H1 rfl (by decide) (inC_lt H1.1.1 (by omega)) (by omega)) (fun r_12 τ_12 q_12 => ?_)
        skip
        rcases q_12 with ⟨rfl, ho6, hS, hf⟩ | ⟨rfl, ho6, hF, hf⟩
        · dsimp only [Option.toList, List.append, List.cons_append, List.nil_append]
          refine g_if_ne (nx := 18) 0 F dX12_readsFactor_15 rfl (by decide) (fun c_15 => ?_) (fun c_15 => absurd c_15 (by decide))
          exact ih (p1 + 1) (o1 + 1) [] [] ((a1, m1) :: r1) _ _ (by omega) hS (hf1.tr hf) ⟨fun x hx => absurd hx List.not_mem_nil, fun x hx => absurd hx List.not_mem_nil⟩ ⟨hok, hokr⟩ (by simp only [List.length_cons]; omega) (by show 0 + 0 + (a1.length + m1.length + cL r1) = _; omega) (by omega) (by show (sK a1 m1 r1 w0).length + 1 + p ≤ _; omega) (fun K z => (hR1 K z).tr (s0_open hA ho6))
        · dsimp only [Option.toList, List.append, List.cons_append, List.nil_append]
          refine g_if_ne (nx := 18) 0 F dX12_readsFactor_15 rfl (by decide) (fun c_15 => absurd c_15 (by exact fun zq => zq rfl)) (fun c_15 => ?_)
          refine g_iconst (nx := 19) (0) F dX12_readsFactor_18 rfl rfl ?_
          refine g_zret F E dX12_readsFactor_19 (by first | rfl | assumption) ?_
          exact Or.inr ⟨rfl, 5, (p1, o1, l, op, vl), hF, hf1.tr hf, fun K z => (hR1 K z).tr (s0_deep hA ho6)⟩
      · by_cases hB : dg (c p1) = true
        · refine g_aload_n (nx := 1) 0 F dX12_readsFactor_0 rfl rfl rfl ?_
          refine g_callV (nx := 4) 0 0 [] F dX12_readsFactor_1 rfl ml_RX12_199 mo_X12_here rfl rfl rfl rfl (Nat.le_of_ble_eq_true rfl) (by first | decide | omega) (k_here n _ _ _ c _ _ _ _ H1) (fun r_1 τ_1 q_1 => ?_)
          obtain ⟨rfl, et_1⟩ := q_1
          have et_1 := et_1.symm
          subst et_1
          dsimp only [Option.toList, List.append, List.cons_append, List.nil_append]
          refine g_bipush (nx := 6) (91) F dX12_readsFactor_4 rfl (by decide) ?_
          refine g_icmp_ne (nx := 9) 20 F dX12_readsFactor_6 rfl (by decide) (fun c_6 => ?_) (fun c_6 => absurd c_6 (by exact fun zq => hA ((sgI_eq hor (by decide)).mp zq)))
          refine g_aload_n (nx := 21) 0 F dX12_readsFactor_20 rfl rfl rfl ?_
          refine g_callV (nx := 24) 0 1 [] F dX12_readsFactor_21 rfl ml_RX12_213 mo_X12_isDigit rfl rfl rfl rfl (Nat.le_of_ble_eq_true rfl) (by first | decide | omega) (k_isDigit n _ _ _ c _ _ _ _ H1) (fun r_21 τ_21 q_21 => ?_)
          obtain ⟨rfl, et_21⟩ := q_21
          have et_21 := et_21.symm
          subst et_21
          dsimp only [Option.toList, List.append, List.cons_append, List.nil_append]
          refine g_if_eq (nx := 27) 47 F dX12_readsFactor_24 rfl (by decide) (fun c_24 => absurd c_24 (by exact bI_n0.mpr hB)) (fun c_24 => ?_)
          refine g_aload_n (nx := 28) 0 F dX12_readsFactor_27 rfl rfl rfl ?_
          refine g_callV (nx := 31) 0 2 [] F dX12_readsFactor_28 rfl ml_RX12_237 mo_X12_readsNumber rfl rfl rfl rfl (Nat.le_of_ble_eq_true rfl) (by first | decide | omega) (k_readsNumber n p1 o1 l c op vl _ _ H1) (fun r_28 τ_28 q_28 => ?_)
          skip
          rcases q_28 with ⟨rfl, q, v, hA2, hN, H2, h32, hf2⟩ | ⟨rfl, q, v, hA2, hN, hF2, hf2⟩
          · dsimp only [Option.toList, List.append, List.cons_append, List.nil_append]
            have hq : p1 < q := by have := num_pos (q := 4) (v := 0) hB; rw [hN] at this; exact this
            have hv : v < 100000 := by have := (num_rng (c := c) 5 p1 0).1; rw [hN] at this; exact this
            refine g_if_ne (nx := 34) 36 F dX12_readsFactor_31 rfl (by decide) (fun c_31 => ?_) (fun c_31 => absurd c_31 (by decide))
            refine g_aload_n (nx := 37) 0 F dX12_readsFactor_36 rfl rfl rfl ?_
            refine g_iconst (nx := 38) (0) F dX12_readsFactor_37 rfl rfl ?_
            refine g_aload_n (nx := 39) 0 F dX12_readsFactor_38 rfl rfl rfl ?_
            refine g_getV (nx := 42) (nI v) F dX12_readsFactor_39 rfl fl_RX12_210 rfl (by decide) (by decide) rfl rfl (h32) ?_
            refine g_callV (nx := 45) 2 0 [.int (0), .int (nI v)] F dX12_readsFactor_42 rfl ml_RX12_230 mo_X12_says rfl rfl rfl rfl (Nat.le_of_ble_eq_true rfl) (by first | decide | omega) (k_says n _ _ _ (0) (v) c _ _ (0) (nI v) _ _ H2 (rfl) (rfl) (by omega) (by omega) (by decide)) (fun r_42 τ_42 q_42 => ?_)
            obtain ⟨rfl, hS_42, hf_42⟩ := q_42
            dsimp only [Option.toList, List.append, List.cons_append, List.nil_append]
            refine g_iconst (nx := 46) (1) F dX12_readsFactor_45 rfl rfl ?_
            refine g_zret F E dX12_readsFactor_46 (by first | rfl | assumption) ?_
            refine Or.inl ⟨rfl, q, o1, updN op l 0, updN vl l v, a1, m1, r1, hS_42, (hf1.tr hf2).tr hf_42, by omega, ho1, hc1, hok, hokr, by omega, fun K z => (hR1 K z).tr ?_⟩
            have h1 := s0_num (c := c) (hd := hd) (p := p1) (K := tK a1 m1 r1 K) (z := z) (a := 0) (o := o1) (l := l) (op := op) (vl := vl) hB (by rw [hN]; exact hA2)
            rw [hN] at h1
            exact h1
          · dsimp only [Option.toList, List.append, List.cons_append, List.nil_append]
            refine g_if_ne (nx := 34) 36 F dX12_readsFactor_31 rfl (by decide) (fun c_31 => absurd c_31 (by exact fun zq => zq rfl)) (fun c_31 => ?_)
            refine g_iconst (nx := 35) (0) F dX12_readsFactor_34 rfl rfl ?_
            refine g_zret F E dX12_readsFactor_35 (by first | rfl | assumption) ?_
            refine Or.inr ⟨rfl, 2, (q, o1, l, op, vl), hF2, hf1.tr hf2, fun K z => (hR1 K z).tr ?_⟩
            have h1 := s0_six (c := c) (hd := hd) (p := p1) (K := tK a1 m1 r1 K) (z := z) (a := 0) (o := o1) (l := l) (op := op) (vl := vl) hB (by rw [hN]; exact hA2)
            rw [hN] at h1
            exact h1
        · by_cases hC : ltF (c p1) = 99
          · refine g_aload_n (nx := 1) 0 F dX12_readsFactor_0 rfl rfl rfl ?_
            refine g_callV (nx := 4) 0 0 [] F dX12_readsFactor_1 rfl ml_RX12_199 mo_X12_here rfl rfl rfl rfl (Nat.le_of_ble_eq_true rfl) (by first | decide | omega) (k_here n _ _ _ c _ _ _ _ H1) (fun r_1 τ_1 q_1 => ?_)
            obtain ⟨rfl, et_1⟩ := q_1
            have et_1 := et_1.symm
            subst et_1
            dsimp only [Option.toList, List.append, List.cons_append, List.nil_append]
            refine g_bipush (nx := 6) (91) F dX12_readsFactor_4 rfl (by decide) ?_
            refine g_icmp_ne (nx := 9) 20 F dX12_readsFactor_6 rfl (by decide) (fun c_6 => ?_) (fun c_6 => absurd c_6 (by exact fun zq => hA ((sgI_eq hor (by decide)).mp zq)))
            refine g_aload_n (nx := 21) 0 F dX12_readsFactor_20 rfl rfl rfl ?_
            refine g_callV (nx := 24) 0 1 [] F dX12_readsFactor_21 rfl ml_RX12_213 mo_X12_isDigit rfl rfl rfl rfl (Nat.le_of_ble_eq_true rfl) (by first | decide | omega) (k_isDigit n _ _ _ c _ _ _ _ H1) (fun r_21 τ_21 q_21 => ?_)
            obtain ⟨rfl, et_21⟩ := q_21
            have et_21 := et_21.symm
            subst et_21
            dsimp only [Option.toList, List.append, List.cons_append, List.nil_append]
            refine g_if_eq (nx := 27) 47 F dX12_readsFactor_24 rfl (by decide) (fun c_24 => ?_) (fun c_24 => absurd c_24 (by exact fun zq => zq (bI_f hB)))
            refine g_aload_n (nx := 48) 0 F dX12_readsFactor_47 rfl rfl rfl ?_
            refine g_callV (nx := 51) 0 0 [] F dX12_readsFactor_48 rfl ml_RX12_199 mo_X12_here rfl rfl rfl rfl (Nat.le_of_ble_eq_true rfl) (by first | decide | omega) (k_here n _ _ _ c _ _ _ _ H1) (fun r_48 τ_48 q_48 => ?_)
            obtain ⟨rfl, et_48⟩ := q_48
            have et_48 := et_48.symm
            subst et_48
            dsimp only [Option.toList, List.append, List.cons_append, List.nil_append]
            refine g_callS (nx := 54) 1 0 [.int (sgI (c p1))] F dX12_readsFactor_51 rfl ml_RX12_240 mo_X12_factOf rfl rfl (Nat.le_of_ble_eq_true rfl) (by first | decide | omega) (k_factOf (c p1) _ hor) (fun r_51 τ_51 q_51 => ?_)
            obtain ⟨rfl, et_51⟩ := q_51
            have et_51 := et_51.symm
            subst et_51
            dsimp only [Option.toList, List.append, List.cons_append, List.nil_append]
            refine g_top (-1) (if_pos hC) ?_
            refine g_istore_n (nx := 55) 1 F dX12_readsFactor_54 rfl rfl (by decide) ?_
            try dsimp only [List.set]
            refine g_iload_n (nx := 56) 1 F dX12_readsFactor_55 rfl rfl rfl ?_
            refine g_iconst (nx := 57) (-1) F dX12_readsFactor_56 rfl rfl ?_
            refine g_icmp_ne (nx := 60) 70 F dX12_readsFactor_57 rfl (by decide) (fun c_57 => absurd c_57 (by exact fun zq => zq rfl)) (fun c_57 => ?_)
            refine g_aload_n (nx := 61) 0 F dX12_readsFactor_60 rfl rfl rfl ?_
            refine g_iconst (nx := 62) (1) F dX12_readsFactor_61 rfl rfl ?_
            refine g_aload_n (nx := 63) 0 F dX12_readsFactor_62 rfl rfl rfl ?_
            refine g_getV (nx := 66) (nI p1) F dX12_readsFactor_63 rfl fl_RX12_193 rfl (by decide) (by decide) rfl rfl (H1.2.1.1) ?_
            refine g_callV (nx := 69) 2 0 [.int 1, .int (nI p1)] F dX12_readsFactor_66 rfl ml_RX12_206 mo_X12_wrong rfl rfl rfl rfl (Nat.le_of_ble_eq_true rfl) (by first | decide | omega) (k_wrong n _ _ _ 1 c _ _ 1 _ H1 rfl) (fun r_66 τ_66 q_66 => ?_)
            obtain ⟨rfl, hF_66, hf_66⟩ := q_66
            dsimp only [Option.toList, List.append, List.cons_append, List.nil_append]
            refine g_zret F E dX12_readsFactor_69 (by first | rfl | assumption) ?_
            exact Or.inr ⟨rfl, 1, (p1, o1, l, op, vl), hF_66, hf1.tr hf_66, fun K z => (hR1 K z).tr (s0_bad hA hB hC)⟩
          · have hlt := lt_lt hC
            have hl12 := ((see_2 _ hlt).2 hC).2
            have hlt2 := inC_lt (p := p1) H1.1.1 (by omega)
            refine g_aload_n (nx := 1) 0 F dX12_readsFactor_0 rfl rfl rfl ?_
            refine g_callV (nx := 4) 0 0 [] F dX12_readsFactor_1 rfl ml_RX12_199 mo_X12_here rfl rfl rfl rfl (Nat.le_of_ble_eq_true rfl) (by first | decide | omega) (k_here n _ _ _ c _ _ _ _ H1) (fun r_1 τ_1 q_1 => ?_)
            obtain ⟨rfl, et_1⟩ := q_1
            have et_1 := et_1.symm
            subst et_1
            dsimp only [Option.toList, List.append, List.cons_append, List.nil_append]
            refine g_bipush (nx := 6) (91) F dX12_readsFactor_4 rfl (by decide) ?_
            refine g_icmp_ne (nx := 9) 20 F dX12_readsFactor_6 rfl (by decide) (fun c_6 => ?_) (fun c_6 => absurd c_6 (by exact fun zq => hA ((sgI_eq hor (by decide)).mp zq)))
            refine g_aload_n (nx := 21) 0 F dX12_readsFactor_20 rfl rfl rfl ?_
            refine g_callV (nx := 24) 0 1 [] F dX12_readsFactor_21 rfl ml_RX12_213 mo_X12_isDigit rfl rfl rfl rfl (Nat.le_of_ble_eq_true rfl) (by first | decide | omega) (k_isDigit n _ _ _ c _ _ _ _ H1) (fun r_21 τ_21 q_21 => ?_)
            obtain ⟨rfl, et_21⟩ := q_21
            have et_21 := et_21.symm
            subst et_21
            dsimp only [Option.toList, List.append, List.cons_append, List.nil_append]
            refine g_if_eq (nx := 27) 47 F dX12_readsFactor_24 rfl (by decide) (fun c_24 => ?_) (fun c_24 => absurd c_24 (by exact fun zq => zq (bI_f hB)))
            refine g_aload_n (nx := 48) 0 F dX12_readsFactor_47 rfl rfl rfl ?_
            refine g_callV (nx := 51) 0 0 [] F dX12_readsFactor_48 rfl ml_RX12_199 mo_X12_here rfl rfl rfl rfl (Nat.le_of_ble_eq_true rfl) (by first | decide | omega) (k_here n _ _ _ c _ _ _ _ H1) (fun r_48 τ_48 q_48 => ?_)
            obtain ⟨rfl, et_48⟩ := q_48
            have et_48 := et_48.symm
            subst et_48
            dsimp only [Option.toList, List.append, List.cons_append, List.nil_append]
            refine g_callS (nx := 54) 1 0 [.int (sgI (c p1))] F dX12_readsFactor_51 rfl ml_RX12_240 mo_X12_factOf rfl rfl (Nat.le_of_ble_eq_true rfl) (by first | decide | omega) (k_factOf (c p1) _ hor) (fun r_51 τ_51 q_51 => ?_)
            obtain ⟨rfl, et_51⟩ := q_51
            have et_51 := et_51.symm
            subst et_51
            dsimp only [Option.toList, List.append, List.cons_append, List.nil_append]
            refine g_top (nI (ltF (c p1))) (if_neg hC) ?_
            refine g_istore_n (nx := 55) 1 F dX12_readsFactor_54 rfl rfl (by decide) ?_
            try dsimp only [List.set]
            refine g_iload_n (nx := 56) 1 F dX12_readsFactor_55 rfl rfl rfl ?_
            refine g_iconst (nx := 57) (-1) F dX12_readsFactor_56 rfl rfl ?_
            refine g_icmp_ne (nx := 60) 70 F dX12_readsFactor_57 rfl (by decide) (fun c_57 => ?_) (fun c_57 => absurd c_57 (by exact nI_m1 (by omega)))
            refine g_aload_n (nx := 71) 0 F dX12_readsFactor_70 rfl rfl rfl ?_
            refine g_iconst (nx := 72) (1) F dX12_readsFactor_71 rfl rfl ?_
            refine g_iload_n (nx := 73) 1 F dX12_readsFactor_72 rfl rfl rfl ?_
            refine g_callV (nx := 76) 2 0 [.int (1), .int (nI (ltF (c p1)))] F dX12_readsFactor_73 rfl ml_RX12_230 mo_X12_says rfl rfl rfl rfl (Nat.le_of_ble_eq_true rfl) (by first | decide | omega) (k_says n _ _ _ (1) (ltF (c p1)) c _ _ (1) (nI (ltF (c p1))) _ _ H1 (rfl) (rfl) (by omega) (by omega) (by decide)) (fun r_73 τ_73 q_73 => ?_)
            obtain ⟨rfl, hS_73, hf_73⟩ := q_73
            dsimp only [Option.toList, List.append, List.cons_append, List.nil_append]
            refine g_aload_n (nx := 77) 0 F dX12_readsFactor_76 rfl rfl rfl ?_
            refine g_aload_n (nx := 78) 0 F dX12_readsFactor_77 rfl rfl rfl ?_
            refine g_getV (nx := 81) (nI p1) F dX12_readsFactor_78 rfl fl_RX12_193 rfl (by decide) (by decide) rfl rfl (hS_73.2.1.1) ?_
            refine g_iconst (nx := 82) (1) F dX12_readsFactor_81 rfl rfl ?_
            refine g_iadd (nx := 83) F dX12_readsFactor_82 rfl ?_
            rw [nI_1]
            refine g_putI (nx := 86) F dX12_readsFactor_83 rfl fl_RX12_193 fi_11_25 rfl (by decide) (by decide) rfl rfl ?_
            refine g_iconst (nx := 87) (1) F dX12_readsFactor_86 rfl rfl ?_
            refine g_zret F E dX12_readsFactor_87 (by first | rfl | assumption) ?_
            have hS5 := kcS_145 (τ := zu τ_73 145 25 (nI (p1 + 1))) hS_73 (fun a ha => by rw [zu_ne _ ha]) rfl rfl hS_73.2.1.2.2.1 rfl hS_73.2.1.2.2.2.2 id (show p1 + 1 ≤ n from hlt2) hS_73.2.2.2.2.1 hS_73.2.2.2.2.2.2
            exact Or.inl ⟨rfl, p1 + 1, o1, updN op l 1, updN vl l (ltF (c p1)), a1, m1, r1, hS5, (hf1.tr hf_73).tr (frK.u _ 25 _ (by decide)), by omega, ho1, hc1, hok, hokr, by omega, fun K z => (hR1 K z).tr (s0_let hA hB hC)⟩
  exact L (n + 1) p o a m r σ _ (by omega) H (frK.rf σ) hok0 hokr0 rfl rfl (Nat.le_refl _) (Nat.le_refl _) (fun K z => Rn.rf _ _ _)
set_option maxHeartbeats 4000000 in
set_option maxRecDepth 100000 in
theorem k_readsSum (n p o l : Nat) (c op vl : Nat → Nat) (hd : Nat → Bool) (w : TK) (σ : zSt) (H : kcS σ c n (p, o, l, op, vl) w) (hnt : ntW w) (hlp : l ≤ p) (hwp : w.length ≤ p) : Con mX12_readsSum 4 [.ref 145] σ (kE n c hd [(0, 0), (1, 0), (3, 0)] w σ p o l op vl) := by
  refine Con.of (lv := [.ref 145, .long 0, .long 0]) mk_X12_readsSum rfl (Nat.le_of_ble_eq_true rfl) rfl (fun X F E => ?_)
  have hn160 := H.1.2.1
  have L : ∀ (q p1 o1 l1 : Nat) (op1 vl1 : Nat → Nat) (a m : List Nat) (r : List LV) (τ : zSt) (z2 : Value), n < p1 + q → kcS τ c n (p1, o1, l1, op1, vl1) (sK a m r w) → frK σ τ → okA a m → okL r → o1 = o + r.length → p < p1 → (l1 + (a.length + m.length + cL r) + p ≤ l + p1 ∧ l ≤ l1) → (sK a m r w).length + p ≤ w.length + p1 → (∀ K z, Rn c hd ((0, 0) :: (1, 0) :: (3, 0) :: K, (p, o, l, op, vl), z) (tK a m r K, (p1, o1, l1, op1, vl1), z)) → Gs X 14 [.ref 145, .int (nI w.length), z2] [] τ := by
    intro q
    induction q with
    | zero =>
      intro p1 o1 l1 op1 vl1 a m r τ z2 hq H1
      exact absurd H1.2.2.2.1 (by omega)
    | succ q ih =>
      intro p1 o1 l1 op1 vl1 a m r τ z2 hq H1 hf1 hok hokr ho1 hp1 hl1 hw1 hR1
      have hpn := H1.2.2.2.1
      have hor := inC_or H1.1.1 p1
      have hlen := sK_len a m r w
      have hma : (m ++ a).length = m.length + a.length := List.length_append
      have hsing : [sgF (c p1)].length = 1 := rfl
      have hnill : ([] : List Nat).length = 0 := rfl
      have hlenA : (mS a ++ sR r w).length = a.length + (sR r w).length := by rw [List.length_append, mS_len]
      have hntR : ∀ x ∈ (sR r w).head?, ¬ ((4 ≤ x.1 ∧ x.1 ≤ 6) ∨ (¬ (1 : Int32).toInt = 0 ∧ (x.1 = 2 ∨ x.1 = 3))) := fun x hx hz => ntW_R hnt x hx (by omega)
      have hpop : ∀ x ∈ m ++ a, (4 ≤ x ∧ x ≤ 6) ∨ (¬ (1 : Int32).toInt = 0 ∧ (x = 2 ∨ x = 3)) := fun x hx => by
        rcases List.mem_append.mp hx with h | h
        · exact Or.inl (hok.2 x h)
        · exact Or.inr ⟨by decide, hok.1 x h⟩
      have hntA : ∀ x ∈ (mS a ++ sR r w).head?, ¬ ((4 ≤ x.1 ∧ x.1 ≤ 6) ∨ (¬ (0 : Int32).toInt = 0 ∧ (x.1 = 2 ∨ x.1 = 3))) := by
        intro x hx hz
        rcases hz with hz | hz
        · cases a with
          | nil => exact ntW_R hnt x hx (by omega)
          | cons y a2 =>
            cases hx
            have := hok.1 y List.mem_cons_self
            have hz : 4 ≤ y ∧ y ≤ 6 := hz
            omega
        · exact hz.1 rfl
      by_cases hA : 4 ≤ sgF (c p1)
      · have hlt : c p1 < 256 := sg_lt (by omega)
        have hp1n := inC_lt (p := p1) H1.1.1 (by omega)
        have hck := (see_3 _ hlt).2 hA
        refine g_aload_n (nx := 15) 0 F dX12_readsSum_14 rfl rfl rfl ?_
        refine g_callV (nx := 18) 0 0 [] F dX12_readsSum_15 rfl ml_RX12_199 mo_X12_here rfl rfl rfl rfl (Nat.le_of_ble_eq_true rfl) (by first | decide | omega) (k_here n _ _ _ c _ _ _ _ H1) (fun r_15 τ_15 q_15 => ?_)
        obtain ⟨rfl, et_15⟩ := q_15
        have et_15 := et_15.symm
        subst et_15
        dsimp only [Option.toList, List.append, List.cons_append, List.nil_append]
        refine g_callS (nx := 21) 1 0 [.int (sgI (c p1))] F dX12_readsSum_18 rfl ml_RX12_247 mo_X12_sumSign rfl rfl (Nat.le_of_ble_eq_true rfl) (by first | decide | omega) (k_sumSign (c p1) _ hor) (fun r_18 τ_18 q_18 => ?_)
        obtain ⟨rfl, et_18⟩ := q_18
        have et_18 := et_18.symm
        subst et_18
        dsimp only [Option.toList, List.append, List.cons_append, List.nil_append]
        refine g_top (nI (sgF (c p1))) (if_neg (by omega)) ?_
        refine g_istore_n (nx := 22) 2 F dX12_readsSum_21 rfl rfl (by decide) ?_
        try dsimp only [List.set]
        refine g_iload_n (nx := 23) 2 F dX12_readsSum_22 rfl rfl rfl ?_
        refine g_iconst (nx := 24) (-1) F dX12_readsSum_23 rfl rfl ?_
        refine g_icmp_eq (nx := 27) 83 F dX12_readsSum_24 rfl (by decide) (fun c_24 => absurd c_24 (by exact nI_m1 (by omega))) (fun c_24 => ?_)
        refine g_aload_n (nx := 28) 0 F dX12_readsSum_27 rfl rfl rfl ?_
        refine g_iload_n (nx := 29) 2 F dX12_readsSum_28 rfl rfl rfl ?_
        refine g_iconst (nx := 30) (4) F dX12_readsSum_29 rfl rfl ?_
        refine g_icmp_ge (nx := 33) 37 F dX12_readsSum_30 rfl (by decide) (fun c_30 => ?_) (fun c_30 => absurd c_30 (by exact fun zq => zq (nI_le (a := 4) hA (by omega))))
        refine g_iconst (nx := 38) (0) F dX12_readsSum_37 rfl rfl ?_
        refine g_callV (nx := 41) 1 1 [.int 0] F dX12_readsSum_38 rfl ml_RX12_250 mo_X12_closesSums rfl rfl rfl rfl (Nat.le_of_ble_eq_true rfl) (by first | decide | omega) (k_closesSums n p1 o1 l1 c op1 vl1 (m) _ (mS a ++ sR r w) 0 _ H1 (rfl) (by omega) (fun x hx => Or.inl (hok.2 x hx)) (hntA)) (fun r_38 τ_38 q_38 => ?_)
        obtain ⟨rfl, hS3, hf3⟩ := q_38
        dsimp only [Option.toList, List.append, List.cons_append, List.nil_append]
        refine g_aload_n (nx := 42) 0 F dX12_readsSum_41 rfl rfl rfl ?_
        refine g_getR (nx := 45) F dX12_readsSum_42 rfl fl_RX12_65 rfl (by decide) (by decide) rfl ?_
        refine g_aload_n (nx := 46) 0 F dX12_readsSum_45 rfl rfl rfl ?_
        refine g_getV (nx := 49) (nI (mS a ++ sR r w).length) F dX12_readsSum_46 rfl fl_RX12_224 rfl (by decide) (by decide) rfl rfl (hS3.2.1.2.2.2.2) ?_
        refine g_ldc (nx := 51) (1048576) F dX12_readsSum_49 rfl co_RX12_220 ?_
        refine g_iload_n (nx := 52) 2 F dX12_readsSum_51 rfl rfl rfl ?_
        refine g_imul (nx := 53) F dX12_readsSum_52 rfl ?_
        refine g_top (nI (1048576 * sgF (c p1) + 0)) (wt_enc0 _) ?_
        refine g_iastN (nx := 54) ((mS a ++ sR r w).length) F dX12_readsSum_53 rfl rfl (by omega) ?_
        refine g_aload_n (nx := 55) 0 F dX12_readsSum_54 rfl rfl rfl ?_
        refine g_aload_n (nx := 56) 0 F dX12_readsSum_55 rfl rfl rfl ?_
        refine g_getV (nx := 59) (nI (mS a ++ sR r w).length) F dX12_readsSum_56 rfl fl_RX12_224 rfl (by decide) (by decide) rfl rfl (hS3.2.1.2.2.2.2) ?_
        refine g_iconst (nx := 60) (1) F dX12_readsSum_59 rfl rfl ?_
        refine g_iadd (nx := 61) F dX12_readsSum_60 rfl ?_
        rw [nI_1]
        refine g_putI (nx := 64) F dX12_readsSum_61 rfl fl_RX12_224 fi_11_30 rfl (by decide) (by decide) rfl rfl ?_
        refine g_aload_n (nx := 65) 0 F dX12_readsSum_64 rfl rfl rfl ?_
        refine g_aload_n (nx := 66) 0 F dX12_readsSum_65 rfl rfl rfl ?_
        refine g_getV (nx := 69) (nI p1) F dX12_readsSum_66 rfl fl_RX12_193 rfl (by decide) (by decide) rfl rfl (hS3.2.1.1) ?_
        refine g_iconst (nx := 70) (1) F dX12_readsSum_69 rfl rfl ?_
        refine g_iadd (nx := 71) F dX12_readsSum_70 rfl ?_
        rw [nI_1]
        refine g_putI (nx := 74) F dX12_readsSum_71 rfl fl_RX12_193 fi_11_25 rfl (by decide) (by decide) rfl rfl ?_
        have hP := kcS_push (x := sgF (c p1)) (v := 0) hS3 hp1n (by omega) (by decide) (by omega)
        obtain ⟨τ4, e4⟩ : ∃ s, s = zu (zu (zu τ_38 164 (mS a ++ sR r w).length (nI (1048576 * sgF (c p1) + 0))) 145 30 (nI ((mS a ++ sR r w).length + 1))) 145 25 (nI (p1 + 1)) := ⟨_, rfl⟩
        rw [← e4] at hP
        rw [← e4]
        have hS4 : kcS τ4 c n (p1 + 1, o1, l1 + (m).length, emO (m) l1 op1, emV (m) l1 vl1) (sK a [sgF (c p1)] r w) := hP.1
        have hwl4 : (sK a [sgF (c p1)] r w).length = (mS a ++ sR r w).length + 1 := rfl
        refine g_aload_n (nx := 75) 0 F dX12_readsSum_74 rfl rfl rfl ?_
        refine g_callV (nx := 78) 0 3 [] F dX12_readsSum_75 rfl ml_RX12_244 mo_X12_readsFactor rfl rfl rfl rfl (Nat.le_of_ble_eq_true rfl) (by first | decide | omega) (k_readsFactor n (p1 + 1) o1 _ c _ _ hd a [sgF (c p1)] r w _ hS4 (⟨hok.1, fun x hx => by rw [List.mem_singleton.mp hx]; omega⟩) hokr (by omega) (by omega)) (fun r_75 τ_75 q_75 => ?_)
        skip
        rcases q_75 with ⟨rfl, p2, o2, op2, vl2, a2, mm2, r2, hS2, hf2, hp2, ho2, hc2, hok2, hokr2, hw2, hR2⟩ | ⟨rfl, f2, e2, hF2, hf2, hR2⟩
        · dsimp only [Option.toList, List.append, List.cons_append, List.nil_append]
          refine g_if_ne (nx := 81) 163 F dX12_readsSum_78 rfl (by decide) (fun c_78 => ?_) (fun c_78 => absurd c_78 (by decide))
          refine g_goto 14 F dX12_readsSum_163 (by decide) ?_
          exact ih p2 o2 _ op2 vl2 a2 mm2 r2 _ _ (by omega) hS2 (((hf1.tr hf3).tr hP.2).tr hf2) hok2 hokr2 (by omega) (by omega) (by omega) (by omega) (fun K z => ((hR1 K z).tr ((Rn_em m l1 op1 vl1).tr (s1_go hA))).tr (hR2 K z))
        · dsimp only [Option.toList, List.append, List.cons_append, List.nil_append]
          refine g_if_ne (nx := 81) 163 F dX12_readsSum_78 rfl (by decide) (fun c_78 => absurd c_78 (by exact fun zq => zq rfl)) (fun c_78 => ?_)
          refine g_iconst (nx := 82) (0) F dX12_readsSum_81 rfl rfl ?_
          refine g_zret F E dX12_readsSum_82 (by first | rfl | assumption) ?_
          exact Or.inr ⟨rfl, f2, e2, hF2, ((hf1.tr hf3).tr hP.2).tr hf2, fun K z => ((hR1 K z).tr ((Rn_em m l1 op1 vl1).tr (s1_go hA))).tr (hR2 K z)⟩
      · have hRA : ∀ {K : TK} {z : CS}, Rn c hd (tK a m r K, (p1, o1, l1, op1, vl1), z) ((3, 0) :: tR r K, (p1, o1, l1 + (m ++ a).length, emO (m ++ a) l1 op1, emV (m ++ a) l1 vl1), z) := by
          intro K z
          rw [emO_app, emV_app, List.length_append, ← Nat.add_assoc]
          exact (((Rn_em m l1 op1 vl1).tr (s1_end hA)).tr (Rn_em a (l1 + m.length) (emO m l1 op1) (emV m l1 vl1)))
        by_cases hB : sgF (c p1) = 2 ∨ sgF (c p1) = 3
        · have hlt : c p1 < 256 := sg_lt (by omega)
          have hp1n := inC_lt (p := p1) H1.1.1 (by omega)
          refine g_aload_n (nx := 15) 0 F dX12_readsSum_14 rfl rfl rfl ?_
          refine g_callV (nx := 18) 0 0 [] F dX12_readsSum_15 rfl ml_RX12_199 mo_X12_here rfl rfl rfl rfl (Nat.le_of_ble_eq_true rfl) (by first | decide | omega) (k_here n _ _ _ c _ _ _ _ H1) (fun r_15 τ_15 q_15 => ?_)
          obtain ⟨rfl, et_15⟩ := q_15
          have et_15 := et_15.symm
          subst et_15
          dsimp only [Option.toList, List.append, List.cons_append, List.nil_append]
          refine g_callS (nx := 21) 1 0 [.int (sgI (c p1))] F dX12_readsSum_18 rfl ml_RX12_247 mo_X12_sumSign rfl rfl (Nat.le_of_ble_eq_true rfl) (by first | decide | omega) (k_sumSign (c p1) _ hor) (fun r_18 τ_18 q_18 => ?_)
          obtain ⟨rfl, et_18⟩ := q_18
          have et_18 := et_18.symm
          subst et_18
          dsimp only [Option.toList, List.append, List.cons_append, List.nil_append]
          refine g_top (nI (sgF (c p1))) (if_neg (by omega)) ?_
          refine g_istore_n (nx := 22) 2 F dX12_readsSum_21 rfl rfl (by decide) ?_
          try dsimp only [List.set]
          refine g_iload_n (nx := 23) 2 F dX12_readsSum_22 rfl rfl rfl ?_
          refine g_iconst (nx := 24) (-1) F dX12_readsSum_23 rfl rfl ?_
          refine g_icmp_eq (nx := 27) 83 F dX12_readsSum_24 rfl (by decide) (fun c_24 => absurd c_24 (by exact nI_m1 (by omega))) (fun c_24 => ?_)
          refine g_aload_n (nx := 28) 0 F dX12_readsSum_27 rfl rfl rfl ?_
          refine g_iload_n (nx := 29) 2 F dX12_readsSum_28 rfl rfl rfl ?_
          refine g_iconst (nx := 30) (4) F dX12_readsSum_29 rfl rfl ?_
          refine g_icmp_ge (nx := 33) 37 F dX12_readsSum_30 rfl (by decide) (fun c_30 => absurd c_30 (by exact nI_ge (b := 4) (by omega) (by omega))) (fun c_30 => ?_)
          refine g_iconst (nx := 34) (1) F dX12_readsSum_33 rfl rfl ?_
          refine g_goto 38 F dX12_readsSum_34 (by decide) ?_
          refine g_callV (nx := 41) 1 1 [.int 1] F dX12_readsSum_38 rfl ml_RX12_250 mo_X12_closesSums rfl rfl rfl rfl (Nat.le_of_ble_eq_true rfl) (by first | decide | omega) (k_closesSums n p1 o1 l1 c op1 vl1 (m ++ a) _ (sR r w) 1 _ H1 (sK_pops a m r w) (by rw [List.length_append]; omega) (hpop) (hntR)) (fun r_38 τ_38 q_38 => ?_)
          obtain ⟨rfl, hS3, hf3⟩ := q_38
          dsimp only [Option.toList, List.append, List.cons_append, List.nil_append]
          refine g_aload_n (nx := 42) 0 F dX12_readsSum_41 rfl rfl rfl ?_
          refine g_getR (nx := 45) F dX12_readsSum_42 rfl fl_RX12_65 rfl (by decide) (by decide) rfl ?_
          refine g_aload_n (nx := 46) 0 F dX12_readsSum_45 rfl rfl rfl ?_
          refine g_getV (nx := 49) (nI (sR r w).length) F dX12_readsSum_46 rfl fl_RX12_224 rfl (by decide) (by decide) rfl rfl (hS3.2.1.2.2.2.2) ?_
          refine g_ldc (nx := 51) (1048576) F dX12_readsSum_49 rfl co_RX12_220 ?_
          refine g_iload_n (nx := 52) 2 F dX12_readsSum_51 rfl rfl rfl ?_
          refine g_imul (nx := 53) F dX12_readsSum_52 rfl ?_
          refine g_top (nI (1048576 * sgF (c p1) + 0)) (wt_enc0 _) ?_
          refine g_iastN (nx := 54) ((sR r w).length) F dX12_readsSum_53 rfl rfl (by omega) ?_
          refine g_aload_n (nx := 55) 0 F dX12_readsSum_54 rfl rfl rfl ?_
          refine g_aload_n (nx := 56) 0 F dX12_readsSum_55 rfl rfl rfl ?_
          refine g_getV (nx := 59) (nI (sR r w).length) F dX12_readsSum_56 rfl fl_RX12_224 rfl (by decide) (by decide) rfl rfl (hS3.2.1.2.2.2.2) ?_
          refine g_iconst (nx := 60) (1) F dX12_readsSum_59 rfl rfl ?_
          refine g_iadd (nx := 61) F dX12_readsSum_60 rfl ?_
          rw [nI_1]
          refine g_putI (nx := 64) F dX12_readsSum_61 rfl fl_RX12_224 fi_11_30 rfl (by decide) (by decide) rfl rfl ?_
          refine g_aload_n (nx := 65) 0 F dX12_readsSum_64 rfl rfl rfl ?_
          refine g_aload_n (nx := 66) 0 F dX12_readsSum_65 rfl rfl rfl ?_
          refine g_getV (nx := 69) (nI p1) F dX12_readsSum_66 rfl fl_RX12_193 rfl (by decide) (by decide) rfl rfl (hS3.2.1.1) ?_
          refine g_iconst (nx := 70) (1) F dX12_readsSum_69 rfl rfl ?_
          refine g_iadd (nx := 71) F dX12_readsSum_70 rfl ?_
          rw [nI_1]
          refine g_putI (nx := 74) F dX12_readsSum_71 rfl fl_RX12_193 fi_11_25 rfl (by decide) (by decide) rfl rfl ?_
          have hP := kcS_push (x := sgF (c p1)) (v := 0) hS3 hp1n (by omega) (by decide) (by omega)
          obtain ⟨τ4, e4⟩ : ∃ s, s = zu (zu (zu τ_38 164 (sR r w).length (nI (1048576 * sgF (c p1) + 0))) 145 30 (nI ((sR r w).length + 1))) 145 25 (nI (p1 + 1)) := ⟨_, rfl⟩
          rw [← e4] at hP
          rw [← e4]
          have hS4 : kcS τ4 c n (p1 + 1, o1, l1 + (m ++ a).length, emO (m ++ a) l1 op1, emV (m ++ a) l1 vl1) (sK [sgF (c p1)] [] r w) := hP.1
          have hwl4 : (sK [sgF (c p1)] [] r w).length = (sR r w).length + 1 := rfl
          refine g_aload_n (nx := 75) 0 F dX12_readsSum_74 rfl rfl rfl ?_
          refine g_callV (nx := 78) 0 3 [] F dX12_readsSum_75 rfl ml_RX12_244 mo_X12_readsFactor rfl rfl rfl rfl (Nat.le_of_ble_eq_true rfl) (by first | decide | omega) (k_readsFactor n (p1 + 1) o1 _ c _ _ hd [sgF (c p1)] [] r w _ hS4 (⟨fun x hx => by rw [List.mem_singleton.mp hx]; exact hB, fun x hx => absurd hx List.not_mem_nil⟩) hokr (by rw [List.length_append]; omega) (by omega)) (fun r_75 τ_75 q_75 => ?_)
          skip
          rcases q_75 with ⟨rfl, p2, o2, op2, vl2, a2, mm2, r2, hS2, hf2, hp2, ho2, hc2, hok2, hokr2, hw2, hR2⟩ | ⟨rfl, f2, e2, hF2, hf2, hR2⟩
          · dsimp only [Option.toList, List.append, List.cons_append, List.nil_append]
            refine g_if_ne (nx := 81) 163 F dX12_readsSum_78 rfl (by decide) (fun c_78 => ?_) (fun c_78 => absurd c_78 (by decide))
            refine g_goto 14 F dX12_readsSum_163 (by decide) ?_
            exact ih p2 o2 _ op2 vl2 a2 mm2 r2 _ _ (by omega) hS2 (((hf1.tr hf3).tr hP.2).tr hf2) hok2 hokr2 (by omega) (by omega) (by omega) (by omega) (fun K z => ((hR1 K z).tr (hRA.tr (s3_go hB))).tr (hR2 K z))
          · dsimp only [Option.toList, List.append, List.cons_append, List.nil_append]
            refine g_if_ne (nx := 81) 163 F dX12_readsSum_78 rfl (by decide) (fun c_78 => absurd c_78 (by exact fun zq => zq rfl)) (fun c_78 => ?_)
            refine g_iconst (nx := 82) (0) F dX12_readsSum_81 rfl rfl ?_
            refine g_zret F E dX12_readsSum_82 (by first | rfl | assumption) ?_
            exact Or.inr ⟨rfl, f2, e2, hF2, ((hf1.tr hf3).tr hP.2).tr hf2, fun K z => ((hR1 K z).tr (hRA.tr (s3_go hB))).tr (hR2 K z)⟩
        · have h0 : sgF (c p1) = 0 := by
            have : ∀ x, sgF x = 0 ∨ sgF x = 2 ∨ sgF x = 3 ∨ 4 ≤ sgF x := by
              intro x
              unfold sgF
              repeat' split
              all_goals omega
            have := this (c p1)
            omega
          by_cases hD : c p1 = 93
          · have hp1n := inC_lt (p := p1) H1.1.1 (by omega)
            cases r with
            | nil =>
              refine g_aload_n (nx := 15) 0 F dX12_readsSum_14 rfl rfl rfl ?_
              refine g_callV (nx := 18) 0 0 [] F dX12_readsSum_15 rfl ml_RX12_199 mo_X12_here rfl rfl rfl rfl (Nat.le_of_ble_eq_true rfl) (by first | decide | omega) (k_here n _ _ _ c _ _ _ _ H1) (fun r_15 τ_15 q_15 => ?_)
              obtain ⟨rfl, et_15⟩ := q_15
              have et_15 := et_15.symm
              subst et_15
              dsimp only [Option.toList, List.append, List.cons_append, List.nil_append]
              refine g_callS (nx := 21) 1 0 [.int (sgI (c p1))] F dX12_readsSum_18 rfl ml_RX12_247 mo_X12_sumSign rfl rfl (Nat.le_of_ble_eq_true rfl) (by first | decide | omega) (k_sumSign (c p1) _ hor) (fun r_18 τ_18 q_18 => ?_)
              obtain ⟨rfl, et_18⟩ := q_18
              have et_18 := et_18.symm
              subst et_18
              dsimp only [Option.toList, List.append, List.cons_append, List.nil_append]
              refine g_top (-1) (if_pos (by omega)) ?_
              refine g_istore_n (nx := 22) 2 F dX12_readsSum_21 rfl rfl (by decide) ?_
              try dsimp only [List.set]
              refine g_iload_n (nx := 23) 2 F dX12_readsSum_22 rfl rfl rfl ?_
              refine g_iconst (nx := 24) (-1) F dX12_readsSum_23 rfl rfl ?_
              refine g_icmp_eq (nx := 27) 83 F dX12_readsSum_24 rfl (by decide) (fun c_24 => ?_) (fun c_24 => absurd c_24 (by exact fun zq => zq rfl))
              refine g_aload_n (nx := 84) 0 F dX12_readsSum_83 rfl rfl rfl ?_
              refine g_callV (nx := 87) 0 0 [] F dX12_readsSum_84 rfl ml_RX12_199 mo_X12_here rfl rfl rfl rfl (Nat.le_of_ble_eq_true rfl) (by first | decide | omega) (k_here n _ _ _ c _ _ _ _ H1) (fun r_84 τ_84 q_84 => ?_)
              obtain ⟨rfl, et_84⟩ := q_84
              have et_84 := et_84.symm
              subst et_84
              dsimp only [Option.toList, List.append, List.cons_append, List.nil_append]
              refine g_bipush (nx := 89) (93) F dX12_readsSum_87 rfl (by decide) ?_
              refine g_icmp_ne (nx := 92) 138 F dX12_readsSum_89 rfl (by decide) (fun c_89 => absurd c_89 (by exact fun zq => zq ((sgI_eq hor (by decide)).mpr hD))) (fun c_89 => ?_)
              refine g_aload_n (nx := 93) 0 F dX12_readsSum_92 rfl rfl rfl ?_
              refine g_iload_n (nx := 94) 1 F dX12_readsSum_93 rfl rfl rfl ?_
              refine g_callV (nx := 97) 1 0 [.int (nI w.length)] F dX12_readsSum_94 rfl ml_RX12_254 mo_X12_hasOpenSum rfl rfl rfl rfl (Nat.le_of_ble_eq_true rfl) (by first | decide | omega) (k_hasOpenSum n p1 o1 l1 c op1 vl1 (sK a m [] []) w _ (by rw [← sK_app]; exact H1)) (fun r_94 τ_94 q_94 => ?_)
              obtain ⟨rfl, et_94⟩ := q_94
              have et_94 := et_94.symm
              subst et_94
              dsimp only [Option.toList, List.append, List.cons_append, List.nil_append]
              refine g_if_eq (nx := 100) 138 F dX12_readsSum_97 rfl (by decide) (fun c_97 => ?_) (fun c_97 => absurd c_97 (by exact fun zq => zq (bI_f (by rw [any_0 hok]; decide))))
              refine g_aload_n (nx := 139) 0 F dX12_readsSum_138 rfl rfl rfl ?_
              refine g_iload_n (nx := 140) 1 F dX12_readsSum_139 rfl rfl rfl ?_
              refine g_callV (nx := 143) 1 0 [.int (nI w.length)] F dX12_readsSum_140 rfl ml_RX12_254 mo_X12_hasOpenSum rfl rfl rfl rfl (Nat.le_of_ble_eq_true rfl) (by first | decide | omega) (k_hasOpenSum n p1 o1 l1 c op1 vl1 (sK a m [] []) w _ (by rw [← sK_app]; exact H1)) (fun r_140 τ_140 q_140 => ?_)
              obtain ⟨rfl, et_140⟩ := q_140
              have et_140 := et_140.symm
              subst et_140
              dsimp only [Option.toList, List.append, List.cons_append, List.nil_append]
              refine g_if_eq (nx := 146) 156 F dX12_readsSum_143 rfl (by decide) (fun c_143 => ?_) (fun c_143 => absurd c_143 (by exact fun zq => zq (bI_f (by rw [any_0 hok]; decide))))
              refine g_aload_n (nx := 157) 0 F dX12_readsSum_156 rfl rfl rfl ?_
              refine g_iconst (nx := 158) (1) F dX12_readsSum_157 rfl rfl ?_
              refine g_callV (nx := 161) 1 1 [.int 1] F dX12_readsSum_158 rfl ml_RX12_250 mo_X12_closesSums rfl rfl rfl rfl (Nat.le_of_ble_eq_true rfl) (by first | decide | omega) (k_closesSums n p1 o1 l1 c op1 vl1 (m ++ a) _ (sR [] w) 1 _ H1 (sK_pops a m [] w) (by rw [List.length_append]; omega) hpop hntR) (fun r_158 τ_158 q_158 => ?_)
              obtain ⟨rfl, hS3, hf3⟩ := q_158
              dsimp only [Option.toList, List.append, List.cons_append, List.nil_append]
              refine g_iconst (nx := 162) (1) F dX12_readsSum_161 rfl rfl ?_
              refine g_zret F E dX12_readsSum_162 (by first | rfl | assumption) ?_
              have hoe : o1 = o := ho1
              have hcn : cL [] = 0 := rfl
              have hS4 : kcS τ_158 c n (p1, o, l1 + (m ++ a).length, emO (m ++ a) l1 op1, emV (m ++ a) l1 vl1) w := by rw [← hoe]; exact hS3
              exact Or.inl ⟨rfl, p1, _, _, _, hS4, hf1.tr hf3, hp1, by omega, fun K z => by have h := (hR1 K z).tr (hRA.tr (s3_end hB)); rw [hoe] at h; exact h⟩
            | cons q0 r =>
              have hom : o1 - 1 = o + r.length := by rw [ho1]; rfl
              have hom2 : o1 = o + r.length + 1 := ho1
              refine g_aload_n (nx := 15) 0 F dX12_readsSum_14 rfl rfl rfl ?_
              refine g_callV (nx := 18) 0 0 [] F dX12_readsSum_15 rfl ml_RX12_199 mo_X12_here rfl rfl rfl rfl (Nat.le_of_ble_eq_true rfl) (by first | decide | omega) (k_here n _ _ _ c _ _ _ _ H1) (fun r_15 τ_15 q_15 => ?_)
              obtain ⟨rfl, et_15⟩ := q_15
              have et_15 := et_15.symm
              subst et_15
              dsimp only [Option.toList, List.append, List.cons_append, List.nil_append]
              refine g_callS (nx := 21) 1 0 [.int (sgI (c p1))] F dX12_readsSum_18 rfl ml_RX12_247 mo_X12_sumSign rfl rfl (Nat.le_of_ble_eq_true rfl) (by first | decide | omega) (k_sumSign (c p1) _ hor) (fun r_18 τ_18 q_18 => ?_)
              obtain ⟨rfl, et_18⟩ := q_18
              have et_18 := et_18.symm
              subst et_18
              dsimp only [Option.toList, List.append, List.cons_append, List.nil_append]
              refine g_top (-1) (if_pos (by omega)) ?_
              refine g_istore_n (nx := 22) 2 F dX12_readsSum_21 rfl rfl (by decide) ?_
              try dsimp only [List.set]
              refine g_iload_n (nx := 23) 2 F dX12_readsSum_22 rfl rfl rfl ?_
              refine g_iconst (nx := 24) (-1) F dX12_readsSum_23 rfl rfl ?_
              refine g_icmp_eq (nx := 27) 83 F dX12_readsSum_24 rfl (by decide) (fun c_24 => ?_) (fun c_24 => absurd c_24 (by exact fun zq => zq rfl))
              refine g_aload_n (nx := 84) 0 F dX12_readsSum_83 rfl rfl rfl ?_
              refine g_callV (nx := 87) 0 0 [] F dX12_readsSum_84 rfl ml_RX12_199 mo_X12_here rfl rfl rfl rfl (Nat.le_of_ble_eq_true rfl) (by first | decide | omega) (k_here n _ _ _ c _ _ _ _ H1) (fun r_84 τ_84 q_84 => ?_)
              obtain ⟨rfl, et_84⟩ := q_84
              have et_84 := et_84.symm
              subst et_84
              dsimp only [Option.toList, List.append, List.cons_append, List.nil_append]
              refine g_bipush (nx := 89) (93) F dX12_readsSum_87 rfl (by decide) ?_
              refine g_icmp_ne (nx := 92) 138 F dX12_readsSum_89 rfl (by decide) (fun c_89 => absurd c_89 (by exact fun zq => zq ((sgI_eq hor (by decide)).mpr hD))) (fun c_89 => ?_)
              refine g_aload_n (nx := 93) 0 F dX12_readsSum_92 rfl rfl rfl ?_
              refine g_iload_n (nx := 94) 1 F dX12_readsSum_93 rfl rfl rfl ?_
              refine g_callV (nx := 97) 1 0 [.int (nI w.length)] F dX12_readsSum_94 rfl ml_RX12_254 mo_X12_hasOpenSum rfl rfl rfl rfl (Nat.le_of_ble_eq_true rfl) (by first | decide | omega) (k_hasOpenSum n p1 o1 l1 c op1 vl1 (sK a m (q0 :: r) []) w _ (by rw [← sK_app]; exact H1)) (fun r_94 τ_94 q_94 => ?_)
              obtain ⟨rfl, et_94⟩ := q_94
              have et_94 := et_94.symm
              subst et_94
              dsimp only [Option.toList, List.append, List.cons_append, List.nil_append]
              refine g_if_eq (nx := 100) 138 F dX12_readsSum_97 rfl (by decide) (fun c_97 => absurd c_97 (by exact bI_n0.mpr (any_1 q0 r))) (fun c_97 => ?_)
              refine g_aload_n (nx := 101) 0 F dX12_readsSum_100 rfl rfl rfl ?_
              refine g_iconst (nx := 102) (1) F dX12_readsSum_101 rfl rfl ?_
              refine g_callV (nx := 105) 1 1 [.int 1] F dX12_readsSum_102 rfl ml_RX12_250 mo_X12_closesSums rfl rfl rfl rfl (Nat.le_of_ble_eq_true rfl) (by first | decide | omega) (k_closesSums n p1 o1 l1 c op1 vl1 (m ++ a) _ (sR (q0 :: r) w) 1 _ H1 (sK_pops a m (q0 :: r) w) (by rw [List.length_append]; omega) hpop hntR) (fun r_102 τ_102 q_102 => ?_)
              obtain ⟨rfl, hS3, hf3⟩ := q_102
              dsimp only [Option.toList, List.append, List.cons_append, List.nil_append]
              refine g_aload_n (nx := 106) 0 F dX12_readsSum_105 rfl rfl rfl ?_
              refine g_aload_n (nx := 107) 0 F dX12_readsSum_106 rfl rfl rfl ?_
              refine g_getV (nx := 110) (nI ((sK q0.1 q0.2 r w).length + 1)) F dX12_readsSum_107 rfl fl_RX12_224 rfl (by decide) (by decide) rfl rfl (hS3.2.1.2.2.2.2) ?_
              refine g_iconst (nx := 111) (1) F dX12_readsSum_110 rfl rfl ?_
              refine g_isub (nx := 112) F dX12_readsSum_111 rfl ?_
              rw [nI_pred]
              refine g_putI (nx := 115) F dX12_readsSum_112 rfl fl_RX12_224 fi_11_30 rfl (by decide) (by decide) rfl rfl ?_
              refine g_aload_n (nx := 116) 0 F dX12_readsSum_115 rfl rfl rfl ?_
              refine g_aload_n (nx := 117) 0 F dX12_readsSum_116 rfl rfl rfl ?_
              refine g_getV (nx := 120) (nI (o + r.length + 1)) F dX12_readsSum_117 rfl fl_RX12_221 rfl (by decide) (by decide) rfl rfl (hS3.2.1.2.2.1.trans (by rw [ho1]; rfl)) ?_
              refine g_iconst (nx := 121) (1) F dX12_readsSum_120 rfl rfl ?_
              refine g_isub (nx := 122) F dX12_readsSum_121 rfl ?_
              rw [nI_pred]
              refine g_putI (nx := 125) F dX12_readsSum_122 rfl fl_RX12_221 fi_11_28 rfl (by decide) (by decide) rfl rfl ?_
              refine g_aload_n (nx := 126) 0 F dX12_readsSum_125 rfl rfl rfl ?_
              refine g_aload_n (nx := 127) 0 F dX12_readsSum_126 rfl rfl rfl ?_
              refine g_getV (nx := 130) (nI p1) F dX12_readsSum_127 rfl fl_RX12_193 rfl (by decide) (by decide) rfl rfl (hS3.2.1.1) ?_
              refine g_iconst (nx := 131) (1) F dX12_readsSum_130 rfl rfl ?_
              refine g_iadd (nx := 132) F dX12_readsSum_131 rfl ?_
              rw [nI_1]
              refine g_putI (nx := 135) F dX12_readsSum_132 rfl fl_RX12_193 fi_11_25 rfl (by decide) (by decide) rfl rfl ?_
              refine g_goto 163 F dX12_readsSum_135 (by decide) ?_
              refine g_goto 14 F dX12_readsSum_163 (by decide) ?_
              exact ih (p1 + 1) (o + r.length) _ _ _ q0.1 q0.2 r _ _ (by omega) (kcS_145 (w' := sK q0.1 q0.2 r w) hS3 (fun a ha => by rw [zu_ne _ ha, zu_ne _ ha, zu_ne _ ha]) rfl rfl rfl rfl rfl (fun h => h.2.2.2) hp1n (by have := hS3.2.2.2.2.1; omega) (Nat.le_of_succ_le hS3.2.2.2.2.2.2)) ((((hf1.tr hf3).tr (frK.u _ 30 _ (by decide))).tr (frK.u _ 28 _ (by decide))).tr (frK.u _ 25 _ (by decide))) hokr.1 hokr.2 rfl (by omega) (by have hcl : cL (q0 :: r) = q0.1.length + q0.2.length + cL r := rfl; omega) (by have hsl := sR_len q0 r w; omega) (fun K z => by have h := ((hR1 K z).tr (hRA.tr (s3_end hB))).tr (s5_go hD); rw [hom] at h; exact h)
          · cases r with
            | nil =>
              refine g_aload_n (nx := 15) 0 F dX12_readsSum_14 rfl rfl rfl ?_
              refine g_callV (nx := 18) 0 0 [] F dX12_readsSum_15 rfl ml_RX12_199 mo_X12_here rfl rfl rfl rfl (Nat.le_of_ble_eq_true rfl) (by first | decide | omega) (k_here n _ _ _ c _ _ _ _ H1) (fun r_15 τ_15 q_15 => ?_)
              obtain ⟨rfl, et_15⟩ := q_15
              have et_15 := et_15.symm
              subst et_15
              dsimp only [Option.toList, List.append, List.cons_append, List.nil_append]
              refine g_callS (nx := 21) 1 0 [.int (sgI (c p1))] F dX12_readsSum_18 rfl ml_RX12_247 mo_X12_sumSign rfl rfl (Nat.le_of_ble_eq_true rfl) (by first | decide | omega) (k_sumSign (c p1) _ hor) (fun r_18 τ_18 q_18 => ?_)
              obtain ⟨rfl, et_18⟩ := q_18
              have et_18 := et_18.symm
              subst et_18
              dsimp only [Option.toList, List.append, List.cons_append, List.nil_append]
              refine g_top (-1) (if_pos (by omega)) ?_
              refine g_istore_n (nx := 22) 2 F dX12_readsSum_21 rfl rfl (by decide) ?_
              try dsimp only [List.set]
              refine g_iload_n (nx := 23) 2 F dX12_readsSum_22 rfl rfl rfl ?_
              refine g_iconst (nx := 24) (-1) F dX12_readsSum_23 rfl rfl ?_
              refine g_icmp_eq (nx := 27) 83 F dX12_readsSum_24 rfl (by decide) (fun c_24 => ?_) (fun c_24 => absurd c_24 (by exact fun zq => zq rfl))
              refine g_aload_n (nx := 84) 0 F dX12_readsSum_83 rfl rfl rfl ?_
              refine g_callV (nx := 87) 0 0 [] F dX12_readsSum_84 rfl ml_RX12_199 mo_X12_here rfl rfl rfl rfl (Nat.le_of_ble_eq_true rfl) (by first | decide | omega) (k_here n _ _ _ c _ _ _ _ H1) (fun r_84 τ_84 q_84 => ?_)
              obtain ⟨rfl, et_84⟩ := q_84
              have et_84 := et_84.symm
              subst et_84
              dsimp only [Option.toList, List.append, List.cons_append, List.nil_append]
              refine g_bipush (nx := 89) (93) F dX12_readsSum_87 rfl (by decide) ?_
              refine g_icmp_ne (nx := 92) 138 F dX12_readsSum_89 rfl (by decide) (fun c_89 => ?_) (fun c_89 => absurd c_89 (by exact fun zq => hD ((sgI_eq hor (by decide)).mp zq)))
              refine g_aload_n (nx := 139) 0 F dX12_readsSum_138 rfl rfl rfl ?_
              refine g_iload_n (nx := 140) 1 F dX12_readsSum_139 rfl rfl rfl ?_
              refine g_callV (nx := 143) 1 0 [.int (nI w.length)] F dX12_readsSum_140 rfl ml_RX12_254 mo_X12_hasOpenSum rfl rfl rfl rfl (Nat.le_of_ble_eq_true rfl) (by first | decide | omega) (k_hasOpenSum n p1 o1 l1 c op1 vl1 (sK a m [] []) w _ (by rw [← sK_app]; exact H1)) (fun r_140 τ_140 q_140 => ?_)
              obtain ⟨rfl, et_140⟩ := q_140
              have et_140 := et_140.symm
              subst et_140
              dsimp only [Option.toList, List.append, List.cons_append, List.nil_append]
              refine g_if_eq (nx := 146) 156 F dX12_readsSum_143 rfl (by decide) (fun c_143 => ?_) (fun c_143 => absurd c_143 (by exact fun zq => zq (bI_f (by rw [any_0 hok]; decide))))
              refine g_aload_n (nx := 157) 0 F dX12_readsSum_156 rfl rfl rfl ?_
              refine g_iconst (nx := 158) (1) F dX12_readsSum_157 rfl rfl ?_
              refine g_callV (nx := 161) 1 1 [.int 1] F dX12_readsSum_158 rfl ml_RX12_250 mo_X12_closesSums rfl rfl rfl rfl (Nat.le_of_ble_eq_true rfl) (by first | decide | omega) (k_closesSums n p1 o1 l1 c op1 vl1 (m ++ a) _ (sR [] w) 1 _ H1 (sK_pops a m [] w) (by rw [List.length_append]; omega) hpop hntR) (fun r_158 τ_158 q_158 => ?_)
              obtain ⟨rfl, hS3, hf3⟩ := q_158
              dsimp only [Option.toList, List.append, List.cons_append, List.nil_append]
              refine g_iconst (nx := 162) (1) F dX12_readsSum_161 rfl rfl ?_
              refine g_zret F E dX12_readsSum_162 (by first | rfl | assumption) ?_
              have hoe : o1 = o := ho1
              have hcn : cL [] = 0 := rfl
              have hS4 : kcS τ_158 c n (p1, o, l1 + (m ++ a).length, emO (m ++ a) l1 op1, emV (m ++ a) l1 vl1) w := by rw [← hoe]; exact hS3
              exact Or.inl ⟨rfl, p1, _, _, _, hS4, hf1.tr hf3, hp1, by omega, fun K z => by have h := (hR1 K z).tr (hRA.tr (s3_end hB)); rw [hoe] at h; exact h⟩
            | cons q0 r =>
              refine g_aload_n (nx := 15) 0 F dX12_readsSum_14 rfl rfl rfl ?_
              refine g_callV (nx := 18) 0 0 [] F dX12_readsSum_15 rfl ml_RX12_199 mo_X12_here rfl rfl rfl rfl (Nat.le_of_ble_eq_true rfl) (by first | decide | omega) (k_here n _ _ _ c _ _ _ _ H1) (fun r_15 τ_15 q_15 => ?_)
              obtain ⟨rfl, et_15⟩ := q_15
              have et_15 := et_15.symm
              subst et_15
              dsimp only [Option.toList, List.append, List.cons_append, List.nil_append]
              refine g_callS (nx := 21) 1 0 [.int (sgI (c p1))] F dX12_readsSum_18 rfl ml_RX12_247 mo_X12_sumSign rfl rfl (Nat.le_of_ble_eq_true rfl) (by first | decide | omega) (k_sumSign (c p1) _ hor) (fun r_18 τ_18 q_18 => ?_)
              obtain ⟨rfl, et_18⟩ := q_18
              have et_18 := et_18.symm
              subst et_18
              dsimp only [Option.toList, List.append, List.cons_append, List.nil_append]
              refine g_top (-1) (if_pos (by omega)) ?_
              refine g_istore_n (nx := 22) 2 F dX12_readsSum_21 rfl rfl (by decide) ?_
              try dsimp only [List.set]
              refine g_iload_n (nx := 23) 2 F dX12_readsSum_22 rfl rfl rfl ?_
              refine g_iconst (nx := 24) (-1) F dX12_readsSum_23 rfl rfl ?_
              refine g_icmp_eq (nx := 27) 83 F dX12_readsSum_24 rfl (by decide) (fun c_24 => ?_) (fun c_24 => absurd c_24 (by exact fun zq => zq rfl))
              refine g_aload_n (nx := 84) 0 F dX12_readsSum_83 rfl rfl rfl ?_
              refine g_callV (nx := 87) 0 0 [] F dX12_readsSum_84 rfl ml_RX12_199 mo_X12_here rfl rfl rfl rfl (Nat.le_of_ble_eq_true rfl) (by first | decide | omega) (k_here n _ _ _ c _ _ _ _ H1) (fun r_84 τ_84 q_84 => ?_)
              obtain ⟨rfl, et_84⟩ := q_84
              have et_84 := et_84.symm
              subst et_84
              dsimp only [Option.toList, List.append, List.cons_append, List.nil_append]
              refine g_bipush (nx := 89) (93) F dX12_readsSum_87 rfl (by decide) ?_
              refine g_icmp_ne (nx := 92) 138 F dX12_readsSum_89 rfl (by decide) (fun c_89 => ?_) (fun c_89 => absurd c_89 (by exact fun zq => hD ((sgI_eq hor (by decide)).mp zq)))
              refine g_aload_n (nx := 139) 0 F dX12_readsSum_138 rfl rfl rfl ?_
              refine g_iload_n (nx := 140) 1 F dX12_readsSum_139 rfl rfl rfl ?_
              refine g_callV (nx := 143) 1 0 [.int (nI w.length)] F dX12_readsSum_140 rfl ml_RX12_254 mo_X12_hasOpenSum rfl rfl rfl rfl (Nat.le_of_ble_eq_true rfl) (by first | decide | omega) (k_hasOpenSum n p1 o1 l1 c op1 vl1 (sK a m (q0 :: r) []) w _ (by rw [← sK_app]; exact H1)) (fun r_140 τ_140 q_140 => ?_)
              obtain ⟨rfl, et_140⟩ := q_140
              have et_140 := et_140.symm
              subst et_140
              dsimp only [Option.toList, List.append, List.cons_append, List.nil_append]
              refine g_if_eq (nx := 146) 156 F dX12_readsSum_143 rfl (by decide) (fun c_143 => absurd c_143 (by exact bI_n0.mpr (any_1 q0 r))) (fun c_143 => ?_)
              refine g_aload_n (nx := 147) 0 F dX12_readsSum_146 rfl rfl rfl ?_
              refine g_iconst (nx := 148) (1) F dX12_readsSum_147 rfl rfl ?_
              refine g_aload_n (nx := 149) 0 F dX12_readsSum_148 rfl rfl rfl ?_
              refine g_getV (nx := 152) (nI p1) F dX12_readsSum_149 rfl fl_RX12_193 rfl (by decide) (by decide) rfl rfl (H1.2.1.1) ?_
              refine g_callV (nx := 155) 2 0 [.int 1, .int (nI p1)] F dX12_readsSum_152 rfl ml_RX12_206 mo_X12_wrong rfl rfl rfl rfl (Nat.le_of_ble_eq_true rfl) (by first | decide | omega) (k_wrong n _ _ _ 1 c _ _ 1 _ H1 rfl) (fun r_152 τ_152 q_152 => ?_)
              obtain ⟨rfl, hF_152, hf_152⟩ := q_152
              dsimp only [Option.toList, List.append, List.cons_append, List.nil_append]
              refine g_zret F E dX12_readsSum_155 (by first | rfl | assumption) ?_
              exact Or.inr ⟨rfl, 1, (p1, o1, l1 + (m ++ a).length, emO (m ++ a) l1 op1, emV (m ++ a) l1 vl1), hF_152, hf1.tr hf_152, fun K z => ((hR1 K z).tr (hRA.tr (s3_end hB))).tr (s5_bad hD)⟩
  refine g_aload_n (nx := 1) 0 F dX12_readsSum_0 rfl rfl rfl ?_
  refine g_getV (nx := 4) (nI w.length) F dX12_readsSum_1 rfl fl_RX12_224 rfl (by decide) (by decide) rfl rfl (H.2.1.2.2.2.2) ?_
  refine g_istore_n (nx := 5) 1 F dX12_readsSum_4 rfl rfl (by decide) ?_
  try dsimp only [List.set]
  refine g_aload_n (nx := 6) 0 F dX12_readsSum_5 rfl rfl rfl ?_
  refine g_callV (nx := 9) 0 3 [] F dX12_readsSum_6 rfl ml_RX12_244 mo_X12_readsFactor rfl rfl rfl rfl (Nat.le_of_ble_eq_true rfl) (by first | decide | omega) (k_readsFactor n p o l c op vl hd [] [] [] w _ H ⟨fun x hx => absurd hx List.not_mem_nil, fun x hx => absurd hx List.not_mem_nil⟩ trivial (by omega) hwp) (fun r_6 τ_6 q_6 => ?_)
  skip
  rcases q_6 with ⟨rfl, p2, o2, op2, vl2, a2, mm2, r2, hS2, hf2, hp2, ho2, hc2, hok2, hokr2, hw2, hR2⟩ | ⟨rfl, f2, e2, hF2, hf2, hR2⟩
  · dsimp only [Option.toList, List.append, List.cons_append, List.nil_append]
    refine g_if_ne (nx := 12) 14 F dX12_readsSum_9 rfl (by decide) (fun c_9 => ?_) (fun c_9 => absurd c_9 (by decide))
    exact L (n + 1) p2 o2 _ op2 vl2 a2 mm2 r2 _ _ (by omega) hS2 hf2 hok2 hokr2 (by simp only [List.length_nil] at ho2; omega) hp2 (by have h0 : cL [] = 0 := rfl; simp only [List.length_nil, h0] at hc2; omega) (by have h0 : (sK [] [] [] w).length = w.length := rfl; omega) hR2
  · dsimp only [Option.toList, List.append, List.cons_append, List.nil_append]
    refine g_if_ne (nx := 12) 14 F dX12_readsSum_9 rfl (by decide) (fun c_9 => absurd c_9 (by exact fun zq => zq rfl)) (fun c_9 => ?_)
    refine g_iconst (nx := 13) (0) F dX12_readsSum_12 rfl rfl ?_
    refine g_zret F E dX12_readsSum_13 (by first | rfl | assumption) ?_
    exact Or.inr ⟨rfl, f2, e2, hF2, hf2, hR2⟩
