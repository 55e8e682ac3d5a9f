def mS (x : List Nat) : TK := x.map (fun y => (y, 0))
def m2 (x : List Nat) : TK := x.map (fun y => (2, y))
abbrev LV : Type := List Nat × List Nat
/-- the levels of a sum, outermost last: the + or -, the * / % that wait -/
def tR : List LV → TK → TK
  | [], K => K
  | q :: r, K => (5, 0) :: (m2 q.2 ++ ((1, 0) :: (m2 q.1 ++ ((3, 0) :: tR r K))))
def tK (a m : List Nat) (r : List LV) (K : TK) : TK := m2 m ++ ((1, 0) :: (m2 a ++ ((3, 0) :: tR r K)))
def sR : List LV → TK → TK
  | [], w => w
  | q :: r, w => (14, 0) :: (mS q.2 ++ (mS q.1 ++ sR r w))
def sK (a m : List Nat) (r : List LV) (w : TK) : TK := mS m ++ (mS a ++ sR r w)
def cL : List LV → Nat
  | [] => 0
  | q :: r => q.1.length + q.2.length + cL r
def okA (a m : List Nat) : Prop := (∀ x ∈ a, x = 2 ∨ x = 3) ∧ ∀ x ∈ m, 4 ≤ x ∧ x ≤ 6
def okL : List LV → Prop
  | [] => True
  | q :: r => okA q.1 q.2 ∧ okL r
def ntW (w : TK) : Prop := ∀ x ∈ w.head?, ¬ (2 ≤ x.1 ∧ x.1 ≤ 6)
theorem ntW_R {r : List LV} {w : TK} (h : ntW w) : ntW (sR r w) := by
  cases r with
  | nil => exact h
  | cons q r => intro x hx; cases hx; decide
theorem mS_len (x : List Nat) : (mS x).length = x.length := List.length_map _
theorem sK_len (a m : List Nat) (r : List LV) (w : TK) : (sK a m r w).length = m.length + (a.length + (sR r w).length) := by
  unfold sK
  rw [List.length_append, List.length_append, mS_len, mS_len]
theorem sR_len (q : LV) (r : List LV) (w : TK) : (sR (q :: r) w).length = (sK q.1 q.2 r w).length + 1 := rfl
def emO : List Nat → Nat → (Nat → Nat) → Nat → Nat
  | [], _, op => op
  | x :: r, l, op => emO r (l + 1) (updN op l x)
def emV : List Nat → Nat → (Nat → Nat) → Nat → Nat
  | [], _, vl => vl
  | _ :: r, l, vl => emV r (l + 1) (updN vl l 0)
theorem emO_app : ∀ (x y : List Nat) (l : Nat) (op : Nat → Nat), emO (x ++ y) l op = emO y (l + x.length) (emO x l op)
  | [], _, _, _ => rfl
  | a :: x, y, l, op => by
    show emO (x ++ y) (l + 1) (updN op l a) = emO y (l + (x.length + 1)) (emO x (l + 1) (updN op l a))
    rw [emO_app x y, show l + (x.length + 1) = l + 1 + x.length by omega]
theorem emV_app : ∀ (x y : List Nat) (l : Nat) (op : Nat → Nat), emV (x ++ y) l op = emV y (l + x.length) (emV x l op)
  | [], _, _, _ => rfl
  | a :: x, y, l, op => by
    show emV (x ++ y) (l + 1) (updN op l 0) = emV y (l + (x.length + 1)) (emV x (l + 1) (updN op l 0))
    rw [emV_app x y, show l + (x.length + 1) = l + 1 + x.length by omega]
theorem Rn_em {c : Nat → Nat} {hd : Nat → Bool} {p o : Nat} {K : TK} {z : CS} : ∀ (x : List Nat) (l : Nat) (op vl : Nat → Nat), Rn c hd (m2 x ++ K, (p, o, l, op, vl), z) (K, (p, o, l + x.length, emO x l op, emV x l vl), z)
  | [], _, _, _ => Rn.rf _ _ _
  | a :: x, l, op, vl => by
    have h := Rn_em (c := c) (hd := hd) (p := p) (o := o) (K := K) (z := z) x (l + 1) (updN op l a) (updN vl l 0)
    rw [show l + 1 + x.length = l + (x.length + 1) by omega] at h
    exact Rn.tr (b := (m2 x ++ K, (p, o, l + 1, updN op l a, updN vl l 0), z)) s2 h
set_option maxHeartbeats 4000000 in
set_option maxRecDepth 100000 in
theorem k_closesSums (n p o l : Nat) (c op vl : Nat → Nat) (pops : List Nat) (w w1 : TK) (b : Int32) (σ : zSt) (H : kcS σ c n (p, o, l, op, vl) w) (hw : w = mS pops ++ w1) (hlp : l + pops.length ≤ 170) (hpo : ∀ x ∈ pops, (4 ≤ x ∧ x ≤ 6) ∨ (¬ b.toInt = 0 ∧ (x = 2 ∨ x = 3))) (hnt : ∀ x ∈ w1.head?, ¬ ((4 ≤ x.1 ∧ x.1 ≤ 6) ∨ (¬ b.toInt = 0 ∧ (x.1 = 2 ∨ x.1 = 3)))) : Con mX12_closesSums 1 [.ref 145, .int b] σ (fun r τ => r = none ∧ kcS τ c n (p, o, l + pops.length, emO pops l op, emV pops l vl) w1 ∧ frK σ τ) := by
  refine Con.of (lv := [.ref 145, .int b]) mk_X12_closesSums rfl (Nat.le_of_ble_eq_true rfl) rfl (fun X F E => ?_)
  subst hw
  have L : ∀ (ps : List Nat) (l1 : Nat) (op1 vl1 : Nat → Nat) (τ : zSt), kcS τ c n (p, o, l1, op1, vl1) (mS ps ++ w1) → frK σ τ → l1 + ps.length = l + pops.length → (∀ x ∈ ps, (4 ≤ x ∧ x ≤ 6) ∨ (¬ b.toInt = 0 ∧ (x = 2 ∨ x = 3))) → emO ps l1 op1 = emO pops l op → emV ps l1 vl1 = emV pops l vl → Gs X 0 [.ref 145, .int b] [] τ := by
    intro ps
    induction ps with
    | nil =>
      intro l1 op1 vl1 τ H1 hf1 hl1 hps hO1 hV1
      have hl1 : l1 = l + pops.length := hl1
      subst hl1
      have hO1 : op1 = emO pops l op := hO1
      have hV1 : vl1 = emV pops l vl := hV1
      subst hO1
      subst hV1
      have H1 : kcS τ c n (p, o, l + pops.length, emO pops l op, emV pops l vl) w1 := H1
      have Z : Gs X 59 [.ref 145, .int b] [] τ := by
        refine g_vret F E dX12_closesSums_59 ?_
        exact ⟨rfl, H1, hf1⟩
      have hw : ∃ v : Int, (tpI w1).toInt = v ∧ ¬ (4 ≤ v ∧ v ≤ 6) ∧ (¬ b.toInt = 0 → ¬ (v = 2 ∨ v = 3)) := by
        cases w1 with
        | nil => exact ⟨-1, rfl, by decide, fun _ => by decide⟩
        | cons y w2 =>
          have hy := H1.2.2.1.2.2.1
          have hz := hnt y rfl
          refine ⟨y.1, nI_toInt (by omega), fun q => hz (Or.inl (by omega)), fun q q2 => hz (Or.inr ⟨q, by omega⟩)⟩
      obtain ⟨v, ht, hv1, hv2⟩ := hw
      refine g_aload_n (nx := 1) 0 F dX12_closesSums_0 rfl rfl rfl ?_
      refine g_callV (nx := 4) 0 0 [] F dX12_closesSums_1 rfl ml_RX12_227 mo_X12_top rfl rfl rfl rfl (Nat.le_of_ble_eq_true rfl) (by first | decide | omega) (k_top n _ _ _ c _ _ _ _ H1) (fun r_1 τ_1 q_1 => ?_)
      obtain ⟨rfl, et_1⟩ := q_1
      have et_1 := et_1.symm
      subst et_1
      dsimp only [Option.toList, List.append, List.cons_append, List.nil_append]
      refine g_iconst (nx := 5) (4) F dX12_closesSums_4 rfl rfl ?_
      refine g_icmp_lt (nx := 8) 17 F dX12_closesSums_5 rfl (by decide) (fun c_5 => ?_) (fun c_5 => ?_)
      · refine g_iload_n (nx := 18) 1 F dX12_closesSums_17 rfl rfl rfl ?_
        refine g_if_eq (nx := 21) 59 F dX12_closesSums_18 rfl (by decide) (fun c_18 => ?_) (fun c_18 => ?_)
        · exact Z
        · refine g_aload_n (nx := 22) 0 F dX12_closesSums_21 rfl rfl rfl ?_
          refine g_callV (nx := 25) 0 0 [] F dX12_closesSums_22 rfl ml_RX12_227 mo_X12_top rfl rfl rfl rfl (Nat.le_of_ble_eq_true rfl) (by first | decide | omega) (k_top n _ _ _ c _ _ _ _ H1) (fun r_22 τ_22 q_22 => ?_)
          obtain ⟨rfl, et_22⟩ := q_22
          have et_22 := et_22.symm
          subst et_22
          dsimp only [Option.toList, List.append, List.cons_append, List.nil_append]
          refine g_iconst (nx := 26) (2) F dX12_closesSums_25 rfl rfl ?_
          refine g_icmp_eq (nx := 29) 37 F dX12_closesSums_26 rfl (by decide) (fun c_26 => ?_) (fun c_26 => ?_)
          · exfalso
            clear F E Z H H1
            simp only [ht, fa_lt, fa_le, fa_eq, ne_eq, Int32.reduceToInt, Int32.toInt_zero, Decidable.not_not] at *
            omega
          · refine g_aload_n (nx := 30) 0 F dX12_closesSums_29 rfl rfl rfl ?_
            refine g_callV (nx := 33) 0 0 [] F dX12_closesSums_30 rfl ml_RX12_227 mo_X12_top rfl rfl rfl rfl (Nat.le_of_ble_eq_true rfl) (by first | decide | omega) (k_top n _ _ _ c _ _ _ _ H1) (fun r_30 τ_30 q_30 => ?_)
            obtain ⟨rfl, et_30⟩ := q_30
            have et_30 := et_30.symm
            subst et_30
            dsimp only [Option.toList, List.append, List.cons_append, List.nil_append]
            refine g_iconst (nx := 34) (3) F dX12_closesSums_33 rfl rfl ?_
            refine g_icmp_ne (nx := 37) 59 F dX12_closesSums_34 rfl (by decide) (fun c_34 => ?_) (fun c_34 => ?_)
            · exact Z
            · exfalso
              clear F E Z H H1
              simp only [ht, fa_lt, fa_le, fa_eq, ne_eq, Int32.reduceToInt, Int32.toInt_zero, Decidable.not_not] at *
              omega
      · refine g_aload_n (nx := 9) 0 F dX12_closesSums_8 rfl rfl rfl ?_
        refine g_callV (nx := 12) 0 0 [] F dX12_closesSums_9 rfl ml_RX12_227 mo_X12_top rfl rfl rfl rfl (Nat.le_of_ble_eq_true rfl) (by first | decide | omega) (k_top n _ _ _ c _ _ _ _ H1) (fun r_9 τ_9 q_9 => ?_)
        obtain ⟨rfl, et_9⟩ := q_9
        have et_9 := et_9.symm
        subst et_9
        dsimp only [Option.toList, List.append, List.cons_append, List.nil_append]
        refine g_bipush (nx := 14) (6) F dX12_closesSums_12 rfl (by decide) ?_
        refine g_icmp_le (nx := 17) 37 F dX12_closesSums_14 rfl (by decide) (fun c_14 => ?_) (fun c_14 => ?_)
        · exfalso
          clear F E Z H H1
          simp only [ht, fa_lt, fa_le, fa_eq, ne_eq, Int32.reduceToInt, Int32.toInt_zero, Decidable.not_not] at *
          omega
        · refine g_iload_n (nx := 18) 1 F dX12_closesSums_17 rfl rfl rfl ?_
          refine g_if_eq (nx := 21) 59 F dX12_closesSums_18 rfl (by decide) (fun c_18 => ?_) (fun c_18 => ?_)
          · exact Z
          · refine g_aload_n (nx := 22) 0 F dX12_closesSums_21 rfl rfl rfl ?_
            refine g_callV (nx := 25) 0 0 [] F dX12_closesSums_22 rfl ml_RX12_227 mo_X12_top rfl rfl rfl rfl (Nat.le_of_ble_eq_true rfl) (by first | decide | omega) (k_top n _ _ _ c _ _ _ _ H1) (fun r_22 τ_22 q_22 => ?_)
            obtain ⟨rfl, et_22⟩ := q_22
            have et_22 := et_22.symm
            subst et_22
            dsimp only [Option.toList, List.append, List.cons_append, List.nil_append]
            refine g_iconst (nx := 26) (2) F dX12_closesSums_25 rfl rfl ?_
            refine g_icmp_eq (nx := 29) 37 F dX12_closesSums_26 rfl (by decide) (fun c_26 => ?_) (fun c_26 => ?_)
            · exfalso
              clear F E Z H H1
              simp only [ht, fa_lt, fa_le, fa_eq, ne_eq, Int32.reduceToInt, Int32.toInt_zero, Decidable.not_not] at *
              omega
            · refine g_aload_n (nx := 30) 0 F dX12_closesSums_29 rfl rfl rfl ?_
              refine g_callV (nx := 33) 0 0 [] F dX12_closesSums_30 rfl ml_RX12_227 mo_X12_top rfl rfl rfl rfl (Nat.le_of_ble_eq_true rfl) (by first | decide | omega) (k_top n _ _ _ c _ _ _ _ H1) (fun r_30 τ_30 q_30 => ?_)
              obtain ⟨rfl, et_30⟩ := q_30
              have et_30 := et_30.symm
              subst et_30
              dsimp only [Option.toList, List.append, List.cons_append, List.nil_append]
              refine g_iconst (nx := 34) (3) F dX12_closesSums_33 rfl rfl ?_
              refine g_icmp_ne (nx := 37) 59 F dX12_closesSums_34 rfl (by decide) (fun c_34 => ?_) (fun c_34 => ?_)
              · exact Z
              · exfalso
                clear F E Z H H1
                simp only [ht, fa_lt, fa_le, fa_eq, ne_eq, Int32.reduceToInt, Int32.toInt_zero, Decidable.not_not] at *
                omega
    | cons x ps ih =>
      intro l1 op1 vl1 τ H1 hf1 hl1 hps hO1 hV1
      have hx := hps x List.mem_cons_self
      have hl1 : l1 + (ps.length + 1) = l + pops.length := hl1
      have hO1 : emO ps (l1 + 1) (updN op1 l1 x) = emO pops l op := hO1
      have hV1 : emV ps (l1 + 1) (updN vl1 l1 0) = emV pops l vl := hV1
      have H1 : kcS τ c n (p, o, l1, op1, vl1) ((x, 0) :: (mS ps ++ w1)) := H1
      have ht : (nI x).toInt = x := nI_toInt (by omega)
      have T : Gs X 37 [.ref 145, .int b] [] τ := by
        refine g_aload_n (nx := 38) 0 F dX12_closesSums_37 rfl rfl rfl ?_
        refine g_aload_n (nx := 39) 0 F dX12_closesSums_38 rfl rfl rfl ?_
        refine g_callV (nx := 42) 0 0 [] F dX12_closesSums_39 rfl ml_RX12_227 mo_X12_top rfl rfl rfl rfl (Nat.le_of_ble_eq_true rfl) (by first | decide | omega) (k_top n _ _ _ c _ _ _ _ H1) (fun r_39 τ_39 q_39 => ?_)
        obtain ⟨rfl, et_39⟩ := q_39
        have et_39 := et_39.symm
        subst et_39
        dsimp only [Option.toList, List.append, List.cons_append, List.nil_append]
        refine g_iconst (nx := 43) (0) F dX12_closesSums_42 rfl rfl ?_
        refine g_callV (nx := 46) 2 0 [.int (nI x), .int (0)] F dX12_closesSums_43 rfl ml_RX12_230 mo_X12_says rfl rfl rfl rfl (Nat.le_of_ble_eq_true rfl) (by first | decide | omega) (k_says n _ _ _ (x) (0) c _ _ (nI x) (0) _ _ H1 (rfl) (rfl) (by omega) (by decide) (by omega)) (fun r_43 τ_43 q_43 => ?_)
        obtain ⟨rfl, hS_43, hf_43⟩ := q_43
        dsimp only [Option.toList, List.append, List.cons_append, List.nil_append]
        refine g_aload_n (nx := 47) 0 F dX12_closesSums_46 rfl rfl rfl ?_
        refine g_aload_n (nx := 48) 0 F dX12_closesSums_47 rfl rfl rfl ?_
        refine g_getV (nx := 51) (nI ((mS ps ++ w1).length + 1)) F dX12_closesSums_48 rfl fl_RX12_224 rfl (by decide) (by decide) rfl rfl (hS_43.2.1.2.2.2.2) ?_
        refine g_iconst (nx := 52) (1) F dX12_closesSums_51 rfl rfl ?_
        refine g_isub (nx := 53) F dX12_closesSums_52 rfl ?_
        rw [nI_pred]
        refine g_putI (nx := 56) F dX12_closesSums_53 rfl fl_RX12_224 fi_11_30 rfl (by decide) (by decide) rfl rfl ?_
        refine g_goto 0 F dX12_closesSums_56 (by decide) ?_
        refine ih (l1 + 1) (updN op1 l1 x) (updN vl1 l1 0) _ (kcS_145 hS_43 (fun a ha => by rw [zu_ne _ ha]) hS_43.2.1.1 rfl hS_43.2.1.2.2.1 rfl rfl (fun h => h.2.2.2) hS_43.2.2.2.1 hS_43.2.2.2.2.1 (Nat.le_of_succ_le hS_43.2.2.2.2.2.2)) ((hf1.tr hf_43).tr (frK.u _ 30 _ (by decide))) (by omega) (fun y hy => hps y (List.mem_cons_of_mem _ hy)) hO1 hV1
      refine g_aload_n (nx := 1) 0 F dX12_closesSums_0 rfl rfl rfl ?_
      refine g_callV (nx := 4) 0 0 [] F dX12_closesSums_1 rfl ml_RX12_227 mo_X12_top rfl rfl rfl rfl (Nat.le_of_ble_eq_true rfl) (by first | decide | omega) (k_top n _ _ _ c _ _ _ _ H1) (fun r_1 τ_1 q_1 => ?_)
      obtain ⟨rfl, et_1⟩ := q_1
      have et_1 := et_1.symm
      subst et_1
      dsimp only [Option.toList, List.append, List.cons_append, List.nil_append]
      refine g_iconst (nx := 5) (4) F dX12_closesSums_4 rfl rfl ?_
      refine g_icmp_lt (nx := 8) 17 F dX12_closesSums_5 rfl (by decide) (fun c_5 => ?_) (fun c_5 => ?_)
      · refine g_iload_n (nx := 18) 1 F dX12_closesSums_17 rfl rfl rfl ?_
        refine g_if_eq (nx := 21) 59 F dX12_closesSums_18 rfl (by decide) (fun c_18 => ?_) (fun c_18 => ?_)
        · exfalso
          clear F E T H H1 ih hps
          simp only [tpI, ht, fa_lt, fa_le, fa_eq, ne_eq, Int32.reduceToInt, Int32.toInt_zero, Decidable.not_not] at *
          omega
        · refine g_aload_n (nx := 22) 0 F dX12_closesSums_21 rfl rfl rfl ?_
          refine g_callV (nx := 25) 0 0 [] F dX12_closesSums_22 rfl ml_RX12_227 mo_X12_top rfl rfl rfl rfl (Nat.le_of_ble_eq_true rfl) (by first | decide | omega) (k_top n _ _ _ c _ _ _ _ H1) (fun r_22 τ_22 q_22 => ?_)
          obtain ⟨rfl, et_22⟩ := q_22
          have et_22 := et_22.symm
          subst et_22
          dsimp only [Option.toList, List.append, List.cons_append, List.nil_append]
          refine g_iconst (nx := 26) (2) F dX12_closesSums_25 rfl rfl ?_
          refine g_icmp_eq (nx := 29) 37 F dX12_closesSums_26 rfl (by decide) (fun c_26 => ?_) (fun c_26 => ?_)
          · exact T
          · refine g_aload_n (nx := 30) 0 F dX12_closesSums_29 rfl rfl rfl ?_
            refine g_callV (nx := 33) 0 0 [] F dX12_closesSums_30 rfl ml_RX12_227 mo_X12_top rfl rfl rfl rfl (Nat.le_of_ble_eq_true rfl) (by first | decide | omega) (k_top n _ _ _ c _ _ _ _ H1) (fun r_30 τ_30 q_30 => ?_)
            obtain ⟨rfl, et_30⟩ := q_30
            have et_30 := et_30.symm
            subst et_30
            dsimp only [Option.toList, List.append, List.cons_append, List.nil_append]
            refine g_iconst (nx := 34) (3) F dX12_closesSums_33 rfl rfl ?_
            refine g_icmp_ne (nx := 37) 59 F dX12_closesSums_34 rfl (by decide) (fun c_34 => ?_) (fun c_34 => ?_)
            · exfalso
              clear F E T H H1 ih hps
              simp only [tpI, ht, fa_lt, fa_le, fa_eq, ne_eq, Int32.reduceToInt, Int32.toInt_zero, Decidable.not_not] at *
              omega
            · exact T
      · refine g_aload_n (nx := 9) 0 F dX12_closesSums_8 rfl rfl rfl ?_
        refine g_callV (nx := 12) 0 0 [] F dX12_closesSums_9 rfl ml_RX12_227 mo_X12_top rfl rfl rfl rfl (Nat.le_of_ble_eq_true rfl) (by first | decide | omega) (k_top n _ _ _ c _ _ _ _ H1) (fun r_9 τ_9 q_9 => ?_)
        obtain ⟨rfl, et_9⟩ := q_9
        have et_9 := et_9.symm
        subst et_9
        dsimp only [Option.toList, List.append, List.cons_append, List.nil_append]
        refine g_bipush (nx := 14) (6) F dX12_closesSums_12 rfl (by decide) ?_
        refine g_icmp_le (nx := 17) 37 F dX12_closesSums_14 rfl (by decide) (fun c_14 => ?_) (fun c_14 => ?_)
        · exact T
        · refine g_iload_n (nx := 18) 1 F dX12_closesSums_17 rfl rfl rfl ?_
          refine g_if_eq (nx := 21) 59 F dX12_closesSums_18 rfl (by decide) (fun c_18 => ?_) (fun c_18 => ?_)
          · exfalso
            clear F E T H H1 ih hps
            simp only [tpI, ht, fa_lt, fa_le, fa_eq, ne_eq, Int32.reduceToInt, Int32.toInt_zero, Decidable.not_not] at *
            omega
          · refine g_aload_n (nx := 22) 0 F dX12_closesSums_21 rfl rfl rfl ?_
            refine g_callV (nx := 25) 0 0 [] F dX12_closesSums_22 rfl ml_RX12_227 mo_X12_top rfl rfl rfl rfl (Nat.le_of_ble_eq_true rfl) (by first | decide | omega) (k_top n _ _ _ c _ _ _ _ H1) (fun r_22 τ_22 q_22 => ?_)
            obtain ⟨rfl, et_22⟩ := q_22
            have et_22 := et_22.symm
            subst et_22
            dsimp only [Option.toList, List.append, List.cons_append, List.nil_append]
            refine g_iconst (nx := 26) (2) F dX12_closesSums_25 rfl rfl ?_
            refine g_icmp_eq (nx := 29) 37 F dX12_closesSums_26 rfl (by decide) (fun c_26 => ?_) (fun c_26 => ?_)
            · exact T
            · refine g_aload_n (nx := 30) 0 F dX12_closesSums_29 rfl rfl rfl ?_
              refine g_callV (nx := 33) 0 0 [] F dX12_closesSums_30 rfl ml_RX12_227 mo_X12_top rfl rfl rfl rfl (Nat.le_of_ble_eq_true rfl) (by first | decide | omega) (k_top n _ _ _ c _ _ _ _ H1) (fun r_30 τ_30 q_30 => ?_)
              obtain ⟨rfl, et_30⟩ := q_30
              have et_30 := et_30.symm
              subst et_30
              dsimp only [Option.toList, List.append, List.cons_append, List.nil_append]
              refine g_iconst (nx := 34) (3) F dX12_closesSums_33 rfl rfl ?_
              refine g_icmp_ne (nx := 37) 59 F dX12_closesSums_34 rfl (by decide) (fun c_34 => ?_) (fun c_34 => ?_)
              · exfalso
                clear F E T H H1 ih hps
                simp only [tpI, ht, fa_lt, fa_le, fa_eq, ne_eq, Int32.reduceToInt, Int32.toInt_zero, Decidable.not_not] at *
                omega
              · exact T
  exact L pops l op vl σ H (frK.rf σ) rfl hpo rfl rfl
theorem wtA_mid {f : Nat → Int32} {a b : TK} {x : Nat × Nat} (h : wtA f (a ++ x :: b)) : f b.length = nI (1048576 * x.1 + x.2) ∧ x.1 ≤ 14 ∧ x.2 < 1000 := by
  have g := wtA_app h
  exact ⟨g.1, g.2.1, g.2.2.1⟩
def is14 (x : Nat × Nat) : Bool := decide (x.1 = 14)
set_option maxHeartbeats 4000000 in
set_option maxRecDepth 100000 in
theorem k_hasOpenSum (n p o l : Nat) (c op vl : Nat → Nat) (s w0 : TK) (σ : zSt) (H : kcS σ c n (p, o, l, op, vl) (s ++ w0)) : Con mX12_hasOpenSum 0 [.ref 145, .int (nI w0.length)] σ (fun r τ => r = some (.int (bI (s.any is14 = true))) ∧ τ = σ) := by
  refine Con.of (lv := [.ref 145, .int (nI w0.length), .long 0]) mk_X12_hasOpenSum rfl (Nat.le_of_ble_eq_true rfl) rfl (fun X F E => ?_)
  have hw170 := H.2.2.2.2.2.2
  have hlw : (s ++ w0).length = s.length + w0.length := List.length_append
  have L : ∀ (s1 s2 : TK), s = s1.reverse ++ s2 → s2.any is14 = false → Gs X 2 [.ref 145, .int (nI w0.length), .int (nI (s2 ++ w0).length)] [] σ := by
    intro s1
    induction s1 with
    | nil =>
      intro s2 hs h2
      have hs : s = s2 := hs
      subst hs
      refine g_iload_n (nx := 3) 2 F dX12_hasOpenSum_2 rfl rfl rfl ?_
      refine g_aload_n (nx := 4) 0 F dX12_hasOpenSum_3 rfl rfl rfl ?_
      refine g_getV (nx := 7) (nI (s ++ w0).length) F dX12_hasOpenSum_4 rfl fl_RX12_224 rfl (by decide) (by decide) rfl rfl (H.2.1.2.2.2.2) ?_
      refine g_icmp_ge (nx := 10) 32 F dX12_hasOpenSum_7 rfl (by decide) (fun c_7 => ?_) (fun c_7 => absurd c_7 (by exact fun zq => zq (nI_le (Nat.le_refl _) (by omega))))
      refine g_iconst (nx := 33) (0) F dX12_hasOpenSum_32 rfl rfl ?_
      refine g_zret F E dX12_hasOpenSum_33 (by first | rfl | assumption) ?_
      exact ⟨congrArg (fun z => some (Value.int z)) (bI_f (by rw [h2]; decide)).symm, rfl⟩
    | cons x s1 ih =>
      intro s2 hs h2
      have hs2 : s = s1.reverse ++ (x :: s2) := by rw [hs, List.reverse_cons, List.append_assoc]; rfl
      have hlt : (s2 ++ w0).length < (s ++ w0).length := by rw [hs2]; simp only [List.length_append, List.length_cons]; omega
      have hx := wtA_mid (a := s1.reverse) (x := x) (b := s2 ++ w0) (by have := H.2.2.1.2; rw [hs2, List.append_assoc] at this; exact this)
      by_cases hA : x.1 = 14
      · refine g_iload_n (nx := 3) 2 F dX12_hasOpenSum_2 rfl rfl rfl ?_
        refine g_aload_n (nx := 4) 0 F dX12_hasOpenSum_3 rfl rfl rfl ?_
        refine g_getV (nx := 7) (nI (s ++ w0).length) F dX12_hasOpenSum_4 rfl fl_RX12_224 rfl (by decide) (by decide) rfl rfl (H.2.1.2.2.2.2) ?_
        refine g_icmp_ge (nx := 10) 32 F dX12_hasOpenSum_7 rfl (by decide) (fun c_7 => absurd c_7 (by exact nI_ge hlt (by omega))) (fun c_7 => ?_)
        refine g_aload_n (nx := 11) 0 F dX12_hasOpenSum_10 rfl rfl rfl ?_
        refine g_getR (nx := 14) F dX12_hasOpenSum_11 rfl fl_RX12_65 rfl (by decide) (by decide) rfl ?_
        refine g_iload_n (nx := 15) 2 F dX12_hasOpenSum_14 rfl rfl rfl ?_
        refine g_ialdN (nx := 16) ((s2 ++ w0).length) (nI (1048576 * x.1 + x.2)) F dX12_hasOpenSum_15 rfl rfl (by omega) (hx.1) ?_
        refine g_ldc (nx := 18) (1048576) F dX12_hasOpenSum_16 rfl co_RX12_220 ?_
        refine g_idiv (nx := 19) F dX12_hasOpenSum_18 rfl (by decide) ?_
        refine g_bipush (nx := 21) (14) F dX12_hasOpenSum_19 rfl (by decide) ?_
        refine g_icmp_ne (nx := 24) 26 F dX12_hasOpenSum_21 rfl (by decide) (fun c_21 => absurd c_21 (by exact fun zq => zq (by rw [wt_op hx.2.1 hx.2.2, hA]; rfl))) (fun c_21 => ?_)
        refine g_iconst (nx := 25) (1) F dX12_hasOpenSum_24 rfl rfl ?_
        refine g_zret F E dX12_hasOpenSum_25 (by first | rfl | assumption) ?_
        exact ⟨congrArg (fun z => some (Value.int z)) (bI_t (by rw [hs2, List.any_append, List.any_cons, show is14 x = true from decide_eq_true hA, Bool.true_or, Bool.or_true])).symm, rfl⟩
      · refine g_iload_n (nx := 3) 2 F dX12_hasOpenSum_2 rfl rfl rfl ?_
        refine g_aload_n (nx := 4) 0 F dX12_hasOpenSum_3 rfl rfl rfl ?_
        refine g_getV (nx := 7) (nI (s ++ w0).length) F dX12_hasOpenSum_4 rfl fl_RX12_224 rfl (by decide) (by decide) rfl rfl (H.2.1.2.2.2.2) ?_
        refine g_icmp_ge (nx := 10) 32 F dX12_hasOpenSum_7 rfl (by decide) (fun c_7 => absurd c_7 (by exact nI_ge hlt (by omega))) (fun c_7 => ?_)
        refine g_aload_n (nx := 11) 0 F dX12_hasOpenSum_10 rfl rfl rfl ?_
        refine g_getR (nx := 14) F dX12_hasOpenSum_11 rfl fl_RX12_65 rfl (by decide) (by decide) rfl ?_
        refine g_iload_n (nx := 15) 2 F dX12_hasOpenSum_14 rfl rfl rfl ?_
        refine g_ialdN (nx := 16) ((s2 ++ w0).length) (nI (1048576 * x.1 + x.2)) F dX12_hasOpenSum_15 rfl rfl (by omega) (hx.1) ?_
        refine g_ldc (nx := 18) (1048576) F dX12_hasOpenSum_16 rfl co_RX12_220 ?_
        refine g_idiv (nx := 19) F dX12_hasOpenSum_18 rfl (by decide) ?_
        refine g_bipush (nx := 21) (14) F dX12_hasOpenSum_19 rfl (by decide) ?_
        refine g_icmp_ne (nx := 24) 26 F dX12_hasOpenSum_21 rfl (by decide) (fun c_21 => ?_) (fun c_21 => absurd c_21 (by exact fun zq => hA ((nI_eq (b := 14) (by omega) (by omega)).mp ((wt_op hx.2.1 hx.2.2).symm.trans zq))))
        refine g_iinc (nx := 29) (1) F dX12_hasOpenSum_26 rfl rfl (by decide) (by decide) ?_
        try dsimp only [List.set]
        refine g_goto 2 F dX12_hasOpenSum_29 (by decide) ?_
        rw [nI_1]
        exact ih (x :: s2) hs2 (by rw [List.any_cons, show is14 x = false from decide_eq_false hA, Bool.false_or]; exact h2)
  refine g_iload_n (nx := 1) 1 F dX12_hasOpenSum_0 rfl rfl rfl ?_
  refine g_istore_n (nx := 2) 2 F dX12_hasOpenSum_1 rfl rfl (by decide) ?_
  try dsimp only [List.set]
  exact L s.reverse [] (by rw [List.reverse_reverse, List.append_nil]) rfl
set_option maxHeartbeats 4000000 in
set_option maxRecDepth 100000 in
theorem k_readsNumber (n p o l : Nat) (c op vl : Nat → Nat) (w : TK) (σ : zSt) (H : kcS σ c n (p, o, l, op, vl) w) : Con mX12_readsNumber 2 [.ref 145] σ (fun r τ => (r = some (.int 1) ∧ ∃ q v, ¬ dg (c q) = true ∧ numF c 5 p 0 = (q, v) ∧ kcS τ c n (q, o, l, op, vl) w ∧ τ 145 32 = nI v ∧ frK σ τ) ∨ (r = some (.int 0) ∧ ∃ q v, dg (c q) = true ∧ numF c 5 p 0 = (q, v) ∧ kcF τ 2 q ∧ frK σ τ)) := by
  refine Con.of (lv := [.ref 145, .long 0]) mk_X12_readsNumber rfl (Nat.le_of_ble_eq_true rfl) rfl (fun X F E => ?_)
  have hn160 := H.1.2.1
  have hpn := H.2.2.2.1
  have L : ∀ (r k q v : Nat) (τ : zSt), k + r = 5 → q = p + k → kcS τ c n (q, o, l, op, vl) w → τ 145 32 = nI v → frK σ τ → numF c r q v = numF c 5 p 0 → Gs X 10 [.ref 145, .int (nI p)] [] τ := by
    intro r
    induction r with
    | zero =>
      intro k q v τ hk hq H2 h32 hf hN
      have hk : k = 5 := hk
      subst hk
      by_cases hA : dg (c q) = true
      · refine g_aload_n (nx := 11) 0 F dX12_readsNumber_10 rfl rfl rfl ?_
        refine g_callV (nx := 14) 0 1 [] F dX12_readsNumber_11 rfl ml_RX12_213 mo_X12_isDigit rfl rfl rfl rfl (Nat.le_of_ble_eq_true rfl) (by first | decide | omega) (k_isDigit n _ _ _ c _ _ _ _ H2) (fun r_11 τ_11 q_11 => ?_)
        obtain ⟨rfl, et_11⟩ := q_11
        have et_11 := et_11.symm
        subst et_11
        dsimp only [Option.toList, List.append, List.cons_append, List.nil_append]
        refine g_if_eq (nx := 17) 69 F dX12_readsNumber_14 rfl (by decide) (fun c_14 => absurd c_14 (by exact bI_n0.mpr hA)) (fun c_14 => ?_)
        refine g_aload_n (nx := 18) 0 F dX12_readsNumber_17 rfl rfl rfl ?_
        refine g_getV (nx := 21) (nI q) F dX12_readsNumber_18 rfl fl_RX12_193 rfl (by decide) (by decide) rfl rfl (H2.2.1.1) ?_
        refine g_iload_n (nx := 22) 1 F dX12_readsNumber_21 rfl rfl rfl ?_
        refine g_iconst (nx := 23) (5) F dX12_readsNumber_22 rfl rfl ?_
        refine g_iadd (nx := 24) F dX12_readsNumber_23 rfl ?_
        refine g_icmp_ne (nx := 27) 37 F dX12_readsNumber_24 rfl (by decide) (fun c_24 => absurd c_24 (by exact fun zq => zq (by rw [hq, show (5 : Int32) = nI 5 from rfl, nI_add]))) (fun c_24 => ?_)
        refine g_aload_n (nx := 28) 0 F dX12_readsNumber_27 rfl rfl rfl ?_
        refine g_iconst (nx := 29) (2) F dX12_readsNumber_28 rfl rfl ?_
        refine g_aload_n (nx := 30) 0 F dX12_readsNumber_29 rfl rfl rfl ?_
        refine g_getV (nx := 33) (nI q) F dX12_readsNumber_30 rfl fl_RX12_193 rfl (by decide) (by decide) rfl rfl (H2.2.1.1) ?_
        refine g_callV (nx := 36) 2 0 [.int 2, .int (nI q)] F dX12_readsNumber_33 rfl ml_RX12_206 mo_X12_wrong rfl rfl rfl rfl (Nat.le_of_ble_eq_true rfl) (by first | decide | omega) (k_wrong n _ _ _ 2 c _ _ 2 _ H2 rfl) (fun r_33 τ_33 q_33 => ?_)
        obtain ⟨rfl, hF_33, hf_33⟩ := q_33
        dsimp only [Option.toList, List.append, List.cons_append, List.nil_append]
        refine g_zret F E dX12_readsNumber_36 (by first | rfl | assumption) ?_
        exact Or.inr ⟨rfl, q, v, hA, hN.symm, hF_33, hf.tr hf_33⟩
      · refine g_aload_n (nx := 11) 0 F dX12_readsNumber_10 rfl rfl rfl ?_
        refine g_callV (nx := 14) 0 1 [] F dX12_readsNumber_11 rfl ml_RX12_213 mo_X12_isDigit rfl rfl rfl rfl (Nat.le_of_ble_eq_true rfl) (by first | decide | omega) (k_isDigit n _ _ _ c _ _ _ _ H2) (fun r_11 τ_11 q_11 => ?_)
        obtain ⟨rfl, et_11⟩ := q_11
        have et_11 := et_11.symm
        subst et_11
        dsimp only [Option.toList, List.append, List.cons_append, List.nil_append]
        refine g_if_eq (nx := 17) 69 F dX12_readsNumber_14 rfl (by decide) (fun c_14 => ?_) (fun c_14 => absurd c_14 (by exact fun zq => zq (bI_f hA)))
        refine g_iconst (nx := 70) (1) F dX12_readsNumber_69 rfl rfl ?_
        refine g_zret F E dX12_readsNumber_70 (by first | rfl | assumption) ?_
        exact Or.inl ⟨rfl, q, v, hA, hN.symm, H2, h32, hf⟩
    | succ r ih =>
      intro k q v τ hk hq H2 h32 hf hN
      rw [numF] at hN
      by_cases hA : dg (c q) = true
      · have hg := of_decide_eq_true hA
        have hlt := inC_lt (p := q) H2.1.1 (by omega)
        rw [if_pos hA] at hN
        have T : Gs X 37 [.ref 145, .int (nI p)] [] τ := by
          refine g_aload_n (nx := 38) 0 F dX12_readsNumber_37 rfl rfl rfl ?_
          refine g_bipush (nx := 40) (10) F dX12_readsNumber_38 rfl (by decide) ?_
          refine g_aload_n (nx := 41) 0 F dX12_readsNumber_40 rfl rfl rfl ?_
          refine g_getV (nx := 44) (nI v) F dX12_readsNumber_41 rfl fl_RX12_210 rfl (by decide) (by decide) rfl rfl (h32) ?_
          refine g_imul (nx := 45) F dX12_readsNumber_44 rfl ?_
          refine g_aload_n (nx := 46) 0 F dX12_readsNumber_45 rfl rfl rfl ?_
          refine g_callV (nx := 49) 0 0 [] F dX12_readsNumber_46 rfl ml_RX12_199 mo_X12_here rfl rfl rfl rfl (Nat.le_of_ble_eq_true rfl) (by first | decide | omega) (k_here n _ _ _ c _ _ _ _ H2) (fun r_46 τ_46 q_46 => ?_)
          obtain ⟨rfl, et_46⟩ := q_46
          have et_46 := et_46.symm
          subst et_46
          dsimp only [Option.toList, List.append, List.cons_append, List.nil_append]
          refine g_iadd (nx := 50) F dX12_readsNumber_49 rfl ?_
          refine g_bipush (nx := 52) (48) F dX12_readsNumber_50 rfl (by decide) ?_
          refine g_isub (nx := 53) F dX12_readsNumber_52 rfl ?_
          refine g_top (nI (10 * v + (c q - 48))) (by rw [show sgI (c q) = nI (c q) from if_neg (by omega), show (10 : Int32) = nI 10 from rfl, show (48 : Int32) = nI 48 from rfl, pk_mul, nI_add, pk_sub (by omega)]; exact congrArg nI (by omega)) ?_
          refine g_putI (nx := 56) F dX12_readsNumber_53 rfl fl_RX12_210 fi_11_32 rfl (by decide) (by decide) rfl rfl ?_
          refine g_aload_n (nx := 57) 0 F dX12_readsNumber_56 rfl rfl rfl ?_
          refine g_aload_n (nx := 58) 0 F dX12_readsNumber_57 rfl rfl rfl ?_
          refine g_getV (nx := 61) (nI q) F dX12_readsNumber_58 rfl fl_RX12_193 rfl (by decide) (by decide) rfl rfl (H2.2.1.1) ?_
          refine g_iconst (nx := 62) (1) F dX12_readsNumber_61 rfl rfl ?_
          refine g_iadd (nx := 63) F dX12_readsNumber_62 rfl ?_
          rw [nI_1]
          refine g_putI (nx := 66) F dX12_readsNumber_63 rfl fl_RX12_193 fi_11_25 rfl (by decide) (by decide) rfl rfl ?_
          refine g_goto 10 F dX12_readsNumber_66 (by decide) ?_
          refine ih (k + 1) (q + 1) _ _ (by omega) (by omega) (kcS_145 H2 (fun a ha => by rw [zu_ne _ ha, zu_ne _ ha]) rfl rfl H2.2.1.2.2.1 rfl H2.2.1.2.2.2.2 id hlt H2.2.2.2.2.1 H2.2.2.2.2.2.2) rfl ((hf.tr (frK.u _ 32 _ (by decide))).tr (frK.u _ 25 _ (by decide))) hN
        refine g_aload_n (nx := 11) 0 F dX12_readsNumber_10 rfl rfl rfl ?_
        refine g_callV (nx := 14) 0 1 [] F dX12_readsNumber_11 rfl ml_RX12_213 mo_X12_isDigit rfl rfl rfl rfl (Nat.le_of_ble_eq_true rfl) (by first | decide | omega) (k_isDigit n _ _ _ c _ _ _ _ H2) (fun r_11 τ_11 q_11 => ?_)
        obtain ⟨rfl, et_11⟩ := q_11
        have et_11 := et_11.symm
        subst et_11
        dsimp only [Option.toList, List.append, List.cons_append, List.nil_append]
        refine g_if_eq (nx := 17) 69 F dX12_readsNumber_14 rfl (by decide) (fun c_14 => absurd c_14 (by exact bI_n0.mpr hA)) (fun c_14 => ?_)
        refine g_aload_n (nx := 18) 0 F dX12_readsNumber_17 rfl rfl rfl ?_
        refine g_getV (nx := 21) (nI q) F dX12_readsNumber_18 rfl fl_RX12_193 rfl (by decide) (by decide) rfl rfl (H2.2.1.1) ?_
        refine g_iload_n (nx := 22) 1 F dX12_readsNumber_21 rfl rfl rfl ?_
        refine g_iconst (nx := 23) (5) F dX12_readsNumber_22 rfl rfl ?_
        refine g_iadd (nx := 24) F dX12_readsNumber_23 rfl ?_
        refine g_icmp_ne (nx := 27) 37 F dX12_readsNumber_24 rfl (by decide) (fun c_24 => ?_) (fun c_24 => absurd c_24 (by exact fun zq => absurd ((nI_eq (a := q) (b := p + 5) (by omega) (by omega)).mp (zq.trans (by rw [show (5 : Int32) = nI 5 from rfl, nI_add]))) (by omega)))
        exact T
      · rw [if_neg hA] at hN
        refine g_aload_n (nx := 11) 0 F dX12_readsNumber_10 rfl rfl rfl ?_
        refine g_callV (nx := 14) 0 1 [] F dX12_readsNumber_11 rfl ml_RX12_213 mo_X12_isDigit rfl rfl rfl rfl (Nat.le_of_ble_eq_true rfl) (by first | decide | omega) (k_isDigit n _ _ _ c _ _ _ _ H2) (fun r_11 τ_11 q_11 => ?_)
        obtain ⟨rfl, et_11⟩ := q_11
        have et_11 := et_11.symm
        subst et_11
        dsimp only [Option.toList, List.append, List.cons_append, List.nil_append]
        refine g_if_eq (nx := 17) 69 F dX12_readsNumber_14 rfl (by decide) (fun c_14 => ?_) (fun c_14 => absurd c_14 (by exact fun zq => zq (bI_f hA)))
        refine g_iconst (nx := 70) (1) F dX12_readsNumber_69 rfl rfl ?_
        refine g_zret F E dX12_readsNumber_70 (by first | rfl | assumption) ?_
        exact Or.inl ⟨rfl, q, v, hA, hN.symm, H2, h32, hf⟩
  refine g_aload_n (nx := 1) 0 F dX12_readsNumber_0 rfl rfl rfl ?_
  refine g_getV (nx := 4) (nI p) F dX12_readsNumber_1 rfl fl_RX12_193 rfl (by decide) (by decide) rfl rfl (H.2.1.1) ?_
  refine g_istore_n (nx := 5) 1 F dX12_readsNumber_4 rfl rfl (by decide) ?_
  try dsimp only [List.set]
  refine g_aload_n (nx := 6) 0 F dX12_readsNumber_5 rfl rfl rfl ?_
  refine g_iconst (nx := 7) (0) F dX12_readsNumber_6 rfl rfl ?_
  refine g_putI (nx := 10) F dX12_readsNumber_7 rfl fl_RX12_210 fi_11_32 rfl (by decide) (by decide) rfl rfl ?_
  exact L 5 0 p 0 _ (by omega) rfl (kcS_145 H (fun a ha => by rw [zu_ne _ ha]) H.2.1.1 rfl H.2.1.2.2.1 rfl H.2.1.2.2.2.2 id hpn H.2.2.2.2.1 H.2.2.2.2.2.2) rfl (frK.u _ 32 _ (by decide)) rfl
