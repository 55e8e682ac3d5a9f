/-- the levels of a condition: how many ! , the & and the | that wait, up to its ( -/
abbrev QV : Type := Nat × List Nat × List Nat
def cK : List QV → TK → TK
  | [], K => K
  | q :: r, K => List.replicate q.1 (7, 0) ++ (jw 12 q.2.1 ++ ((8, 0) :: (jw 12 q.2.2 ++ ((9, 0) :: (10, 0) :: cK r K))))
def cW1 (q : QV) (w : TK) : TK := jw 11 q.2.1 ++ (jw 12 q.2.2 ++ ((13, 0) :: w))
def cW : List QV → TK
  | [] => []
  | q :: r => List.replicate q.1 (10, 0) ++ cW1 q (cW r)
def cN : List QV → Nat
  | [] => 0
  | q :: r => q.1 + cN r
def okC (l : Nat) : List QV → Prop
  | [] => True
  | q :: r => (∀ v ∈ q.2.1, v < l) ∧ (∀ v ∈ q.2.2, v < l) ∧ okC l r
theorem okC_mono {l l2 : Nat} (h : l ≤ l2) : ∀ {r : List QV}, okC l r → okC l2 r
  | [], _ => trivial
  | _ :: _, H => ⟨fun v hv => Nat.lt_of_lt_of_le (H.1 v hv) h, fun v hv => Nat.lt_of_lt_of_le (H.2.1 v hv) h, okC_mono h H.2.2⟩
theorem jw_ge {k : Nat} {x : List Nat} {y : Nat × Nat} (h : y ∈ jw k x) : y.1 = k ∧ y.2 ∈ x := by
  obtain ⟨v, h1, rfl⟩ := List.mem_map.mp h
  exact ⟨rfl, h1⟩
theorem cW1_ge {q : QV} {w : TK} (h : ∀ x ∈ w, 10 ≤ x.1) : ∀ x ∈ cW1 q w, 10 ≤ x.1 := by
  intro x hx
  rcases List.mem_append.mp hx with g | g
  · have := jw_ge g; omega
  · rcases List.mem_append.mp g with g | g
    · have := jw_ge g; omega
    · rcases List.mem_cons.mp g with rfl | g
      · decide
      · exact h x g
theorem cW_ge : ∀ (r : List QV), ∀ x ∈ cW r, 10 ≤ x.1
  | [], x, h => absurd h List.not_mem_nil
  | q :: r, x, h => by
    rcases List.mem_append.mp h with g | g
    · rw [List.eq_of_mem_replicate g]; decide
    · exact cW1_ge (cW_ge r) x g
theorem cW_nt (r : List QV) : ntW (cW r) := fun x hx hz => by
  have := cW_ge r x (List.mem_of_mem_head? hx)
  omega
theorem cW1_h10 (q : QV) (w : TK) : ∀ x ∈ (cW1 q w).head?, ¬ x.1 = 10 := by
  intro x hx
  unfold cW1 at hx
  cases h1 : q.2.1 with
  | cons a y => rw [h1] at hx; cases hx; show ¬ (11 : Nat) = 10; decide
  | nil =>
    rw [h1] at hx
    cases h2 : q.2.2 with
    | cons a y => rw [h2] at hx; cases hx; show ¬ (12 : Nat) = 10; decide
    | nil => rw [h2] at hx; cases hx; decide
theorem cW1_h11 (y : List Nat) (w : TK) : ∀ x ∈ (jw 12 y ++ (13, 0) :: w).head?, ¬ (x.1 = 11 ∨ (¬ (0 : Int32).toInt = 0 ∧ x.1 = 12)) := by
  intro x hx
  cases y with
  | cons a y => cases hx; show ¬ ((12 : Nat) = 11 ∨ (¬ (0 : Int32).toInt = 0 ∧ (12 : Nat) = 12)); decide
  | nil => cases hx; decide
theorem cW1_h13 (w : TK) : ∀ x ∈ ((13, 0) :: w : TK).head?, ¬ (x.1 = 11 ∨ (¬ (1 : Int32).toInt = 0 ∧ x.1 = 12)) := by
  intro x hx
  cases hx
  decide
theorem cW1_len (q : QV) (w : TK) : (cW1 q w).length = q.2.1.length + (q.2.2.length + (w.length + 1)) := by
  unfold cW1
  rw [List.length_append, List.length_append, jw_len, jw_len, List.length_cons]
theorem cW_len (q : QV) (r : List QV) : (cW (q :: r)).length = q.1 + (cW1 q (cW r)).length := by
  show (List.replicate q.1 (10, 0) ++ cW1 q (cW r)).length = _
  rw [List.length_append, List.length_replicate]
theorem cW_nil : ∀ (r : List QV), (cW r).length = 0 → r = []
  | [], _ => rfl
  | q :: r, h => by
    rw [cW_len, cW1_len] at h
    omega
def kC (n : Nat) (c : Nat → Nat) (hd : Nat → Bool) (σ : zSt) (p l : Nat) (op vl : Nat → Nat) (r : Option Value) (τ : zSt) : Prop :=
  (r = some (.int 1) ∧ c p = 40 ∧ ∃ p2 l2 op2 vl2, kcS τ c n (p2, 0, l2, op2, vl2) [] ∧ frK σ τ ∧ p < p2 ∧ l2 + p ≤ l + p2 ∧ ∀ K z, Rn c hd ((6, 0) :: (8, 0) :: (9, 0) :: (10, 0) :: K, (p + 1, 1, l, op, vl), z) (K, (p2, 0, l2, op2, vl2), z)) ∨
  (r = some (.int 0) ∧ ¬ c p = 40 ∧ kcF τ 1 p ∧ frK σ τ) ∨
  (r = some (.int 0) ∧ c p = 40 ∧ ∃ (f : Nat) (e : ES), kcF τ f e.1 ∧ frK σ τ ∧ ∀ K z, Rn c hd ((6, 0) :: (8, 0) :: (9, 0) :: (10, 0) :: K, (p + 1, 1, l, op, vl), z) ([(99, f)], e, z))
set_option maxHeartbeats 4000000 in
set_option maxRecDepth 100000 in
theorem k_readsCondition (n p l : Nat) (c op vl : Nat → Nat) (hd : Nat → Bool) (σ : zSt) (H : kcS σ c n (p, 0, l, op, vl) []) (hlp : l ≤ p) : Con mX12_readsCondition 6 [.ref 145] σ (kC n c hd σ p l op vl) := by
  refine Con.of (lv := [.ref 145]) mk_X12_readsCondition rfl (Nat.le_of_ble_eq_true rfl) rfl (fun X F E => ?_)
  have hn160 := H.1.2.1
  have hpn0 := H.2.2.2.1
  have hor0 := inC_or H.1.1 p
  by_cases hP0 : c p = 40
  · have hpn := inC_lt (p := p) H.1.1 (by omega)
    have L : ∀ (k p1 o1 l1 : Nat) (op1 vl1 : Nat → Nat) (q : QV) (r : List QV) (τ : zSt), (n < p1 + k → kcS τ c n (p1, o1, l1, op1, vl1) (cW (q :: r)) → frK σ τ → okC l1 (q :: r) → o1 = r.length + 1 + cN (q :: r) → (l1 + cN (q :: r) + (p + 1) ≤ l + p1 ∧ p < p1 ∧ l ≤ l1) → (cW (q :: r)).length ≤ p1 → (∀ K z, Rn c hd ((6, 0) :: (8, 0) :: (9, 0) :: (10, 0) :: K, (p + 1, 1, l, op, vl), z) ((6, 0) :: cK (q :: r) K, (p1, o1, l1, op1, vl1), z)) → Gs X 40 [.ref 145] [] τ) ∧ (n < p1 + k → q.1 = 0 → kcS τ c n (p1, o1, l1, op1, vl1) (cW (q :: r)) → frK σ τ → okC l1 (q :: r) → o1 = r.length + 1 + cN (q :: r) → (l1 + cN (q :: r) + (p + 1) ≤ l + p1 ∧ p < p1 ∧ l ≤ l1) → (cW (q :: r)).length ≤ p1 → (∀ K z, Rn c hd ((6, 0) :: (8, 0) :: (9, 0) :: (10, 0) :: K, (p + 1, 1, l, op, vl), z) (cK (q :: r) K, (p1, o1, l1, op1, vl1), z)) → Gs X 92 [.ref 145] [] τ) := by
      intro k
      induction k with
      | zero =>
        intro p1 o1 l1 op1 vl1 q r τ
        exact ⟨fun hq H1 => absurd H1.2.2.2.1 (by omega), fun hq _ H1 => absurd H1.2.2.2.1 (by omega)⟩
      | succ k ih =>
        intro p1 o1 l1 op1 vl1 q r τ
        constructor
        · intro hq H1 hf1 hok1 ho1 hl1 hw1 hR1
          have hp1n0 := H1.2.2.2.1
          have hor := inC_or H1.1.1 p1
          by_cases hA : c p1 = 33
          · have hp1n := inC_lt (p := p1) H1.1.1 (by omega)
            refine g_aload_n (nx := 41) 0 F dX12_readsCondition_40 rfl rfl rfl ?_
            refine g_callV (nx := 44) 0 0 [] F dX12_readsCondition_41 rfl ml_RX12_199 mo_X12_here rfl rfl rfl rfl (Nat.le_of_ble_eq_true rfl) (by first | decide | omega) (k_here n _ _ _ c _ _ _ _ H1) (fun r_41 τ_41 q_41 => ?_)
            obtain ⟨rfl, et_41⟩ := q_41
            have et_41 := et_41.symm
            subst et_41
            dsimp only [Option.toList, List.append, List.cons_append, List.nil_append]
            refine g_bipush (nx := 46) (33) F dX12_readsCondition_44 rfl (by decide) ?_
            refine g_icmp_eq (nx := 49) 58 F dX12_readsCondition_46 rfl (by decide) (fun c_46 => ?_) (fun c_46 => absurd c_46 (by exact fun zq => zq ((sgI_eq hor (by decide)).mpr hA)))
            refine g_aload_n (nx := 59) 0 F dX12_readsCondition_58 rfl rfl rfl ?_
            refine g_aload_n (nx := 60) 0 F dX12_readsCondition_59 rfl rfl rfl ?_
            refine g_callV (nx := 63) 0 0 [] F dX12_readsCondition_60 rfl ml_RX12_199 mo_X12_here rfl rfl rfl rfl (Nat.le_of_ble_eq_true rfl) (by first | decide | omega) (k_here n _ _ _ c _ _ _ _ H1) (fun r_60 τ_60 q_60 => ?_)
            obtain ⟨rfl, et_60⟩ := q_60
            have et_60 := et_60.symm
            subst et_60
            dsimp only [Option.toList, List.append, List.cons_append, List.nil_append]
            refine g_bipush (nx := 65) (33) F dX12_readsCondition_63 rfl (by decide) ?_
            refine g_icmp_ne (nx := 68) 73 F dX12_readsCondition_65 rfl (by decide) (fun c_65 => absurd c_65 (by exact fun zq => zq ((sgI_eq hor (by decide)).mpr hA))) (fun c_65 => ?_)
            refine g_bipush (nx := 70) (10) F dX12_readsCondition_68 rfl (by decide) ?_
            refine g_goto 75 F dX12_readsCondition_70 (by decide) ?_
            refine g_callV (nx := 78) 1 1 [.int 10] F dX12_readsCondition_75 rfl ml_RX12_234 mo_X12_opens rfl rfl rfl rfl (Nat.le_of_ble_eq_true rfl) (by first | decide | omega) (k_opens 10 n p1 o1 l1 c op1 vl1 10 _ _ H1 rfl (by decide) hp1n (by omega)) (fun r_75 τ_75 q_75 => ?_)
            skip
            rcases q_75 with ⟨rfl, ho6, hS, hf⟩ | ⟨rfl, ho6, hF, hf⟩
            · dsimp only [Option.toList, List.append, List.cons_append, List.nil_append]
              refine g_if_ne (nx := 81) 40 F dX12_readsCondition_78 rfl (by decide) (fun c_78 => ?_) (fun c_78 => absurd c_78 (by decide))
              exact (ih (p1 + 1) (o1 + 1) l1 op1 vl1 (q.1 + 1, q.2) r _).1 (by omega) hS (hf1.tr hf) hok1 (by rw [ho1]; show _ = r.length + 1 + (q.1 + 1 + cN r); have : cN (q :: r) = q.1 + cN r := rfl; omega) (by show l1 + (q.1 + 1 + cN r) + (p + 1) ≤ _ ∧ _; have : cN (q :: r) = q.1 + cN r := rfl; omega) (by show (cW (q :: r)).length + 1 ≤ _; omega) (fun K z => (hR1 K z).tr (s6_not hA ho6))
            · dsimp only [Option.toList, List.append, List.cons_append, List.nil_append]
              refine g_if_ne (nx := 81) 40 F dX12_readsCondition_78 rfl (by decide) (fun c_78 => absurd c_78 (by exact fun zq => zq rfl)) (fun c_78 => ?_)
              refine g_iconst (nx := 82) (0) F dX12_readsCondition_81 rfl rfl ?_
              refine g_zret F E dX12_readsCondition_82 (by first | rfl | assumption) ?_
              exact Or.inr (Or.inr ⟨rfl, hP0, 5, (p1, o1, l1, op1, vl1), hF, hf1.tr hf, fun K z => (hR1 K z).tr (s6_ndeep hA ho6)⟩)
          · by_cases hB : c p1 = 40
            · have hp1n := inC_lt (p := p1) H1.1.1 (by omega)
              refine g_aload_n (nx := 41) 0 F dX12_readsCondition_40 rfl rfl rfl ?_
              refine g_callV (nx := 44) 0 0 [] F dX12_readsCondition_41 rfl ml_RX12_199 mo_X12_here rfl rfl rfl rfl (Nat.le_of_ble_eq_true rfl) (by first | decide | omega) (k_here n _ _ _ c _ _ _ _ H1) (fun r_41 τ_41 q_41 => ?_)
              obtain ⟨rfl, et_41⟩ := q_41
              have et_41 := et_41.symm
              subst et_41
              dsimp only [Option.toList, List.append, List.cons_append, List.nil_append]
              refine g_bipush (nx := 46) (33) F dX12_readsCondition_44 rfl (by decide) ?_
              refine g_icmp_eq (nx := 49) 58 F dX12_readsCondition_46 rfl (by decide) (fun c_46 => absurd c_46 (by exact fun zq => hA ((sgI_eq hor (by decide)).mp zq))) (fun c_46 => ?_)
              refine g_aload_n (nx := 50) 0 F dX12_readsCondition_49 rfl rfl rfl ?_
              refine g_callV (nx := 53) 0 0 [] F dX12_readsCondition_50 rfl ml_RX12_199 mo_X12_here rfl rfl rfl rfl (Nat.le_of_ble_eq_true rfl) (by first | decide | omega) (k_here n _ _ _ c _ _ _ _ H1) (fun r_50 τ_50 q_50 => ?_)
              obtain ⟨rfl, et_50⟩ := q_50
              have et_50 := et_50.symm
              subst et_50
              dsimp only [Option.toList, List.append, List.cons_append, List.nil_append]
              refine g_bipush (nx := 55) (40) F dX12_readsCondition_53 rfl (by decide) ?_
              refine g_icmp_ne (nx := 58) 83 F dX12_readsCondition_55 rfl (by decide) (fun c_55 => absurd c_55 (by exact fun zq => zq ((sgI_eq hor (by decide)).mpr hB))) (fun c_55 => ?_)
              refine g_aload_n (nx := 59) 0 F dX12_readsCondition_58 rfl rfl rfl ?_
              refine g_aload_n (nx := 60) 0 F dX12_readsCondition_59 rfl rfl rfl ?_
              refine g_callV (nx := 63) 0 0 [] F dX12_readsCondition_60 rfl ml_RX12_199 mo_X12_here rfl rfl rfl rfl (Nat.le_of_ble_eq_true rfl) (by first | decide | omega) (k_here n _ _ _ c _ _ _ _ H1) (fun r_60 τ_60 q_60 => ?_)
              obtain ⟨rfl, et_60⟩ := q_60
              have et_60 := et_60.symm
              subst et_60
              dsimp only [Option.toList, List.append, List.cons_append, List.nil_append]
              refine g_bipush (nx := 65) (33) F dX12_readsCondition_63 rfl (by decide) ?_
              refine g_icmp_ne (nx := 68) 73 F dX12_readsCondition_65 rfl (by decide) (fun c_65 => ?_) (fun c_65 => absurd c_65 (by exact fun zq => hA ((sgI_eq hor (by decide)).mp zq)))
              refine g_bipush (nx := 75) (13) F dX12_readsCondition_73 rfl (by decide) ?_
              refine g_callV (nx := 78) 1 1 [.int 13] F dX12_readsCondition_75 rfl ml_RX12_234 mo_X12_opens rfl rfl rfl rfl (Nat.le_of_ble_eq_true rfl) (by first | decide | omega) (k_opens 13 n p1 o1 l1 c op1 vl1 13 _ _ H1 rfl (by decide) hp1n (by omega)) (fun r_75 τ_75 q_75 => ?_)
              skip
              rcases q_75 with ⟨rfl, ho6, hS, hf⟩ | ⟨rfl, ho6, hF, hf⟩
              · dsimp only [Option.toList, List.append, List.cons_append, List.nil_append]
                refine g_if_ne (nx := 81) 40 F dX12_readsCondition_78 rfl (by decide) (fun c_78 => ?_) (fun c_78 => absurd c_78 (by decide))
                exact (ih (p1 + 1) (o1 + 1) l1 op1 vl1 (0, [], []) (q :: r) _).1 (by omega) hS (hf1.tr hf) ⟨fun v hv => absurd hv List.not_mem_nil, fun v hv => absurd hv List.not_mem_nil, hok1⟩ (by rw [ho1]; show _ = (r.length + 1) + 1 + (0 + cN (q :: r)); omega) (by show l1 + (0 + cN (q :: r)) + (p + 1) ≤ _ ∧ _; omega) (by show (cW (q :: r)).length + 1 ≤ _; omega) (fun K z => (hR1 K z).tr (s6_open hB ho6))
              · dsimp only [Option.toList, List.append, List.cons_append, List.nil_append]
                refine g_if_ne (nx := 81) 40 F dX12_readsCondition_78 rfl (by decide) (fun c_78 => absurd c_78 (by exact fun zq => zq rfl)) (fun c_78 => ?_)
                refine g_iconst (nx := 82) (0) F dX12_readsCondition_81 rfl rfl ?_
                refine g_zret F E dX12_readsCondition_82 (by first | rfl | assumption) ?_
                exact Or.inr (Or.inr ⟨rfl, hP0, 5, (p1, o1, l1, op1, vl1), hF, hf1.tr hf, fun K z => (hR1 K z).tr (s6_deep hB ho6)⟩)
            · have ho1e : o1 = r.length + 1 + cN r + q.1 := by rw [ho1]; show r.length + 1 + (q.1 + cN r) = _; omega
              refine g_aload_n (nx := 41) 0 F dX12_readsCondition_40 rfl rfl rfl ?_
              refine g_callV (nx := 44) 0 0 [] F dX12_readsCondition_41 rfl ml_RX12_199 mo_X12_here rfl rfl rfl rfl (Nat.le_of_ble_eq_true rfl) (by first | decide | omega) (k_here n _ _ _ c _ _ _ _ H1) (fun r_41 τ_41 q_41 => ?_)
              obtain ⟨rfl, et_41⟩ := q_41
              have et_41 := et_41.symm
              subst et_41
              dsimp only [Option.toList, List.append, List.cons_append, List.nil_append]
              refine g_bipush (nx := 46) (33) F dX12_readsCondition_44 rfl (by decide) ?_
              refine g_icmp_eq (nx := 49) 58 F dX12_readsCondition_46 rfl (by decide) (fun c_46 => absurd c_46 (by exact fun zq => hA ((sgI_eq hor (by decide)).mp zq))) (fun c_46 => ?_)
              refine g_aload_n (nx := 50) 0 F dX12_readsCondition_49 rfl rfl rfl ?_
              refine g_callV (nx := 53) 0 0 [] F dX12_readsCondition_50 rfl ml_RX12_199 mo_X12_here rfl rfl rfl rfl (Nat.le_of_ble_eq_true rfl) (by first | decide | omega) (k_here n _ _ _ c _ _ _ _ H1) (fun r_50 τ_50 q_50 => ?_)
              obtain ⟨rfl, et_50⟩ := q_50
              have et_50 := et_50.symm
              subst et_50
              dsimp only [Option.toList, List.append, List.cons_append, List.nil_append]
              refine g_bipush (nx := 55) (40) F dX12_readsCondition_53 rfl (by decide) ?_
              refine g_icmp_ne (nx := 58) 83 F dX12_readsCondition_55 rfl (by decide) (fun c_55 => ?_) (fun c_55 => absurd c_55 (by exact fun zq => hB ((sgI_eq hor (by decide)).mp zq)))
              refine g_aload_n (nx := 84) 0 F dX12_readsCondition_83 rfl rfl rfl ?_
              refine g_callV (nx := 87) 0 5 [] F dX12_readsCondition_84 rfl ml_RX12_263 mo_X12_readsCompared rfl rfl rfl rfl (Nat.le_of_ble_eq_true rfl) (by first | decide | omega) (k_readsCompared n p1 (r.length + 1 + cN r) l1 q.1 c op1 vl1 hd _ (cW1 q (cW r)) _ (by rw [← ho1e]; exact H1) rfl hB hA (cW_nt (q :: r)) (by have : cN (q :: r) = q.1 + cN r := rfl; omega) hw1 (cW1_h10 _ _)) (fun r_84 τ_84 q_84 => ?_)
              skip
              rcases q_84 with ⟨rfl, p2, l2, op2, vl2, hS2, hf2, hp2, hl2, hR2⟩ | ⟨rfl, f2, e2, hF2, hf2, hR2⟩
              · dsimp only [Option.toList, List.append, List.cons_append, List.nil_append]
                refine g_if_ne (nx := 90) 92 F dX12_readsCondition_87 rfl (by decide) (fun c_87 => ?_) (fun c_87 => absurd c_87 (by decide))
                exact (ih p2 (r.length + 1 + cN r) l2 op2 vl2 (0, q.2) r _).2 (by omega) rfl hS2 (hf1.tr hf2) (okC_mono (r := q :: r) (by omega) hok1) (by show _ = r.length + 1 + (0 + cN r); omega) (by show l2 + (0 + cN r) + (p + 1) ≤ _ ∧ _; have : cN (q :: r) = q.1 + cN r := rfl; omega) (by show ([] ++ cW1 q (cW r)).length ≤ _; have := cW_len q r; simp only [List.nil_append]; omega) (fun K z => (hR1 K z).tr (by rw [ho1e]; exact hR2 _ z))
              · dsimp only [Option.toList, List.append, List.cons_append, List.nil_append]
                refine g_if_ne (nx := 90) 92 F dX12_readsCondition_87 rfl (by decide) (fun c_87 => absurd c_87 (by exact fun zq => zq rfl)) (fun c_87 => ?_)
                refine g_iconst (nx := 91) (0) F dX12_readsCondition_90 rfl rfl ?_
                refine g_zret F E dX12_readsCondition_91 (by first | rfl | assumption) ?_
                exact Or.inr (Or.inr ⟨rfl, hP0, f2, e2, hF2, hf1.tr hf2, fun K z => (hR1 K z).tr (by rw [ho1e]; exact hR2 _ z)⟩)
        · intro hq hq0 H1 hf1 hok1 ho1 hl1 hw1 hR1
          obtain ⟨q1, av, ov⟩ := q
          have hq0 : q1 = 0 := hq0
          subst hq0
          have hp1n0 := H1.2.2.2.1
          have hor := inC_or H1.1.1 p1
          have ho1f : o1 = r.length + cN r + 1 := by rw [ho1]; show r.length + 1 + (0 + cN r) = _; omega
          have hcn0 : cN ((0, av, ov) :: r) = 0 + cN r := rfl
          have hwl : (cW ((0, av, ov) :: r)).length = 0 + (av.length + (ov.length + ((cW r).length + 1))) := by rw [cW_len, cW1_len]
          have hwl2 : (jw 12 ov ++ ((13, 0) :: cW r)).length = ov.length + ((cW r).length + 1) := by rw [List.length_append, jw_len, List.length_cons]
          have hwl3 : ((13, 0) :: cW r : TK).length = (cW r).length + 1 := rfl
          have hsnd : (jw 11 av ++ jw 12 ov).map (fun q => q.2) = av ++ ov := by rw [List.map_append, jw_snd, jw_snd]
          have hjs1 : ∀ x ∈ jw 11 av ++ jw 12 ov, (x.1 = 11 ∨ (¬ (1 : Int32).toInt = 0 ∧ x.1 = 12)) ∧ x.2 < l1 := fun x hx => by
            rcases List.mem_append.mp hx with g | g
            · exact ⟨Or.inl (jw_ge g).1, hok1.1 _ (jw_ge g).2⟩
            · exact ⟨Or.inr ⟨by decide, (jw_ge g).1⟩, hok1.2.1 _ (jw_ge g).2⟩
          have hjs0 : ∀ x ∈ jw 11 av, (x.1 = 11 ∨ (¬ (0 : Int32).toInt = 0 ∧ x.1 = 12)) ∧ x.2 < l1 := fun x hx => ⟨Or.inl (jw_ge hx).1, hok1.1 _ (jw_ge hx).2⟩
          by_cases hA : c p1 = 41
          · have hp1n := inC_lt (p := p1) H1.1.1 (by omega)
            refine g_aload_n (nx := 93) 0 F dX12_readsCondition_92 rfl rfl rfl ?_
            refine g_callV (nx := 96) 0 0 [] F dX12_readsCondition_93 rfl ml_RX12_199 mo_X12_here rfl rfl rfl rfl (Nat.le_of_ble_eq_true rfl) (by first | decide | omega) (k_here n _ _ _ c _ _ _ _ H1) (fun r_93 τ_93 q_93 => ?_)
            obtain ⟨rfl, et_93⟩ := q_93
            have et_93 := et_93.symm
            subst et_93
            dsimp only [Option.toList, List.append, List.cons_append, List.nil_append]
            refine g_bipush (nx := 98) (41) F dX12_readsCondition_96 rfl (by decide) ?_
            refine g_icmp_ne (nx := 101) 152 F dX12_readsCondition_98 rfl (by decide) (fun c_98 => absurd c_98 (by exact fun zq => zq ((sgI_eq hor (by decide)).mpr hA))) (fun c_98 => ?_)
            refine g_aload_n (nx := 102) 0 F dX12_readsCondition_101 rfl rfl rfl ?_
            refine g_iconst (nx := 103) (1) F dX12_readsCondition_102 rfl rfl ?_
            refine g_callV (nx := 106) 1 1 [.int 1] F dX12_readsCondition_103 rfl ml_RX12_266 mo_X12_lands rfl rfl rfl rfl (Nat.le_of_ble_eq_true rfl) (by first | decide | omega) (k_lands n p1 o1 l1 c op1 vl1 (jw 11 av ++ jw 12 ov) _ ((13, 0) :: cW r) 1 _ H1 (by show [] ++ (jw 11 av ++ (jw 12 ov ++ _)) = _; rw [List.nil_append, List.append_assoc]) hjs1 (cW1_h13 _)) (fun r_103 τ_103 q_103 => ?_)
            obtain ⟨rfl, hS3, hf3⟩ := q_103
            rw [hsnd] at hS3
            dsimp only [Option.toList, List.append, List.cons_append, List.nil_append]
            refine g_aload_n (nx := 107) 0 F dX12_readsCondition_106 rfl rfl rfl ?_
            refine g_aload_n (nx := 108) 0 F dX12_readsCondition_107 rfl rfl rfl ?_
            refine g_getV (nx := 111) (nI ((cW r).length + 1)) F dX12_readsCondition_108 rfl fl_RX12_224 rfl (by decide) (by decide) rfl rfl (hS3.2.1.2.2.2.2) ?_
            refine g_iconst (nx := 112) (1) F dX12_readsCondition_111 rfl rfl ?_
            refine g_isub (nx := 113) F dX12_readsCondition_112 rfl ?_
            rw [nI_pred]
            refine g_putI (nx := 116) F dX12_readsCondition_113 rfl fl_RX12_224 fi_11_30 rfl (by decide) (by decide) rfl rfl ?_
            refine g_aload_n (nx := 117) 0 F dX12_readsCondition_116 rfl rfl rfl ?_
            refine g_aload_n (nx := 118) 0 F dX12_readsCondition_117 rfl rfl rfl ?_
            refine g_getV (nx := 121) (nI (r.length + cN r + 1)) F dX12_readsCondition_118 rfl fl_RX12_221 rfl (by decide) (by decide) rfl rfl ((hS3.2.1.2.2.1.trans (by rw [ho1f]))) ?_
            refine g_iconst (nx := 122) (1) F dX12_readsCondition_121 rfl rfl ?_
            refine g_isub (nx := 123) F dX12_readsCondition_122 rfl ?_
            rw [nI_pred]
            refine g_putI (nx := 126) F dX12_readsCondition_123 rfl fl_RX12_221 fi_11_28 rfl (by decide) (by decide) rfl rfl ?_
            refine g_aload_n (nx := 127) 0 F dX12_readsCondition_126 rfl rfl rfl ?_
            refine g_aload_n (nx := 128) 0 F dX12_readsCondition_127 rfl rfl rfl ?_
            refine g_getV (nx := 131) (nI p1) F dX12_readsCondition_128 rfl fl_RX12_193 rfl (by decide) (by decide) rfl rfl (hS3.2.1.1) ?_
            refine g_iconst (nx := 132) (1) F dX12_readsCondition_131 rfl rfl ?_
            refine g_iadd (nx := 133) F dX12_readsCondition_132 rfl ?_
            rw [nI_1]
            refine g_putI (nx := 136) F dX12_readsCondition_133 rfl fl_RX12_193 fi_11_25 rfl (by decide) (by decide) rfl rfl ?_
            obtain ⟨τ4, e4⟩ : ∃ s, s = zu (zu (zu τ_103 145 30 (nI (cW r).length)) 145 28 (nI (r.length + cN r))) 145 25 (nI (p1 + 1)) := ⟨_, rfl⟩
            have hS4 : kcS τ4 c n (p1 + 1, r.length + cN r, l1, op1, laV (av ++ ov) l1 vl1) (cW r) := kcS_145 hS3 (fun a ha => by rw [e4, zu_ne _ ha, zu_ne _ ha, zu_ne _ ha]) (by rw [e4]; rfl) (by rw [e4]; rfl) (by rw [e4]; rfl) (by rw [e4]; rfl) (by rw [e4]; rfl) (fun h => h.2.2.2) hp1n (by have := hS3.2.2.2.2.1; omega) (Nat.le_of_succ_le hS3.2.2.2.2.2.2)
            have hfr4 : frK σ τ4 := by
              rw [e4]
              exact (((hf1.tr hf3).tr (frK.u _ 30 _ (by decide))).tr (frK.u _ 28 _ (by decide))).tr (frK.u _ 25 _ (by decide))
            have hR4 : ∀ K z, Rn c hd ((6, 0) :: (8, 0) :: (9, 0) :: (10, 0) :: K, (p + 1, 1, l, op, vl), z) (cK r K, (p1 + 1, r.length + cN r, l1, op1, laV (av ++ ov) l1 vl1), z) := fun K z => by
              refine (hR1 K z).tr ?_
              rw [ho1f, laV_app]
              exact ((((Rn_la av vl1).tr (s8_end (by omega))).tr (Rn_la ov (laV av l1 vl1))).tr (s9_end (by omega))).tr (s10x hA)
            rw [← e4]
            cases r with
            | nil =>
              refine g_aload_n (nx := 137) 0 F dX12_readsCondition_136 rfl rfl rfl ?_
              refine g_getV (nx := 140) (nI 0) F dX12_readsCondition_137 rfl fl_RX12_224 rfl (by decide) (by decide) rfl rfl (hS4.2.1.2.2.2.2) ?_
              refine g_if_ne (nx := 143) 145 F dX12_readsCondition_140 rfl (by decide) (fun c_140 => absurd c_140 (by exact fun zq => zq rfl)) (fun c_140 => ?_)
              refine g_iconst (nx := 144) (1) F dX12_readsCondition_143 rfl rfl ?_
              refine g_zret F E dX12_readsCondition_144 (by first | rfl | assumption) ?_
              exact Or.inl ⟨rfl, hP0, p1 + 1, l1, op1, laV (av ++ ov) l1 vl1, hS4, hfr4, by omega, by omega, hR4⟩
            | cons q2 r =>
              have hcn : cN (q2 :: r) = q2.1 + cN r := rfl
              have ho4 : (q2 :: r).length + cN (q2 :: r) = r.length + 1 + cN r + q2.1 := by rw [hcn, List.length_cons]; omega
              have hcl := cW_len q2 r
              refine g_aload_n (nx := 137) 0 F dX12_readsCondition_136 rfl rfl rfl ?_
              refine g_getV (nx := 140) (nI (cW (q2 :: r)).length) F dX12_readsCondition_137 rfl fl_RX12_224 rfl (by decide) (by decide) rfl rfl (hS4.2.1.2.2.2.2) ?_
              refine g_if_ne (nx := 143) 145 F dX12_readsCondition_140 rfl (by decide) (fun c_140 => ?_) (fun c_140 => absurd c_140 (by exact nI_ne0 (by have h1 := cW_len q2 r; have h2 := cW1_len q2 (cW r); omega) (by omega)))
              refine g_aload_n (nx := 146) 0 F dX12_readsCondition_145 rfl rfl rfl ?_
              refine g_callV (nx := 149) 0 1 [] F dX12_readsCondition_146 rfl ml_RX12_260 mo_X12_endsPiece rfl rfl rfl rfl (Nat.le_of_ble_eq_true rfl) (by first | decide | omega) (k_endsPiece n (p1 + 1) (r.length + 1 + cN r) l1 q2.1 c op1 (laV (av ++ ov) l1 vl1) hd _ (cW1 q2 (cW r)) _ (by rw [← ho4]; exact hS4) rfl (by omega) (cW1_h10 _ _)) (fun r_146 τ_146 q_146 => ?_)
              obtain ⟨rfl, op5, vl5, hS5, hf5, hR5⟩ := q_146
              dsimp only [Option.toList, List.append, List.cons_append, List.nil_append]
              refine g_goto 92 F dX12_readsCondition_149 (by decide) ?_
              exact (ih (p1 + 1) (r.length + 1 + cN r) (l1 + q2.1) op5 vl5 (0, q2.2) r _).2 (by omega) rfl hS5 (hfr4.tr hf5) (okC_mono (r := q2 :: r) (by omega) hok1.2.2) (by show _ = r.length + 1 + (0 + cN r); omega) (by show l1 + q2.1 + (0 + cN r) + (p + 1) ≤ _ ∧ _; omega) (by show ([] ++ cW1 q2 (cW r)).length ≤ _; have := cW_len q2 r; simp only [List.nil_append]; omega) (fun K z => (hR4 K z).tr (by rw [ho4]; exact hR5 _ z))
          · by_cases hB : c p1 = 38
            · have hp1n := inC_lt (p := p1) H1.1.1 (by omega)
              refine g_aload_n (nx := 93) 0 F dX12_readsCondition_92 rfl rfl rfl ?_
              refine g_callV (nx := 96) 0 0 [] F dX12_readsCondition_93 rfl ml_RX12_199 mo_X12_here rfl rfl rfl rfl (Nat.le_of_ble_eq_true rfl) (by first | decide | omega) (k_here n _ _ _ c _ _ _ _ H1) (fun r_93 τ_93 q_93 => ?_)
              obtain ⟨rfl, et_93⟩ := q_93
              have et_93 := et_93.symm
              subst et_93
              dsimp only [Option.toList, List.append, List.cons_append, List.nil_append]
              refine g_bipush (nx := 98) (41) F dX12_readsCondition_96 rfl (by decide) ?_
              refine g_icmp_ne (nx := 101) 152 F dX12_readsCondition_98 rfl (by decide) (fun c_98 => ?_) (fun c_98 => absurd c_98 (by exact fun zq => hA ((sgI_eq hor (by decide)).mp zq)))
              refine g_aload_n (nx := 153) 0 F dX12_readsCondition_152 rfl rfl rfl ?_
              refine g_callV (nx := 156) 0 0 [] F dX12_readsCondition_153 rfl ml_RX12_199 mo_X12_here rfl rfl rfl rfl (Nat.le_of_ble_eq_true rfl) (by first | decide | omega) (k_here n _ _ _ c _ _ _ _ H1) (fun r_153 τ_153 q_153 => ?_)
              obtain ⟨rfl, et_153⟩ := q_153
              have et_153 := et_153.symm
              subst et_153
              dsimp only [Option.toList, List.append, List.cons_append, List.nil_append]
              refine g_bipush (nx := 158) (38) F dX12_readsCondition_156 rfl (by decide) ?_
              refine g_icmp_eq (nx := 161) 180 F dX12_readsCondition_158 rfl (by decide) (fun c_158 => ?_) (fun c_158 => absurd c_158 (by exact fun zq => zq ((sgI_eq hor (by decide)).mpr hB)))
              refine g_aload_n (nx := 181) 0 F dX12_readsCondition_180 rfl rfl rfl ?_
              refine g_aload_n (nx := 182) 0 F dX12_readsCondition_181 rfl rfl rfl ?_
              refine g_callV (nx := 185) 0 0 [] F dX12_readsCondition_182 rfl ml_RX12_199 mo_X12_here rfl rfl rfl rfl (Nat.le_of_ble_eq_true rfl) (by first | decide | omega) (k_here n _ _ _ c _ _ _ _ H1) (fun r_182 τ_182 q_182 => ?_)
              obtain ⟨rfl, et_182⟩ := q_182
              have et_182 := et_182.symm
              subst et_182
              dsimp only [Option.toList, List.append, List.cons_append, List.nil_append]
              refine g_bipush (nx := 187) (124) F dX12_readsCondition_185 rfl (by decide) ?_
              refine g_icmp_ne (nx := 190) 194 F dX12_readsCondition_187 rfl (by decide) (fun c_187 => ?_) (fun c_187 => absurd c_187 (by exact fun zq => absurd ((sgI_eq (y := 124) hor (by decide)).mp zq) (by omega)))
              refine g_iconst (nx := 195) (0) F dX12_readsCondition_194 rfl rfl ?_
              refine g_callV (nx := 198) 1 1 [.int 0] F dX12_readsCondition_195 rfl ml_RX12_266 mo_X12_lands rfl rfl rfl rfl (Nat.le_of_ble_eq_true rfl) (by first | decide | omega) (k_lands n p1 o1 l1 c op1 vl1 (jw 11 av) _ (jw 12 ov ++ ((13, 0) :: cW r)) 0 _ H1 rfl hjs0 (cW1_h11 _ _)) (fun r_195 τ_195 q_195 => ?_)
              obtain ⟨rfl, hS3, hf3⟩ := q_195
              rw [jw_snd] at hS3
              dsimp only [Option.toList, List.append, List.cons_append, List.nil_append]
              refine g_aload_n (nx := 199) 0 F dX12_readsCondition_198 rfl rfl rfl ?_
              refine g_aload_n (nx := 200) 0 F dX12_readsCondition_199 rfl rfl rfl ?_
              refine g_callV (nx := 203) 0 0 [] F dX12_readsCondition_200 rfl ml_RX12_199 mo_X12_here rfl rfl rfl rfl (Nat.le_of_ble_eq_true rfl) (by first | decide | omega) (k_here n _ _ _ c _ _ _ _ hS3) (fun r_200 τ_200 q_200 => ?_)
              obtain ⟨rfl, et_200⟩ := q_200
              have et_200 := et_200.symm
              subst et_200
              dsimp only [Option.toList, List.append, List.cons_append, List.nil_append]
              refine g_bipush (nx := 205) (38) F dX12_readsCondition_203 rfl (by decide) ?_
              refine g_icmp_ne (nx := 208) 213 F dX12_readsCondition_205 rfl (by decide) (fun c_205 => absurd c_205 (by exact fun zq => zq ((sgI_eq hor (by decide)).mpr hB))) (fun c_205 => ?_)
              refine g_bipush (nx := 210) (11) F dX12_readsCondition_208 rfl (by decide) ?_
              refine g_goto 215 F dX12_readsCondition_210 (by decide) ?_
              refine g_callV (nx := 218) 1 1 [.int 11] F dX12_readsCondition_215 rfl ml_RX12_269 mo_X12_jumps rfl rfl rfl rfl (Nat.le_of_ble_eq_true rfl) (by first | decide | omega) (k_jumps 11 n p1 o1 l1 c op1 (laV av l1 vl1) 11 _ _ hS3 rfl (by decide) hp1n (by omega) (by omega)) (fun r_215 τ_215 q_215 => ?_)
              obtain ⟨rfl, hS5, hf5⟩ := q_215
              dsimp only [Option.toList, List.append, List.cons_append, List.nil_append]
              refine g_goto 40 F dX12_readsCondition_218 (by decide) ?_
              exact (ih (p1 + 1) o1 (l1 + 1) (updN op1 l1 11) (updN (laV av l1 vl1) l1 0) (0, [l1], ov) r _).1 (by omega) hS5 ((hf1.tr hf3).tr hf5) ⟨fun v hv => by rw [List.mem_singleton.mp hv]; omega, fun v hv => Nat.lt_succ_of_lt (hok1.2.1 v hv), okC_mono (Nat.le_succ _) hok1.2.2⟩ ho1 (by show l1 + 1 + (0 + cN r) + (p + 1) ≤ _ ∧ _; omega) (by have := cW1_len (0, [l1], ov) (cW r); show ([] ++ cW1 (0, [l1], ov) (cW r)).length ≤ _; rw [List.nil_append, this]; simp only [List.length_singleton]; omega) (fun K z => (hR1 K z).tr ((Rn_la av vl1).tr (s8_go hB)))
            · by_cases hC : c p1 = 124
              · have hp1n := inC_lt (p := p1) H1.1.1 (by omega)
                refine g_aload_n (nx := 93) 0 F dX12_readsCondition_92 rfl rfl rfl ?_
                refine g_callV (nx := 96) 0 0 [] F dX12_readsCondition_93 rfl ml_RX12_199 mo_X12_here rfl rfl rfl rfl (Nat.le_of_ble_eq_true rfl) (by first | decide | omega) (k_here n _ _ _ c _ _ _ _ H1) (fun r_93 τ_93 q_93 => ?_)
                obtain ⟨rfl, et_93⟩ := q_93
                have et_93 := et_93.symm
                subst et_93
                dsimp only [Option.toList, List.append, List.cons_append, List.nil_append]
                refine g_bipush (nx := 98) (41) F dX12_readsCondition_96 rfl (by decide) ?_
                refine g_icmp_ne (nx := 101) 152 F dX12_readsCondition_98 rfl (by decide) (fun c_98 => ?_) (fun c_98 => absurd c_98 (by exact fun zq => hA ((sgI_eq hor (by decide)).mp zq)))
                refine g_aload_n (nx := 153) 0 F dX12_readsCondition_152 rfl rfl rfl ?_
                refine g_callV (nx := 156) 0 0 [] F dX12_readsCondition_153 rfl ml_RX12_199 mo_X12_here rfl rfl rfl rfl (Nat.le_of_ble_eq_true rfl) (by first | decide | omega) (k_here n _ _ _ c _ _ _ _ H1) (fun r_153 τ_153 q_153 => ?_)
                obtain ⟨rfl, et_153⟩ := q_153
                have et_153 := et_153.symm
                subst et_153
                dsimp only [Option.toList, List.append, List.cons_append, List.nil_append]
                refine g_bipush (nx := 158) (38) F dX12_readsCondition_156 rfl (by decide) ?_
                refine g_icmp_eq (nx := 161) 180 F dX12_readsCondition_158 rfl (by decide) (fun c_158 => absurd c_158 (by exact fun zq => hB ((sgI_eq hor (by decide)).mp zq))) (fun c_158 => ?_)
                refine g_aload_n (nx := 162) 0 F dX12_readsCondition_161 rfl rfl rfl ?_
                refine g_callV (nx := 165) 0 0 [] F dX12_readsCondition_162 rfl ml_RX12_199 mo_X12_here rfl rfl rfl rfl (Nat.le_of_ble_eq_true rfl) (by first | decide | omega) (k_here n _ _ _ c _ _ _ _ H1) (fun r_162 τ_162 q_162 => ?_)
                obtain ⟨rfl, et_162⟩ := q_162
                have et_162 := et_162.symm
                subst et_162
                dsimp only [Option.toList, List.append, List.cons_append, List.nil_append]
                refine g_bipush (nx := 167) (124) F dX12_readsCondition_165 rfl (by decide) ?_
                refine g_icmp_eq (nx := 170) 180 F dX12_readsCondition_167 rfl (by decide) (fun c_167 => ?_) (fun c_167 => absurd c_167 (by exact fun zq => zq ((sgI_eq hor (by decide)).mpr hC)))
                refine g_aload_n (nx := 181) 0 F dX12_readsCondition_180 rfl rfl rfl ?_
                refine g_aload_n (nx := 182) 0 F dX12_readsCondition_181 rfl rfl rfl ?_
                refine g_callV (nx := 185) 0 0 [] F dX12_readsCondition_182 rfl ml_RX12_199 mo_X12_here rfl rfl rfl rfl (Nat.le_of_ble_eq_true rfl) (by first | decide | omega) (k_here n _ _ _ c _ _ _ _ H1) (fun r_182 τ_182 q_182 => ?_)
                obtain ⟨rfl, et_182⟩ := q_182
                have et_182 := et_182.symm
                subst et_182
                dsimp only [Option.toList, List.append, List.cons_append, List.nil_append]
                refine g_bipush (nx := 187) (124) F dX12_readsCondition_185 rfl (by decide) ?_
                refine g_icmp_ne (nx := 190) 194 F dX12_readsCondition_187 rfl (by decide) (fun c_187 => absurd c_187 (by exact fun zq => zq ((sgI_eq hor (by decide)).mpr hC))) (fun c_187 => ?_)
                refine g_iconst (nx := 191) (1) F dX12_readsCondition_190 rfl rfl ?_
                refine g_goto 195 F dX12_readsCondition_191 (by decide) ?_
                refine g_callV (nx := 198) 1 1 [.int 1] F dX12_readsCondition_195 rfl ml_RX12_266 mo_X12_lands rfl rfl rfl rfl (Nat.le_of_ble_eq_true rfl) (by first | decide | omega) (k_lands n p1 o1 l1 c op1 vl1 (jw 11 av ++ jw 12 ov) _ ((13, 0) :: cW r) 1 _ H1 (by show [] ++ (jw 11 av ++ (jw 12 ov ++ _)) = _; rw [List.nil_append, List.append_assoc]) hjs1 (cW1_h13 _)) (fun r_195 τ_195 q_195 => ?_)
                obtain ⟨rfl, hS3, hf3⟩ := q_195
                rw [hsnd] at hS3
                dsimp only [Option.toList, List.append, List.cons_append, List.nil_append]
                refine g_aload_n (nx := 199) 0 F dX12_readsCondition_198 rfl rfl rfl ?_
                refine g_aload_n (nx := 200) 0 F dX12_readsCondition_199 rfl rfl rfl ?_
                refine g_callV (nx := 203) 0 0 [] F dX12_readsCondition_200 rfl ml_RX12_199 mo_X12_here rfl rfl rfl rfl (Nat.le_of_ble_eq_true rfl) (by first | decide | omega) (k_here n _ _ _ c _ _ _ _ hS3) (fun r_200 τ_200 q_200 => ?_)
                obtain ⟨rfl, et_200⟩ := q_200
                have et_200 := et_200.symm
                subst et_200
                dsimp only [Option.toList, List.append, List.cons_append, List.nil_append]
                refine g_bipush (nx := 205) (38) F dX12_readsCondition_203 rfl (by decide) ?_
                refine g_icmp_ne (nx := 208) 213 F dX12_readsCondition_205 rfl (by decide) (fun c_205 => ?_) (fun c_205 => absurd c_205 (by exact fun zq => hB ((sgI_eq hor (by decide)).mp zq)))
                refine g_bipush (nx := 215) (12) F dX12_readsCondition_213 rfl (by decide) ?_
                refine g_callV (nx := 218) 1 1 [.int 12] F dX12_readsCondition_215 rfl ml_RX12_269 mo_X12_jumps rfl rfl rfl rfl (Nat.le_of_ble_eq_true rfl) (by first | decide | omega) (k_jumps 12 n p1 o1 l1 c op1 (laV (av ++ ov) l1 vl1) 12 _ _ hS3 rfl (by decide) hp1n (by omega) (by omega)) (fun r_215 τ_215 q_215 => ?_)
                obtain ⟨rfl, hS5, hf5⟩ := q_215
                dsimp only [Option.toList, List.append, List.cons_append, List.nil_append]
                refine g_goto 40 F dX12_readsCondition_218 (by decide) ?_
                exact (ih (p1 + 1) o1 (l1 + 1) (updN op1 l1 12) (updN (laV (av ++ ov) l1 vl1) l1 0) (0, [], [l1]) r _).1 (by omega) hS5 ((hf1.tr hf3).tr hf5) ⟨fun v hv => absurd hv List.not_mem_nil, fun v hv => by rw [List.mem_singleton.mp hv]; omega, okC_mono (Nat.le_succ _) hok1.2.2⟩ ho1 (by show l1 + 1 + (0 + cN r) + (p + 1) ≤ _ ∧ _; omega) (by have := cW1_len (0, [], [l1]) (cW r); show ([] ++ cW1 (0, [], [l1]) (cW r)).length ≤ _; rw [List.nil_append, this]; simp only [List.length_singleton, List.length_nil]; omega) (fun K z => by rw [laV_app]; exact (hR1 K z).tr ((((Rn_la av vl1).tr (s8_end hB)).tr (Rn_la ov (laV av l1 vl1))).tr (s9_go hC)))
              · refine g_aload_n (nx := 93) 0 F dX12_readsCondition_92 rfl rfl rfl ?_
                refine g_callV (nx := 96) 0 0 [] F dX12_readsCondition_93 rfl ml_RX12_199 mo_X12_here rfl rfl rfl rfl (Nat.le_of_ble_eq_true rfl) (by first | decide | omega) (k_here n _ _ _ c _ _ _ _ H1) (fun r_93 τ_93 q_93 => ?_)
                obtain ⟨rfl, et_93⟩ := q_93
                have et_93 := et_93.symm
                subst et_93
                dsimp only [Option.toList, List.append, List.cons_append, List.nil_append]
                refine g_bipush (nx := 98) (41) F dX12_readsCondition_96 rfl (by decide) ?_
                refine g_icmp_ne (nx := 101) 152 F dX12_readsCondition_98 rfl (by decide) (fun c_98 => ?_) (fun c_98 => absurd c_98 (by exact fun zq => hA ((sgI_eq hor (by decide)).mp zq)))
                refine g_aload_n (nx := 153) 0 F dX12_readsCondition_152 rfl rfl rfl ?_
                refine g_callV (nx := 156) 0 0 [] F dX12_readsCondition_153 rfl ml_RX12_199 mo_X12_here rfl rfl rfl rfl (Nat.le_of_ble_eq_true rfl) (by first | decide | omega) (k_here n _ _ _ c _ _ _ _ H1) (fun r_153 τ_153 q_153 => ?_)
                obtain ⟨rfl, et_153⟩ := q_153
                have et_153 := et_153.symm
                subst et_153
                dsimp only [Option.toList, List.append, List.cons_append, List.nil_append]
                refine g_bipush (nx := 158) (38) F dX12_readsCondition_156 rfl (by decide) ?_
                refine g_icmp_eq (nx := 161) 180 F dX12_readsCondition_158 rfl (by decide) (fun c_158 => absurd c_158 (by exact fun zq => hB ((sgI_eq hor (by decide)).mp zq))) (fun c_158 => ?_)
                refine g_aload_n (nx := 162) 0 F dX12_readsCondition_161 rfl rfl rfl ?_
                refine g_callV (nx := 165) 0 0 [] F dX12_readsCondition_162 rfl ml_RX12_199 mo_X12_here rfl rfl rfl rfl (Nat.le_of_ble_eq_true rfl) (by first | decide | omega) (k_here n _ _ _ c _ _ _ _ H1) (fun r_162 τ_162 q_162 => ?_)
                obtain ⟨rfl, et_162⟩ := q_162
                have et_162 := et_162.symm
                subst et_162
                dsimp only [Option.toList, List.append, List.cons_append, List.nil_append]
                refine g_bipush (nx := 167) (124) F dX12_readsCondition_165 rfl (by decide) ?_
                refine g_icmp_eq (nx := 170) 180 F dX12_readsCondition_167 rfl (by decide) (fun c_167 => absurd c_167 (by exact fun zq => hC ((sgI_eq hor (by decide)).mp zq))) (fun c_167 => ?_)
                refine g_aload_n (nx := 171) 0 F dX12_readsCondition_170 rfl rfl rfl ?_
                refine g_iconst (nx := 172) (1) F dX12_readsCondition_171 rfl rfl ?_
                refine g_aload_n (nx := 173) 0 F dX12_readsCondition_172 rfl rfl rfl ?_
                refine g_getV (nx := 176) (nI p1) F dX12_readsCondition_173 rfl fl_RX12_193 rfl (by decide) (by decide) rfl rfl (H1.2.1.1) ?_
                refine g_callV (nx := 179) 2 0 [.int 1, .int (nI p1)] F dX12_readsCondition_176 rfl ml_RX12_206 mo_X12_wrong rfl rfl rfl rfl (Nat.le_of_ble_eq_true rfl) (by first | decide | omega) (k_wrong n _ _ _ 1 c _ _ 1 _ H1 rfl) (fun r_176 τ_176 q_176 => ?_)
                obtain ⟨rfl, hF_176, hf_176⟩ := q_176
                dsimp only [Option.toList, List.append, List.cons_append, List.nil_append]
                refine g_zret F E dX12_readsCondition_179 (by first | rfl | assumption) ?_
                exact Or.inr (Or.inr ⟨rfl, hP0, 1, (p1, o1, l1, op1, laV (av ++ ov) l1 vl1), hF_176, hf1.tr hf_176, fun K z => by rw [laV_app]; exact (hR1 K z).tr (((((Rn_la av vl1).tr (s8_end hB)).tr (Rn_la ov (laV av l1 vl1))).tr (s9_end hC)).tr (s10_bad hA))⟩)
    refine g_aload_n (nx := 1) 0 F dX12_readsCondition_0 rfl rfl rfl ?_
    refine g_callV (nx := 4) 0 0 [] F dX12_readsCondition_1 rfl ml_RX12_199 mo_X12_here rfl rfl rfl rfl (Nat.le_of_ble_eq_true rfl) (by first | decide | omega) (k_here n _ _ _ c _ _ _ _ H) (fun r_1 τ_1 q_1 => ?_)
    obtain ⟨rfl, et_1⟩ := q_1
    have et_1 := et_1.symm
    subst et_1
    dsimp only [Option.toList, List.append, List.cons_append, List.nil_append]
    refine g_bipush (nx := 6) (40) F dX12_readsCondition_4 rfl (by decide) ?_
    refine g_icmp_eq (nx := 9) 19 F dX12_readsCondition_6 rfl (by decide) (fun c_6 => ?_) (fun c_6 => absurd c_6 (by exact fun zq => zq ((sgI_eq hor0 (by decide)).mpr hP0)))
    refine g_aload_n (nx := 20) 0 F dX12_readsCondition_19 rfl rfl rfl ?_
    refine g_iconst (nx := 21) (0) F dX12_readsCondition_20 rfl rfl ?_
    refine g_putI (nx := 24) F dX12_readsCondition_21 rfl fl_RX12_221 fi_11_28 rfl (by decide) (by decide) rfl rfl ?_
    refine g_aload_n (nx := 25) 0 F dX12_readsCondition_24 rfl rfl rfl ?_
    refine g_iconst (nx := 26) (0) F dX12_readsCondition_25 rfl rfl ?_
    refine g_putI (nx := 29) F dX12_readsCondition_26 rfl fl_RX12_224 fi_11_30 rfl (by decide) (by decide) rfl rfl ?_
    have H0 : kcS (zu (zu σ 145 28 0) 145 30 0) c n (p, 0, l, op, vl) [] := kcS_145 H (fun a ha => by rw [zu_ne _ ha, zu_ne _ ha]) H.2.1.1 rfl rfl rfl rfl (fun _ => trivial) hpn0 (by decide) (by decide)
    refine g_aload_n (nx := 30) 0 F dX12_readsCondition_29 rfl rfl rfl ?_
    refine g_bipush (nx := 32) (13) F dX12_readsCondition_30 rfl (by decide) ?_
    refine g_callV (nx := 35) 1 1 [.int 13] F dX12_readsCondition_32 rfl ml_RX12_234 mo_X12_opens rfl rfl rfl rfl (Nat.le_of_ble_eq_true rfl) (by first | decide | omega) (k_opens 13 n p 0 l c op vl 13 [] _ H0 rfl (by decide) hpn (by decide)) (fun r_32 τ_32 q_32 => ?_)
    skip
    rcases q_32 with ⟨rfl, ho6, hS, hf⟩ | ⟨rfl, ho6, hF, hf⟩
    · dsimp only [Option.toList, List.append, List.cons_append, List.nil_append]
      refine g_if_ne (nx := 38) 40 F dX12_readsCondition_35 rfl (by decide) (fun c_35 => ?_) (fun c_35 => absurd c_35 (by decide))
      exact (L (n + 1) (p + 1) 1 l op vl (0, [], []) [] _).1 (by omega) hS (((frK.u _ 28 _ (by decide)).tr (frK.u _ 30 _ (by decide))).tr hf) ⟨fun v hv => absurd hv List.not_mem_nil, fun v hv => absurd hv List.not_mem_nil, trivial⟩ rfl (by show l + (0 + 0) + (p + 1) ≤ _ ∧ _; omega) (by show 1 ≤ p + 1; omega) (fun K z => Rn.rf _ _ _)
    · dsimp only [Option.toList, List.append, List.cons_append, List.nil_append]
      exact absurd (by decide) ho6
  · refine g_aload_n (nx := 1) 0 F dX12_readsCondition_0 rfl rfl rfl ?_
    refine g_callV (nx := 4) 0 0 [] F dX12_readsCondition_1 rfl ml_RX12_199 mo_X12_here rfl rfl rfl rfl (Nat.le_of_ble_eq_true rfl) (by first | decide | omega) (k_here n _ _ _ c _ _ _ _ H) (fun r_1 τ_1 q_1 => ?_)
    obtain ⟨rfl, et_1⟩ := q_1
    have et_1 := et_1.symm
    subst et_1
    dsimp only [Option.toList, List.append, List.cons_append, List.nil_append]
    refine g_bipush (nx := 6) (40) F dX12_readsCondition_4 rfl (by decide) ?_
    refine g_icmp_eq (nx := 9) 19 F dX12_readsCondition_6 rfl (by decide) (fun c_6 => absurd c_6 (by exact fun zq => hP0 ((sgI_eq hor0 (by decide)).mp zq))) (fun c_6 => ?_)
    refine g_aload_n (nx := 10) 0 F dX12_readsCondition_9 rfl rfl rfl ?_
    refine g_iconst (nx := 11) (1) F dX12_readsCondition_10 rfl rfl ?_
    refine g_aload_n (nx := 12) 0 F dX12_readsCondition_11 rfl rfl rfl ?_
    refine g_getV (nx := 15) (nI p) F dX12_readsCondition_12 rfl fl_RX12_193 rfl (by decide) (by decide) rfl rfl (H.2.1.1) ?_
    refine g_callV (nx := 18) 2 0 [.int 1, .int (nI p)] F dX12_readsCondition_15 rfl ml_RX12_206 mo_X12_wrong rfl rfl rfl rfl (Nat.le_of_ble_eq_true rfl) (by first | decide | omega) (k_wrong n _ _ _ 1 c _ _ 1 _ H rfl) (fun r_15 τ_15 q_15 => ?_)
    obtain ⟨rfl, hF_15, hf_15⟩ := q_15
    dsimp only [Option.toList, List.append, List.cons_append, List.nil_append]
    refine g_zret F E dX12_readsCondition_18 (by first | rfl | assumption) ?_
    exact Or.inr (Or.inl ⟨rfl, hP0, hF_15, hf_15⟩)
