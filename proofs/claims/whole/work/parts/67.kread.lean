/-! THE REFERENCE'S READER. waits: the top first -/
def wtA (f : Nat → Int32) : TK → Prop
  | [] => True
  | x :: w => f w.length = nI (1048576 * x.1 + x.2) ∧ x.1 ≤ 14 ∧ x.2 < 1000 ∧ wtA f w
theorem wtA_congr {f g : Nat → Int32} : ∀ {w : TK}, (∀ k, k < w.length → g k = f k) → wtA f w → wtA g w
  | [], _, _ => trivial
  | x :: w, h, H => ⟨(h w.length (Nat.lt_succ_self _)).trans H.1, H.2.1, H.2.2.1, wtA_congr (fun k hk => h k (Nat.lt_succ_of_lt hk)) H.2.2.2⟩
theorem wtA_app {f : Nat → Int32} : ∀ {a b : TK}, wtA f (a ++ b) → wtA f b
  | [], _, h => h
  | _ :: _, _, h => wtA_app h.2.2.2
theorem wtA_push {f : Nat → Int32} {w : TK} {x v : Nat} (h : wtA f w) (hx : x ≤ 14) (hv : v < 1000) : wtA (upd f w.length (nI (1048576 * x + v))) ((x, v) :: w) :=
  ⟨if_pos rfl, hx, hv, wtA_congr (fun k hk => if_neg (by omega)) h⟩
theorem wt_op {v o : Nat} (ho : o ≤ 14) (hv : v < 1000) : nI (1048576 * o + v) / 1048576 = nI o := by
  rw [show (1048576 : Int32) = nI 1048576 from rfl, pk_div (by omega) (by omega) (by omega), show (1048576 * o + v) / 1048576 = o by omega]
theorem wt_vl {v o : Nat} (ho : o ≤ 14) (hv : v < 1000) : nI (1048576 * o + v) - nI (1048576 * o + v) / 1048576 * 1048576 = nI v := by
  rw [show (1048576 : Int32) = nI 1048576 from rfl, pk_rem (by omega) (by omega) (by omega), show (1048576 * o + v) % 1048576 = v by omega]
theorem wt_enc (o v : Nat) : (1048576 : Int32) * nI o + nI v = nI (1048576 * o + v) := by
  rw [show (1048576 : Int32) = nI 1048576 from rfl, pk_mul, nI_add]
theorem wt_enc0 (o : Nat) : (1048576 : Int32) * nI o = nI (1048576 * o + 0) := by
  rw [show (1048576 : Int32) = nI 1048576 from rfl, pk_mul]
  rfl
/-- the reference's reader stands at a state of the machine, with what waits -/
def kcS (σ : zSt) (c : Nat → Nat) (n : Nat) (e : ES) (w : TK) : Prop := match e with
  | (p, o, l, op, vl) => (inC c n ∧ n ≤ 160 ∧ ∀ q, q < n → σ 162 q &&& 255 = nI (c q)) ∧ (σ 145 25 = nI p ∧ σ 145 26 = nI n ∧ σ 145 28 = nI o ∧ σ 145 29 = nI l ∧ σ 145 30 = nI w.length) ∧ ((∀ k, k < l → σ 163 k = nI (1048576 * op k + vl k) ∧ vl k < 1000000 ∧ op k < 13) ∧ wtA (σ 164) w) ∧ p ≤ n ∧ o ≤ 6 ∧ l ≤ 170 ∧ w.length ≤ 170
def fltI (f p : Nat) : Int32 := (-1000) * nI f - nI p
def kcF (σ : zSt) (f p : Nat) : Prop := σ 145 27 = fltI f p
def frK (σ τ : zSt) : Prop := (∀ a, a ≠ 145 → a ≠ 163 → a ≠ 164 → τ a = σ a) ∧ ∀ k, (k < 25 ∨ 32 < k ∨ k = 26 ∨ k = 31) → τ 145 k = σ 145 k
theorem frK.rf (σ : zSt) : frK σ σ := ⟨fun _ _ _ _ => rfl, fun _ _ => rfl⟩
theorem frK.tr {σ τ ρ : zSt} (h : frK σ τ) (g : frK τ ρ) : frK σ ρ := ⟨fun a a1 a2 a3 => (g.1 a a1 a2 a3).trans (h.1 a a1 a2 a3), fun k hk => (g.2 k hk).trans (h.2 k hk)⟩
theorem frK.u (σ : zSt) (k : Nat) (x : Int32) (h : 25 ≤ k ∧ k ≤ 32 ∧ k ≠ 26 ∧ k ≠ 31) : frK σ (zu σ 145 k x) := ⟨fun a a1 _ _ => zu_ne _ a1 _ _, fun j hj => zu_off _ _ _ _ _ (by omega)⟩
theorem frK.w (σ : zSt) (a k : Nat) (x : Int32) (h : a = 163 ∨ a = 164) : frK σ (zu σ a k x) := ⟨fun b _ b2 b3 => zu_ne _ (by omega) _ _, fun j _ => by rw [zu_ne _ (by omega)]⟩
theorem kcS_145 {σ τ : zSt} {n p o l p' o' : Nat} {c op vl : Nat → Nat} {w w' : TK} (H : kcS σ c n (p, o, l, op, vl) w) (h : ∀ a, a ≠ 145 → τ a = σ a) (h25 : τ 145 25 = nI p') (h26 : τ 145 26 = σ 145 26) (h28 : τ 145 28 = nI o') (h29 : τ 145 29 = σ 145 29) (h30 : τ 145 30 = nI w'.length) (hw : wtA (σ 164) w → wtA (σ 164) w') (hp : p' ≤ n) (ho : o' ≤ 6) (hl : w'.length ≤ 170) : kcS τ c n (p', o', l, op, vl) w' := by
  obtain ⟨⟨a1, a2, a3⟩, ⟨b1, b2, b3, b4, b5⟩, ⟨c1, c2⟩, d1, d2, d3, d4⟩ := H
  refine ⟨⟨a1, a2, fun q hq => by rw [h 162 (by decide)]; exact a3 q hq⟩, ⟨h25, h26.trans b2, h28, h29.trans b4, h30⟩, ⟨fun k hk => by rw [h 163 (by decide)]; exact c1 k hk, by rw [h 164 (by decide)]; exact hw c2⟩, hp, ho, d3, hl⟩
theorem kcS_says {σ : zSt} {n p o l o2 v : Nat} {c op vl : Nat → Nat} {w : TK} (H : kcS σ c n (p, o, l, op, vl) w) (hl : l < 170) (hv : v < 1000000) (ho : o2 < 13) : kcS (zu (zu σ 163 l (nI (1048576 * o2 + v))) 145 29 (nI (l + 1))) c n (p, o, l + 1, updN op l o2, updN vl l v) w ∧ frK σ (zu (zu σ 163 l (nI (1048576 * o2 + v))) 145 29 (nI (l + 1))) := by
  obtain ⟨⟨a1, a2, a3⟩, ⟨b1, b2, b3, b4, b5⟩, ⟨c1, c2⟩, d1, d2, d3, d4⟩ := H
  refine ⟨⟨⟨a1, a2, a3⟩, ⟨b1, b2, b3, rfl, b5⟩, ⟨fun k hk => ?_, c2⟩, d1, d2, hl, d4⟩, (frK.w σ 163 l _ (Or.inl rfl)).tr (frK.u _ 29 _ (by decide))⟩
  rw [zu_ne _ (show (163 : Nat) ≠ 145 by decide)]
  by_cases e : k = l
  · subst e
    rw [zu_same, updN_at, updN_at]
    exact ⟨rfl, hv, ho⟩
  · rw [zu_off _ _ _ _ _ e, updN_ne _ _ e, updN_ne _ _ e]
    exact c1 k (by omega)
theorem kcS_push {σ : zSt} {n p o l x v : Nat} {c op vl : Nat → Nat} {w : TK} (H : kcS σ c n (p, o, l, op, vl) w) (hp : p < n) (hx : x ≤ 14) (hv : v < 1000) (hw : w.length < 170) : kcS (zu (zu (zu σ 164 w.length (nI (1048576 * x + v))) 145 30 (nI (w.length + 1))) 145 25 (nI (p + 1))) c n (p + 1, o, l, op, vl) ((x, v) :: w) ∧ frK σ (zu (zu (zu σ 164 w.length (nI (1048576 * x + v))) 145 30 (nI (w.length + 1))) 145 25 (nI (p + 1))) := by
  obtain ⟨⟨a1, a2, a3⟩, ⟨b1, b2, b3, b4, b5⟩, ⟨c1, c2⟩, d1, d2, d3, d4⟩ := H
  refine ⟨⟨⟨a1, a2, a3⟩, ⟨rfl, b2, b3, b4, rfl⟩, ⟨c1, ?_⟩, hp, d2, d3, hw⟩, ((frK.w σ 164 w.length _ (Or.inr rfl)).tr (frK.u _ 30 _ (by decide))).tr (frK.u _ 25 _ (by decide))⟩
  rw [zu_ne _ (show (164 : Nat) ≠ 145 by decide), zu_ne _ (show (164 : Nat) ≠ 145 by decide), zu_at]
  exact wtA_push c2 hx hv
def tpI : TK → Int32
  | [] => -1
  | x :: _ => nI x.1
set_option maxHeartbeats 4000000 in
set_option maxRecDepth 100000 in
theorem k_here (n p o l : Nat) (c op vl : Nat → Nat) (w : TK) (σ : zSt) (H : kcS σ c n (p, o, l, op, vl) w) : Con mX12_here 0 [.ref 145] σ (fun r τ => r = some (.int (sgI (c p))) ∧ τ = σ) := by
  refine Con.of (lv := [.ref 145]) mk_X12_here rfl (Nat.le_of_ble_eq_true rfl) rfl (fun X F E => ?_)
  have hn160 := H.1.2.1
  have hpn := H.2.2.2.1
  rcases Nat.lt_or_ge p n with hlt | hge
  · refine g_aload_n (nx := 1) 0 F dX12_here_0 rfl rfl rfl ?_
    refine g_getV (nx := 4) (nI p) F dX12_here_1 rfl fl_RX12_193 rfl (by decide) (by decide) rfl rfl (H.2.1.1) ?_
    refine g_aload_n (nx := 5) 0 F dX12_here_4 rfl rfl rfl ?_
    refine g_getV (nx := 8) (nI n) F dX12_here_5 rfl fl_RX12_196 rfl (by decide) (by decide) rfl rfl (H.2.1.2.1) ?_
    refine g_icmp_ge (nx := 11) 27 F dX12_here_8 rfl (by decide) (fun c_8 => absurd c_8 (by exact nI_ge hlt (by omega))) (fun c_8 => ?_)
    refine g_aload_n (nx := 12) 0 F dX12_here_11 rfl rfl rfl ?_
    refine g_getR (nx := 15) F dX12_here_12 rfl fl_RX12_58 rfl (by decide) (by decide) rfl ?_
    refine g_aload_n (nx := 16) 0 F dX12_here_15 rfl rfl rfl ?_
    refine g_getV (nx := 19) (nI p) F dX12_here_16 rfl fl_RX12_193 rfl (by decide) (by decide) rfl rfl (H.2.1.1) ?_
    refine g_baldN (nx := 20) (p) (_) F dX12_here_19 rfl rfl (by omega) (rfl) ?_
    refine g_sipush (nx := 23) (255) F dX12_here_20 rfl (by decide) ?_
    refine g_iand (nx := 24) F dX12_here_23 rfl ?_
    refine g_goto 28 F dX12_here_24 (by decide) ?_
    refine g_iret F E dX12_here_28 ?_
    exact ⟨by rw [H.1.2.2 p hlt, show sgI (c p) = nI (c p) from if_neg (by have := H.1.1.1 p hlt; omega)], rfl⟩
  · refine g_aload_n (nx := 1) 0 F dX12_here_0 rfl rfl rfl ?_
    refine g_getV (nx := 4) (nI p) F dX12_here_1 rfl fl_RX12_193 rfl (by decide) (by decide) rfl rfl (H.2.1.1) ?_
    refine g_aload_n (nx := 5) 0 F dX12_here_4 rfl rfl rfl ?_
    refine g_getV (nx := 8) (nI n) F dX12_here_5 rfl fl_RX12_196 rfl (by decide) (by decide) rfl rfl (H.2.1.2.1) ?_
    refine g_icmp_ge (nx := 11) 27 F dX12_here_8 rfl (by decide) (fun c_8 => ?_) (fun c_8 => absurd c_8 (by exact fun zq => zq (nI_le hge (by omega))))
    refine g_iconst (nx := 28) (-1) F dX12_here_27 rfl rfl ?_
    refine g_iret F E dX12_here_28 ?_
    exact ⟨by rw [show sgI (c p) = -1 from if_pos (H.1.1.2 p hge)], rfl⟩
set_option maxHeartbeats 4000000 in
set_option maxRecDepth 100000 in
theorem k_isDigit (n p o l : Nat) (c op vl : Nat → Nat) (w : TK) (σ : zSt) (H : kcS σ c n (p, o, l, op, vl) w) : Con mX12_isDigit 1 [.ref 145] σ (fun r τ => r = some (.int (bI (dg (c p) = true))) ∧ τ = σ) := by
  refine Con.of (lv := [.ref 145]) mk_X12_isDigit rfl (Nat.le_of_ble_eq_true rfl) rfl (fun X F E => ?_)
  have hi := sgI_toInt (inC_or H.1.1 p)
  refine g_aload_n (nx := 1) 0 F dX12_isDigit_0 rfl rfl rfl ?_
  refine g_callV (nx := 4) 0 0 [] F dX12_isDigit_1 rfl ml_RX12_199 mo_X12_here rfl rfl rfl rfl (Nat.le_of_ble_eq_true rfl) (by first | decide | omega) (k_here n _ _ _ c _ _ _ _ H) (fun r_1 τ_1 q_1 => ?_)
  obtain ⟨rfl, et_1⟩ := q_1
  have et_1 := et_1.symm
  subst et_1
  dsimp only [Option.toList, List.append, List.cons_append, List.nil_append]
  refine g_bipush (nx := 6) (48) F dX12_isDigit_4 rfl (by decide) ?_
  refine g_icmp_lt (nx := 9) 22 F dX12_isDigit_6 rfl (by decide) (fun c_6 => ?_) (fun c_6 => ?_)
  · refine g_iconst (nx := 23) (0) F dX12_isDigit_22 rfl rfl ?_
    refine g_zret F E dX12_isDigit_23 (by first | rfl | assumption) ?_
    clear F E
    refine ⟨congrArg (fun z => some (Value.int z)) (Eq.symm ?_), rfl⟩
    simp only [dg, fa_lt, Int32.reduceToInt, hi] at *
    first
      | (refine bI_t (decide_eq_true ?_); split at c_6 <;> split at c_15 <;> omega)
      | (refine bI_f (fun z => ?_); have z := of_decide_eq_true z; split at c_6 <;> omega)
      | (refine bI_f (fun z => ?_); have z := of_decide_eq_true z; split at c_15 <;> omega)
  · refine g_aload_n (nx := 10) 0 F dX12_isDigit_9 rfl rfl rfl ?_
    refine g_callV (nx := 13) 0 0 [] F dX12_isDigit_10 rfl ml_RX12_199 mo_X12_here rfl rfl rfl rfl (Nat.le_of_ble_eq_true rfl) (by first | decide | omega) (k_here n _ _ _ c _ _ _ _ H) (fun r_10 τ_10 q_10 => ?_)
    obtain ⟨rfl, et_10⟩ := q_10
    have et_10 := et_10.symm
    subst et_10
    dsimp only [Option.toList, List.append, List.cons_append, List.nil_append]
    refine g_bipush (nx := 15) (57) F dX12_isDigit_13 rfl (by decide) ?_
    refine g_icmp_gt (nx := 18) 22 F dX12_isDigit_15 rfl (by decide) (fun c_15 => ?_) (fun c_15 => ?_)
    · refine g_iconst (nx := 23) (0) F dX12_isDigit_22 rfl rfl ?_
      refine g_zret F E dX12_isDigit_23 (by first | rfl | assumption) ?_
      clear F E
      refine ⟨congrArg (fun z => some (Value.int z)) (Eq.symm ?_), rfl⟩
      simp only [dg, fa_lt, Int32.reduceToInt, hi] at *
      first
        | (refine bI_t (decide_eq_true ?_); split at c_6 <;> split at c_15 <;> omega)
        | (refine bI_f (fun z => ?_); have z := of_decide_eq_true z; split at c_6 <;> omega)
        | (refine bI_f (fun z => ?_); have z := of_decide_eq_true z; split at c_15 <;> omega)
    · refine g_iconst (nx := 19) (1) F dX12_isDigit_18 rfl rfl ?_
      refine g_goto 23 F dX12_isDigit_19 (by decide) ?_
      refine g_zret F E dX12_isDigit_23 (by first | rfl | assumption) ?_
      clear F E
      refine ⟨congrArg (fun z => some (Value.int z)) (Eq.symm ?_), rfl⟩
      simp only [dg, fa_lt, Int32.reduceToInt, hi] at *
      first
        | (refine bI_t (decide_eq_true ?_); split at c_6 <;> split at c_15 <;> omega)
        | (refine bI_f (fun z => ?_); have z := of_decide_eq_true z; split at c_6 <;> omega)
        | (refine bI_f (fun z => ?_); have z := of_decide_eq_true z; split at c_15 <;> omega)
set_option maxHeartbeats 4000000 in
set_option maxRecDepth 100000 in
theorem k_wrong0 (a b : Int32) (σ : zSt) : Con mX12_wrong 0 [.ref 145, .int a, .int b] σ (fun r τ => r = some (.int 0) ∧ τ = zu σ 145 27 ((-1000) * a - b)) := by
  refine Con.of (lv := [.ref 145, .int a, .int b]) mk_X12_wrong rfl (Nat.le_of_ble_eq_true rfl) rfl (fun X F E => ?_)
  refine g_aload_n (nx := 1) 0 F dX12_wrong_0 rfl rfl rfl ?_
  refine g_sipush (nx := 4) (-1000) F dX12_wrong_1 rfl (by decide) ?_
  refine g_iload_n (nx := 5) 1 F dX12_wrong_4 rfl rfl rfl ?_
  refine g_imul (nx := 6) F dX12_wrong_5 rfl ?_
  refine g_iload_n (nx := 7) 2 F dX12_wrong_6 rfl rfl rfl ?_
  refine g_isub (nx := 8) F dX12_wrong_7 rfl ?_
  refine g_putI (nx := 11) F dX12_wrong_8 rfl fl_RX12_203 fi_11_27 rfl (by decide) (by decide) rfl rfl ?_
  refine g_iconst (nx := 12) (0) F dX12_wrong_11 rfl rfl ?_
  refine g_zret F E dX12_wrong_12 (by first | rfl | assumption) ?_
  exact ⟨rfl, rfl⟩
theorem k_wrong (n p o l f : Nat) (c op vl : Nat → Nat) (a : Int32) (w : TK) {σ : zSt} (H : kcS σ c n (p, o, l, op, vl) w) (ha : a = nI f) : Con mX12_wrong 0 [.ref 145, .int a, .int (nI p)] σ (fun r τ => r = some (.int 0) ∧ kcF τ f p ∧ frK σ τ) := by
  subst ha
  refine (k_wrong0 (nI f) (nI p) σ).mono (fun r τ hq => ?_)
  obtain ⟨h1, rfl⟩ := hq
  exact ⟨h1, rfl, frK.u _ 27 _ (by decide)⟩
set_option maxHeartbeats 4000000 in
set_option maxRecDepth 100000 in
theorem k_says (n p o l o2 v : Nat) (c op vl : Nat → Nat) (a b : Int32) (w : TK) (σ : zSt) (H : kcS σ c n (p, o, l, op, vl) w) (ha : a = nI o2) (hb : b = nI v) (hl : l < 170) (hv : v < 1000000) (ho : o2 < 13) : Con mX12_says 0 [.ref 145, .int a, .int b] σ (fun r τ => r = none ∧ kcS τ c n (p, o, l + 1, updN op l o2, updN vl l v) w ∧ frK σ τ) := by
  refine Con.of (lv := [.ref 145, .int a, .int b]) mk_X12_says rfl (Nat.le_of_ble_eq_true rfl) rfl (fun X F E => ?_)
  have hl170 := H.2.2.2.2.2.1
  subst ha
  subst hb
  refine g_aload_n (nx := 1) 0 F dX12_says_0 rfl rfl rfl ?_
  refine g_getR (nx := 4) F dX12_says_1 rfl fl_RX12_62 rfl (by decide) (by decide) rfl ?_
  refine g_aload_n (nx := 5) 0 F dX12_says_4 rfl rfl rfl ?_
  refine g_getV (nx := 8) (nI l) F dX12_says_5 rfl fl_RX12_217 rfl (by decide) (by decide) rfl rfl (H.2.1.2.2.2.1) ?_
  refine g_ldc (nx := 10) (1048576) F dX12_says_8 rfl co_RX12_220 ?_
  refine g_iload_n (nx := 11) 1 F dX12_says_10 rfl rfl rfl ?_
  refine g_imul (nx := 12) F dX12_says_11 rfl ?_
  refine g_iload_n (nx := 13) 2 F dX12_says_12 rfl rfl rfl ?_
  refine g_iadd (nx := 14) F dX12_says_13 rfl ?_
  refine g_top (nI (1048576 * o2 + v)) (wt_enc o2 v) ?_
  refine g_iastN (nx := 15) (l) F dX12_says_14 rfl rfl (by omega) ?_
  refine g_aload_n (nx := 16) 0 F dX12_says_15 rfl rfl rfl ?_
  refine g_aload_n (nx := 17) 0 F dX12_says_16 rfl rfl rfl ?_
  refine g_getV (nx := 20) (nI l) F dX12_says_17 rfl fl_RX12_217 rfl (by decide) (by decide) rfl rfl (H.2.1.2.2.2.1) ?_
  refine g_iconst (nx := 21) (1) F dX12_says_20 rfl rfl ?_
  refine g_iadd (nx := 22) F dX12_says_21 rfl ?_
  rw [nI_1]
  refine g_putI (nx := 25) F dX12_says_22 rfl fl_RX12_217 fi_11_29 rfl (by decide) (by decide) rfl rfl ?_
  refine g_vret F E dX12_says_25 ?_
  exact ⟨rfl, kcS_says H hl hv ho⟩
set_option maxHeartbeats 4000000 in
set_option maxRecDepth 100000 in
theorem k_top (n p o l : Nat) (c op vl : Nat → Nat) (w : TK) (σ : zSt) (H : kcS σ c n (p, o, l, op, vl) w) : Con mX12_top 0 [.ref 145] σ (fun r τ => r = some (.int (tpI w)) ∧ τ = σ) := by
  refine Con.of (lv := [.ref 145]) mk_X12_top rfl (Nat.le_of_ble_eq_true rfl) rfl (fun X F E => ?_)
  have hw170 := H.2.2.2.2.2.2
  cases w with
  | nil =>
    refine g_aload_n (nx := 1) 0 F dX12_top_0 rfl rfl rfl ?_
    refine g_getV (nx := 4) (nI 0) F dX12_top_1 rfl fl_RX12_224 rfl (by decide) (by decide) rfl rfl (H.2.1.2.2.2.2) ?_
    refine g_if_ne (nx := 7) 11 F dX12_top_4 rfl (by decide) (fun c_4 => absurd c_4 (by exact fun zq => zq rfl)) (fun c_4 => ?_)
    refine g_iconst (nx := 8) (-1) F dX12_top_7 rfl rfl ?_
    refine g_goto 25 F dX12_top_8 (by decide) ?_
    refine g_iret F E dX12_top_25 ?_
    exact ⟨rfl, rfl⟩
  | cons x w1 =>
    have hw170 : w1.length + 1 ≤ 170 := hw170
    have hx := H.2.2.1.2
    refine g_aload_n (nx := 1) 0 F dX12_top_0 rfl rfl rfl ?_
    refine g_getV (nx := 4) (nI (w1.length + 1)) F dX12_top_1 rfl fl_RX12_224 rfl (by decide) (by decide) rfl rfl (H.2.1.2.2.2.2) ?_
    refine g_if_ne (nx := 7) 11 F dX12_top_4 rfl (by decide) (fun c_4 => ?_) (fun c_4 => absurd c_4 (by exact nI_ne0 (by omega) (by omega)))
    refine g_aload_n (nx := 12) 0 F dX12_top_11 rfl rfl rfl ?_
    refine g_getR (nx := 15) F dX12_top_12 rfl fl_RX12_65 rfl (by decide) (by decide) rfl ?_
    refine g_aload_n (nx := 16) 0 F dX12_top_15 rfl rfl rfl ?_
    refine g_getV (nx := 19) (nI (w1.length + 1)) F dX12_top_16 rfl fl_RX12_224 rfl (by decide) (by decide) rfl rfl (H.2.1.2.2.2.2) ?_
    refine g_iconst (nx := 20) (1) F dX12_top_19 rfl rfl ?_
    refine g_isub (nx := 21) F dX12_top_20 rfl ?_
    rw [nI_pred]
    refine g_ialdN (nx := 22) (w1.length) (nI (1048576 * x.1 + x.2)) F dX12_top_21 rfl rfl (by omega) (hx.1) ?_
    refine g_ldc (nx := 24) (1048576) F dX12_top_22 rfl co_RX12_220 ?_
    refine g_idiv (nx := 25) F dX12_top_24 rfl (by decide) ?_
    refine g_iret F E dX12_top_25 ?_
    exact ⟨by rw [wt_op hx.2.1 hx.2.2.1]; rfl, rfl⟩
set_option maxHeartbeats 4000000 in
set_option maxRecDepth 100000 in
theorem k_takes (x n p o l : Nat) (c op vl : Nat → Nat) (a : Int32) (w : TK) (σ : zSt) (H : kcS σ c n (p, o, l, op, vl) w) (ha : a = nI x) (hx : x < 256) : Con mX12_takes 1 [.ref 145, .int a] σ (fun r τ => (r = some (.int 1) ∧ c p = x ∧ kcS τ c n (p + 1, o, l, op, vl) w ∧ frK σ τ) ∨ (r = some (.int 0) ∧ ¬ c p = x ∧ kcF τ 1 p ∧ frK σ τ)) := by
  refine Con.of (lv := [.ref 145, .int a]) mk_X12_takes rfl (Nat.le_of_ble_eq_true rfl) rfl (fun X F E => ?_)
  have ho := inC_or H.1.1 p
  subst ha
  refine g_aload_n (nx := 1) 0 F dX12_takes_0 rfl rfl rfl ?_
  refine g_callV (nx := 4) 0 0 [] F dX12_takes_1 rfl ml_RX12_199 mo_X12_here rfl rfl rfl rfl (Nat.le_of_ble_eq_true rfl) (by first | decide | omega) (k_here n _ _ _ c _ _ _ _ H) (fun r_1 τ_1 q_1 => ?_)
  obtain ⟨rfl, et_1⟩ := q_1
  have et_1 := et_1.symm
  subst et_1
  dsimp only [Option.toList, List.append, List.cons_append, List.nil_append]
  refine g_iload_n (nx := 5) 1 F dX12_takes_4 rfl rfl rfl ?_
  refine g_icmp_eq (nx := 8) 18 F dX12_takes_5 rfl (by decide) (fun c_5 => ?_) (fun c_5 => ?_)
  · refine g_aload_n (nx := 19) 0 F dX12_takes_18 rfl rfl rfl ?_
    refine g_aload_n (nx := 20) 0 F dX12_takes_19 rfl rfl rfl ?_
    refine g_getV (nx := 23) (nI p) F dX12_takes_20 rfl fl_RX12_193 rfl (by decide) (by decide) rfl rfl (H.2.1.1) ?_
    refine g_iconst (nx := 24) (1) F dX12_takes_23 rfl rfl ?_
    refine g_iadd (nx := 25) F dX12_takes_24 rfl ?_
    rw [nI_1]
    refine g_putI (nx := 28) F dX12_takes_25 rfl fl_RX12_193 fi_11_25 rfl (by decide) (by decide) rfl rfl ?_
    refine g_iconst (nx := 29) (1) F dX12_takes_28 rfl rfl ?_
    refine g_zret F E dX12_takes_29 (by first | rfl | assumption) ?_
    have hlt := inC_lt (p := p) H.1.1 (by have := (sgI_eq ho hx).mp c_5; omega)
    exact Or.inl ⟨rfl, (sgI_eq ho hx).mp c_5, kcS_145 H (fun a ha => by rw [zu_ne _ ha]) rfl rfl H.2.1.2.2.1 rfl H.2.1.2.2.2.2 id hlt H.2.2.2.2.1 H.2.2.2.2.2.2, frK.u _ 25 _ (by decide)⟩
  · refine g_aload_n (nx := 9) 0 F dX12_takes_8 rfl rfl rfl ?_
    refine g_iconst (nx := 10) (1) F dX12_takes_9 rfl rfl ?_
    refine g_aload_n (nx := 11) 0 F dX12_takes_10 rfl rfl rfl ?_
    refine g_getV (nx := 14) (nI p) F dX12_takes_11 rfl fl_RX12_193 rfl (by decide) (by decide) rfl rfl (H.2.1.1) ?_
    refine g_callV (nx := 17) 2 0 [.int 1, .int (nI p)] F dX12_takes_14 rfl ml_RX12_206 mo_X12_wrong rfl rfl rfl rfl (Nat.le_of_ble_eq_true rfl) (by first | decide | omega) (k_wrong n _ _ _ 1 c _ _ 1 _ H rfl) (fun r_14 τ_14 q_14 => ?_)
    obtain ⟨rfl, hF_14, hf_14⟩ := q_14
    dsimp only [Option.toList, List.append, List.cons_append, List.nil_append]
    refine g_zret F E dX12_takes_17 (by first | rfl | assumption) ?_
    exact Or.inr ⟨rfl, fun z => c_5 ((sgI_eq ho hx).mpr z), hF_14, hf_14⟩
set_option maxHeartbeats 4000000 in
set_option maxRecDepth 100000 in
theorem k_opens (x n p o l : Nat) (c op vl : Nat → Nat) (a : Int32) (w : TK) (σ : zSt) (H : kcS σ c n (p, o, l, op, vl) w) (ha : a = nI x) (hx : x ≤ 14) (hp : p < n) (hw : w.length < 170) : Con mX12_opens 1 [.ref 145, .int a] σ (fun r τ => (r = some (.int 1) ∧ o < 6 ∧ kcS τ c n (p + 1, o + 1, l, op, vl) ((x, 0) :: w) ∧ frK σ τ) ∨ (r = some (.int 0) ∧ ¬ o < 6 ∧ kcF τ 5 p ∧ frK σ τ)) := by
  refine Con.of (lv := [.ref 145, .int a]) mk_X12_opens rfl (Nat.le_of_ble_eq_true rfl) rfl (fun X F E => ?_)
  have ho6 := H.2.2.2.2.1
  have hw170 := H.2.2.2.2.2.2
  subst ha
  rcases Nat.lt_or_ge o 6 with hlt | hge
  · have H1 : kcS (zu σ 145 28 (nI (o + 1))) c n (p, o + 1, l, op, vl) w := kcS_145 H (fun a ha => by rw [zu_ne _ ha]) H.2.1.1 rfl rfl rfl H.2.1.2.2.2.2 id H.2.2.2.1 (by omega) hw170
    have hP := kcS_push (x := x) (v := 0) H1 hp hx (by decide) hw
    refine g_aload_n (nx := 1) 0 F dX12_opens_0 rfl rfl rfl ?_
    refine g_getV (nx := 4) (nI o) F dX12_opens_1 rfl fl_RX12_221 rfl (by decide) (by decide) rfl rfl (H.2.1.2.2.1) ?_
    refine g_bipush (nx := 6) (6) F dX12_opens_4 rfl (by decide) ?_
    refine g_icmp_ne (nx := 9) 19 F dX12_opens_6 rfl (by decide) (fun c_6 => ?_) (fun c_6 => absurd c_6 (by exact fun zq => absurd ((nI_eq (b := 6) (by omega) (by omega)).mp zq) (by omega)))
    refine g_aload_n (nx := 20) 0 F dX12_opens_19 rfl rfl rfl ?_
    refine g_aload_n (nx := 21) 0 F dX12_opens_20 rfl rfl rfl ?_
    refine g_getV (nx := 24) (nI o) F dX12_opens_21 rfl fl_RX12_221 rfl (by decide) (by decide) rfl rfl (H.2.1.2.2.1) ?_
    refine g_iconst (nx := 25) (1) F dX12_opens_24 rfl rfl ?_
    refine g_iadd (nx := 26) F dX12_opens_25 rfl ?_
    rw [nI_1]
    refine g_putI (nx := 29) F dX12_opens_26 rfl fl_RX12_221 fi_11_28 rfl (by decide) (by decide) rfl rfl ?_
    refine g_aload_n (nx := 30) 0 F dX12_opens_29 rfl rfl rfl ?_
    refine g_getR (nx := 33) F dX12_opens_30 rfl fl_RX12_65 rfl (by decide) (by decide) rfl ?_
    refine g_aload_n (nx := 34) 0 F dX12_opens_33 rfl rfl rfl ?_
    refine g_getV (nx := 37) (nI (w.length)) F dX12_opens_34 rfl fl_RX12_224 rfl (by decide) (by decide) rfl rfl (H.2.1.2.2.2.2) ?_
    refine g_ldc (nx := 39) (1048576) F dX12_opens_37 rfl co_RX12_220 ?_
    refine g_iload_n (nx := 40) 1 F dX12_opens_39 rfl rfl rfl ?_
    refine g_imul (nx := 41) F dX12_opens_40 rfl ?_
    refine g_top (nI (1048576 * x + 0)) (wt_enc0 x) ?_
    refine g_iastN (nx := 42) (w.length) F dX12_opens_41 rfl rfl (by omega) ?_
    refine g_aload_n (nx := 43) 0 F dX12_opens_42 rfl rfl rfl ?_
    refine g_aload_n (nx := 44) 0 F dX12_opens_43 rfl rfl rfl ?_
    refine g_getV (nx := 47) (nI (w.length)) F dX12_opens_44 rfl fl_RX12_224 rfl (by decide) (by decide) rfl rfl (H.2.1.2.2.2.2) ?_
    refine g_iconst (nx := 48) (1) F dX12_opens_47 rfl rfl ?_
    refine g_iadd (nx := 49) F dX12_opens_48 rfl ?_
    rw [nI_1]
    refine g_putI (nx := 52) F dX12_opens_49 rfl fl_RX12_224 fi_11_30 rfl (by decide) (by decide) rfl rfl ?_
    refine g_aload_n (nx := 53) 0 F dX12_opens_52 rfl rfl rfl ?_
    refine g_aload_n (nx := 54) 0 F dX12_opens_53 rfl rfl rfl ?_
    refine g_getV (nx := 57) (nI p) F dX12_opens_54 rfl fl_RX12_193 rfl (by decide) (by decide) rfl rfl (H.2.1.1) ?_
    refine g_iconst (nx := 58) (1) F dX12_opens_57 rfl rfl ?_
    refine g_iadd (nx := 59) F dX12_opens_58 rfl ?_
    rw [nI_1]
    refine g_putI (nx := 62) F dX12_opens_59 rfl fl_RX12_193 fi_11_25 rfl (by decide) (by decide) rfl rfl ?_
    refine g_iconst (nx := 63) (1) F dX12_opens_62 rfl rfl ?_
    refine g_zret F E dX12_opens_63 (by first | rfl | assumption) ?_
    exact Or.inl ⟨rfl, hlt, hP.1, (frK.u _ 28 _ (by decide)).tr hP.2⟩
  · refine g_aload_n (nx := 1) 0 F dX12_opens_0 rfl rfl rfl ?_
    refine g_getV (nx := 4) (nI o) F dX12_opens_1 rfl fl_RX12_221 rfl (by decide) (by decide) rfl rfl (H.2.1.2.2.1) ?_
    refine g_bipush (nx := 6) (6) F dX12_opens_4 rfl (by decide) ?_
    refine g_icmp_ne (nx := 9) 19 F dX12_opens_6 rfl (by decide) (fun c_6 => absurd c_6 (by exact fun zq => zq ((nI_eq (b := 6) (by omega) (by omega)).mpr (by omega)))) (fun c_6 => ?_)
    refine g_aload_n (nx := 10) 0 F dX12_opens_9 rfl rfl rfl ?_
    refine g_iconst (nx := 11) (5) F dX12_opens_10 rfl rfl ?_
    refine g_aload_n (nx := 12) 0 F dX12_opens_11 rfl rfl rfl ?_
    refine g_getV (nx := 15) (nI p) F dX12_opens_12 rfl fl_RX12_193 rfl (by decide) (by decide) rfl rfl (H.2.1.1) ?_
    refine g_callV (nx := 18) 2 0 [.int 5, .int (nI p)] F dX12_opens_15 rfl ml_RX12_206 mo_X12_wrong rfl rfl rfl rfl (Nat.le_of_ble_eq_true rfl) (by first | decide | omega) (k_wrong n _ _ _ 5 c _ _ 5 _ H rfl) (fun r_15 τ_15 q_15 => ?_)
    obtain ⟨rfl, hF_15, hf_15⟩ := q_15
    dsimp only [Option.toList, List.append, List.cons_append, List.nil_append]
    refine g_zret F E dX12_opens_18 (by first | rfl | assumption) ?_
    exact Or.inr ⟨rfl, by omega, hF_15, hf_15⟩
def ssI (x : Nat) : Int32 := if sgF x = 0 then -1 else nI (sgF x)
def lfI (x : Nat) : Int32 := if ltF x = 99 then -1 else nI (ltF x)
set_option maxHeartbeats 4000000 in
set_option maxRecDepth 100000 in
theorem k_sumSign (x : Nat) (σ : zSt) (hx : x < 256 ∨ x = 300) : Con mX12_sumSign 0 [.int (sgI x)] σ (fun r τ => r = some (.int (ssI x)) ∧ τ = σ) := by
  refine Con.of (lv := [.int (sgI x)]) mk_X12_sumSign rfl (Nat.le_of_ble_eq_true rfl) rfl (fun X F E => ?_)
  refine g_iload_n (nx := 1) 0 F dX12_sumSign_0 rfl rfl rfl ?_
  refine g_bipush (nx := 3) (43) F dX12_sumSign_1 rfl (by decide) ?_
  refine g_icmp_ne (nx := 6) 10 F dX12_sumSign_3 rfl (by decide) (fun c_3 => ?_) (fun c_3 => ?_)
  · refine g_iload_n (nx := 11) 0 F dX12_sumSign_10 rfl rfl rfl ?_
    refine g_bipush (nx := 13) (45) F dX12_sumSign_11 rfl (by decide) ?_
    refine g_icmp_ne (nx := 16) 20 F dX12_sumSign_13 rfl (by decide) (fun c_13 => ?_) (fun c_13 => ?_)
    · refine g_iload_n (nx := 21) 0 F dX12_sumSign_20 rfl rfl rfl ?_
      refine g_bipush (nx := 23) (42) F dX12_sumSign_21 rfl (by decide) ?_
      refine g_icmp_ne (nx := 26) 30 F dX12_sumSign_23 rfl (by decide) (fun c_23 => ?_) (fun c_23 => ?_)
      · refine g_iload_n (nx := 31) 0 F dX12_sumSign_30 rfl rfl rfl ?_
        refine g_bipush (nx := 33) (47) F dX12_sumSign_31 rfl (by decide) ?_
        refine g_icmp_ne (nx := 36) 40 F dX12_sumSign_33 rfl (by decide) (fun c_33 => ?_) (fun c_33 => ?_)
        · refine g_iload_n (nx := 41) 0 F dX12_sumSign_40 rfl rfl rfl ?_
          refine g_bipush (nx := 43) (37) F dX12_sumSign_41 rfl (by decide) ?_
          refine g_icmp_ne (nx := 46) 51 F dX12_sumSign_43 rfl (by decide) (fun c_43 => ?_) (fun c_43 => ?_)
          · refine g_iconst (nx := 52) (-1) F dX12_sumSign_51 rfl rfl ?_
            refine g_iret F E dX12_sumSign_52 ?_
            clear F E
            refine ⟨congrArg (fun z => some (Value.int z)) (Eq.symm ?_), rfl⟩
            have g1 := sgI_eq (y := 43) hx (by decide)
            have g2 := sgI_eq (y := 45) hx (by decide)
            have g3 := sgI_eq (y := 42) hx (by decide)
            have g4 := sgI_eq (y := 47) hx (by decide)
            have g5 := sgI_eq (y := 37) hx (by decide)
            first
              | (unfold ssI; rw [show sgF x = 2 by unfold sgF; rw [if_pos (g1.mp (by first | exact c_3 | exact Decidable.not_not.mp c_3))]]; rfl)
              | (unfold ssI; rw [show sgF x = 3 by unfold sgF; rw [if_neg (fun z => c_3 (g1.mpr z)), if_pos (g2.mp (by first | exact c_13 | exact Decidable.not_not.mp c_13))]]; rfl)
              | (unfold ssI; rw [show sgF x = 4 by unfold sgF; rw [if_neg (fun z => c_3 (g1.mpr z)), if_neg (fun z => c_13 (g2.mpr z)), if_pos (g3.mp (by first | exact c_23 | exact Decidable.not_not.mp c_23))]]; rfl)
              | (unfold ssI; rw [show sgF x = 5 by unfold sgF; rw [if_neg (fun z => c_3 (g1.mpr z)), if_neg (fun z => c_13 (g2.mpr z)), if_neg (fun z => c_23 (g3.mpr z)), if_pos (g4.mp (by first | exact c_33 | exact Decidable.not_not.mp c_33))]]; rfl)
              | (unfold ssI; rw [show sgF x = 6 by unfold sgF; rw [if_neg (fun z => c_3 (g1.mpr z)), if_neg (fun z => c_13 (g2.mpr z)), if_neg (fun z => c_23 (g3.mpr z)), if_neg (fun z => c_33 (g4.mpr z)), if_pos (g5.mp (by first | exact c_43 | exact Decidable.not_not.mp c_43))]]; rfl)
              | (unfold ssI; rw [show sgF x = 0 by unfold sgF; rw [if_neg (fun z => c_3 (g1.mpr z)), if_neg (fun z => c_13 (g2.mpr z)), if_neg (fun z => c_23 (g3.mpr z)), if_neg (fun z => c_33 (g4.mpr z)), if_neg (fun z => c_43 (g5.mpr z))]]; rfl)
          · refine g_bipush (nx := 48) (6) F dX12_sumSign_46 rfl (by decide) ?_
            refine g_goto 52 F dX12_sumSign_48 (by decide) ?_
            refine g_iret F E dX12_sumSign_52 ?_
            clear F E
            refine ⟨congrArg (fun z => some (Value.int z)) (Eq.symm ?_), rfl⟩
            have g1 := sgI_eq (y := 43) hx (by decide)
            have g2 := sgI_eq (y := 45) hx (by decide)
            have g3 := sgI_eq (y := 42) hx (by decide)
            have g4 := sgI_eq (y := 47) hx (by decide)
            have g5 := sgI_eq (y := 37) hx (by decide)
            first
              | (unfold ssI; rw [show sgF x = 2 by unfold sgF; rw [if_pos (g1.mp (by first | exact c_3 | exact Decidable.not_not.mp c_3))]]; rfl)
              | (unfold ssI; rw [show sgF x = 3 by unfold sgF; rw [if_neg (fun z => c_3 (g1.mpr z)), if_pos (g2.mp (by first | exact c_13 | exact Decidable.not_not.mp c_13))]]; rfl)
              | (unfold ssI; rw [show sgF x = 4 by unfold sgF; rw [if_neg (fun z => c_3 (g1.mpr z)), if_neg (fun z => c_13 (g2.mpr z)), if_pos (g3.mp (by first | exact c_23 | exact Decidable.not_not.mp c_23))]]; rfl)
              | (unfold ssI; rw [show sgF x = 5 by unfold sgF; rw [if_neg (fun z => c_3 (g1.mpr z)), if_neg (fun z => c_13 (g2.mpr z)), if_neg (fun z => c_23 (g3.mpr z)), if_pos (g4.mp (by first | exact c_33 | exact Decidable.not_not.mp c_33))]]; rfl)
              | (unfold ssI; rw [show sgF x = 6 by unfold sgF; rw [if_neg (fun z => c_3 (g1.mpr z)), if_neg (fun z => c_13 (g2.mpr z)), if_neg (fun z => c_23 (g3.mpr z)), if_neg (fun z => c_33 (g4.mpr z)), if_pos (g5.mp (by first | exact c_43 | exact Decidable.not_not.mp c_43))]]; rfl)
              | (unfold ssI; rw [show sgF x = 0 by unfold sgF; rw [if_neg (fun z => c_3 (g1.mpr z)), if_neg (fun z => c_13 (g2.mpr z)), if_neg (fun z => c_23 (g3.mpr z)), if_neg (fun z => c_33 (g4.mpr z)), if_neg (fun z => c_43 (g5.mpr z))]]; rfl)
        · refine g_iconst (nx := 37) (5) F dX12_sumSign_36 rfl rfl ?_
          refine g_goto 52 F dX12_sumSign_37 (by decide) ?_
          refine g_iret F E dX12_sumSign_52 ?_
          clear F E
          refine ⟨congrArg (fun z => some (Value.int z)) (Eq.symm ?_), rfl⟩
          have g1 := sgI_eq (y := 43) hx (by decide)
          have g2 := sgI_eq (y := 45) hx (by decide)
          have g3 := sgI_eq (y := 42) hx (by decide)
          have g4 := sgI_eq (y := 47) hx (by decide)
          have g5 := sgI_eq (y := 37) hx (by decide)
          first
            | (unfold ssI; rw [show sgF x = 2 by unfold sgF; rw [if_pos (g1.mp (by first | exact c_3 | exact Decidable.not_not.mp c_3))]]; rfl)
            | (unfold ssI; rw [show sgF x = 3 by unfold sgF; rw [if_neg (fun z => c_3 (g1.mpr z)), if_pos (g2.mp (by first | exact c_13 | exact Decidable.not_not.mp c_13))]]; rfl)
            | (unfold ssI; rw [show sgF x = 4 by unfold sgF; rw [if_neg (fun z => c_3 (g1.mpr z)), if_neg (fun z => c_13 (g2.mpr z)), if_pos (g3.mp (by first | exact c_23 | exact Decidable.not_not.mp c_23))]]; rfl)
            | (unfold ssI; rw [show sgF x = 5 by unfold sgF; rw [if_neg (fun z => c_3 (g1.mpr z)), if_neg (fun z => c_13 (g2.mpr z)), if_neg (fun z => c_23 (g3.mpr z)), if_pos (g4.mp (by first | exact c_33 | exact Decidable.not_not.mp c_33))]]; rfl)
            | (unfold ssI; rw [show sgF x = 6 by unfold sgF; rw [if_neg (fun z => c_3 (g1.mpr z)), if_neg (fun z => c_13 (g2.mpr z)), if_neg (fun z => c_23 (g3.mpr z)), if_neg (fun z => c_33 (g4.mpr z)), if_pos (g5.mp (by first | exact c_43 | exact Decidable.not_not.mp c_43))]]; rfl)
            | (unfold ssI; rw [show sgF x = 0 by unfold sgF; rw [if_neg (fun z => c_3 (g1.mpr z)), if_neg (fun z => c_13 (g2.mpr z)), if_neg (fun z => c_23 (g3.mpr z)), if_neg (fun z => c_33 (g4.mpr z)), if_neg (fun z => c_43 (g5.mpr z))]]; rfl)
      · refine g_iconst (nx := 27) (4) F dX12_sumSign_26 rfl rfl ?_
        refine g_goto 52 F dX12_sumSign_27 (by decide) ?_
        refine g_iret F E dX12_sumSign_52 ?_
        clear F E
        refine ⟨congrArg (fun z => some (Value.int z)) (Eq.symm ?_), rfl⟩
        have g1 := sgI_eq (y := 43) hx (by decide)
        have g2 := sgI_eq (y := 45) hx (by decide)
        have g3 := sgI_eq (y := 42) hx (by decide)
        have g4 := sgI_eq (y := 47) hx (by decide)
        have g5 := sgI_eq (y := 37) hx (by decide)
        first
          | (unfold ssI; rw [show sgF x = 2 by unfold sgF; rw [if_pos (g1.mp (by first | exact c_3 | exact Decidable.not_not.mp c_3))]]; rfl)
          | (unfold ssI; rw [show sgF x = 3 by unfold sgF; rw [if_neg (fun z => c_3 (g1.mpr z)), if_pos (g2.mp (by first | exact c_13 | exact Decidable.not_not.mp c_13))]]; rfl)
          | (unfold ssI; rw [show sgF x = 4 by unfold sgF; rw [if_neg (fun z => c_3 (g1.mpr z)), if_neg (fun z => c_13 (g2.mpr z)), if_pos (g3.mp (by first | exact c_23 | exact Decidable.not_not.mp c_23))]]; rfl)
          | (unfold ssI; rw [show sgF x = 5 by unfold sgF; rw [if_neg (fun z => c_3 (g1.mpr z)), if_neg (fun z => c_13 (g2.mpr z)), if_neg (fun z => c_23 (g3.mpr z)), if_pos (g4.mp (by first | exact c_33 | exact Decidable.not_not.mp c_33))]]; rfl)
          | (unfold ssI; rw [show sgF x = 6 by unfold sgF; rw [if_neg (fun z => c_3 (g1.mpr z)), if_neg (fun z => c_13 (g2.mpr z)), if_neg (fun z => c_23 (g3.mpr z)), if_neg (fun z => c_33 (g4.mpr z)), if_pos (g5.mp (by first | exact c_43 | exact Decidable.not_not.mp c_43))]]; rfl)
          | (unfold ssI; rw [show sgF x = 0 by unfold sgF; rw [if_neg (fun z => c_3 (g1.mpr z)), if_neg (fun z => c_13 (g2.mpr z)), if_neg (fun z => c_23 (g3.mpr z)), if_neg (fun z => c_33 (g4.mpr z)), if_neg (fun z => c_43 (g5.mpr z))]]; rfl)
    · refine g_iconst (nx := 17) (3) F dX12_sumSign_16 rfl rfl ?_
      refine g_goto 52 F dX12_sumSign_17 (by decide) ?_
      refine g_iret F E dX12_sumSign_52 ?_
      clear F E
      refine ⟨congrArg (fun z => some (Value.int z)) (Eq.symm ?_), rfl⟩
      have g1 := sgI_eq (y := 43) hx (by decide)
      have g2 := sgI_eq (y := 45) hx (by decide)
      have g3 := sgI_eq (y := 42) hx (by decide)
      have g4 := sgI_eq (y := 47) hx (by decide)
      have g5 := sgI_eq (y := 37) hx (by decide)
      first
        | (unfold ssI; rw [show sgF x = 2 by unfold sgF; rw [if_pos (g1.mp (by first | exact c_3 | exact Decidable.not_not.mp c_3))]]; rfl)
        | (unfold ssI; rw [show sgF x = 3 by unfold sgF; rw [if_neg (fun z => c_3 (g1.mpr z)), if_pos (g2.mp (by first | exact c_13 | exact Decidable.not_not.mp c_13))]]; rfl)
        | (unfold ssI; rw [show sgF x = 4 by unfold sgF; rw [if_neg (fun z => c_3 (g1.mpr z)), if_neg (fun z => c_13 (g2.mpr z)), if_pos (g3.mp (by first | exact c_23 | exact Decidable.not_not.mp c_23))]]; rfl)
        | (unfold ssI; rw [show sgF x = 5 by unfold sgF; rw [if_neg (fun z => c_3 (g1.mpr z)), if_neg (fun z => c_13 (g2.mpr z)), if_neg (fun z => c_23 (g3.mpr z)), if_pos (g4.mp (by first | exact c_33 | exact Decidable.not_not.mp c_33))]]; rfl)
        | (unfold ssI; rw [show sgF x = 6 by unfold sgF; rw [if_neg (fun z => c_3 (g1.mpr z)), if_neg (fun z => c_13 (g2.mpr z)), if_neg (fun z => c_23 (g3.mpr z)), if_neg (fun z => c_33 (g4.mpr z)), if_pos (g5.mp (by first | exact c_43 | exact Decidable.not_not.mp c_43))]]; rfl)
        | (unfold ssI; rw [show sgF x = 0 by unfold sgF; rw [if_neg (fun z => c_3 (g1.mpr z)), if_neg (fun z => c_13 (g2.mpr z)), if_neg (fun z => c_23 (g3.mpr z)), if_neg (fun z => c_33 (g4.mpr z)), if_neg (fun z => c_43 (g5.mpr z))]]; rfl)
  · refine g_iconst (nx := 7) (2) F dX12_sumSign_6 rfl rfl ?_
    refine g_goto 52 F dX12_sumSign_7 (by decide) ?_
    refine g_iret F E dX12_sumSign_52 ?_
    clear F E
    refine ⟨congrArg (fun z => some (Value.int z)) (Eq.symm ?_), rfl⟩
    have g1 := sgI_eq (y := 43) hx (by decide)
    have g2 := sgI_eq (y := 45) hx (by decide)
    have g3 := sgI_eq (y := 42) hx (by decide)
    have g4 := sgI_eq (y := 47) hx (by decide)
    have g5 := sgI_eq (y := 37) hx (by decide)
    first
      | (unfold ssI; rw [show sgF x = 2 by unfold sgF; rw [if_pos (g1.mp (by first | exact c_3 | exact Decidable.not_not.mp c_3))]]; rfl)
      | (unfold ssI; rw [show sgF x = 3 by unfold sgF; rw [if_neg (fun z => c_3 (g1.mpr z)), if_pos (g2.mp (by first | exact c_13 | exact Decidable.not_not.mp c_13))]]; rfl)
      | (unfold ssI; rw [show sgF x = 4 by unfold sgF; rw [if_neg (fun z => c_3 (g1.mpr z)), if_neg (fun z => c_13 (g2.mpr z)), if_pos (g3.mp (by first | exact c_23 | exact Decidable.not_not.mp c_23))]]; rfl)
      | (unfold ssI; rw [show sgF x = 5 by unfold sgF; rw [if_neg (fun z => c_3 (g1.mpr z)), if_neg (fun z => c_13 (g2.mpr z)), if_neg (fun z => c_23 (g3.mpr z)), if_pos (g4.mp (by first | exact c_33 | exact Decidable.not_not.mp c_33))]]; rfl)
      | (unfold ssI; rw [show sgF x = 6 by unfold sgF; rw [if_neg (fun z => c_3 (g1.mpr z)), if_neg (fun z => c_13 (g2.mpr z)), if_neg (fun z => c_23 (g3.mpr z)), if_neg (fun z => c_33 (g4.mpr z)), if_pos (g5.mp (by first | exact c_43 | exact Decidable.not_not.mp c_43))]]; rfl)
      | (unfold ssI; rw [show sgF x = 0 by unfold sgF; rw [if_neg (fun z => c_3 (g1.mpr z)), if_neg (fun z => c_13 (g2.mpr z)), if_neg (fun z => c_23 (g3.mpr z)), if_neg (fun z => c_33 (g4.mpr z)), if_neg (fun z => c_43 (g5.mpr z))]]; rfl)
theorem lf_out {x : Nat} (h : (sgI x).toInt < 99 ∨ 121 < (sgI x).toInt) (hx : x < 256 ∨ x = 300) : lfI x = -1 := by
  have hi := sgI_toInt hx
  have h2 : x < 99 ∨ 121 < x := by rw [hi] at h; split at h <;> omega
  unfold lfI
  rw [if_pos]
  unfold ltF
  repeat rw [if_neg (by omega)]
set_option maxHeartbeats 4000000 in
set_option maxRecDepth 100000 in
theorem k_factOf (x : Nat) (σ : zSt) (hx : x < 256 ∨ x = 300) : Con mX12_factOf 0 [.int (sgI x)] σ (fun r τ => r = some (.int (lfI x)) ∧ τ = σ) := by
  refine Con.of (lv := [.int (sgI x)]) mk_X12_factOf rfl (Nat.le_of_ble_eq_true rfl) rfl (fun X F E => ?_)
  have hi := sgI_toInt hx
  refine g_iload_n (nx := 1) 0 F dX12_factOf_0 rfl rfl rfl ?_
  rcases (show (sgI x).toInt = 99 ∨ (sgI x).toInt = 100 ∨ (sgI x).toInt = 101 ∨ (sgI x).toInt = 102 ∨ (sgI x).toInt = 103 ∨ (sgI x).toInt = 104 ∨ (sgI x).toInt = 105 ∨ (sgI x).toInt = 106 ∨ (sgI x).toInt = 107 ∨ (sgI x).toInt = 108 ∨ (sgI x).toInt = 109 ∨ (sgI x).toInt = 110 ∨ (sgI x).toInt = 111 ∨ (sgI x).toInt = 112 ∨ (sgI x).toInt = 113 ∨ (sgI x).toInt = 114 ∨ (sgI x).toInt = 115 ∨ (sgI x).toInt = 116 ∨ (sgI x).toInt = 117 ∨ (sgI x).toInt = 118 ∨ (sgI x).toInt = 119 ∨ (sgI x).toInt = 120 ∨ (sgI x).toInt = 121 ∨ ((sgI x).toInt < 99 ∨ 121 < (sgI x).toInt) by omega) with w_0 | w_1 | w_2 | w_3 | w_4 | w_5 | w_6 | w_7 | w_8 | w_9 | w_10 | w_11 | w_12 | w_13 | w_14 | w_15 | w_16 | w_17 | w_18 | w_19 | w_20 | w_21 | w_22 | w_23
  · refine g_tabN 0 110 F dX12_factOf_1 (by omega) (by omega) rfl (by decide) ?_
    refine g_iconst (nx := 111) (1) F dX12_factOf_110 rfl rfl ?_
    refine g_iret F E dX12_factOf_111 ?_
    have ex : x = 99 := by rw [hi] at w_0; split at w_0 <;> omega
    subst ex
    exact ⟨rfl, rfl⟩
  · refine g_tabN 1 138 F dX12_factOf_1 (by omega) (by omega) rfl (by decide) ?_
    refine g_iconst (nx := 139) (-1) F dX12_factOf_138 rfl rfl ?_
    refine g_iret F E dX12_factOf_139 ?_
    have ex : x = 100 := by rw [hi] at w_1; split at w_1 <;> omega
    subst ex
    exact ⟨rfl, rfl⟩
  · refine g_tabN 2 138 F dX12_factOf_1 (by omega) (by omega) rfl (by decide) ?_
    refine g_iconst (nx := 139) (-1) F dX12_factOf_138 rfl rfl ?_
    refine g_iret F E dX12_factOf_139 ?_
    have ex : x = 101 := by rw [hi] at w_2; split at w_2 <;> omega
    subst ex
    exact ⟨rfl, rfl⟩
  · refine g_tabN 3 118 F dX12_factOf_1 (by omega) (by omega) rfl (by decide) ?_
    refine g_iconst (nx := 119) (5) F dX12_factOf_118 rfl rfl ?_
    refine g_iret F E dX12_factOf_119 ?_
    have ex : x = 102 := by rw [hi] at w_3; split at w_3 <;> omega
    subst ex
    exact ⟨rfl, rfl⟩
  · refine g_tabN 4 138 F dX12_factOf_1 (by omega) (by omega) rfl (by decide) ?_
    refine g_iconst (nx := 139) (-1) F dX12_factOf_138 rfl rfl ?_
    refine g_iret F E dX12_factOf_139 ?_
    have ex : x = 103 := by rw [hi] at w_4; split at w_4 <;> omega
    subst ex
    exact ⟨rfl, rfl⟩
  · refine g_tabN 5 112 F dX12_factOf_1 (by omega) (by omega) rfl (by decide) ?_
    refine g_iconst (nx := 113) (2) F dX12_factOf_112 rfl rfl ?_
    refine g_iret F E dX12_factOf_113 ?_
    have ex : x = 104 := by rw [hi] at w_5; split at w_5 <;> omega
    subst ex
    exact ⟨rfl, rfl⟩
  · refine g_tabN 6 123 F dX12_factOf_1 (by omega) (by omega) rfl (by decide) ?_
    refine g_bipush (nx := 125) (7) F dX12_factOf_123 rfl (by decide) ?_
    refine g_iret F E dX12_factOf_125 ?_
    have ex : x = 105 := by rw [hi] at w_6; split at w_6 <;> omega
    subst ex
    exact ⟨rfl, rfl⟩
  · refine g_tabN 7 138 F dX12_factOf_1 (by omega) (by omega) rfl (by decide) ?_
    refine g_iconst (nx := 139) (-1) F dX12_factOf_138 rfl rfl ?_
    refine g_iret F E dX12_factOf_139 ?_
    have ex : x = 106 := by rw [hi] at w_7; split at w_7 <;> omega
    subst ex
    exact ⟨rfl, rfl⟩
  · refine g_tabN 8 138 F dX12_factOf_1 (by omega) (by omega) rfl (by decide) ?_
    refine g_iconst (nx := 139) (-1) F dX12_factOf_138 rfl rfl ?_
    refine g_iret F E dX12_factOf_139 ?_
    have ex : x = 107 := by rw [hi] at w_8; split at w_8 <;> omega
    subst ex
    exact ⟨rfl, rfl⟩
  · refine g_tabN 9 138 F dX12_factOf_1 (by omega) (by omega) rfl (by decide) ?_
    refine g_iconst (nx := 139) (-1) F dX12_factOf_138 rfl rfl ?_
    refine g_iret F E dX12_factOf_139 ?_
    have ex : x = 108 := by rw [hi] at w_9; split at w_9 <;> omega
    subst ex
    exact ⟨rfl, rfl⟩
  · refine g_tabN 10 114 F dX12_factOf_1 (by omega) (by omega) rfl (by decide) ?_
    refine g_iconst (nx := 115) (3) F dX12_factOf_114 rfl rfl ?_
    refine g_iret F E dX12_factOf_115 ?_
    have ex : x = 109 := by rw [hi] at w_10; split at w_10 <;> omega
    subst ex
    exact ⟨rfl, rfl⟩
  · refine g_tabN 11 126 F dX12_factOf_1 (by omega) (by omega) rfl (by decide) ?_
    refine g_bipush (nx := 128) (8) F dX12_factOf_126 rfl (by decide) ?_
    refine g_iret F E dX12_factOf_128 ?_
    have ex : x = 110 := by rw [hi] at w_11; split at w_11 <;> omega
    subst ex
    exact ⟨rfl, rfl⟩
  · refine g_tabN 12 129 F dX12_factOf_1 (by omega) (by omega) rfl (by decide) ?_
    refine g_bipush (nx := 131) (9) F dX12_factOf_129 rfl (by decide) ?_
    refine g_iret F E dX12_factOf_131 ?_
    have ex : x = 111 := by rw [hi] at w_12; split at w_12 <;> omega
    subst ex
    exact ⟨rfl, rfl⟩
  · refine g_tabN 13 120 F dX12_factOf_1 (by omega) (by omega) rfl (by decide) ?_
    refine g_bipush (nx := 122) (6) F dX12_factOf_120 rfl (by decide) ?_
    refine g_iret F E dX12_factOf_122 ?_
    have ex : x = 112 := by rw [hi] at w_13; split at w_13 <;> omega
    subst ex
    exact ⟨rfl, rfl⟩
  · refine g_tabN 14 138 F dX12_factOf_1 (by omega) (by omega) rfl (by decide) ?_
    refine g_iconst (nx := 139) (-1) F dX12_factOf_138 rfl rfl ?_
    refine g_iret F E dX12_factOf_139 ?_
    have ex : x = 113 := by rw [hi] at w_14; split at w_14 <;> omega
    subst ex
    exact ⟨rfl, rfl⟩
  · refine g_tabN 15 108 F dX12_factOf_1 (by omega) (by omega) rfl (by decide) ?_
    refine g_iconst (nx := 109) (0) F dX12_factOf_108 rfl rfl ?_
    refine g_iret F E dX12_factOf_109 ?_
    have ex : x = 114 := by rw [hi] at w_15; split at w_15 <;> omega
    subst ex
    exact ⟨rfl, rfl⟩
  · refine g_tabN 16 116 F dX12_factOf_1 (by omega) (by omega) rfl (by decide) ?_
    refine g_iconst (nx := 117) (4) F dX12_factOf_116 rfl rfl ?_
    refine g_iret F E dX12_factOf_117 ?_
    have ex : x = 115 := by rw [hi] at w_16; split at w_16 <;> omega
    subst ex
    exact ⟨rfl, rfl⟩
  · refine g_tabN 17 138 F dX12_factOf_1 (by omega) (by omega) rfl (by decide) ?_
    refine g_iconst (nx := 139) (-1) F dX12_factOf_138 rfl rfl ?_
    refine g_iret F E dX12_factOf_139 ?_
    have ex : x = 116 := by rw [hi] at w_17; split at w_17 <;> omega
    subst ex
    exact ⟨rfl, rfl⟩
  · refine g_tabN 18 138 F dX12_factOf_1 (by omega) (by omega) rfl (by decide) ?_
    refine g_iconst (nx := 139) (-1) F dX12_factOf_138 rfl rfl ?_
    refine g_iret F E dX12_factOf_139 ?_
    have ex : x = 117 := by rw [hi] at w_18; split at w_18 <;> omega
    subst ex
    exact ⟨rfl, rfl⟩
  · refine g_tabN 19 138 F dX12_factOf_1 (by omega) (by omega) rfl (by decide) ?_
    refine g_iconst (nx := 139) (-1) F dX12_factOf_138 rfl rfl ?_
    refine g_iret F E dX12_factOf_139 ?_
    have ex : x = 118 := by rw [hi] at w_19; split at w_19 <;> omega
    subst ex
    exact ⟨rfl, rfl⟩
  · refine g_tabN 20 138 F dX12_factOf_1 (by omega) (by omega) rfl (by decide) ?_
    refine g_iconst (nx := 139) (-1) F dX12_factOf_138 rfl rfl ?_
    refine g_iret F E dX12_factOf_139 ?_
    have ex : x = 119 := by rw [hi] at w_20; split at w_20 <;> omega
    subst ex
    exact ⟨rfl, rfl⟩
  · refine g_tabN 21 135 F dX12_factOf_1 (by omega) (by omega) rfl (by decide) ?_
    refine g_bipush (nx := 137) (11) F dX12_factOf_135 rfl (by decide) ?_
    refine g_iret F E dX12_factOf_137 ?_
    have ex : x = 120 := by rw [hi] at w_21; split at w_21 <;> omega
    subst ex
    exact ⟨rfl, rfl⟩
  · refine g_tabN 22 132 F dX12_factOf_1 (by omega) (by omega) rfl (by decide) ?_
    refine g_bipush (nx := 134) (10) F dX12_factOf_132 rfl (by decide) ?_
    refine g_iret F E dX12_factOf_134 ?_
    have ex : x = 121 := by rw [hi] at w_22; split at w_22 <;> omega
    subst ex
    exact ⟨rfl, rfl⟩
  · refine g_tableOut 138 F dX12_factOf_1 (by omega) (by decide) ?_
    refine g_iconst (nx := 139) (-1) F dX12_factOf_138 rfl rfl ?_
    refine g_iret F E dX12_factOf_139 ?_
    exact ⟨congrArg (fun z => some (Value.int z)) (lf_out (by assumption) hx).symm, rfl⟩
