theorem Con.mono {M : ZM} {d : Nat} {av : List Value} {σ : zSt} {Q Q2 : Option Value → zSt → Prop} (h : Con M d av σ Q) (hq : ∀ r τ, Q r τ → Q2 r τ) : Con M d av σ Q2 := by
  intro l D tc al hal p e h1 h2 h3 s m args below h4 h5 h6 h7
  obtain ⟨n, o, a1, a2, a3, ⟨⟨r, σ1, b1, b2, b3⟩, b4⟩, a5⟩ := h l D tc al hal p e h1 h2 h3 s m args below h4 h5 h6 h7
  exact ⟨n, o, a1, a2, a3, ⟨⟨r, σ1, b1, hq r σ1 b2, b3⟩, b4⟩, a5⟩
def sgI (x : Nat) : Int32 := if x = 300 then -1 else nI x
def inC (c : Nat → Nat) (n : Nat) : Prop := (∀ p, p < n → c p < 256) ∧ ∀ p, n ≤ p → c p = 300
theorem inC_lt {c : Nat → Nat} {n p : Nat} (h : inC c n) (hp : ¬ c p = 300) : p < n := by
  rcases Nat.lt_or_ge p n with q | q
  · exact q
  · exact absurd (h.2 p q) hp
theorem inC_or {c : Nat → Nat} {n : Nat} (h : inC c n) (p : Nat) : c p < 256 ∨ c p = 300 := by
  rcases Nat.lt_or_ge p n with q | q
  · exact Or.inl (h.1 p q)
  · exact Or.inr (h.2 p q)
theorem sgI_eq {x y : Nat} (hx : x < 256 ∨ x = 300) (hy : y < 256) : sgI x = nI y ↔ x = y := by
  unfold sgI
  rcases hx with h | h
  · rw [if_neg (by omega), nI_eq (by omega) (by omega)]
  · rw [if_pos h]
    exact ⟨fun z => absurd z.symm (nI_m1 (by omega)), fun z => by omega⟩
theorem sgI_end {x : Nat} (hx : x < 256 ∨ x = 300) : sgI x = -1 ↔ x = 300 := by
  unfold sgI
  rcases hx with h | h
  · rw [if_neg (by omega)]
    exact ⟨fun z => absurd z (nI_m1 (by omega)), fun z => by omega⟩
  · rw [if_pos h]
    exact ⟨fun _ => h, fun _ => rfl⟩
theorem sgI_toInt {x : Nat} (hx : x < 256 ∨ x = 300) : (sgI x).toInt = if x = 300 then -1 else (x : Int) := by
  unfold sgI
  rcases hx with h | h
  · rw [if_neg (by omega), if_neg (by omega), nI_toInt (by omega)]
  · rw [if_pos h, if_pos h]; rfl
/-- the class's reader stands at a state of the machine, writing the TEXT at t -/
def pcS (σ : zSt) (t : Nat) (c : Nat → Nat) (n : Nat) (e : ES) : Prop := match e with
  | (p, o, l, op, vl) => (isT t ∧ inC c n ∧ n ≤ 160 ∧ (∀ q, q < n → σ 2 q &&& 255 = nI (c q))) ∧ ((σ 16 1).toNatClampNeg = t ∧ σ 16 2 = nI n ∧ σ 16 3 = nI p ∧ σ 16 4 = sgI (c p) ∧ σ 16 5 = nI o ∧ σ 16 6 = 0) ∧ (σ t 1 = nI l ∧ (∀ k, k < l → σ (t + 1) k = nI (256 * vl k + ck (op k)) ∧ vl k < 1000000 ∧ op k < 13)) ∧ p ≤ n ∧ l ≤ p ∧ o ≤ 6
/-- it has found the FAULT f at the place p -/
def pcF (σ : zSt) (t n f p : Nat) : Prop := isT t ∧ (σ 16 1).toNatClampNeg = t ∧ σ 16 2 = nI n ∧ n ≤ 160 ∧ σ 16 3 = nI p ∧ p ≤ n ∧ σ 16 6 = nI f ∧ 1 ≤ f ∧ f ≤ 5 ∧ ∃ l, l ≤ 160 ∧ σ t 1 = nI l
def frC (t : Nat) (σ τ : zSt) : Prop := (∀ a, a ≠ 16 → a ≠ t → a ≠ t + 1 → τ a = σ a) ∧ (∀ k, k ≠ 1 → τ t k = σ t k) ∧ τ 16 1 = σ 16 1
theorem frC.rf (t : Nat) (σ : zSt) : frC t σ σ := ⟨fun _ _ _ _ => rfl, fun _ _ => rfl, rfl⟩
theorem frC.tr {t : Nat} {σ τ ρ : zSt} (h : frC t σ τ) (g : frC t τ ρ) : frC t σ ρ := ⟨fun a a1 a2 a3 => (g.1 a a1 a2 a3).trans (h.1 a a1 a2 a3), fun k hk => (g.2.1 k hk).trans (h.2.1 k hk), g.2.2.trans h.2.2⟩
theorem frC.of16 {t : Nat} {σ τ : zSt} (ht : isT t) (h : ∀ a, a ≠ 16 → τ a = σ a) (h1 : τ 16 1 = σ 16 1) : frC t σ τ := ⟨fun a a1 _ _ => h a a1, fun k _ => by have := tx_rng ht; rw [h t (by omega)], h1⟩
theorem pcS_16 {σ τ : zSt} {t n p o l p' o' : Nat} {c op vl : Nat → Nat} (H : pcS σ t c n (p, o, l, op, vl)) (h : ∀ a, a ≠ 16 → τ a = σ a) (h1 : τ 16 1 = σ 16 1) (h2 : τ 16 2 = σ 16 2) (h3 : τ 16 3 = nI p') (h4 : τ 16 4 = sgI (c p')) (h5 : τ 16 5 = nI o') (h6 : τ 16 6 = 0) (hp : p' ≤ n) (hl : l ≤ p') (ho : o' ≤ 6) : pcS τ t c n (p', o', l, op, vl) := by
  obtain ⟨⟨a1, a2, a3, a4⟩, ⟨b1, b2, b3, b4, b5, b6⟩, ⟨c1, c2⟩, d1, d2, d3⟩ := H
  have hr := tx_rng a1
  refine ⟨⟨a1, a2, a3, fun q hq => by rw [h 2 (by decide)]; exact a4 q hq⟩, ⟨by rw [h1]; exact b1, h2.trans b2, h3, h4, h5, h6⟩, ⟨by rw [h t (by omega)]; exact c1, fun k hk => by rw [h (t + 1) (by omega)]; exact c2 k hk⟩, hp, hl, ho⟩
theorem pcF_16 {σ τ : zSt} {t n p o l f : Nat} {c op vl : Nat → Nat} (H : pcS σ t c n (p, o, l, op, vl)) (h : ∀ a, a ≠ 16 → τ a = σ a) (h1 : τ 16 1 = σ 16 1) (h2 : τ 16 2 = σ 16 2) (h3 : τ 16 3 = σ 16 3) (h6 : τ 16 6 = nI f) (hf : 1 ≤ f ∧ f ≤ 5) : pcF τ t n f p := by
  obtain ⟨⟨a1, a2, a3, a4⟩, ⟨b1, b2, b3, b4, b5, b6⟩, ⟨c1, c2⟩, d1, d2, d3⟩ := H
  have hr := tx_rng a1
  exact ⟨a1, by rw [h1]; exact b1, h2.trans b2, a3, h3.trans b3, d1, h6, hf.1, hf.2, l, by omega, by rw [h t (by omega)]; exact c1⟩
set_option maxHeartbeats 4000000 in
set_option maxRecDepth 100000 in
theorem c_advance0 (q n : Nat) (c : Nat → Nat) (σ : zSt) (h3 : σ 16 3 + 1 = nI q) (h2 : σ 16 2 = nI n) (hq : q ≤ n) (hn : n ≤ 160) (hin : inC c n) (hb : ∀ p, p < n → σ 2 p &&& 255 = nI (c p)) : Con mX5_advance 1 [.ref 16] σ (fun r τ => r = none ∧ τ = zu (zu σ 16 3 (nI q)) 16 4 (sgI (c q))) := by
  refine Con.of (lv := [.ref 16]) mk_X5_advance rfl (Nat.le_of_ble_eq_true rfl) rfl (fun X F E => ?_)
  rcases Nat.lt_or_ge q n with hlt | hge
  · refine g_aload_n (nx := 1) 0 F dX5_advance_0 rfl rfl rfl ?_
    refine g_dup (nx := 2) F dX5_advance_1 rfl rfl ?_
    refine g_getI (nx := 5) F dX5_advance_2 rfl fl_RX5_65 rfl (by decide) (by decide) rfl rfl ?_
    refine g_iconst (nx := 6) (1) F dX5_advance_5 rfl rfl ?_
    refine g_iadd (nx := 7) F dX5_advance_6 rfl ?_
    rw [h3]
    refine g_putI (nx := 10) F dX5_advance_7 rfl fl_RX5_65 fi_4_3 rfl (by decide) (by decide) rfl rfl ?_
    refine g_aload_n (nx := 11) 0 F dX5_advance_10 rfl rfl rfl ?_
    refine g_aload_n (nx := 12) 0 F dX5_advance_11 rfl rfl rfl ?_
    refine g_getV (nx := 15) (nI q) F dX5_advance_12 rfl fl_RX5_65 rfl (by decide) (by decide) rfl rfl (rfl) ?_
    refine g_aload_n (nx := 16) 0 F dX5_advance_15 rfl rfl rfl ?_
    refine g_getV (nx := 19) (nI n) F dX5_advance_16 rfl fl_RX5_56 rfl (by decide) (by decide) rfl rfl (h2) ?_
    refine g_icmp_ge (nx := 22) 36 F dX5_advance_19 rfl (by decide) (fun c_19 => absurd c_19 (by exact nI_ge hlt (by omega))) (fun c_19 => ?_)
    refine g_aload_n (nx := 23) 0 F dX5_advance_22 rfl rfl rfl ?_
    refine g_getR (nx := 26) F dX5_advance_23 rfl fl_RX5_18 rfl (by decide) (by decide) rfl ?_
    refine g_aload_n (nx := 27) 0 F dX5_advance_26 rfl rfl rfl ?_
    refine g_getV (nx := 30) (nI q) F dX5_advance_27 rfl fl_RX5_65 rfl (by decide) (by decide) rfl rfl (rfl) ?_
    refine g_callV (nx := 33) 1 0 [.int (nI q)] F dX5_advance_30 rfl ml_RX5_71 mo_X9_byteAt rfl rfl rfl rfl (Nat.le_of_ble_eq_true rfl) (by first | decide | omega) (c_byteAt q _ (by omega)) (fun r_30 τ_30 q_30 => ?_)
    obtain ⟨rfl, et_30⟩ := q_30
    have et_30 := et_30.symm
    subst et_30
    dsimp only [Option.toList, List.append, List.cons_append, List.nil_append]
    refine g_top (nI (c q)) (hb q hlt) ?_
    refine g_goto 37 F dX5_advance_33 (by decide) ?_
    refine g_putI (nx := 40) F dX5_advance_37 rfl fl_RX5_30 fi_4_4 rfl (by decide) (by decide) rfl rfl ?_
    refine g_vret F E dX5_advance_40 ?_
    exact ⟨rfl, by rw [show sgI (c q) = nI (c q) from if_neg (by have := hin.1 q hlt; omega)]⟩
  · refine g_aload_n (nx := 1) 0 F dX5_advance_0 rfl rfl rfl ?_
    refine g_dup (nx := 2) F dX5_advance_1 rfl rfl ?_
    refine g_getI (nx := 5) F dX5_advance_2 rfl fl_RX5_65 rfl (by decide) (by decide) rfl rfl ?_
    refine g_iconst (nx := 6) (1) F dX5_advance_5 rfl rfl ?_
    refine g_iadd (nx := 7) F dX5_advance_6 rfl ?_
    rw [h3]
    refine g_putI (nx := 10) F dX5_advance_7 rfl fl_RX5_65 fi_4_3 rfl (by decide) (by decide) rfl rfl ?_
    refine g_aload_n (nx := 11) 0 F dX5_advance_10 rfl rfl rfl ?_
    refine g_aload_n (nx := 12) 0 F dX5_advance_11 rfl rfl rfl ?_
    refine g_getV (nx := 15) (nI q) F dX5_advance_12 rfl fl_RX5_65 rfl (by decide) (by decide) rfl rfl (rfl) ?_
    refine g_aload_n (nx := 16) 0 F dX5_advance_15 rfl rfl rfl ?_
    refine g_getV (nx := 19) (nI n) F dX5_advance_16 rfl fl_RX5_56 rfl (by decide) (by decide) rfl rfl (h2) ?_
    refine g_icmp_ge (nx := 22) 36 F dX5_advance_19 rfl (by decide) (fun c_19 => ?_) (fun c_19 => absurd c_19 (by exact fun zq => zq (nI_le hge (by omega))))
    refine g_iconst (nx := 37) (-1) F dX5_advance_36 rfl rfl ?_
    refine g_putI (nx := 40) F dX5_advance_37 rfl fl_RX5_30 fi_4_4 rfl (by decide) (by decide) rfl rfl ?_
    refine g_vret F E dX5_advance_40 ?_
    exact ⟨rfl, by rw [show sgI (c q) = -1 from if_pos (hin.2 q hge)]⟩
theorem c_advance (t n p o l : Nat) (c op vl : Nat → Nat) (σ : zSt) (H : pcS σ t c n (p, o, l, op, vl)) (hp : p < n) : Con mX5_advance 1 [.ref 16] σ (fun r τ => r = none ∧ pcS τ t c n (p + 1, o, l, op, vl) ∧ frC t σ τ) := by
  have H0 := H
  obtain ⟨⟨a1, a2, a3, a4⟩, ⟨b1, b2, b3, b4, b5, b6⟩, ⟨c1, c2⟩, d1, d2, d3⟩ := H
  refine (c_advance0 (p + 1) n c σ (by rw [b3, nI_1]) b2 hp a3 a2 a4).mono (fun r τ hq => ?_)
  obtain ⟨h1, rfl⟩ := hq
  have h : ∀ a, a ≠ 16 → (zu (zu σ 16 3 (nI (p + 1))) 16 4 (sgI (c (p + 1)))) a = σ a := fun a ha => by rw [zu_ne _ ha, zu_ne _ ha]
  exact ⟨h1, pcS_16 H0 h rfl rfl rfl rfl b5 b6 hp (by omega) d3, frC.of16 a1 h rfl⟩
set_option maxHeartbeats 4000000 in
set_option maxRecDepth 100000 in
theorem c_fail0 (f : Int32) (σ : zSt) : Con mX5_fail 0 [.ref 16, .int f] σ (fun r τ => r = some (.int 0) ∧ τ = zu σ 16 6 f) := by
  refine Con.of (lv := [.ref 16, .int f]) mk_X5_fail rfl (Nat.le_of_ble_eq_true rfl) rfl (fun X F E => ?_)
  refine g_aload_n (nx := 1) 0 F dX5_fail_0 rfl rfl rfl ?_
  refine g_iload_n (nx := 2) 1 F dX5_fail_1 rfl rfl rfl ?_
  refine g_putI (nx := 5) F dX5_fail_2 rfl fl_RX5_38 fi_4_6 rfl (by decide) (by decide) rfl rfl ?_
  refine g_iconst (nx := 6) (0) F dX5_fail_5 rfl rfl ?_
  refine g_zret F E dX5_fail_6 (by first | rfl | assumption) ?_
  exact ⟨rfl, rfl⟩
theorem c_fail (t n p o l f : Nat) (c op vl : Nat → Nat) (σ : zSt) (H : pcS σ t c n (p, o, l, op, vl)) (hf : 1 ≤ f ∧ f ≤ 5) : Con mX5_fail 0 [.ref 16, .int (nI f)] σ (fun r τ => r = some (.int 0) ∧ pcF τ t n f p ∧ frC t σ τ) := by
  refine (c_fail0 (nI f) σ).mono (fun r τ hq => ?_)
  obtain ⟨h1, rfl⟩ := hq
  have h : ∀ a, a ≠ 16 → (zu σ 16 6 (nI f)) a = σ a := fun a ha => by rw [zu_ne _ ha]
  exact ⟨h1, pcF_16 H h rfl rfl rfl rfl hf, frC.of16 H.1.1 h rfl⟩
set_option maxHeartbeats 4000000 in
set_option maxRecDepth 100000 in
theorem c_take (x t n p o l : Nat) (c op vl : Nat → Nat) (σ : zSt) (H : pcS σ t c n (p, o, l, op, vl)) (hx : x < 256) : Con mX5_take 2 [.ref 16, .int (nI x)] σ (fun r τ => (r = some (.int 1) ∧ c p = x ∧ pcS τ t c n (p + 1, o, l, op, vl) ∧ frC t σ τ) ∨ (r = some (.int 0) ∧ ¬ c p = x ∧ pcF τ t n 1 p ∧ frC t σ τ)) := by
  refine Con.of (lv := [.ref 16, .int (nI x)]) mk_X5_take rfl (Nat.le_of_ble_eq_true rfl) rfl (fun X F E => ?_)
  have ho := inC_or H.1.2.1 p
  refine g_aload_n (nx := 1) 0 F dX5_take_0 rfl rfl rfl ?_
  refine g_getV (nx := 4) (sgI (c p)) F dX5_take_1 rfl fl_RX5_30 rfl (by decide) (by decide) rfl rfl (H.2.1.2.2.2.1) ?_
  refine g_iload_n (nx := 5) 1 F dX5_take_4 rfl rfl rfl ?_
  refine g_icmp_eq (nx := 8) 14 F dX5_take_5 rfl (by decide) (fun c_5 => ?_) (fun c_5 => ?_)
  · refine g_aload_n (nx := 15) 0 F dX5_take_14 rfl rfl rfl ?_
    refine g_callV (nx := 18) 0 1 [] F dX5_take_15 rfl ml_RX5_68 mo_X5_advance rfl rfl rfl rfl (Nat.le_of_ble_eq_true rfl) (by first | decide | omega) (c_advance t n _ _ _ c _ _ _ H (inC_lt H.1.2.1 (by have := (sgI_eq ho hx).mp c_5; omega))) (fun r_15 τ_15 q_15 => ?_)
    obtain ⟨rfl, hS_15, hf_15⟩ := q_15
    dsimp only [Option.toList, List.append, List.cons_append, List.nil_append]
    refine g_iconst (nx := 19) (1) F dX5_take_18 rfl rfl ?_
    refine g_zret F E dX5_take_19 (by first | rfl | assumption) ?_
    exact Or.inl ⟨rfl, (sgI_eq ho hx).mp c_5, hS_15, hf_15⟩
  · refine g_aload_n (nx := 9) 0 F dX5_take_8 rfl rfl rfl ?_
    refine g_iconst (nx := 10) (1) F dX5_take_9 rfl rfl ?_
    show Gs X 10 _ (.int (nI 1) :: .ref 16 :: []) _
    refine g_callV (nx := 13) 1 0 [.int (nI 1)] F dX5_take_10 rfl ml_RX5_52 mo_X5_fail rfl rfl rfl rfl (Nat.le_of_ble_eq_true rfl) (by first | decide | omega) (c_fail t n _ _ _ 1 c _ _ _ H (by decide)) (fun r_10 τ_10 q_10 => ?_)
    obtain ⟨rfl, hF_10, hf_10⟩ := q_10
    dsimp only [Option.toList, List.append, List.cons_append, List.nil_append]
    refine g_zret F E dX5_take_13 (by first | rfl | assumption) ?_
    exact Or.inr ⟨rfl, fun z => c_5 ((sgI_eq ho hx).mpr z), hF_10, hf_10⟩
set_option maxHeartbeats 4000000 in
set_option maxRecDepth 100000 in
theorem c_enter (t n p o l : Nat) (c op vl : Nat → Nat) (σ : zSt) (H : pcS σ t c n (p, o, l, op, vl)) (hp : p < n) : Con mX5_enter 2 [.ref 16] σ (fun r τ => (r = some (.int 1) ∧ o < 6 ∧ pcS τ t c n (p + 1, o + 1, l, op, vl) ∧ frC t σ τ) ∨ (r = some (.int 0) ∧ ¬ o < 6 ∧ pcF τ t n 5 p ∧ frC t σ τ)) := by
  refine Con.of (lv := [.ref 16]) mk_X5_enter rfl (Nat.le_of_ble_eq_true rfl) rfl (fun X F E => ?_)
  have ho6 := H.2.2.2.2.2
  rcases Nat.lt_or_ge o 6 with hlt | hge
  · refine g_aload_n (nx := 1) 0 F dX5_enter_0 rfl rfl rfl ?_
    refine g_getV (nx := 4) (nI o) F dX5_enter_1 rfl fl_RX5_59 rfl (by decide) (by decide) rfl rfl (H.2.1.2.2.2.2.1) ?_
    refine g_bipush (nx := 6) (6) F dX5_enter_4 rfl (by decide) ?_
    refine g_icmp_lt (nx := 9) 15 F dX5_enter_6 rfl (by decide) (fun c_6 => ?_) (fun c_6 => absurd c_6 (by exact fun zq => zq (nI_lt (b := 6) hlt (by omega))))
    refine g_aload_n (nx := 16) 0 F dX5_enter_15 rfl rfl rfl ?_
    refine g_dup (nx := 17) F dX5_enter_16 rfl rfl ?_
    refine g_getV (nx := 20) (nI o) F dX5_enter_17 rfl fl_RX5_59 rfl (by decide) (by decide) rfl rfl (H.2.1.2.2.2.2.1) ?_
    refine g_iconst (nx := 21) (1) F dX5_enter_20 rfl rfl ?_
    refine g_iadd (nx := 22) F dX5_enter_21 rfl ?_
    rw [nI_1]
    refine g_putI (nx := 25) F dX5_enter_22 rfl fl_RX5_59 fi_4_5 rfl (by decide) (by decide) rfl rfl ?_
    refine g_aload_n (nx := 26) 0 F dX5_enter_25 rfl rfl rfl ?_
    have H1 : pcS (zu σ 16 5 (nI (o + 1))) t c n (p, o + 1, l, op, vl) := pcS_16 H (fun a ha => by rw [zu_ne _ ha]) rfl rfl H.2.1.2.2.1 H.2.1.2.2.2.1 rfl H.2.1.2.2.2.2.2 H.2.2.2.1 H.2.2.2.2.1 (by omega)
    refine g_callV (nx := 29) 0 1 [] F dX5_enter_26 rfl ml_RX5_68 mo_X5_advance rfl rfl rfl rfl (Nat.le_of_ble_eq_true rfl) (by first | decide | omega) (c_advance t n _ _ _ c _ _ _ H1 (hp)) (fun r_26 τ_26 q_26 => ?_)
    obtain ⟨rfl, hS_26, hf_26⟩ := q_26
    dsimp only [Option.toList, List.append, List.cons_append, List.nil_append]
    refine g_iconst (nx := 30) (1) F dX5_enter_29 rfl rfl ?_
    refine g_zret F E dX5_enter_30 (by first | rfl | assumption) ?_
    exact Or.inl ⟨rfl, hlt, hS_26, (show frC t σ (zu σ 16 5 (nI (o + 1))) from frC.of16 H.1.1 (fun a ha => by rw [zu_ne _ ha]) rfl).tr hf_26⟩
  · refine g_aload_n (nx := 1) 0 F dX5_enter_0 rfl rfl rfl ?_
    refine g_getV (nx := 4) (nI o) F dX5_enter_1 rfl fl_RX5_59 rfl (by decide) (by decide) rfl rfl (H.2.1.2.2.2.2.1) ?_
    refine g_bipush (nx := 6) (6) F dX5_enter_4 rfl (by decide) ?_
    refine g_icmp_lt (nx := 9) 15 F dX5_enter_6 rfl (by decide) (fun c_6 => absurd c_6 (by exact nI_nlt (b := 6) hge (by omega))) (fun c_6 => ?_)
    refine g_aload_n (nx := 10) 0 F dX5_enter_9 rfl rfl rfl ?_
    refine g_iconst (nx := 11) (5) F dX5_enter_10 rfl rfl ?_
    show Gs X 11 _ (.int (nI 5) :: .ref 16 :: []) _
    refine g_callV (nx := 14) 1 0 [.int (nI 5)] F dX5_enter_11 rfl ml_RX5_52 mo_X5_fail rfl rfl rfl rfl (Nat.le_of_ble_eq_true rfl) (by first | decide | omega) (c_fail t n _ _ _ 5 c _ _ _ H (by decide)) (fun r_11 τ_11 q_11 => ?_)
    obtain ⟨rfl, hF_11, hf_11⟩ := q_11
    dsimp only [Option.toList, List.append, List.cons_append, List.nil_append]
    refine g_zret F E dX5_enter_14 (by first | rfl | assumption) ?_
    exact Or.inr ⟨rfl, by omega, hF_11, hf_11⟩
theorem pcF_16b {σ τ : zSt} {t n p f : Nat} (H : pcF σ t n f p) (h : ∀ a, a ≠ 16 → τ a = σ a) (h1 : τ 16 1 = σ 16 1) (h2 : τ 16 2 = σ 16 2) (h3 : τ 16 3 = σ 16 3) (h6 : τ 16 6 = σ 16 6) : pcF τ t n f p ∧ frC t σ τ := by
  obtain ⟨a1, a2, a3, a4, a5, a6, a7, a8, a9, l, b1, b2⟩ := H
  have hr := tx_rng a1
  exact ⟨⟨a1, by rw [h1]; exact a2, h2.trans a3, a4, h3.trans a5, a6, h6.trans a7, a8, a9, l, b1, by rw [h t (by omega)]; exact b2⟩, frC.of16 a1 h h1⟩
/-- one bracket fewer is open -/
theorem pcS_dn {σ : zSt} {t n p o l : Nat} {c op vl : Nat → Nat} (H : pcS σ t c n (p, o + 1, l, op, vl)) : pcS (zu σ 16 5 (nI o)) t c n (p, o, l, op, vl) ∧ frC t σ (zu σ 16 5 (nI o)) :=
  ⟨pcS_16 H (fun a ha => by rw [zu_ne _ ha]) rfl rfl H.2.1.2.2.1 H.2.1.2.2.2.1 rfl H.2.1.2.2.2.2.2 H.2.2.2.1 H.2.2.2.2.1 (by have := H.2.2.2.2.2; omega), frC.of16 H.1.1 (fun a ha => by rw [zu_ne _ ha]) rfl⟩
theorem pcF_dn {σ : zSt} {t n p f : Nat} (H : pcF σ t n f p) : pcF (zu σ 16 5 (σ 16 5 - 1)) t n f p ∧ frC t σ (zu σ 16 5 (σ 16 5 - 1)) := pcF_16b H (fun a ha => by rw [zu_ne _ ha]) rfl rfl rfl rfl
def seeN (k x : Nat) : Prop := x < 256 ∧ 0 ≤ (ixS k (nI x)).toInt
theorem see_2 : ∀ x, x < 256 → ((0 ≤ (ixS 2 (nI x)).toInt ↔ ¬ ltF x = 99) ∧ (¬ ltF x = 99 → ixS 2 (nI x) = nI (ltF x) ∧ ltF x < 12)) := by decide +kernel
theorem see_3 : ∀ x, x < 256 → ((0 ≤ (ixS 3 (nI x)).toInt ↔ 4 ≤ sgF x) ∧ (4 ≤ sgF x → ck (sgF x) = x ∧ sgF x ≤ 6)) := by decide +kernel
theorem see_4 : ∀ x, x < 256 → ((0 ≤ (ixS 4 (nI x)).toInt ↔ (sgF x = 2 ∨ sgF x = 3)) ∧ ((sgF x = 2 ∨ sgF x = 3) → ck (sgF x) = x)) := by decide +kernel
theorem see_5 : ∀ x, x < 256 → ((0 ≤ (ixS 5 (nI x)).toInt ↔ ¬ cmF x = 0) ∧ (¬ cmF x = 0 → ck (cmF x) = x ∧ 7 ≤ cmF x ∧ cmF x ≤ 9)) := by decide +kernel
def hdW2 (x : Nat) : Bool := decide (x = 97 ∨ x = 119)
def hdL (x : Nat) : Bool := decide (x = 103 ∨ x = 107 ∨ x = 98)
theorem see_0 : ∀ x, x < 256 → (0 ≤ (ixS 0 (nI x)).toInt ↔ hdW2 x = true) := by decide +kernel
theorem see_1 : ∀ x, x < 256 → (0 ≤ (ixS 1 (nI x)).toInt ↔ hdL x = true) := by decide +kernel
set_option maxHeartbeats 4000000 in
set_option maxRecDepth 100000 in
theorem c_sees (k t n p o l : Nat) (c op vl : Nat → Nat) (σ : zSt) (H : pcS σ t c n (p, o, l, op, vl)) (hk : k < 6) : Con mX5_sees 4 [.ref 16, .ref (1000 + k)] σ (fun r τ => r = some (.int (bI (c p < 256 ∧ 0 ≤ (ixS k (nI (c p))).toInt))) ∧ τ = σ) := by
  refine Con.of (lv := [.ref 16, .ref (1000 + k)]) mk_X5_sees rfl (Nat.le_of_ble_eq_true rfl) rfl (fun X F E => ?_)
  have ho := inC_or H.1.2.1 p
  rcases ho with hlt | hend
  · have hs : sgI (c p) = nI (c p) := if_neg (by omega)
    refine g_aload_n (nx := 1) 0 F dX5_sees_0 rfl rfl rfl ?_
    refine g_getV (nx := 4) (sgI (c p)) F dX5_sees_1 rfl fl_RX5_30 rfl (by decide) (by decide) rfl rfl (H.2.1.2.2.2.1) ?_
    refine g_iconst (nx := 5) (-1) F dX5_sees_4 rfl rfl ?_
    refine g_icmp_eq (nx := 8) 24 F dX5_sees_5 rfl (by decide) (fun c_5 => absurd c_5 (by exact fun zq => absurd ((sgI_end (Or.inl hlt)).mp zq) (by omega))) (fun c_5 => ?_)
    refine g_aload_n (nx := 9) 1 F dX5_sees_8 rfl rfl rfl ?_
    refine g_aload_n (nx := 10) 0 F dX5_sees_9 rfl rfl rfl ?_
    refine g_getV (nx := 13) (sgI (c p)) F dX5_sees_10 rfl fl_RX5_30 rfl (by decide) (by decide) rfl rfl (H.2.1.2.2.2.1) ?_
    refine g_i2c (nx := 14) F dX5_sees_13 rfl ?_
    refine g_top (nI (c p)) (by rw [hs]; exact i2c_ok _ hlt) ?_
    refine g_callSt (nx := 17) 1 3 [.int (nI (c p))] F dX5_sees_14 rfl ml_RX5_77 mo_J0_indexOf_0f7a4 hk rfl rfl rfl (Nat.le_of_ble_eq_true rfl) (by decide) (j_indexOf k (c p) _ hk hlt) (fun r_14 τ_14 q_14 => ?_)
    obtain ⟨rfl, et_14⟩ := q_14
    have et_14 := et_14.symm
    subst et_14
    dsimp only [Option.toList, List.append, List.cons_append, List.nil_append]
    refine g_if_lt (nx := 20) 24 F dX5_sees_17 rfl (by decide) (fun c_17 => ?_) (fun c_17 => ?_)
    · refine g_iconst (nx := 25) (0) F dX5_sees_24 rfl rfl ?_
      refine g_zret F E dX5_sees_25 (by first | rfl | assumption) ?_
      refine ⟨congrArg (fun z => some (Value.int z)) (Eq.symm ?_), rfl⟩
      first
        | exact bI_f (fun z => by have h1 := c_17; rw [fa_lt] at h1; simp only [Int32.toInt_zero] at h1; exact absurd z.2 (by omega))
        | exact bI_t ⟨hlt, by have h1 := c_17; rw [fa_lt] at h1; simp only [Int32.toInt_zero] at h1; omega⟩
    · refine g_iconst (nx := 21) (1) F dX5_sees_20 rfl rfl ?_
      refine g_goto 25 F dX5_sees_21 (by decide) ?_
      refine g_zret F E dX5_sees_25 (by first | rfl | assumption) ?_
      refine ⟨congrArg (fun z => some (Value.int z)) (Eq.symm ?_), rfl⟩
      first
        | exact bI_f (fun z => by have h1 := c_17; rw [fa_lt] at h1; simp only [Int32.toInt_zero] at h1; exact absurd z.2 (by omega))
        | exact bI_t ⟨hlt, by have h1 := c_17; rw [fa_lt] at h1; simp only [Int32.toInt_zero] at h1; omega⟩
  · refine g_aload_n (nx := 1) 0 F dX5_sees_0 rfl rfl rfl ?_
    refine g_getV (nx := 4) (sgI (c p)) F dX5_sees_1 rfl fl_RX5_30 rfl (by decide) (by decide) rfl rfl (H.2.1.2.2.2.1) ?_
    refine g_iconst (nx := 5) (-1) F dX5_sees_4 rfl rfl ?_
    refine g_icmp_eq (nx := 8) 24 F dX5_sees_5 rfl (by decide) (fun c_5 => ?_) (fun c_5 => absurd c_5 (by exact fun zq => zq ((sgI_end (Or.inr hend)).mpr hend)))
    refine g_iconst (nx := 25) (0) F dX5_sees_24 rfl rfl ?_
    refine g_zret F E dX5_sees_25 (by first | rfl | assumption) ?_
    exact ⟨congrArg (fun z => some (Value.int z)) (bI_f (fun z => by have := z.1; omega)).symm, rfl⟩
set_option maxHeartbeats 4000000 in
set_option maxRecDepth 100000 in
theorem c_seesDigit (t n p o l : Nat) (c op vl : Nat → Nat) (σ : zSt) (H : pcS σ t c n (p, o, l, op, vl)) : Con mX5_seesDigit 0 [.ref 16] σ (fun r τ => r = some (.int (bI (dg (c p) = true))) ∧ τ = σ) := by
  refine Con.of (lv := [.ref 16]) mk_X5_seesDigit rfl (Nat.le_of_ble_eq_true rfl) rfl (fun X F E => ?_)
  have hi := sgI_toInt (inC_or H.1.2.1 p)
  refine g_aload_n (nx := 1) 0 F dX5_seesDigit_0 rfl rfl rfl ?_
  refine g_getV (nx := 4) (sgI (c p)) F dX5_seesDigit_1 rfl fl_RX5_30 rfl (by decide) (by decide) rfl rfl (H.2.1.2.2.2.1) ?_
  refine g_bipush (nx := 6) (48) F dX5_seesDigit_4 rfl (by decide) ?_
  refine g_icmp_lt (nx := 9) 22 F dX5_seesDigit_6 rfl (by decide) (fun c_6 => ?_) (fun c_6 => ?_)
  · refine g_iconst (nx := 23) (0) F dX5_seesDigit_22 rfl rfl ?_
    refine g_zret F E dX5_seesDigit_23 (by first | rfl | assumption) ?_
    clear F E
    refine ⟨congrArg (fun z => some (Value.int z)) (Eq.symm ?_), rfl⟩
    simp only [dg, fa_lt, Int32.reduceToInt, hi] at *
    first
      | (refine bI_t (decide_eq_true ?_); split at c_6 <;> split at c_15 <;> omega)
      | (refine bI_f (fun z => ?_); have z := of_decide_eq_true z; split at c_6 <;> omega)
      | (refine bI_f (fun z => ?_); have z := of_decide_eq_true z; split at c_15 <;> omega)
  · refine g_aload_n (nx := 10) 0 F dX5_seesDigit_9 rfl rfl rfl ?_
    refine g_getV (nx := 13) (sgI (c p)) F dX5_seesDigit_10 rfl fl_RX5_30 rfl (by decide) (by decide) rfl rfl (H.2.1.2.2.2.1) ?_
    refine g_bipush (nx := 15) (57) F dX5_seesDigit_13 rfl (by decide) ?_
    refine g_icmp_gt (nx := 18) 22 F dX5_seesDigit_15 rfl (by decide) (fun c_15 => ?_) (fun c_15 => ?_)
    · refine g_iconst (nx := 23) (0) F dX5_seesDigit_22 rfl rfl ?_
      refine g_zret F E dX5_seesDigit_23 (by first | rfl | assumption) ?_
      clear F E
      refine ⟨congrArg (fun z => some (Value.int z)) (Eq.symm ?_), rfl⟩
      simp only [dg, fa_lt, Int32.reduceToInt, hi] at *
      first
        | (refine bI_t (decide_eq_true ?_); split at c_6 <;> split at c_15 <;> omega)
        | (refine bI_f (fun z => ?_); have z := of_decide_eq_true z; split at c_6 <;> omega)
        | (refine bI_f (fun z => ?_); have z := of_decide_eq_true z; split at c_15 <;> omega)
    · refine g_iconst (nx := 19) (1) F dX5_seesDigit_18 rfl rfl ?_
      refine g_goto 23 F dX5_seesDigit_19 (by decide) ?_
      refine g_zret F E dX5_seesDigit_23 (by first | rfl | assumption) ?_
      clear F E
      refine ⟨congrArg (fun z => some (Value.int z)) (Eq.symm ?_), rfl⟩
      simp only [dg, fa_lt, Int32.reduceToInt, hi] at *
      first
        | (refine bI_t (decide_eq_true ?_); split at c_6 <;> split at c_15 <;> omega)
        | (refine bI_f (fun z => ?_); have z := of_decide_eq_true z; split at c_6 <;> omega)
        | (refine bI_f (fun z => ?_); have z := of_decide_eq_true z; split at c_15 <;> omega)
