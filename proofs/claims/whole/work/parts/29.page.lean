/-! a whole cell by another -/
def zs (σ : zSt) (a : Nat) (f : Nat → Int32) : zSt := fun b => if b = a then f else σ b
theorem zs_zu (σ : zSt) (a k : Nat) (f : Nat → Int32) (x : Int32) : zu (zs σ a f) a k x = zs σ a (upd f k x) := by
  funext b
  unfold zu zs
  by_cases h : b = a
  · rw [if_pos h, if_pos h, if_pos rfl]
  · rw [if_neg h, if_neg h, if_neg h]
theorem zs_zu2 (σ : zSt) {a b : Nat} (h : a ≠ b) (k : Nat) (f : Nat → Int32) (x : Int32) : zu (zs σ b f) a k x = zs (zu σ a k x) b f := by
  funext c
  unfold zu zs
  by_cases h1 : c = a
  · subst h1
    simp only [if_pos, if_neg h]
  · by_cases h2 : c = b
    · subst h2
      rw [if_neg h1, if_pos rfl, if_pos rfl]
    · simp only [if_neg h1, if_neg h2]
theorem zs_id (σ : zSt) (a : Nat) (f : Nat → Int32) (h : σ a = f) : zs σ a f = σ := by
  funext b
  unfold zs
  by_cases q : b = a
  · rw [if_pos q, q, h]
  · rw [if_neg q]
theorem zs_at (σ : zSt) (a : Nat) (f : Nat → Int32) : zs σ a f a = f := if_pos rfl
theorem zs_ne (σ : zSt) {a b : Nat} (h : b ≠ a) (f : Nat → Int32) : zs σ a f b = σ b := if_neg h
theorem zu_zs (σ : zSt) (a k : Nat) (x : Int32) : zu σ a k x = zs σ a (upd (σ a) k x) := rfl
/-! insertion into a row of n: those from p on go one up -/
def shF (f : Nat → Int32) (p n : Nat) : Nat → Int32 := fun k => if p < k ∧ k ≤ n then f (k - 1) else f k
def insF (f : Nat → Int32) (p n : Nat) (x : Int32) : Nat → Int32 := upd (shF f p n) p x
theorem shF_n (f : Nat → Int32) (n : Nat) : shF f n n = f := by
  funext k
  unfold shF
  rw [if_neg (by omega)]
theorem shF_step (f : Nat → Int32) {p n : Nat} (h : p < n) : upd (shF f (p + 1) n) (p + 1) (f p) = shF f p n := by
  funext k
  unfold shF upd
  by_cases h1 : k = p + 1
  · subst h1
    rw [if_pos rfl, if_pos (by omega)]
    rfl
  · rw [if_neg h1]
    by_cases h2 : p + 1 < k ∧ k ≤ n
    · simp only [if_pos h2, if_pos (show p < k ∧ k ≤ n by omega)]
    · simp only [if_neg h2, if_neg (show ¬ (p < k ∧ k ≤ n) by omega)]
theorem shF_low (f : Nat → Int32) {p n k : Nat} (h : k ≤ p) : shF f p n k = f k := by
  unfold shF
  rw [if_neg (by omega)]
theorem insF_lt (f : Nat → Int32) {p n k : Nat} (x : Int32) (h : k < p) : insF f p n x k = f k := by
  unfold insF upd
  rw [if_neg (by omega), shF_low f (by omega)]
theorem insF_at (f : Nat → Int32) (p n : Nat) (x : Int32) : insF f p n x p = x := by
  unfold insF upd
  rw [if_pos rfl]
theorem insF_gt (f : Nat → Int32) {p n k : Nat} (x : Int32) (h : p < k) (h2 : k ≤ n) : insF f p n x k = f (k - 1) := by
  unfold insF upd shF
  rw [if_neg (by omega), if_pos ⟨h, h2⟩]
/-- how many there are behind an insertion -/
theorem ins_ct (f g : Nat → Int32) (P : Int32 → Int32 → Bool) (p n : Nat) (x y : Int32) (hp : p ≤ n) : fb_ct (fun k => P (insF f p n x k) (insF g p n y k)) (n + 1) = fb_ct (fun k => P (f k) (g k)) n + (if P x y then 1 else 0) := by
  have h1 : fb_ct (fun k => P (insF f p n x k) (insF g p n y k)) p = fb_ct (fun k => P (f k) (g k)) p := fb_ct_cong (fun k hk => by rw [insF_lt f x hk, insF_lt g y hk])
  have h2 : ∀ m, p + m ≤ n → fb_ct (fun k => P (insF f p n x k) (insF g p n y k)) (p + m + 1) = fb_ct (fun k => P (f k) (g k)) (p + m) + (if P x y then 1 else 0) := by
    intro m
    induction m with
    | zero =>
      intro _
      rw [Nat.add_zero, fb_ct_succ, h1, insF_at, insF_at]
      rfl
    | succ m ih =>
      intro hm
      rw [fb_ct_succ, show p + (m + 1) = p + m + 1 from rfl, ih (by omega), fb_ct_succ (fun k => P (f k) (g k)) (p + m), insF_gt f x (show p < p + m + 1 by omega) (by omega), insF_gt g y (show p < p + m + 1 by omega) (by omega)]
      simp only [Nat.add_sub_cancel]
      omega
  have := h2 (n - p) (by omega)
  rw [show p + (n - p) = n by omega] at this
  exact this
/-- the sum of place pl among those of step s, by sums -/
def Sel (f g : Nat → Int32) (n : Nat) (s : Int32) (pl : Nat) (v : Int32) : Prop := fb_ct (fun k => decide (g k = s ∧ f k < v)) n ≤ pl ∧ pl < fb_ct (fun k => decide (g k = s ∧ f k ≤ v)) n
theorem Sel_one {f g f2 g2 : Nat → Int32} {n : Nat} {s : Int32} {pl : Nat} {v w : Int32} (hc : ∀ P : Int32 → Int32 → Bool, fb_ct (fun k => P (f k) (g k)) n = fb_ct (fun k => P (f2 k) (g2 k)) n) (h1 : Sel f g n s pl v) (h2 : Sel f2 g2 n s pl w) : v = w := by
  have e1 := hc (fun a b => decide (b = s ∧ a < v))
  have e2 := hc (fun a b => decide (b = s ∧ a ≤ v))
  have e3 : ∀ a b : Int32, a < b → fb_ct (fun k => decide (g2 k = s ∧ f2 k ≤ a)) n ≤ fb_ct (fun k => decide (g2 k = s ∧ f2 k < b)) n := by
    intro a b hab
    refine fb_ct_sub (fun k _ h => ?_)
    simp only [decide_eq_true_eq] at h ⊢
    refine ⟨h.1, ?_⟩
    rw [fa_lt] at *
    have := h.2
    rw [fa_le] at this
    omega
  unfold Sel at h1 h2
  rw [e1, e2] at h1
  rcases fa_three v w with h | h | h
  · have := e3 v w h
    omega
  · exact h
  · have := e3 w v h
    omega
/-- by sums, the least first -/
def srt (f : Nat → Int32) (n : Nat) : Prop := ∀ i j, i < j → j < n → f i ≤ f j
theorem srt_ins {f : Nat → Int32} {p n : Nat} {x : Int32} (h : srt f n) (hp : p ≤ n) (h1 : p = 0 ∨ f (p - 1) ≤ x) (h2 : ∀ k, p ≤ k → k < n → x < f k) : srt (insF f p n x) (n + 1) := by
  intro i j hij hj
  have hle : ∀ k, k < p → f k ≤ x := by
    intro k hk
    rcases h1 with h1 | h1
    · omega
    · rcases Nat.lt_or_ge k (p - 1) with q | q
      · have := h k (p - 1) q (by omega)
        rw [fa_le] at *
        omega
      · rw [show k = p - 1 by omega]
        exact h1
  rcases Nat.lt_trichotomy j p with q | q | q
  · rw [insF_lt f x (by omega), insF_lt f x q]
    exact h i j hij (by omega)
  · rw [q, insF_at, insF_lt f x (by omega)]
    exact hle i (by omega)
  · rw [insF_gt f x q (by omega)]
    rcases Nat.lt_trichotomy i p with z | z | z
    · rw [insF_lt f x z]
      have a1 := hle i z
      have a2 := h2 (j - 1) (by omega) (by omega)
      rw [fa_le] at *
      rw [fa_lt] at a2
      omega
    · rw [z, insF_at]
      have a2 := h2 (j - 1) (by omega) (by omega)
      rw [fa_lt] at a2
      rw [fa_le]
      omega
    · rw [insF_gt f x z (by omega)]
      exact h (i - 1) (j - 1) (by omega) (by omega)
theorem srt_sel {f g : Nat → Int32} {n : Nat} {s : Int32} (h : srt f n) {k : Nat} (hk : k < n) (hg : g k = s) : Sel f g n s (fb_ct (fun q => decide (g q = s)) k) (f k) := by
  refine ⟨?_, ?_⟩
  · have e : fb_ct (fun q => decide (g q = s ∧ f q < f k)) n = fb_ct (fun q => decide (g q = s ∧ f q < f k)) k := by
      have h0 : ∀ m, k + m ≤ n → fb_ct (fun q => decide (g q = s ∧ f q < f k)) (k + m) = fb_ct (fun q => decide (g q = s ∧ f q < f k)) k := by
        intro m
        induction m with
        | zero => intro _; rfl
        | succ m ih =>
          intro hm
          have hz : ¬ (g (k + m) = s ∧ f (k + m) < f k) := by
            rintro ⟨_, z⟩
            rcases Nat.eq_zero_or_pos m with e | e
            · subst e
              rw [fa_lt] at z
              simp at z
            · have := h k (k + m) (by omega) (by omega)
              rw [fa_le] at this
              rw [fa_lt] at z
              omega
          rw [← Nat.add_assoc, fb_ct_succ, ih (by omega)]
          simp only [decide_eq_false hz]
          rfl
      have := h0 (n - k) (by omega)
      rw [show k + (n - k) = n by omega] at this
      exact this
    rw [e]
    exact fb_ct_sub (fun q _ z => by simp only [decide_eq_true_eq] at z ⊢; exact z.1)
  · have h1 : fb_ct (fun q => decide (g q = s ∧ f q ≤ f k)) (k + 1) ≤ fb_ct (fun q => decide (g q = s ∧ f q ≤ f k)) n := fb_ct_mono _ (by omega)
    have h2 : fb_ct (fun q => decide (g q = s ∧ f q ≤ f k)) (k + 1) = fb_ct (fun q => decide (g q = s)) k + 1 := by
      rw [fb_ct_succ, if_pos (by simp only [decide_eq_true_eq]; exact ⟨hg, Int32.le_refl _⟩)]
      congr 1
      refine fb_ct_cong (fun q hq => ?_)
      simp only [decide_eq_decide]
      exact ⟨fun z => z.1, fun z => ⟨z, h q k hq hk⟩⟩
    omega
set_option maxHeartbeats 4000000 in
set_option maxRecDepth 100000 in
theorem c_addEntry (n : Nat) (s x : Int32) (σ : zSt) (hn : σ 52 2 = nI n) (h : n < 60) : Con mX4_addEntry 0 [.ref 52, .int s, .int x] σ (fun r τ => ∃ p, p ≤ n ∧ (∀ k, p ≤ k → k < n → x < σ 53 k) ∧ (p = 0 ∨ σ 53 (p - 1) ≤ x) ∧ r = some (.int (nI (n + 1))) ∧ τ = zu (zs (zs σ 53 (insF (σ 53) p n x)) 54 (insF (σ 54) p n s)) 52 2 (nI (n + 1))) := by
  refine Con.of (lv := [.ref 52, .int s, .int x, .long 0]) mk_X4_addEntry rfl (Nat.le_of_ble_eq_true rfl) rfl (fun X F E => ?_)
  have L : ∀ p, p ≤ n → (∀ k, p ≤ k → k < n → x < σ 53 k) → Gs X 16 [.ref 52, .int s, .int x, .int (nI p)] [] (zs (zs σ 53 (shF (σ 53) p n)) 54 (shF (σ 54) p n)) := by
    intro p
    induction p with
    | zero =>
      intro hp hk
      refine g_iload_n (nx := 17) 3 F dX4_addEntry_16 rfl rfl rfl ?_
      refine g_if_le (nx := 20) 66 F dX4_addEntry_17 rfl (by decide) (fun c_17 => ?_) (fun c_17 => absurd c_17 (by decide))
      refine g_aload_n (nx := 67) 0 F dX4_addEntry_66 rfl rfl rfl ?_
      refine g_getR (nx := 70) F dX4_addEntry_67 rfl fl_RX4_11 rfl (by decide) (by decide) rfl ?_
      refine g_iload_n (nx := 71) 3 F dX4_addEntry_70 rfl rfl rfl ?_
      refine g_iload_n (nx := 72) 2 F dX4_addEntry_71 rfl rfl rfl ?_
      refine g_iastN (nx := 73) (0) F dX4_addEntry_72 rfl rfl (by omega) ?_
      refine g_aload_n (nx := 74) 0 F dX4_addEntry_73 rfl rfl rfl ?_
      refine g_getR (nx := 77) F dX4_addEntry_74 rfl fl_RX4_15 rfl (by decide) (by decide) rfl ?_
      refine g_iload_n (nx := 78) 3 F dX4_addEntry_77 rfl rfl rfl ?_
      refine g_iload_n (nx := 79) 1 F dX4_addEntry_78 rfl rfl rfl ?_
      refine g_iastN (nx := 80) (0) F dX4_addEntry_79 rfl rfl (by omega) ?_
      refine g_aload_n (nx := 81) 0 F dX4_addEntry_80 rfl rfl rfl ?_
      refine g_dup (nx := 82) F dX4_addEntry_81 rfl rfl ?_
      refine g_getV (nx := 85) (nI n) F dX4_addEntry_82 rfl fl_RX4_18 rfl (by decide) (by decide) rfl rfl (hn) ?_
      refine g_iconst (nx := 86) (1) F dX4_addEntry_85 rfl rfl ?_
      refine g_iadd (nx := 87) F dX4_addEntry_86 rfl ?_
      rw [nI_1]
      refine g_putI (nx := 90) F dX4_addEntry_87 rfl fl_RX4_18 fi_3_2 rfl (by decide) (by decide) rfl rfl ?_
      refine g_aload_n (nx := 91) 0 F dX4_addEntry_90 rfl rfl rfl ?_
      refine g_getV (nx := 94) (nI (n + 1)) F dX4_addEntry_91 rfl fl_RX4_18 rfl (by decide) (by decide) rfl rfl (rfl) ?_
      refine g_iret F E dX4_addEntry_94 ?_
      refine ⟨0, by omega, hk, ?_, rfl, ?_⟩
      · first | exact Or.inl rfl | exact Or.inr c_29
      · rw [zs_zu2 _ (by decide), zs_zu, zs_zu]
        rfl
    | succ p ih =>
      intro hp hk
      refine g_iload_n (nx := 17) 3 F dX4_addEntry_16 rfl rfl rfl ?_
      refine g_if_le (nx := 20) 66 F dX4_addEntry_17 rfl (by decide) (fun c_17 => absurd c_17 (by exact nI_nle (by omega) (by omega))) (fun c_17 => ?_)
      refine g_aload_n (nx := 21) 0 F dX4_addEntry_20 rfl rfl rfl ?_
      refine g_getR (nx := 24) F dX4_addEntry_21 rfl fl_RX4_11 rfl (by decide) (by decide) rfl ?_
      refine g_iload_n (nx := 25) 3 F dX4_addEntry_24 rfl rfl rfl ?_
      refine g_iconst (nx := 26) (1) F dX4_addEntry_25 rfl rfl ?_
      refine g_isub (nx := 27) F dX4_addEntry_26 rfl ?_
      rw [nI_pred]
      refine g_ialdN (nx := 28) (p) (σ 53 p) F dX4_addEntry_27 rfl rfl (by omega) (shF_low _ (by omega)) ?_
      refine g_iload_n (nx := 29) 2 F dX4_addEntry_28 rfl rfl rfl ?_
      refine g_icmp_le (nx := 32) 66 F dX4_addEntry_29 rfl (by decide) (fun c_29 => ?_) (fun c_29 => ?_)
      · refine g_aload_n (nx := 67) 0 F dX4_addEntry_66 rfl rfl rfl ?_
        refine g_getR (nx := 70) F dX4_addEntry_67 rfl fl_RX4_11 rfl (by decide) (by decide) rfl ?_
        refine g_iload_n (nx := 71) 3 F dX4_addEntry_70 rfl rfl rfl ?_
        refine g_iload_n (nx := 72) 2 F dX4_addEntry_71 rfl rfl rfl ?_
        refine g_iastN (nx := 73) (p + 1) F dX4_addEntry_72 rfl rfl (by omega) ?_
        refine g_aload_n (nx := 74) 0 F dX4_addEntry_73 rfl rfl rfl ?_
        refine g_getR (nx := 77) F dX4_addEntry_74 rfl fl_RX4_15 rfl (by decide) (by decide) rfl ?_
        refine g_iload_n (nx := 78) 3 F dX4_addEntry_77 rfl rfl rfl ?_
        refine g_iload_n (nx := 79) 1 F dX4_addEntry_78 rfl rfl rfl ?_
        refine g_iastN (nx := 80) (p + 1) F dX4_addEntry_79 rfl rfl (by omega) ?_
        refine g_aload_n (nx := 81) 0 F dX4_addEntry_80 rfl rfl rfl ?_
        refine g_dup (nx := 82) F dX4_addEntry_81 rfl rfl ?_
        refine g_getV (nx := 85) (nI n) F dX4_addEntry_82 rfl fl_RX4_18 rfl (by decide) (by decide) rfl rfl (hn) ?_
        refine g_iconst (nx := 86) (1) F dX4_addEntry_85 rfl rfl ?_
        refine g_iadd (nx := 87) F dX4_addEntry_86 rfl ?_
        rw [nI_1]
        refine g_putI (nx := 90) F dX4_addEntry_87 rfl fl_RX4_18 fi_3_2 rfl (by decide) (by decide) rfl rfl ?_
        refine g_aload_n (nx := 91) 0 F dX4_addEntry_90 rfl rfl rfl ?_
        refine g_getV (nx := 94) (nI (n + 1)) F dX4_addEntry_91 rfl fl_RX4_18 rfl (by decide) (by decide) rfl rfl (rfl) ?_
        refine g_iret F E dX4_addEntry_94 ?_
        refine ⟨p + 1, by omega, hk, ?_, rfl, ?_⟩
        · first | exact Or.inl rfl | exact Or.inr c_29
        · rw [zs_zu2 _ (by decide), zs_zu, zs_zu]
          rfl
      · refine g_aload_n (nx := 33) 0 F dX4_addEntry_32 rfl rfl rfl ?_
        refine g_getR (nx := 36) F dX4_addEntry_33 rfl fl_RX4_11 rfl (by decide) (by decide) rfl ?_
        refine g_iload_n (nx := 37) 3 F dX4_addEntry_36 rfl rfl rfl ?_
        refine g_aload_n (nx := 38) 0 F dX4_addEntry_37 rfl rfl rfl ?_
        refine g_getR (nx := 41) F dX4_addEntry_38 rfl fl_RX4_11 rfl (by decide) (by decide) rfl ?_
        refine g_iload_n (nx := 42) 3 F dX4_addEntry_41 rfl rfl rfl ?_
        refine g_iconst (nx := 43) (1) F dX4_addEntry_42 rfl rfl ?_
        refine g_isub (nx := 44) F dX4_addEntry_43 rfl ?_
        rw [nI_pred]
        refine g_ialdN (nx := 45) (p) (σ 53 p) F dX4_addEntry_44 rfl rfl (by omega) (shF_low _ (by omega)) ?_
        refine g_iastN (nx := 46) (p + 1) F dX4_addEntry_45 rfl rfl (by omega) ?_
        refine g_aload_n (nx := 47) 0 F dX4_addEntry_46 rfl rfl rfl ?_
        refine g_getR (nx := 50) F dX4_addEntry_47 rfl fl_RX4_15 rfl (by decide) (by decide) rfl ?_
        refine g_iload_n (nx := 51) 3 F dX4_addEntry_50 rfl rfl rfl ?_
        refine g_aload_n (nx := 52) 0 F dX4_addEntry_51 rfl rfl rfl ?_
        refine g_getR (nx := 55) F dX4_addEntry_52 rfl fl_RX4_15 rfl (by decide) (by decide) rfl ?_
        refine g_iload_n (nx := 56) 3 F dX4_addEntry_55 rfl rfl rfl ?_
        refine g_iconst (nx := 57) (1) F dX4_addEntry_56 rfl rfl ?_
        refine g_isub (nx := 58) F dX4_addEntry_57 rfl ?_
        rw [nI_pred]
        refine g_ialdN (nx := 59) (p) (σ 54 p) F dX4_addEntry_58 rfl rfl (by omega) (shF_low _ (by omega)) ?_
        refine g_iastN (nx := 60) (p + 1) F dX4_addEntry_59 rfl rfl (by omega) ?_
        refine g_iinc (nx := 63) (-1) F dX4_addEntry_60 rfl rfl (by decide) (by decide) ?_
        try dsimp only [List.set]
        rw [pk_m1]
        refine g_goto 16 F dX4_addEntry_63 (by decide) ?_
        rw [zs_zu2 _ (by decide), zs_zu, zs_zu, shF_step _ (by omega), shF_step _ (by omega)]
        refine ih (by omega) (fun k k1 k2 => ?_)
        rcases Nat.lt_or_ge p k with z | z
        · exact hk k (by omega) k2
        · rw [show k = p by omega]
          exact not_le_I.mp c_29
  refine g_aload_n (nx := 1) 0 F dX4_addEntry_0 rfl rfl rfl ?_
  refine g_getV (nx := 4) (nI n) F dX4_addEntry_1 rfl fl_RX4_18 rfl (by decide) (by decide) rfl rfl (hn) ?_
  refine g_bipush (nx := 6) (60) F dX4_addEntry_4 rfl (by decide) ?_
  refine g_icmp_lt (nx := 9) 11 F dX4_addEntry_6 rfl (by decide) (fun c_6 => ?_) (fun c_6 => absurd c_6 (by exact fun zq => zq (nI_lt (a := n) (b := 60) (by omega) (by omega))))
  refine g_aload_n (nx := 12) 0 F dX4_addEntry_11 rfl rfl rfl ?_
  refine g_getV (nx := 15) (nI n) F dX4_addEntry_12 rfl fl_RX4_18 rfl (by decide) (by decide) rfl rfl (hn) ?_
  refine g_istore_n (nx := 16) 3 F dX4_addEntry_15 rfl rfl (by decide) ?_
  try dsimp only [List.set]
  refine g_st (zs (zs σ 53 (shF (σ 53) n n)) 54 (shF (σ 54) n n)) ?_ (L n (Nat.le_refl n) (fun k k1 k2 => by omega))
  rw [shF_n, shF_n, zs_id σ 53 _ rfl, zs_id σ 54 _ rfl]
set_option maxHeartbeats 4000000 in
set_option maxRecDepth 100000 in
theorem c_addEntryN (n : Nat) (s x : Int32) (σ : zSt) (hn : σ 52 2 = nI n) (h : n = 60) : Con mX4_addEntry 0 [.ref 52, .int s, .int x] σ (fun r τ => r = some (.int (-1)) ∧ τ = σ) := by
  refine Con.of (lv := [.ref 52, .int s, .int x, .long 0]) mk_X4_addEntry rfl (Nat.le_of_ble_eq_true rfl) rfl (fun X F E => ?_)
  refine g_aload_n (nx := 1) 0 F dX4_addEntry_0 rfl rfl rfl ?_
  refine g_getV (nx := 4) (nI n) F dX4_addEntry_1 rfl fl_RX4_18 rfl (by decide) (by decide) rfl rfl (hn) ?_
  refine g_bipush (nx := 6) (60) F dX4_addEntry_4 rfl (by decide) ?_
  refine g_icmp_lt (nx := 9) 11 F dX4_addEntry_6 rfl (by decide) (fun c_6 => absurd c_6 (by exact nI_nlt (a := n) (b := 60) (by omega) (by omega))) (fun c_6 => ?_)
  refine g_iconst (nx := 10) (-1) F dX4_addEntry_9 rfl rfl ?_
  refine g_iret F E dX4_addEntry_10 ?_
  exact ⟨rfl, rfl⟩
set_option maxHeartbeats 4000000 in
set_option maxRecDepth 100000 in
theorem c_entry (n : Nat) (s x : Int32) (σ : zSt) (hn : σ 52 2 = nI n) (h : n ≤ 60) : Con mX11_entry 1 [.ref 0, .int s, .int x] σ (fun r τ => (((0 ≤ s.toInt ∧ s.toInt < (σ 3 6).toInt) ∧ isin x 10000 ∧ n < 60) ∧ ∃ p, p ≤ n ∧ (∀ k, p ≤ k → k < n → x < σ 53 k) ∧ (p = 0 ∨ σ 53 (p - 1) ≤ x) ∧ r = some (.int (nI (n + 1))) ∧ τ = zu (zs (zs σ 53 (insF (σ 53) p n x)) 54 (insF (σ 54) p n s)) 52 2 (nI (n + 1))) ∨ (¬ ((0 ≤ s.toInt ∧ s.toInt < (σ 3 6).toInt) ∧ isin x 10000 ∧ n < 60) ∧ r = some (.int (-1)) ∧ τ = σ)) := by
  refine Con.of (lv := [.ref 0, .int s, .int x]) mk_X11_entry rfl (Nat.le_of_ble_eq_true rfl) rfl (fun X F E => ?_)
  by_cases hA : (0 ≤ s.toInt ∧ s.toInt < (σ 3 6).toInt) ∧ isin x 10000 ∧ n < 60
  · refine g_aload_n (nx := 1) 0 F dX11_entry_0 rfl rfl rfl ?_
    refine g_getR (nx := 4) F dX11_entry_1 rfl fl_RX11_19 rfl (by decide) (by decide) rfl ?_
    refine g_iload_n (nx := 5) 1 F dX11_entry_4 rfl rfl rfl ?_
    refine g_callV (nx := 8) 1 0 [.int s] F dX11_entry_5 rfl ml_RX11_269 mo_X2_isStep rfl rfl rfl rfl (Nat.le_of_ble_eq_true rfl) (by first | decide | omega) (c_isStep s _) (fun r_5 τ_5 q_5 => ?_)
    obtain ⟨rfl, et_5⟩ := q_5
    have et_5 := et_5.symm
    subst et_5
    dsimp only [Option.toList, List.append, List.cons_append, List.nil_append]
    refine g_if_eq (nx := 11) 21 F dX11_entry_8 rfl (by decide) (fun c_8 => absurd c_8 (by exact bI_n0.mpr hA.1)) (fun c_8 => ?_)
    refine g_iload_n (nx := 12) 2 F dX11_entry_11 rfl rfl rfl ?_
    refine g_sipush (nx := 15) (10000) F dX11_entry_12 rfl (by decide) ?_
    refine g_callS (nx := 18) 2 0 [.int x, .int 10000] F dX11_entry_15 rfl ml_RX11_79 mo_X11_isOutside rfl rfl (Nat.le_of_ble_eq_true rfl) (by first | decide | omega) (c_isOutside x 10000 _) (fun r_15 τ_15 q_15 => ?_)
    obtain ⟨rfl, et_15⟩ := q_15
    have et_15 := et_15.symm
    subst et_15
    dsimp only [Option.toList, List.append, List.cons_append, List.nil_append]
    refine g_if_eq (nx := 21) 23 F dX11_entry_18 rfl (by decide) (fun c_18 => ?_) (fun c_18 => absurd c_18 (by exact fun q => q (bI_f (by simp only [Int32.reduceToInt]; omega))))
    refine g_aload_n (nx := 24) 0 F dX11_entry_23 rfl rfl rfl ?_
    refine g_getR (nx := 27) F dX11_entry_24 rfl fl_RX11_68 rfl (by decide) (by decide) rfl ?_
    refine g_iload_n (nx := 28) 1 F dX11_entry_27 rfl rfl rfl ?_
    refine g_iload_n (nx := 29) 2 F dX11_entry_28 rfl rfl rfl ?_
    refine g_callV (nx := 32) 2 0 [.int s, .int x] F dX11_entry_29 rfl ml_RX11_278 mo_X4_addEntry rfl rfl rfl rfl (Nat.le_of_ble_eq_true rfl) (by first | decide | omega) (c_addEntry n s x _ hn hA.2.2) (fun r_29 τ_29 q_29 => ?_)
    obtain ⟨p, g1, g2, g3, rfl, g4⟩ := q_29
    dsimp only [Option.toList, List.append, List.cons_append, List.nil_append]
    refine g_iret F E dX11_entry_32 ?_
    exact Or.inl ⟨hA, p, g1, g2, g3, rfl, g4⟩
  · refine g_aload_n (nx := 1) 0 F dX11_entry_0 rfl rfl rfl ?_
    refine g_getR (nx := 4) F dX11_entry_1 rfl fl_RX11_19 rfl (by decide) (by decide) rfl ?_
    refine g_iload_n (nx := 5) 1 F dX11_entry_4 rfl rfl rfl ?_
    refine g_callV (nx := 8) 1 0 [.int s] F dX11_entry_5 rfl ml_RX11_269 mo_X2_isStep rfl rfl rfl rfl (Nat.le_of_ble_eq_true rfl) (by first | decide | omega) (c_isStep s _) (fun r_5 τ_5 q_5 => ?_)
    obtain ⟨rfl, et_5⟩ := q_5
    have et_5 := et_5.symm
    subst et_5
    dsimp only [Option.toList, List.append, List.cons_append, List.nil_append]
    refine g_if_eq (nx := 11) 21 F dX11_entry_8 rfl (by decide) (fun c_8 => ?_) (fun c_8 => ?_)
    · refine g_iconst (nx := 22) (-1) F dX11_entry_21 rfl rfl ?_
      refine g_iret F E dX11_entry_22 ?_
      exact Or.inr ⟨hA, rfl, rfl⟩
    · refine g_iload_n (nx := 12) 2 F dX11_entry_11 rfl rfl rfl ?_
      refine g_sipush (nx := 15) (10000) F dX11_entry_12 rfl (by decide) ?_
      refine g_callS (nx := 18) 2 0 [.int x, .int 10000] F dX11_entry_15 rfl ml_RX11_79 mo_X11_isOutside rfl rfl (Nat.le_of_ble_eq_true rfl) (by first | decide | omega) (c_isOutside x 10000 _) (fun r_15 τ_15 q_15 => ?_)
      obtain ⟨rfl, et_15⟩ := q_15
      have et_15 := et_15.symm
      subst et_15
      dsimp only [Option.toList, List.append, List.cons_append, List.nil_append]
      refine g_if_eq (nx := 21) 23 F dX11_entry_18 rfl (by decide) (fun c_18 => ?_) (fun c_18 => ?_)
      · have hfull : n = 60 := by
          clear F E
          have e_n : (nI n).toInt = n := nI_toInt (by omega)
          simp only [isin, bI_0, bI_n0, ne_eq, Decidable.not_not] at *
          (try simp only [fa_eq, fa_lt, fa_le, Int32.reduceToInt, Int32.toInt_zero] at *)
          omega
        refine g_aload_n (nx := 24) 0 F dX11_entry_23 rfl rfl rfl ?_
        refine g_getR (nx := 27) F dX11_entry_24 rfl fl_RX11_68 rfl (by decide) (by decide) rfl ?_
        refine g_iload_n (nx := 28) 1 F dX11_entry_27 rfl rfl rfl ?_
        refine g_iload_n (nx := 29) 2 F dX11_entry_28 rfl rfl rfl ?_
        refine g_callV (nx := 32) 2 0 [.int s, .int x] F dX11_entry_29 rfl ml_RX11_278 mo_X4_addEntry rfl rfl rfl rfl (Nat.le_of_ble_eq_true rfl) (by first | decide | omega) (c_addEntryN n s x _ hn hfull) (fun r_29 τ_29 q_29 => ?_)
        obtain ⟨rfl, et_29⟩ := q_29
        have et_29 := et_29.symm
        subst et_29
        dsimp only [Option.toList, List.append, List.cons_append, List.nil_append]
        refine g_iret F E dX11_entry_32 ?_
        exact Or.inr ⟨hA, rfl, rfl⟩
      · refine g_iconst (nx := 22) (-1) F dX11_entry_21 rfl rfl ?_
        refine g_iret F E dX11_entry_22 ?_
        exact Or.inr ⟨hA, rfl, rfl⟩
set_option maxHeartbeats 4000000 in
set_option maxRecDepth 100000 in
theorem c_entriesOf (n : Nat) (s : Int32) (σ : zSt) (hn : σ 52 2 = nI n) (h : n ≤ 60) : Con mX4_entriesOf 0 [.ref 52, .int s] σ (fun r τ => r = some (.int (nI (fb_ct (fun k => decide (σ 54 k = s)) n))) ∧ τ = σ) := by
  refine Con.of (lv := [.ref 52, .int s, .long 0, .long 0]) mk_X4_entriesOf rfl (Nat.le_of_ble_eq_true rfl) rfl (fun X F E => ?_)
  have L : ∀ (q j : Nat), j + q = n → Gs X 4 [.ref 52, .int s, .int (nI (fb_ct (fun k => decide (σ 54 k = s)) j)), .int (nI j)] [] σ := by
    intro q
    induction q with
    | zero =>
      intro j hj
      have hj : j = n := hj
      subst hj
      refine g_iload_n (nx := 5) 3 F dX4_entriesOf_4 rfl rfl rfl ?_
      refine g_aload_n (nx := 6) 0 F dX4_entriesOf_5 rfl rfl rfl ?_
      refine g_getV (nx := 9) (nI j) F dX4_entriesOf_6 rfl fl_RX4_18 rfl (by decide) (by decide) rfl rfl (hn) ?_
      refine g_icmp_ge (nx := 12) 31 F dX4_entriesOf_9 rfl (by decide) (fun c_9 => ?_) (fun c_9 => absurd c_9 (by exact fun zq => zq (nI_le (a := j) (b := j) (by omega) (by omega))))
      refine g_iload_n (nx := 32) 2 F dX4_entriesOf_31 rfl rfl rfl ?_
      refine g_iret F E dX4_entriesOf_32 ?_
      exact ⟨rfl, rfl⟩
    | succ q ih =>
      intro j hj
      have hh := ih (j + 1) (by omega)
      rw [fb_ct_succ] at hh
      refine g_iload_n (nx := 5) 3 F dX4_entriesOf_4 rfl rfl rfl ?_
      refine g_aload_n (nx := 6) 0 F dX4_entriesOf_5 rfl rfl rfl ?_
      refine g_getV (nx := 9) (nI n) F dX4_entriesOf_6 rfl fl_RX4_18 rfl (by decide) (by decide) rfl rfl (hn) ?_
      refine g_icmp_ge (nx := 12) 31 F dX4_entriesOf_9 rfl (by decide) (fun c_9 => absurd c_9 (by exact nI_ge (a := j) (b := n) (by omega) (by omega))) (fun c_9 => ?_)
      refine g_aload_n (nx := 13) 0 F dX4_entriesOf_12 rfl rfl rfl ?_
      refine g_getR (nx := 16) F dX4_entriesOf_13 rfl fl_RX4_15 rfl (by decide) (by decide) rfl ?_
      refine g_iload_n (nx := 17) 3 F dX4_entriesOf_16 rfl rfl rfl ?_
      refine g_ialdN (nx := 18) (j) (_) F dX4_entriesOf_17 rfl rfl (by omega) (rfl) ?_
      refine g_iload_n (nx := 19) 1 F dX4_entriesOf_18 rfl rfl rfl ?_
      refine g_icmp_ne (nx := 22) 25 F dX4_entriesOf_19 rfl (by decide) (fun c_19 => ?_) (fun c_19 => ?_)
      · refine g_iinc (nx := 28) (1) F dX4_entriesOf_25 rfl rfl (by decide) (by decide) ?_
        try dsimp only [List.set]
        refine g_goto 4 F dX4_entriesOf_28 (by decide) ?_
        rw [nI_1]
        first
          | (rw [if_pos (by simp only [decide_eq_true_eq]; assumption)] at hh; rw [nI_1]; exact hh)
          | (rw [if_neg (by simp only [decide_eq_true_eq]; assumption), Nat.add_zero] at hh; exact hh)
      · refine g_iinc (nx := 25) (1) F dX4_entriesOf_22 rfl rfl (by decide) (by decide) ?_
        try dsimp only [List.set]
        refine g_iinc (nx := 28) (1) F dX4_entriesOf_25 rfl rfl (by decide) (by decide) ?_
        try dsimp only [List.set]
        refine g_goto 4 F dX4_entriesOf_28 (by decide) ?_
        rw [nI_1]
        first
          | (rw [if_pos (by simp only [decide_eq_true_eq]; assumption)] at hh; rw [nI_1]; exact hh)
          | (rw [if_neg (by simp only [decide_eq_true_eq]; assumption), Nat.add_zero] at hh; exact hh)
  refine g_iconst (nx := 1) (0) F dX4_entriesOf_0 rfl rfl ?_
  refine g_istore_n (nx := 2) 2 F dX4_entriesOf_1 rfl rfl (by decide) ?_
  try dsimp only [List.set]
  refine g_iconst (nx := 3) (0) F dX4_entriesOf_2 rfl rfl ?_
  refine g_istore_n (nx := 4) 3 F dX4_entriesOf_3 rfl rfl (by decide) ?_
  try dsimp only [List.set]
  exact L n 0 (by omega)
set_option maxHeartbeats 4000000 in
set_option maxRecDepth 100000 in
theorem c_sumAt (n pl : Nat) (s : Int32) (σ : zSt) (hn : σ 52 2 = nI n) (h : n ≤ 60) (hp : pl ≤ 200) (hsrt : srt (σ 53) n) : Con mX4_sumAt 0 [.ref 52, .int s, .int (nI pl)] σ (fun r τ => τ = σ ∧ ((pl < fb_ct (fun k => decide (σ 54 k = s)) n ∧ ∃ v, r = some (.int v) ∧ Sel (σ 53) (σ 54) n s pl v) ∨ (fb_ct (fun k => decide (σ 54 k = s)) n ≤ pl ∧ r = some (.int 10000)))) := by
  refine Con.of (lv := [.ref 52, .int s, .int (nI pl), .long 0, .long 0]) mk_X4_sumAt rfl (Nat.le_of_ble_eq_true rfl) rfl (fun X F E => ?_)
  have L : ∀ (q j b : Nat), j + q = n → fb_ct (fun k => decide (σ 54 k = s)) j + b = pl → Gs X 11 [.ref 52, .int s, .int (nI pl), .int (nI b), .int (nI j)] [] σ := by
    intro q
    induction q with
    | zero =>
      intro j b hj hb
      have hj : j = n := hj
      subst hj
      refine g_iload (nx := 13) F dX4_sumAt_11 rfl rfl ?_
      refine g_aload_n (nx := 14) 0 F dX4_sumAt_13 rfl rfl rfl ?_
      refine g_getV (nx := 17) (nI j) F dX4_sumAt_14 rfl fl_RX4_18 rfl (by decide) (by decide) rfl rfl (hn) ?_
      refine g_icmp_ge (nx := 20) 52 F dX4_sumAt_17 rfl (by decide) (fun c_17 => ?_) (fun c_17 => absurd c_17 (by exact fun zq => zq (nI_le (a := j) (b := j) (by omega) (by omega))))
      refine g_sipush (nx := 55) (10000) F dX4_sumAt_52 rfl (by decide) ?_
      refine g_iret F E dX4_sumAt_55 ?_
      exact ⟨rfl, Or.inr ⟨by omega, rfl⟩⟩
    | succ q ih =>
      intro j b hj hb
      have hs := fb_ct_succ (fun k => decide (σ 54 k = s)) j
      rcases Nat.eq_zero_or_pos b with eb | eb
      · subst eb
        refine g_iload (nx := 13) F dX4_sumAt_11 rfl rfl ?_
        refine g_aload_n (nx := 14) 0 F dX4_sumAt_13 rfl rfl rfl ?_
        refine g_getV (nx := 17) (nI n) F dX4_sumAt_14 rfl fl_RX4_18 rfl (by decide) (by decide) rfl rfl (hn) ?_
        refine g_icmp_ge (nx := 20) 52 F dX4_sumAt_17 rfl (by decide) (fun c_17 => absurd c_17 (by exact nI_ge (a := j) (b := n) (by omega) (by omega))) (fun c_17 => ?_)
        refine g_aload_n (nx := 21) 0 F dX4_sumAt_20 rfl rfl rfl ?_
        refine g_getR (nx := 24) F dX4_sumAt_21 rfl fl_RX4_15 rfl (by decide) (by decide) rfl ?_
        refine g_iload (nx := 26) F dX4_sumAt_24 rfl rfl ?_
        refine g_ialdN (nx := 27) (j) (_) F dX4_sumAt_26 rfl rfl (by omega) (rfl) ?_
        refine g_iload_n (nx := 28) 1 F dX4_sumAt_27 rfl rfl rfl ?_
        refine g_icmp_ne (nx := 31) 46 F dX4_sumAt_28 rfl (by decide) (fun c_28 => ?_) (fun c_28 => ?_)
        · refine g_iinc (nx := 49) (1) F dX4_sumAt_46 rfl rfl (by decide) (by decide) ?_
          try dsimp only [List.set]
          refine g_goto 11 F dX4_sumAt_49 (by decide) ?_
          rw [if_neg (by simp only [decide_eq_true_eq]; exact c_28)] at hs
          rw [nI_1]
          exact ih (j + 1) 0 (by omega) (by omega)
        · refine g_iload_n (nx := 32) 3 F dX4_sumAt_31 rfl rfl rfl ?_
          refine g_if_ne (nx := 35) 43 F dX4_sumAt_32 rfl (by decide) (fun c_32 => absurd c_32 (by exact fun q => q rfl)) (fun c_32 => ?_)
          refine g_aload_n (nx := 36) 0 F dX4_sumAt_35 rfl rfl rfl ?_
          refine g_getR (nx := 39) F dX4_sumAt_36 rfl fl_RX4_11 rfl (by decide) (by decide) rfl ?_
          refine g_iload (nx := 41) F dX4_sumAt_39 rfl rfl ?_
          refine g_ialdN (nx := 42) (j) (_) F dX4_sumAt_41 rfl rfl (by omega) (rfl) ?_
          refine g_iret F E dX4_sumAt_42 ?_
          have hse := srt_sel hsrt (g := σ 54) (show j < n by omega) c_28
          rw [show fb_ct (fun k => decide (σ 54 k = s)) j = pl by omega] at hse
          have := fb_ct_mono (fun k => decide (σ 54 k = s)) (show j + 1 ≤ n by omega)
          rw [hs, if_pos (by simp only [decide_eq_true_eq]; exact c_28)] at this
          exact ⟨rfl, Or.inl ⟨by omega, σ 53 j, rfl, hse⟩⟩
      · obtain ⟨b, rfl⟩ : ∃ c, b = c + 1 := ⟨b - 1, by omega⟩
        refine g_iload (nx := 13) F dX4_sumAt_11 rfl rfl ?_
        refine g_aload_n (nx := 14) 0 F dX4_sumAt_13 rfl rfl rfl ?_
        refine g_getV (nx := 17) (nI n) F dX4_sumAt_14 rfl fl_RX4_18 rfl (by decide) (by decide) rfl rfl (hn) ?_
        refine g_icmp_ge (nx := 20) 52 F dX4_sumAt_17 rfl (by decide) (fun c_17 => absurd c_17 (by exact nI_ge (a := j) (b := n) (by omega) (by omega))) (fun c_17 => ?_)
        refine g_aload_n (nx := 21) 0 F dX4_sumAt_20 rfl rfl rfl ?_
        refine g_getR (nx := 24) F dX4_sumAt_21 rfl fl_RX4_15 rfl (by decide) (by decide) rfl ?_
        refine g_iload (nx := 26) F dX4_sumAt_24 rfl rfl ?_
        refine g_ialdN (nx := 27) (j) (_) F dX4_sumAt_26 rfl rfl (by omega) (rfl) ?_
        refine g_iload_n (nx := 28) 1 F dX4_sumAt_27 rfl rfl rfl ?_
        refine g_icmp_ne (nx := 31) 46 F dX4_sumAt_28 rfl (by decide) (fun c_28 => ?_) (fun c_28 => ?_)
        · try rw [pk_m1]
          refine g_iinc (nx := 49) (1) F dX4_sumAt_46 rfl rfl (by decide) (by decide) ?_
          try dsimp only [List.set]
          refine g_goto 11 F dX4_sumAt_49 (by decide) ?_
          first
            | (rw [if_neg (by simp only [decide_eq_true_eq]; exact c_28)] at hs; rw [nI_1]; exact ih (j + 1) (b + 1) (by omega) (by omega))
            | (rw [if_pos (by simp only [decide_eq_true_eq]; exact c_28)] at hs; rw [nI_1]; exact ih (j + 1) b (by omega) (by omega))
        · refine g_iload_n (nx := 32) 3 F dX4_sumAt_31 rfl rfl rfl ?_
          refine g_if_ne (nx := 35) 43 F dX4_sumAt_32 rfl (by decide) (fun c_32 => ?_) (fun c_32 => absurd c_32 (by exact fun q => nI_ne0 (by omega) (by omega) q))
          refine g_iinc (nx := 46) (-1) F dX4_sumAt_43 rfl rfl (by decide) (by decide) ?_
          try dsimp only [List.set]
          try rw [pk_m1]
          refine g_iinc (nx := 49) (1) F dX4_sumAt_46 rfl rfl (by decide) (by decide) ?_
          try dsimp only [List.set]
          refine g_goto 11 F dX4_sumAt_49 (by decide) ?_
          first
            | (rw [if_neg (by simp only [decide_eq_true_eq]; exact c_28)] at hs; rw [nI_1]; exact ih (j + 1) (b + 1) (by omega) (by omega))
            | (rw [if_pos (by simp only [decide_eq_true_eq]; exact c_28)] at hs; rw [nI_1]; exact ih (j + 1) b (by omega) (by omega))
  refine g_iload_n (nx := 1) 2 F dX4_sumAt_0 rfl rfl rfl ?_
  refine g_if_ge (nx := 4) 6 F dX4_sumAt_1 rfl (by decide) (fun c_1 => ?_) (fun c_1 => absurd c_1 (by exact fun q => q (nI_pos' (by omega))))
  refine g_iload_n (nx := 7) 2 F dX4_sumAt_6 rfl rfl rfl ?_
  refine g_istore_n (nx := 8) 3 F dX4_sumAt_7 rfl rfl (by decide) ?_
  try dsimp only [List.set]
  refine g_iconst (nx := 9) (0) F dX4_sumAt_8 rfl rfl ?_
  refine g_istore (nx := 11) F dX4_sumAt_9 rfl (by decide) ?_
  try dsimp only [List.set]
  exact L n 0 pl (by omega) (by simp only [fb_ct]; omega)
set_option maxHeartbeats 4000000 in
set_option maxRecDepth 100000 in
theorem c_sumAt_neg (s p : Int32) (σ : zSt) (hp : p < 0) : Con mX4_sumAt 0 [.ref 52, .int s, .int p] σ (fun r τ => r = some (.int (0)) ∧ τ = σ) := by
  refine Con.of (lv := [.ref 52, .int s, .int p, .long 0, .long 0]) mk_X4_sumAt rfl (Nat.le_of_ble_eq_true rfl) rfl (fun X F E => ?_)
  refine g_iload_n (nx := 1) 2 F dX4_sumAt_0 rfl rfl rfl ?_
  refine g_if_ge (nx := 4) 6 F dX4_sumAt_1 rfl (by decide) (fun c_1 => absurd c_1 (by exact not_le_I.mpr hp)) (fun c_1 => ?_)
  refine g_iconst (nx := 5) (0) F dX4_sumAt_4 rfl rfl ?_
  refine g_iret F E dX4_sumAt_5 ?_
  exact ⟨rfl, rfl⟩
