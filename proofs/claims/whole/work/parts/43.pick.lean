/-- a C comes to a truth -/
theorem ev_bool {op vl dp : Nat → Nat} {bl : Nat → Bool} {fa : Nat → Int32} {fr to : Nat} (hw : wfC op vl dp bl fr to) (hb : bl to = true) : ∀ (f k : Nat) (st : List Int32), fr ≤ k → (k ≤ to ∧ to - k ≤ f) → st.length = dp k → (bl k = true → st.headD 0 = 0 ∨ st.headD 0 = 1) → evF op vl fa to f k st = 0 ∨ evF op vl fa to f k st = 1
  | 0, k, st, hk1, hk2, hlen, hbl => by
    have e : k = to := by omega
    subst e
    exact hbl hb
  | f + 1, k, st, hk1, hk2, hlen, hbl => by
    rcases Nat.lt_or_ge k to with hkt | hkt
    · have hw2 := hw.2.2.2.2.2 k hk1 hkt
      rw [evF, if_neg (by omega)]
      rcases hw2 with ⟨ho, w2, w3, w4, w5⟩ | ⟨ho, w2, w3, w4, w5⟩ | ⟨o1, o2, w2, w4, w5, w6⟩ | ⟨o1, o2, w2, w4, w5, w6⟩ | ⟨ho, w2, w3, w5, w6⟩ | ⟨o1, w2, w5, w4, w6, w7, w8, w9, w10⟩
      · rw [if_pos ho]
        exact ev_bool hw hb f (k + 1) _ (by omega) (by omega) (by show st.length + 1 = _; omega) (fun z => absurd z (by rw [w3]; decide))
      · rw [if_neg (by omega), if_pos ho]
        exact ev_bool hw hb f (k + 1) _ (by omega) (by omega) (by show st.length + 1 = _; omega) (fun z => absurd z (by rw [w3]; decide))
      · rw [if_neg (by omega), if_neg (by omega), if_neg (by omega), if_neg (by omega), if_neg (by omega)]
        by_cases hz : (op k = 5 ∨ op k = 6) ∧ st.headD 0 = 0
        · rw [if_pos hz]; exact Or.inl rfl
        · rw [if_neg hz]
          refine ev_bool hw hb f (k + 1) _ (by omega) (by omega) ?_ (fun z => absurd z (by rw [w4]; decide))
          show st.tail.tail.length + 1 = _
          rw [List.length_tail, List.length_tail]
          omega
      · rw [if_neg (by omega), if_neg (by omega), if_neg (by omega), if_neg (by omega), if_neg (by omega), if_neg (by omega)]
        refine ev_bool hw hb f (k + 1) _ (by omega) (by omega) ?_ (fun _ => ?_)
        · show st.tail.tail.length + 1 = _
          rw [List.length_tail, List.length_tail]
          omega
        · show jn (op k) _ _ = 0 ∨ jn (op k) _ _ = 1
          rcases (show op k = 7 ∨ op k = 8 ∨ op k = 9 by omega) with e | e | e <;> rw [e] <;> exact bI_or
      · rw [if_neg (by omega), if_neg (by omega), if_pos ho]
        refine ev_bool hw hb f (k + 1) _ (by omega) (by omega) ?_ (fun _ => ?_)
        · show st.tail.length + 1 = _
          rw [List.length_tail]
          omega
        · show 1 - st.headD 0 = 0 ∨ 1 - st.headD 0 = 1
          rcases hbl w2 with e | e <;> rw [e] <;> decide
      · have hl : st.tail.length = 0 := by rw [List.length_tail]; omega
        rcases o1 with ho | ho
        · rw [if_neg (by omega), if_neg (by omega), if_neg (by omega), if_pos ho]
          split
          · exact ev_bool hw hb f (vl k) st (by omega) (by omega) (by omega) (fun _ => hbl w2)
          · exact ev_bool hw hb f (k + 1) _ (by omega) (by omega) (by omega) (fun z => absurd z (by rw [w4]; decide))
        · rw [if_neg (by omega), if_neg (by omega), if_neg (by omega), if_neg (by omega), if_pos ho]
          split
          · exact ev_bool hw hb f (vl k) st (by omega) (by omega) (by omega) (fun _ => hbl w2)
          · exact ev_bool hw hb f (k + 1) _ (by omega) (by omega) (by omega) (fun z => absurd z (by rw [w4]; decide))
    · have e : k = to := by omega
      subst e
      rw [evF, if_pos (Nat.le_refl k)]
      exact hbl hb
/-- a TEXT: how many CLAUSES; their letters; where E and C of each begin and end; the code -/
abbrev TXT : Type := Nat × (Nat → Nat) × (Nat → Nat) × (Nat → Nat) × (Nat → Nat) × (Nat → Nat) × (Nat → Nat) × Nat
def txOK (T : TXT) : Prop := match T with
  | (n, _, sf, cf, en, op, vl, len) => n ≤ 12 ∧ len ≤ 160 ∧ (∀ k, k < len → vl k < 1000000) ∧ ∀ j, j < n → en j ≤ len ∧ (∃ dp bl, wfC op vl dp bl (sf j) (cf j)) ∧ ∃ dp bl, wfC op vl dp bl (cf j) (en j) ∧ bl (en j) = true
def txC (σ : zSt) (t : Nat) (T : TXT) : Prop := match T with
  | (n, hd, sf, cf, en, op, vl, len) => σ t 6 = nI n ∧ σ t 1 = nI len ∧ (∀ j, j < n → σ (t + 2) j = nI (hd j) ∧ σ (t + 3) j = nI (sf j) ∧ σ (t + 4) j = nI (cf j) ∧ σ (t + 5) j = nI (en j)) ∧ ∀ k, k < len → σ (t + 1) k = nI (256 * vl k + ck (op k))
def txK (σ : zSt) (i : Nat) (T : TXT) : Prop := match T with
  | (n, hd, sf, cf, en, op, vl, len) => σ 170 i = nI n ∧ (∀ j, j < n → σ 171 (12 * i + j) = nI (hd j) ∧ σ 172 (12 * i + j) = nI (180 * i + sf j) ∧ σ 173 (12 * i + j) = nI (180 * i + cf j) ∧ σ 174 (12 * i + j) = nI (180 * i + en j)) ∧ ∀ k, k < len → σ 169 (180 * i + k) = nI (1048576 * op k + vl k)
def clp (most v : Int32) : Int32 := if v < 0 then 0 else if most < v then most else v
theorem clp_c {most v : Int32} (hm : 0 ≤ most) : (if 0 < (if v < most then v else most) then (if v < most then v else most) else 0) = clp most v := by
  unfold clp
  rw [fa_le] at hm
  simp only [fa_lt, Int32.toInt_zero] at *
  by_cases h1 : v.toInt < most.toInt
  · simp only [if_pos h1]
    by_cases h3 : 0 < v.toInt
    · rw [if_pos h3, if_neg (by omega), if_neg (by omega)]
    · rw [if_neg h3]
      by_cases h2 : v.toInt < 0
      · rw [if_pos h2]
      · rw [if_neg h2, if_neg (by omega), fa_eq]; simp only [Int32.toInt_zero]; omega
  · simp only [if_neg h1]
    by_cases h3 : 0 < most.toInt
    · rw [if_pos h3, if_neg (by omega)]
      by_cases h4 : most.toInt < v.toInt
      · rw [if_pos h4]
      · rw [if_neg h4, fa_eq]; omega
    · rw [if_neg h3, if_neg (by omega)]
      by_cases h4 : most.toInt < v.toInt
      · rw [if_pos h4, fa_eq]; simp only [Int32.toInt_zero]; omega
      · rw [if_neg h4, fa_eq]; simp only [Int32.toInt_zero]; omega
def pkL (hd sf cf en op vl : Nat → Nat) (fa : Nat → Int32) (h : Nat) (most : Int32) : Nat → Nat → Int32
  | 0, _ => 0
  | q + 1, j => if hd j = h ∧ evF op vl fa (en j) (en j - cf j) (cf j) [] = 1 then clp most (evF op vl fa (cf j) (cf j - sf j) (sf j) []) else pkL hd sf cf en op vl fa h most q (j + 1)
def pkF (T : TXT) (fa : Nat → Int32) (h : Nat) (most : Int32) : Int32 := match T with
  | (n, hd, sf, cf, en, op, vl, _) => pkL hd sf cf en op vl fa h most n 0
theorem zs_zs (σ : zSt) (a : Nat) (f g : Nat → Int32) : zs (zs σ a f) a g = zs σ a g := by
  funext b
  unfold zs
  by_cases h : b = a
  · rw [if_pos h, if_pos h]
  · rw [if_neg h, if_neg h, if_neg h]
set_option maxHeartbeats 4000000 in
set_option maxRecDepth 100000 in
theorem c_pick (t n len h : Nat) (hd sf cf en op vl : Nat → Nat) (most : Int32) (σ : zSt) (ht : isT t) (hok : txOK (n, hd, sf, cf, en, op, vl, len)) (hT : txC σ t (n, hd, sf, cf, en, op, vl, len)) (hh : h < 1000) (hhd : ∀ j, j < n → hd j < 1000) (hmost : 0 ≤ most) : Con mX7_pick 2 [.ref 13, .ref t, .int (nI h), .int most] σ (fun r τ => (∃ g, τ = zs σ 15 g) ∧ r = some (.int (pkF (n, hd, sf, cf, en, op, vl, len) (σ 14) h most))) := by
  refine Con.of (lv := [.ref 13, .ref t, .int (nI h), .int most, .long 0, .long 0]) mk_X7_pick rfl (Nat.le_of_ble_eq_true rfl) rfl (fun X F E => ?_)
  have htr := tx_rng ht
  obtain ⟨h12, hlen, hvl, hok⟩ := hok
  obtain ⟨hn, hl, hcl, hcode⟩ := hT
  have L : ∀ (q j : Nat) (g : Nat → Int32) (z : Value), j + q = n → pkL hd sf cf en op vl (σ 14) h most q j = pkL hd sf cf en op vl (σ 14) h most n 0 → Gs X 9 [.ref 13, .ref t, .int (nI h), .int most, .int (nI j), z] [] (zs σ 15 g) := by
    intro q
    induction q with
    | zero =>
      intro j g z hj hA
      have hj : j = n := hj
      subst hj
      refine g_iload (nx := 11) F dX7_pick_9 rfl rfl ?_
      refine g_aload_n (nx := 12) 1 F dX7_pick_11 rfl rfl rfl ?_
      refine g_getV (nx := 15) (nI j) F dX7_pick_12 rfl fl_RX7_18 (tx_k ht) (by decide) (by decide) (tx_6 ht) rfl (by rw [zs_ne σ (show t ≠ 15 by omega)]; exact hn) ?_
      refine g_icmp_ge (nx := 18) 96 F dX7_pick_15 rfl (by decide) (fun c_15 => ?_) (fun c_15 => absurd c_15 (by exact fun zq => zq (nI_le (Nat.le_refl j) (by omega))))
      refine g_iconst (nx := 97) (0) F dX7_pick_96 rfl rfl ?_
      refine g_iret F E dX7_pick_97 ?_
      exact ⟨⟨g, rfl⟩, by rw [pkF, ← hA]; rfl⟩
    | succ q ih =>
      intro j g z hj hA
      obtain ⟨k1, ⟨dp1, bl1, hw1⟩, dp2, bl2, hw2, hb2⟩ := hok j (by omega)
      have hbool := ev_bool (fa := σ 14) hw2 hb2 (en j - cf j) (cf j) [] (Nat.le_refl _) ⟨hw2.1, Nat.le_refl _⟩ hw2.2.1.symm (fun z => absurd z (by rw [hw2.2.2.1]; decide))
      have f1 := hw1.1
      have f2 := hw2.1
      have hhd := hhd j (by omega)
      rw [pkL] at hA
      refine g_iload (nx := 11) F dX7_pick_9 rfl rfl ?_
      refine g_aload_n (nx := 12) 1 F dX7_pick_11 rfl rfl rfl ?_
      refine g_getV (nx := 15) (nI n) F dX7_pick_12 rfl fl_RX7_18 (tx_k ht) (by decide) (by decide) (tx_6 ht) rfl (by rw [zs_ne σ (show t ≠ 15 by omega)]; exact hn) ?_
      refine g_icmp_ge (nx := 18) 96 F dX7_pick_15 rfl (by decide) (fun c_15 => absurd c_15 (by exact nI_ge (by omega) (by omega))) (fun c_15 => ?_)
      refine g_iload (nx := 20) F dX7_pick_18 rfl rfl ?_
      refine g_bipush (nx := 22) (12) F dX7_pick_20 rfl (by decide) ?_
      refine g_icmp_ge (nx := 25) 96 F dX7_pick_22 rfl (by decide) (fun c_22 => absurd c_22 (by exact nI_ge (b := 12) (by omega) (by omega))) (fun c_22 => ?_)
      refine g_aload_n (nx := 26) 1 F dX7_pick_25 rfl rfl rfl ?_
      refine g_getR (nx := 29) F dX7_pick_26 rfl fl_RX7_24 (tx_k ht) (by decide) (by decide) (tx_2 ht) ?_
      refine g_iload (nx := 31) F dX7_pick_29 rfl rfl ?_
      refine g_ialdN (nx := 32) (j) (nI (hd j)) F dX7_pick_31 rfl (tx_k2 ht) (by omega) (by rw [zs_ne σ (show t + 2 ≠ 15 by omega)]; exact (hcl j (by omega)).1) ?_
      refine g_iload_n (nx := 33) 2 F dX7_pick_32 rfl rfl rfl ?_
      refine g_icmp_ne (nx := 36) 90 F dX7_pick_33 rfl (by decide) (fun c_33 => ?_) (fun c_33 => ?_)
      · refine g_iinc (nx := 93) (1) F dX7_pick_90 rfl rfl (by decide) (by decide) ?_
        try dsimp only [List.set]
        refine g_goto 9 F dX7_pick_93 (by decide) ?_
        rw [nI_1]
        first
          | (rw [if_neg (by rintro ⟨z1, _⟩; exact c_33 (by rw [z1]))] at hA; exact ih (j + 1) _ _ (by omega) hA)
          | (rw [if_neg (by rintro ⟨_, z2⟩; exact absurd (z2.symm.trans (show evF op vl (σ 14) (en j) (en j - cf j) (cf j) [] = 0 from c_55)) (by decide))] at hA; exact ih (j + 1) _ _ (by omega) hA)
      · refine g_aload_n (nx := 37) 0 F dX7_pick_36 rfl rfl rfl ?_
        refine g_aload_n (nx := 38) 1 F dX7_pick_37 rfl rfl rfl ?_
        refine g_aload_n (nx := 39) 1 F dX7_pick_38 rfl rfl rfl ?_
        refine g_getR (nx := 42) F dX7_pick_39 rfl fl_RX7_27 (tx_k ht) (by decide) (by decide) (tx_4 ht) ?_
        refine g_iload (nx := 44) F dX7_pick_42 rfl rfl ?_
        refine g_ialdN (nx := 45) (j) (nI (cf j)) F dX7_pick_44 rfl (tx_k4 ht) (by omega) (by rw [zs_ne σ (show t + 4 ≠ 15 by omega)]; exact (hcl j (by omega)).2.2.1) ?_
        refine g_aload_n (nx := 46) 1 F dX7_pick_45 rfl rfl rfl ?_
        refine g_getR (nx := 49) F dX7_pick_46 rfl fl_RX7_30 (tx_k ht) (by decide) (by decide) (tx_5 ht) ?_
        refine g_iload (nx := 51) F dX7_pick_49 rfl rfl ?_
        refine g_ialdN (nx := 52) (j) (nI (en j)) F dX7_pick_51 rfl (tx_k5 ht) (by omega) (by rw [zs_ne σ (show t + 5 ≠ 15 by omega)]; exact (hcl j (by omega)).2.2.2) ?_
        refine g_callV (nx := 55) 3 1 [.ref t, .int (nI (cf j)), .int (nI (en j))] F dX7_pick_52 rfl ml_RX7_33 mo_X7_reckon rfl rfl rfl rfl (Nat.le_of_ble_eq_true rfl) (by first | decide | omega) (c_reckon t (cf j) (en j) len op vl dp2 bl2 (zs σ 15 _) ht (by rw [zs_ne σ (show t ≠ 15 by omega)]; exact hl) hlen (by omega) (fun k hk => by rw [zs_ne σ (show t + 1 ≠ 15 by omega)]; exact hcode k hk) hvl hw2) (fun r_52 τ_52 q_52 => ?_)
        obtain ⟨⟨g_52, et_52⟩, rfl⟩ := q_52
        rw [zs_zs] at et_52
        subst et_52
        dsimp only [Option.toList, List.append, List.cons_append, List.nil_append]
        refine g_if_eq (nx := 58) 90 F dX7_pick_55 rfl (by decide) (fun c_55 => ?_) (fun c_55 => ?_)
        · refine g_iinc (nx := 93) (1) F dX7_pick_90 rfl rfl (by decide) (by decide) ?_
          try dsimp only [List.set]
          refine g_goto 9 F dX7_pick_93 (by decide) ?_
          rw [nI_1]
          first
            | (rw [if_neg (by rintro ⟨z1, _⟩; exact c_33 (by rw [z1]))] at hA; exact ih (j + 1) _ _ (by omega) hA)
            | (rw [if_neg (by rintro ⟨_, z2⟩; exact absurd (z2.symm.trans (show evF op vl (σ 14) (en j) (en j - cf j) (cf j) [] = 0 from c_55)) (by decide))] at hA; exact ih (j + 1) _ _ (by omega) hA)
        · refine g_aload_n (nx := 59) 0 F dX7_pick_58 rfl rfl rfl ?_
          refine g_aload_n (nx := 60) 1 F dX7_pick_59 rfl rfl rfl ?_
          refine g_aload_n (nx := 61) 1 F dX7_pick_60 rfl rfl rfl ?_
          refine g_getR (nx := 64) F dX7_pick_61 rfl fl_RX7_37 (tx_k ht) (by decide) (by decide) (tx_3 ht) ?_
          refine g_iload (nx := 66) F dX7_pick_64 rfl rfl ?_
          refine g_ialdN (nx := 67) (j) (nI (sf j)) F dX7_pick_66 rfl (tx_k3 ht) (by omega) (by rw [zs_ne σ (show t + 3 ≠ 15 by omega)]; exact (hcl j (by omega)).2.1) ?_
          refine g_aload_n (nx := 68) 1 F dX7_pick_67 rfl rfl rfl ?_
          refine g_getR (nx := 71) F dX7_pick_68 rfl fl_RX7_27 (tx_k ht) (by decide) (by decide) (tx_4 ht) ?_
          refine g_iload (nx := 73) F dX7_pick_71 rfl rfl ?_
          refine g_ialdN (nx := 74) (j) (nI (cf j)) F dX7_pick_73 rfl (tx_k4 ht) (by omega) (by rw [zs_ne σ (show t + 4 ≠ 15 by omega)]; exact (hcl j (by omega)).2.2.1) ?_
          refine g_callV (nx := 77) 3 1 [.ref t, .int (nI (sf j)), .int (nI (cf j))] F dX7_pick_74 rfl ml_RX7_33 mo_X7_reckon rfl rfl rfl rfl (Nat.le_of_ble_eq_true rfl) (by first | decide | omega) (c_reckon t (sf j) (cf j) len op vl dp1 bl1 (zs σ 15 _) ht (by rw [zs_ne σ (show t ≠ 15 by omega)]; exact hl) hlen (by omega) (fun k hk => by rw [zs_ne σ (show t + 1 ≠ 15 by omega)]; exact hcode k hk) hvl hw1) (fun r_74 τ_74 q_74 => ?_)
          obtain ⟨⟨g_74, et_74⟩, rfl⟩ := q_74
          rw [zs_zs] at et_74
          subst et_74
          dsimp only [Option.toList, List.append, List.cons_append, List.nil_append]
          refine g_istore (nx := 79) F dX7_pick_77 rfl (by decide) ?_
          try dsimp only [List.set]
          refine g_iconst (nx := 80) (0) F dX7_pick_79 rfl rfl ?_
          refine g_iload_n (nx := 81) 3 F dX7_pick_80 rfl rfl rfl ?_
          refine g_iload (nx := 83) F dX7_pick_81 rfl rfl ?_
          refine g_mmin (nx := 86) F dX7_pick_83 rfl mm_Reckoner_40 (by omega) (Nat.le_of_ble_eq_true rfl) ?_
          refine g_mmax (nx := 89) F dX7_pick_86 rfl mm_Reckoner_46 (by omega) (Nat.le_of_ble_eq_true rfl) ?_
          refine g_top (clp most (evF op vl (σ 14) (cf j) (cf j - sf j) (sf j) [])) (clp_c hmost) ?_
          refine g_iret F E dX7_pick_89 ?_
          rw [if_pos ⟨(nI_eq (by omega) (by omega)).mp c_33, hbool.resolve_left c_55⟩] at hA
          exact ⟨⟨_, rfl⟩, by rw [pkF, ← hA]⟩
  refine g_aload_n (nx := 1) 1 F dX7_pick_0 rfl rfl rfl ?_
  refine g_ifnonnull 6 F dX7_pick_1 (by decide) ?_
  refine g_iconst (nx := 7) (0) F dX7_pick_6 rfl rfl ?_
  refine g_istore (nx := 9) F dX7_pick_7 rfl (by decide) ?_
  try dsimp only [List.set]
  refine g_st (zs σ 15 (σ 15)) (zs_id σ 15 _ rfl).symm ?_
  exact L n 0 (σ 15) _ (by omega) rfl
set_option maxHeartbeats 4000000 in
set_option maxRecDepth 100000 in
theorem k_byText (i n len h : Nat) (hd sf cf en op vl : Nat → Nat) (most : Int32) (σ : zSt) (hi : i < 12) (hok : txOK (n, hd, sf, cf, en, op, vl, len)) (hT : txK σ i (n, hd, sf, cf, en, op, vl, len)) (hh : h < 1000) (hhd : ∀ j, j < n → hd j < 1000) : Con mX12_byText 2 [.ref 145, .int (nI i), .int (nI h), .int most] σ (fun r τ => (∃ g, τ = zs σ 175 g) ∧ r = some (.int (pkF (n, hd, sf, cf, en, op, vl, len) (σ 176) h most))) := by
  refine Con.of (lv := [.ref 145, .int (nI i), .int (nI h), .int most, .long 0, .long 0]) mk_X12_byText rfl (Nat.le_of_ble_eq_true rfl) rfl (fun X F E => ?_)
  obtain ⟨h12, hlen, hvl, hok⟩ := hok
  obtain ⟨hn, hcl, hcode⟩ := hT
  have L : ∀ (q j : Nat) (g : Nat → Int32) (z : Value), j + q = n → pkL hd sf cf en op vl (σ 176) h most q j = pkL hd sf cf en op vl (σ 176) h most n 0 → Gs X 6 [.ref 145, .int (nI i), .int (nI h), .int most, .int (nI (12 * i + j)), z] [] (zs σ 175 g) := by
    intro q
    induction q with
    | zero =>
      intro j g z hj hA
      have hj : j = n := hj
      subst hj
      refine g_iload (nx := 8) F dX12_byText_6 rfl rfl ?_
      refine g_bipush (nx := 10) (12) F dX12_byText_8 rfl (by decide) ?_
      refine g_iload_n (nx := 11) 1 F dX12_byText_10 rfl rfl rfl ?_
      refine g_imul (nx := 12) F dX12_byText_11 rfl ?_
      refine g_aload_n (nx := 13) 0 F dX12_byText_12 rfl rfl rfl ?_
      refine g_getR (nx := 16) F dX12_byText_13 rfl fl_RX12_83 rfl (by decide) (by decide) rfl ?_
      refine g_iload_n (nx := 17) 1 F dX12_byText_16 rfl rfl rfl ?_
      refine g_ialdN (nx := 18) (i) (nI j) F dX12_byText_17 rfl rfl (by omega) (hn) ?_
      rw [show (12 : Int32) = nI 12 from rfl, pk_mul]
      refine g_iadd (nx := 19) F dX12_byText_18 rfl ?_
      rw [nI_add]
      refine g_icmp_ge (nx := 22) 106 F dX12_byText_19 rfl (by decide) (fun c_19 => ?_) (fun c_19 => absurd c_19 (by exact fun zq => zq (nI_le (Nat.le_refl (12 * i + j)) (by omega))))
      refine g_iconst (nx := 107) (0) F dX12_byText_106 rfl rfl ?_
      refine g_iret F E dX12_byText_107 ?_
      exact ⟨⟨g, rfl⟩, by rw [pkF, ← hA]; rfl⟩
    | succ q ih =>
      intro j g z hj hA
      obtain ⟨k1, ⟨dp1, bl1, hw1⟩, dp2, bl2, hw2, hb2⟩ := hok j (by omega)
      have f1 := hw1.1
      have f2 := hw2.1
      have hhd := hhd j (by omega)
      rw [pkL] at hA
      refine g_iload (nx := 8) F dX12_byText_6 rfl rfl ?_
      refine g_bipush (nx := 10) (12) F dX12_byText_8 rfl (by decide) ?_
      refine g_iload_n (nx := 11) 1 F dX12_byText_10 rfl rfl rfl ?_
      refine g_imul (nx := 12) F dX12_byText_11 rfl ?_
      refine g_aload_n (nx := 13) 0 F dX12_byText_12 rfl rfl rfl ?_
      refine g_getR (nx := 16) F dX12_byText_13 rfl fl_RX12_83 rfl (by decide) (by decide) rfl ?_
      refine g_iload_n (nx := 17) 1 F dX12_byText_16 rfl rfl rfl ?_
      refine g_ialdN (nx := 18) (i) (nI n) F dX12_byText_17 rfl rfl (by omega) (hn) ?_
      rw [show (12 : Int32) = nI 12 from rfl, pk_mul]
      refine g_iadd (nx := 19) F dX12_byText_18 rfl ?_
      rw [nI_add]
      refine g_icmp_ge (nx := 22) 106 F dX12_byText_19 rfl (by decide) (fun c_19 => absurd c_19 (by exact nI_ge (by omega) (by omega))) (fun c_19 => ?_)
      refine g_aload_n (nx := 23) 0 F dX12_byText_22 rfl rfl rfl ?_
      refine g_getR (nx := 26) F dX12_byText_23 rfl fl_RX12_86 rfl (by decide) (by decide) rfl ?_
      refine g_iload (nx := 28) F dX12_byText_26 rfl rfl ?_
      refine g_ialdN (nx := 29) ((12 * i + j)) (nI (hd j)) F dX12_byText_28 rfl rfl (by omega) ((hcl j (by omega)).1) ?_
      refine g_iload_n (nx := 30) 2 F dX12_byText_29 rfl rfl rfl ?_
      refine g_icmp_ne (nx := 33) 100 F dX12_byText_30 rfl (by decide) (fun c_30 => ?_) (fun c_30 => ?_)
      · refine g_iinc (nx := 103) (1) F dX12_byText_100 rfl rfl (by decide) (by decide) ?_
        try dsimp only [List.set]
        refine g_goto 6 F dX12_byText_103 (by decide) ?_
        rw [nI_1, Nat.add_assoc]
        first
          | (rw [if_neg (by rintro ⟨z1, _⟩; exact c_30 (by rw [z1]))] at hA; exact ih (j + 1) _ _ (by omega) hA)
          | (rw [if_neg (by rintro ⟨_, z2⟩; exact c_52 z2)] at hA; exact ih (j + 1) _ _ (by omega) hA)
      · refine g_aload_n (nx := 34) 0 F dX12_byText_33 rfl rfl rfl ?_
        refine g_aload_n (nx := 35) 0 F dX12_byText_34 rfl rfl rfl ?_
        refine g_getR (nx := 38) F dX12_byText_35 rfl fl_RX12_92 rfl (by decide) (by decide) rfl ?_
        refine g_iload (nx := 40) F dX12_byText_38 rfl rfl ?_
        refine g_ialdN (nx := 41) ((12 * i + j)) (nI (180 * i + cf j)) F dX12_byText_40 rfl rfl (by omega) ((hcl j (by omega)).2.2.1) ?_
        refine g_aload_n (nx := 42) 0 F dX12_byText_41 rfl rfl rfl ?_
        refine g_getR (nx := 45) F dX12_byText_42 rfl fl_RX12_95 rfl (by decide) (by decide) rfl ?_
        refine g_iload (nx := 47) F dX12_byText_45 rfl rfl ?_
        refine g_ialdN (nx := 48) ((12 * i + j)) (nI (180 * i + en j)) F dX12_byText_47 rfl rfl (by omega) ((hcl j (by omega)).2.2.2) ?_
        refine g_callV (nx := 51) 2 1 [.int (nI (180 * i + cf j)), .int (nI (180 * i + en j))] F dX12_byText_48 rfl ml_RX12_302 mo_X12_comesTo rfl rfl rfl rfl (Nat.le_of_ble_eq_true rfl) (by first | decide | omega) (k_comesTo (180 * i) i (cf j) (en j) len op vl dp2 bl2 (zs σ 175 _) rfl hi hlen (by omega) hcode hvl hw2) (fun r_48 τ_48 q_48 => ?_)
        obtain ⟨⟨g_48, et_48⟩, rfl⟩ := q_48
        rw [zs_zs] at et_48
        subst et_48
        dsimp only [Option.toList, List.append, List.cons_append, List.nil_append]
        refine g_iconst (nx := 52) (1) F dX12_byText_51 rfl rfl ?_
        refine g_icmp_eq (nx := 55) 58 F dX12_byText_52 rfl (by decide) (fun c_52 => ?_) (fun c_52 => ?_)
        · refine g_aload_n (nx := 59) 0 F dX12_byText_58 rfl rfl rfl ?_
          refine g_aload_n (nx := 60) 0 F dX12_byText_59 rfl rfl rfl ?_
          refine g_getR (nx := 63) F dX12_byText_60 rfl fl_RX12_89 rfl (by decide) (by decide) rfl ?_
          refine g_iload (nx := 65) F dX12_byText_63 rfl rfl ?_
          refine g_ialdN (nx := 66) ((12 * i + j)) (nI (180 * i + sf j)) F dX12_byText_65 rfl rfl (by omega) ((hcl j (by omega)).2.1) ?_
          refine g_aload_n (nx := 67) 0 F dX12_byText_66 rfl rfl rfl ?_
          refine g_getR (nx := 70) F dX12_byText_67 rfl fl_RX12_92 rfl (by decide) (by decide) rfl ?_
          refine g_iload (nx := 72) F dX12_byText_70 rfl rfl ?_
          refine g_ialdN (nx := 73) ((12 * i + j)) (nI (180 * i + cf j)) F dX12_byText_72 rfl rfl (by omega) ((hcl j (by omega)).2.2.1) ?_
          refine g_callV (nx := 76) 2 1 [.int (nI (180 * i + sf j)), .int (nI (180 * i + cf j))] F dX12_byText_73 rfl ml_RX12_302 mo_X12_comesTo rfl rfl rfl rfl (Nat.le_of_ble_eq_true rfl) (by first | decide | omega) (k_comesTo (180 * i) i (sf j) (cf j) len op vl dp1 bl1 (zs σ 175 _) rfl hi hlen (by omega) hcode hvl hw1) (fun r_73 τ_73 q_73 => ?_)
          obtain ⟨⟨g_73, et_73⟩, rfl⟩ := q_73
          rw [zs_zs] at et_73
          subst et_73
          dsimp only [Option.toList, List.append, List.cons_append, List.nil_append]
          refine g_istore (nx := 78) F dX12_byText_76 rfl (by decide) ?_
          try dsimp only [List.set]
          refine g_iload (nx := 80) F dX12_byText_78 rfl rfl ?_
          refine g_if_ge (nx := 83) 87 F dX12_byText_80 rfl (by decide) (fun c_80 => ?_) (fun c_80 => ?_)
          · refine g_iload (nx := 89) F dX12_byText_87 rfl rfl ?_
            refine g_iload_n (nx := 90) 3 F dX12_byText_89 rfl rfl rfl ?_
            refine g_icmp_le (nx := 93) 97 F dX12_byText_90 rfl (by decide) (fun c_90 => ?_) (fun c_90 => ?_)
            · refine g_iload (nx := 99) F dX12_byText_97 rfl rfl ?_
              refine g_iret F E dX12_byText_99 ?_
              rw [if_pos ⟨(nI_eq (by omega) (by omega)).mp c_30, c_52⟩] at hA
              refine ⟨⟨_, rfl⟩, ?_⟩
              rw [pkF, ← hA]
              unfold clp
              first
                | rw [if_neg (show ¬ (evF op vl (σ 176) (cf j) (cf j - sf j) (sf j) []) < 0 from not_lt_I.mpr c_80), if_pos (show most < (evF op vl (σ 176) (cf j) (cf j - sf j) (sf j) []) from not_le_I.mp c_90)]
                | (rw [if_neg (show ¬ (evF op vl (σ 176) (cf j) (cf j - sf j) (sf j) []) < 0 from not_lt_I.mpr c_80), if_neg (show ¬ most < (evF op vl (σ 176) (cf j) (cf j - sf j) (sf j) []) from not_lt_I.mpr c_90)]; rfl)
                | rw [if_pos (show (evF op vl (σ 176) (cf j) (cf j - sf j) (sf j) []) < 0 from not_le_I.mp c_80)]
            · refine g_iload_n (nx := 94) 3 F dX12_byText_93 rfl rfl rfl ?_
              refine g_goto 99 F dX12_byText_94 (by decide) ?_
              refine g_iret F E dX12_byText_99 ?_
              rw [if_pos ⟨(nI_eq (by omega) (by omega)).mp c_30, c_52⟩] at hA
              refine ⟨⟨_, rfl⟩, ?_⟩
              rw [pkF, ← hA]
              unfold clp
              first
                | rw [if_neg (show ¬ (evF op vl (σ 176) (cf j) (cf j - sf j) (sf j) []) < 0 from not_lt_I.mpr c_80), if_pos (show most < (evF op vl (σ 176) (cf j) (cf j - sf j) (sf j) []) from not_le_I.mp c_90)]
                | (rw [if_neg (show ¬ (evF op vl (σ 176) (cf j) (cf j - sf j) (sf j) []) < 0 from not_lt_I.mpr c_80), if_neg (show ¬ most < (evF op vl (σ 176) (cf j) (cf j - sf j) (sf j) []) from not_lt_I.mpr c_90)]; rfl)
                | rw [if_pos (show (evF op vl (σ 176) (cf j) (cf j - sf j) (sf j) []) < 0 from not_le_I.mp c_80)]
          · refine g_iconst (nx := 84) (0) F dX12_byText_83 rfl rfl ?_
            refine g_goto 99 F dX12_byText_84 (by decide) ?_
            refine g_iret F E dX12_byText_99 ?_
            rw [if_pos ⟨(nI_eq (by omega) (by omega)).mp c_30, c_52⟩] at hA
            refine ⟨⟨_, rfl⟩, ?_⟩
            rw [pkF, ← hA]
            unfold clp
            first
              | rw [if_neg (show ¬ (evF op vl (σ 176) (cf j) (cf j - sf j) (sf j) []) < 0 from not_lt_I.mpr c_80), if_pos (show most < (evF op vl (σ 176) (cf j) (cf j - sf j) (sf j) []) from not_le_I.mp c_90)]
              | (rw [if_neg (show ¬ (evF op vl (σ 176) (cf j) (cf j - sf j) (sf j) []) < 0 from not_lt_I.mpr c_80), if_neg (show ¬ most < (evF op vl (σ 176) (cf j) (cf j - sf j) (sf j) []) from not_lt_I.mpr c_90)]; rfl)
              | rw [if_pos (show (evF op vl (σ 176) (cf j) (cf j - sf j) (sf j) []) < 0 from not_le_I.mp c_80)]
        · refine g_goto 100 F dX12_byText_55 (by decide) ?_
          refine g_iinc (nx := 103) (1) F dX12_byText_100 rfl rfl (by decide) (by decide) ?_
          try dsimp only [List.set]
          refine g_goto 6 F dX12_byText_103 (by decide) ?_
          rw [nI_1, Nat.add_assoc]
          first
            | (rw [if_neg (by rintro ⟨z1, _⟩; exact c_30 (by rw [z1]))] at hA; exact ih (j + 1) _ _ (by omega) hA)
            | (rw [if_neg (by rintro ⟨_, z2⟩; exact c_52 z2)] at hA; exact ih (j + 1) _ _ (by omega) hA)
  refine g_bipush (nx := 2) (12) F dX12_byText_0 rfl (by decide) ?_
  refine g_iload_n (nx := 3) 1 F dX12_byText_2 rfl rfl rfl ?_
  refine g_imul (nx := 4) F dX12_byText_3 rfl ?_
  rw [show (12 : Int32) = nI 12 from rfl, pk_mul]
  refine g_istore (nx := 6) F dX12_byText_4 rfl (by decide) ?_
  try dsimp only [List.set]
  refine g_st (zs σ 175 (σ 175)) (zs_id σ 175 _ rfl).symm ?_
  exact L n 0 (σ 175) _ (by omega) rfl
