theorem st_sw (σ : zSt) (f g f2 g2 : Nat → Int32) (a b : Int32) : zu (zs (zs (zu (zs (zs σ 59 f) 60 g) 55 6 a) 59 f2) 60 g2) 55 6 b = zu (zs (zs σ 59 f2) 60 g2) 55 6 b := by
  funext c
  unfold zu zs
  by_cases h1 : c = 55
  · subst h1
    simp [upd]
    funext k
    simp only [upd]
    split <;> rfl
  · by_cases h2 : c = 59
    · subst h2; simp
    · by_cases h3 : c = 60
      · subst h3; simp
      · simp [h1, h2, h3]
theorem st_zs2 (σ : zSt) (f g : Nat → Int32) (b : Int32) (h1 : σ 59 = f) (h2 : σ 60 = g) (h3 : σ 55 6 = b) : zu (zs (zs σ 59 f) 60 g) 55 6 b = σ := by
  rw [zs_id σ 59 f h1, zs_id σ 60 g h2, zu_zs, zs_id]
  funext k
  unfold upd
  by_cases e : k = 6
  · rw [if_pos e, e, h3]
  · rw [if_neg e]
theorem sw_mono_w {c n : Nat} {S : Nat → Nat} {L M : Nat → Int32} {lo hi : Nat → Int32} (hG : okG c n S L M) (hr : rgB c lo hi) (ht : (swL S L M lo hi n).2.2.2 = false) : wid c (swL S L M lo hi n).1 (swL S L M lo hi n).2.1 ≤ wid c lo hi := by
  have := (sw_A hG hr n (Nat.le_refl n) ht).2
  split at this <;> omega
set_option maxHeartbeats 4000000 in
set_option maxRecDepth 100000 in
theorem c_addBetweenN (n : Nat) (x y z : Int32) (σ : zSt) (hn : σ 55 3 = nI n) (h : n = 8) : Con mX0_addBetween 2 [.ref 55, .int x, .int y, .int z] σ (fun r τ => r = some (.int (-1)) ∧ τ = σ) := by
  refine Con.of (lv := [.ref 55, .int x, .int y, .int z, .long 0, .long 0, .long 0]) mk_X0_addBetween rfl (Nat.le_of_ble_eq_true rfl) rfl (fun X F E => ?_)
  refine g_aload_n (nx := 1) 0 F dX0_addBetween_0 rfl rfl rfl ?_
  refine g_getV (nx := 4) (nI n) F dX0_addBetween_1 rfl fl_RX0_33 rfl (by decide) (by decide) rfl rfl (hn) ?_
  refine g_bipush (nx := 6) (8) F dX0_addBetween_4 rfl (by decide) ?_
  refine g_icmp_lt (nx := 9) 11 F dX0_addBetween_6 rfl (by decide) (fun c_6 => absurd c_6 (by exact nI_nlt (a := n) (b := 8) (by omega) (by omega))) (fun c_6 => ?_)
  refine g_iconst (nx := 10) (-1) F dX0_addBetween_9 rfl rfl ?_
  refine g_iret F E dX0_addBetween_10 ?_
  exact ⟨rfl, rfl⟩
set_option maxHeartbeats 4000000 in
set_option maxRecDepth 100000 in
theorem c_addBetween (c n : Nat) (S : Nat → Nat) (L M : Nat → Int32) (tv : Prop) [Decidable tv] (σ : zSt) (hn : σ 55 3 = nI n) (h : n < 8) (hG : okG c (n + 1) S L M) (hold : ∀ g, g < n → σ 56 g = nI (S g) ∧ σ 57 g = L g ∧ σ 58 g = M g) (ht : σ 55 6 = bI tv) (hI : GrI c n S L M (σ 59) (σ 60) tv) : Con mX0_addBetween 2 [.ref 55, .int (nI (S n)), .int (L n), .int (M n)] σ (fun r τ => r = some (.int (nI n)) ∧ ∃ (lo hi : Nat → Int32) (tv2 : Prop) (_ : Decidable tv2), τ = (zu (zs (zs (zu (zu (zu (zu σ 56 n (nI (S n))) 57 n (L n)) 58 n (M n)) 55 3 (nI (n + 1))) 59 lo) 60 hi) 55 6 (bI tv2)) ∧ GrI c (n + 1) S L M lo hi tv2 ∧ ∀ q, c ≤ q → lo q = σ 59 q ∧ hi q = σ 60 q) := by
  refine Con.of (lv := [.ref 55, .int (nI (S n)), .int (L n), .int (M n), .long 0, .long 0, .long 0]) mk_X0_addBetween rfl (Nat.le_of_ble_eq_true rfl) rfl (fun X F E => ?_)
  have hSg : ∀ g, g < n + 1 → (zu (zu (zu (zu σ 56 n (nI (S n))) 57 n (L n)) 58 n (M n)) 55 3 (nI (n + 1))) 56 g = nI (S g) ∧ (zu (zu (zu (zu σ 56 n (nI (S n))) 57 n (L n)) 58 n (M n)) 55 3 (nI (n + 1))) 57 g = L g ∧ (zu (zu (zu (zu σ 56 n (nI (S n))) 57 n (L n)) 58 n (M n)) 55 3 (nI (n + 1))) 58 g = M g := by
    intro g hg
    show upd (σ 56) n (nI (S n)) g = _ ∧ upd (σ 57) n (L n) g = _ ∧ upd (σ 58) n (M n) g = _
    unfold upd
    by_cases e : g = n
    · rw [if_pos e, if_pos e, if_pos e, e]; exact ⟨rfl, rfl, rfl⟩
    · rw [if_neg e, if_neg e, if_neg e]; exact hold g (by omega)
  have LS : ∀ (lo hi : Nat → Int32) (rd : Nat) (K : ∀ z : Value, Gs X 108 [.ref 55, .int (nI (S n)), .int (L n), .int (M n), .int (bI ((swL S L M lo hi (n + 1)).2.2.1 = true)), .int (nI rd), z] [] (zu (zs (zs (zu (zu (zu (zu σ 56 n (nI (S n))) 57 n (L n)) 58 n (M n)) 55 3 (nI (n + 1))) 59 (swL S L M lo hi (n + 1)).1) 60 (swL S L M lo hi (n + 1)).2.1) 55 6 (bI ((swL S L M lo hi (n + 1)).2.2.2 = true)))) (q g : Nat), g + q = n + 1 → Gs X 82 [.ref 55, .int (nI (S n)), .int (L n), .int (M n), .int (bI ((swL S L M lo hi g).2.2.1 = true)), .int (nI rd), .int (nI g)] [] (zu (zs (zs (zu (zu (zu (zu σ 56 n (nI (S n))) 57 n (L n)) 58 n (M n)) 55 3 (nI (n + 1))) 59 (swL S L M lo hi g).1) 60 (swL S L M lo hi g).2.1) 55 6 (bI ((swL S L M lo hi g).2.2.2 = true))) := by
    intro lo hi rd K q
    induction q with
    | zero =>
      intro g hg
      have hg : g = n + 1 := hg
      subst hg
      refine g_iload (nx := 84) F dX0_addBetween_82 rfl rfl ?_
      refine g_aload_n (nx := 85) 0 F dX0_addBetween_84 rfl rfl rfl ?_
      refine g_getV (nx := 88) (nI (n + 1)) F dX0_addBetween_85 rfl fl_RX0_33 rfl (by decide) (by decide) rfl rfl (rfl) ?_
      refine g_icmp_ge (nx := 91) 108 F dX0_addBetween_88 rfl (by decide) (fun c_88 => ?_) (fun c_88 => absurd c_88 (by exact fun zq => zq (nI_le (Nat.le_refl (n + 1)) (by omega))))
      exact K _
    | succ q ih =>
      intro g hg
      have hh := ih (g + 1) (by omega)
      rw [show bI ((swL S L M lo hi (g + 1)).2.2.1 = true) = bI ((swL S L M lo hi g).2.2.1 = true) ||| bI ((nwL (S g) (L g) (M g) (swL S L M lo hi g).1 (swL S L M lo hi g).2.1 10).2.2.1 = true) from by rw [or_bI]; exact bI_c (by show (((swL S L M lo hi g).2.2.1 || _) = true) ↔ _; simp), show bI ((swL S L M lo hi (g + 1)).2.2.2 = true) = bI (((swL S L M lo hi g).2.2.2 = true) ∨ (nwL (S g) (L g) (M g) (swL S L M lo hi g).1 (swL S L M lo hi g).2.1 10).2.2.2 = true) from bI_c (by show (((swL S L M lo hi g).2.2.2 || _) = true) ↔ _; simp)] at hh
      have hq := hG.2 g (by omega)
      have hs1 : S g < 1024 := Nat.lt_of_lt_of_le hq.1 (Nat.pow_le_pow_right (n := 2) (j := 10) (by decide) hG.1)
      refine g_iload (nx := 84) F dX0_addBetween_82 rfl rfl ?_
      refine g_aload_n (nx := 85) 0 F dX0_addBetween_84 rfl rfl rfl ?_
      refine g_getV (nx := 88) (nI (n + 1)) F dX0_addBetween_85 rfl fl_RX0_33 rfl (by decide) (by decide) rfl rfl (rfl) ?_
      refine g_icmp_ge (nx := 91) 108 F dX0_addBetween_88 rfl (by decide) (fun c_88 => absurd c_88 (by exact nI_ge (by omega) (by omega))) (fun c_88 => ?_)
      refine g_iload (nx := 93) F dX0_addBetween_91 rfl rfl ?_
      refine g_aload_n (nx := 94) 0 F dX0_addBetween_93 rfl rfl rfl ?_
      refine g_iload (nx := 96) F dX0_addBetween_94 rfl rfl ?_
      refine g_callV (nx := 99) 1 1 [.int (nI g)] F dX0_addBetween_96 rfl ml_RX0_42 mo_X0_narrow rfl rfl rfl rfl (Nat.le_of_ble_eq_true rfl) (by first | decide | omega) (c_narrow g (S g) (L g) (M g) ((swL S L M lo hi g).2.2.2 = true) _ (by omega) hs1 (hSg g (by omega)).1 (hSg g (by omega)).2.1 (hSg g (by omega)).2.2 rfl) (fun r_96 τ_96 q_96 => ?_)
      obtain ⟨rfl, et_96⟩ := q_96
      have et_96 := et_96.symm
      subst et_96
      dsimp only [Option.toList, List.append, List.cons_append, List.nil_append]
      refine g_ior (nx := 100) F dX0_addBetween_99 rfl ?_
      refine g_istore (nx := 102) F dX0_addBetween_100 rfl (by decide) ?_
      try dsimp only [List.set]
      refine g_iinc (nx := 105) (1) F dX0_addBetween_102 rfl rfl (by decide) (by decide) ?_
      try dsimp only [List.set]
      refine g_goto 82 F dX0_addBetween_105 (by decide) ?_
      rw [nI_1]
      refine g_st _ ?_ hh
      exact st_sw _ _ _ _ _ _ _
  have LO : ∀ (f : Nat) (lo hi : Nat → Int32) (ch : Prop) [Decidable ch] (rd : Nat) (z : Value), (ch → (wid c lo hi).toNat + 1 ≤ f) → rd + (wid c lo hi).toNat ≤ 100000 ∨ ¬ ch → rgB c lo hi → (∀ a b, Sol c (n + 1) S L M a b → cont c lo hi a b) → (¬ ch → Gr c (n + 1) S L M lo hi) → (∀ q, c ≤ q → lo q = σ 59 q ∧ hi q = σ 60 q) → Gs X 57 [.ref 55, .int (nI (S n)), .int (L n), .int (M n), .int (bI ch), .int (nI rd), z] [] (zu (zs (zs (zu (zu (zu (zu σ 56 n (nI (S n))) 57 n (L n)) 58 n (M n)) 55 3 (nI (n + 1))) 59 lo) 60 hi) 55 6 (bI (False))) := by
    intro f
    induction f with
    | zero =>
      intro lo hi ch _ rd z hf hrd hr hC hg hout
      by_cases hch : ch
      · have := hf hch; omega
      · refine g_iload (nx := 59) F dX0_addBetween_57 rfl rfl ?_
        refine g_if_eq (nx := 62) 114 F dX0_addBetween_59 rfl (by decide) (fun c_59 => ?_) (fun c_59 => absurd c_59 (by exact fun zq => zq (bI_f hch)))
        refine g_aload_n (nx := 115) 0 F dX0_addBetween_114 rfl rfl rfl ?_
        refine g_getV (nx := 118) (nI (n + 1)) F dX0_addBetween_115 rfl fl_RX0_33 rfl (by decide) (by decide) rfl rfl (rfl) ?_
        refine g_iconst (nx := 119) (1) F dX0_addBetween_118 rfl rfl ?_
        refine g_isub (nx := 120) F dX0_addBetween_119 rfl ?_
        refine g_iret F E dX0_addBetween_120 ?_
        exact ⟨by rw [nI_pred], lo, hi, False, inferInstance, rfl, Or.inl ⟨fun z => z, hg hch⟩, hout⟩
    | succ f ih =>
      intro lo hi ch _ rd z hf hrd hr hC hg hout
      by_cases hch : ch
      · have hf := hf hch
        have hrd : rd + (wid c lo hi).toNat ≤ 100000 := hrd.resolve_right (fun z => z hch)
        obtain ⟨k1, k2⟩ := sweep_ok hG hr hC
        have hwn := wid_nn hr
        have hso := sw_out (lo := lo) (hi := hi) hG (n + 1) (Nat.le_refl _)
        have KK : ∀ z : Value, Gs X 108 [.ref 55, .int (nI (S n)), .int (L n), .int (M n), .int (bI ((swL S L M lo hi (n + 1)).2.2.1 = true)), .int (nI rd), z] [] (zu (zs (zs (zu (zu (zu (zu σ 56 n (nI (S n))) 57 n (L n)) 58 n (M n)) 55 3 (nI (n + 1))) 59 (swL S L M lo hi (n + 1)).1) 60 (swL S L M lo hi (n + 1)).2.1) 55 6 (bI ((swL S L M lo hi (n + 1)).2.2.2 = true))) := by
          intro z
          by_cases ht : (swL S L M lo hi (n + 1)).2.2.2 = true
          · rw [bI_t ht]
            refine g_iinc (nx := 111) (1) F dX0_addBetween_108 rfl rfl (by decide) (by decide) ?_
            try dsimp only [List.set]
            rw [nI_1]
            refine g_goto 57 F dX0_addBetween_111 (by decide) ?_
            refine g_iload (nx := 59) F dX0_addBetween_57 rfl rfl ?_
            refine g_if_eq (nx := 62) 114 F dX0_addBetween_59 rfl (by decide) (fun c_59 => ?_) (fun c_59 => ?_)
            · refine g_aload_n (nx := 115) 0 F dX0_addBetween_114 rfl rfl rfl ?_
              refine g_getV (nx := 118) (nI (n + 1)) F dX0_addBetween_115 rfl fl_RX0_33 rfl (by decide) (by decide) rfl rfl (rfl) ?_
              refine g_iconst (nx := 119) (1) F dX0_addBetween_118 rfl rfl ?_
              refine g_isub (nx := 120) F dX0_addBetween_119 rfl ?_
              refine g_iret F E dX0_addBetween_120 ?_
              exact ⟨by rw [nI_pred], (swL S L M lo hi (n + 1)).1, (swL S L M lo hi (n + 1)).2.1, True, inferInstance, rfl, Or.inr ⟨trivial, k1 ht⟩, fun q hq => by rw [(hso q hq).1, (hso q hq).2]; exact hout q hq⟩
            · refine g_aload_n (nx := 63) 0 F dX0_addBetween_62 rfl rfl rfl ?_
              refine g_getV (nx := 66) (1) F dX0_addBetween_63 rfl fl_RX0_37 rfl (by decide) (by decide) rfl rfl (rfl) ?_
              refine g_if_ne (nx := 69) 114 F dX0_addBetween_66 rfl (by decide) (fun c_66 => ?_) (fun c_66 => absurd c_66 (by decide))
              refine g_aload_n (nx := 115) 0 F dX0_addBetween_114 rfl rfl rfl ?_
              refine g_getV (nx := 118) (nI (n + 1)) F dX0_addBetween_115 rfl fl_RX0_33 rfl (by decide) (by decide) rfl rfl (rfl) ?_
              refine g_iconst (nx := 119) (1) F dX0_addBetween_118 rfl rfl ?_
              refine g_isub (nx := 120) F dX0_addBetween_119 rfl ?_
              refine g_iret F E dX0_addBetween_120 ?_
              exact ⟨by rw [nI_pred], (swL S L M lo hi (n + 1)).1, (swL S L M lo hi (n + 1)).2.1, True, inferInstance, rfl, Or.inr ⟨trivial, k1 ht⟩, fun q hq => by rw [(hso q hq).1, (hso q hq).2]; exact hout q hq⟩
          · rw [bI_f ht]
            have ht : (swL S L M lo hi (n + 1)).2.2.2 = false := by simpa using ht
            obtain ⟨r1, r2, r3, r4⟩ := k2 ht
            refine g_iinc (nx := 111) (1) F dX0_addBetween_108 rfl rfl (by decide) (by decide) ?_
            try dsimp only [List.set]
            rw [nI_1]
            refine g_goto 57 F dX0_addBetween_111 (by decide) ?_
            have hw2 := wid_nn r1
            refine ih _ _ ((swL S L M lo hi (n + 1)).2.2.1 = true) (rd + 1) _ (fun hc2 => ?_) ?_ r1 r2 (fun z => r3 (by simpa using z)) (fun q hq => by rw [(hso q hq).1, (hso q hq).2]; exact hout q hq)
            · have := r4 hc2; omega
            · by_cases hc2 : (swL S L M lo hi (n + 1)).2.2.1 = true
              · have := r4 hc2; exact Or.inl (by omega)
              · exact Or.inr hc2
        refine g_iload (nx := 59) F dX0_addBetween_57 rfl rfl ?_
        refine g_if_eq (nx := 62) 114 F dX0_addBetween_59 rfl (by decide) (fun c_59 => absurd c_59 (by exact bI_n0.mpr hch)) (fun c_59 => ?_)
        refine g_aload_n (nx := 63) 0 F dX0_addBetween_62 rfl rfl rfl ?_
        refine g_getV (nx := 66) (0) F dX0_addBetween_63 rfl fl_RX0_37 rfl (by decide) (by decide) rfl rfl (rfl) ?_
        refine g_if_ne (nx := 69) 114 F dX0_addBetween_66 rfl (by decide) (fun c_66 => absurd c_66 (by exact fun zq => zq rfl)) (fun c_66 => ?_)
        refine g_iload (nx := 71) F dX0_addBetween_69 rfl rfl ?_
        refine g_ldc (nx := 73) (1000000) F dX0_addBetween_71 rfl co_RX0_41 ?_
        refine g_icmp_ge (nx := 76) 114 F dX0_addBetween_73 rfl (by decide) (fun c_73 => absurd c_73 (by exact nI_ge (b := 1000000) (by omega) (by omega))) (fun c_73 => ?_)
        refine g_iconst (nx := 77) (0) F dX0_addBetween_76 rfl rfl ?_
        refine g_istore (nx := 79) F dX0_addBetween_77 rfl (by decide) ?_
        try dsimp only [List.set]
        refine g_iconst (nx := 80) (0) F dX0_addBetween_79 rfl rfl ?_
        refine g_istore (nx := 82) F dX0_addBetween_80 rfl (by decide) ?_
        try dsimp only [List.set]
        have hh := LS lo hi rd KK (n + 1) 0 (by omega)
        rw [bI_f (show ¬ ((swL S L M lo hi 0).2.2.1 = true) from by simp [swL]), bI_f (show ¬ ((swL S L M lo hi 0).2.2.2 = true) from by simp [swL])] at hh
        exact hh
      · refine g_iload (nx := 59) F dX0_addBetween_57 rfl rfl ?_
        refine g_if_eq (nx := 62) 114 F dX0_addBetween_59 rfl (by decide) (fun c_59 => ?_) (fun c_59 => absurd c_59 (by exact fun zq => zq (bI_f hch)))
        refine g_aload_n (nx := 115) 0 F dX0_addBetween_114 rfl rfl rfl ?_
        refine g_getV (nx := 118) (nI (n + 1)) F dX0_addBetween_115 rfl fl_RX0_33 rfl (by decide) (by decide) rfl rfl (rfl) ?_
        refine g_iconst (nx := 119) (1) F dX0_addBetween_118 rfl rfl ?_
        refine g_isub (nx := 120) F dX0_addBetween_119 rfl ?_
        refine g_iret F E dX0_addBetween_120 ?_
        exact ⟨by rw [nI_pred], lo, hi, False, inferInstance, rfl, Or.inl ⟨fun z => z, hg hch⟩, hout⟩
  by_cases htv : tv
  · have hno : ¬ ∃ a b, Sol c (n + 1) S L M a b := by
      rcases hI with ⟨z, _⟩ | ⟨_, z⟩
      · exact absurd htv z
      · exact fun ⟨a, b, hab⟩ => z ⟨a, b, Sol_less (fun g _ => ⟨rfl, rfl, rfl⟩) hab⟩
    rw [bI_t htv] at ht
    refine g_aload_n (nx := 1) 0 F dX0_addBetween_0 rfl rfl rfl ?_
    refine g_getV (nx := 4) (nI n) F dX0_addBetween_1 rfl fl_RX0_33 rfl (by decide) (by decide) rfl rfl (hn) ?_
    refine g_bipush (nx := 6) (8) F dX0_addBetween_4 rfl (by decide) ?_
    refine g_icmp_lt (nx := 9) 11 F dX0_addBetween_6 rfl (by decide) (fun c_6 => ?_) (fun c_6 => absurd c_6 (by exact fun zq => zq (nI_lt (a := n) (b := 8) (by omega) (by omega))))
    refine g_aload_n (nx := 12) 0 F dX0_addBetween_11 rfl rfl rfl ?_
    refine g_getR (nx := 15) F dX0_addBetween_12 rfl fl_RX0_11 rfl (by decide) (by decide) rfl ?_
    refine g_aload_n (nx := 16) 0 F dX0_addBetween_15 rfl rfl rfl ?_
    refine g_getV (nx := 19) (nI n) F dX0_addBetween_16 rfl fl_RX0_33 rfl (by decide) (by decide) rfl rfl (hn) ?_
    refine g_iload_n (nx := 20) 1 F dX0_addBetween_19 rfl rfl rfl ?_
    refine g_iastN (nx := 21) (n) F dX0_addBetween_20 rfl rfl (by omega) ?_
    refine g_aload_n (nx := 22) 0 F dX0_addBetween_21 rfl rfl rfl ?_
    refine g_getR (nx := 25) F dX0_addBetween_22 rfl fl_RX0_15 rfl (by decide) (by decide) rfl ?_
    refine g_aload_n (nx := 26) 0 F dX0_addBetween_25 rfl rfl rfl ?_
    refine g_getV (nx := 29) (nI n) F dX0_addBetween_26 rfl fl_RX0_33 rfl (by decide) (by decide) rfl rfl (hn) ?_
    refine g_iload_n (nx := 30) 2 F dX0_addBetween_29 rfl rfl rfl ?_
    refine g_iastN (nx := 31) (n) F dX0_addBetween_30 rfl rfl (by omega) ?_
    refine g_aload_n (nx := 32) 0 F dX0_addBetween_31 rfl rfl rfl ?_
    refine g_getR (nx := 35) F dX0_addBetween_32 rfl fl_RX0_18 rfl (by decide) (by decide) rfl ?_
    refine g_aload_n (nx := 36) 0 F dX0_addBetween_35 rfl rfl rfl ?_
    refine g_getV (nx := 39) (nI n) F dX0_addBetween_36 rfl fl_RX0_33 rfl (by decide) (by decide) rfl rfl (hn) ?_
    refine g_iload_n (nx := 40) 3 F dX0_addBetween_39 rfl rfl rfl ?_
    refine g_iastN (nx := 41) (n) F dX0_addBetween_40 rfl rfl (by omega) ?_
    refine g_aload_n (nx := 42) 0 F dX0_addBetween_41 rfl rfl rfl ?_
    refine g_dup (nx := 43) F dX0_addBetween_42 rfl rfl ?_
    refine g_getV (nx := 46) (nI n) F dX0_addBetween_43 rfl fl_RX0_33 rfl (by decide) (by decide) rfl rfl (hn) ?_
    refine g_iconst (nx := 47) (1) F dX0_addBetween_46 rfl rfl ?_
    refine g_iadd (nx := 48) F dX0_addBetween_47 rfl ?_
    rw [nI_1]
    refine g_putI (nx := 51) F dX0_addBetween_48 rfl fl_RX0_33 fi_0_3 rfl (by decide) (by decide) rfl rfl ?_
    refine g_iconst (nx := 52) (1) F dX0_addBetween_51 rfl rfl ?_
    refine g_istore (nx := 54) F dX0_addBetween_52 rfl (by decide) ?_
    try dsimp only [List.set]
    refine g_iconst (nx := 55) (0) F dX0_addBetween_54 rfl rfl ?_
    refine g_istore (nx := 57) F dX0_addBetween_55 rfl (by decide) ?_
    try dsimp only [List.set]
    refine g_iload (nx := 59) F dX0_addBetween_57 rfl rfl ?_
    refine g_if_eq (nx := 62) 114 F dX0_addBetween_59 rfl (by decide) (fun c_59 => absurd c_59 (by decide)) (fun c_59 => ?_)
    refine g_aload_n (nx := 63) 0 F dX0_addBetween_62 rfl rfl rfl ?_
    refine g_getV (nx := 66) (1) F dX0_addBetween_63 rfl fl_RX0_37 rfl (by decide) (by decide) rfl rfl (ht) ?_
    refine g_if_ne (nx := 69) 114 F dX0_addBetween_66 rfl (by decide) (fun c_66 => ?_) (fun c_66 => absurd c_66 (by decide))
    refine g_aload_n (nx := 115) 0 F dX0_addBetween_114 rfl rfl rfl ?_
    refine g_getV (nx := 118) (nI (n + 1)) F dX0_addBetween_115 rfl fl_RX0_33 rfl (by decide) (by decide) rfl rfl (rfl) ?_
    refine g_iconst (nx := 119) (1) F dX0_addBetween_118 rfl rfl ?_
    refine g_isub (nx := 120) F dX0_addBetween_119 rfl ?_
    refine g_iret F E dX0_addBetween_120 ?_
    exact ⟨by rw [nI_pred], σ 59, σ 60, True, inferInstance, (st_zs2 (zu (zu (zu (zu σ 56 n (nI (S n))) 57 n (L n)) 58 n (M n)) 55 3 (nI (n + 1))) _ _ _ rfl rfl ht).symm, Or.inr ⟨trivial, hno⟩, fun q _ => ⟨rfl, rfl⟩⟩
  · have hgr : Gr c n S L M (σ 59) (σ 60) := by
      rcases hI with ⟨_, z⟩ | ⟨z, _⟩
      · exact z
      · exact absurd z htv
    rw [bI_f htv] at ht
    refine g_aload_n (nx := 1) 0 F dX0_addBetween_0 rfl rfl rfl ?_
    refine g_getV (nx := 4) (nI n) F dX0_addBetween_1 rfl fl_RX0_33 rfl (by decide) (by decide) rfl rfl (hn) ?_
    refine g_bipush (nx := 6) (8) F dX0_addBetween_4 rfl (by decide) ?_
    refine g_icmp_lt (nx := 9) 11 F dX0_addBetween_6 rfl (by decide) (fun c_6 => ?_) (fun c_6 => absurd c_6 (by exact fun zq => zq (nI_lt (a := n) (b := 8) (by omega) (by omega))))
    refine g_aload_n (nx := 12) 0 F dX0_addBetween_11 rfl rfl rfl ?_
    refine g_getR (nx := 15) F dX0_addBetween_12 rfl fl_RX0_11 rfl (by decide) (by decide) rfl ?_
    refine g_aload_n (nx := 16) 0 F dX0_addBetween_15 rfl rfl rfl ?_
    refine g_getV (nx := 19) (nI n) F dX0_addBetween_16 rfl fl_RX0_33 rfl (by decide) (by decide) rfl rfl (hn) ?_
    refine g_iload_n (nx := 20) 1 F dX0_addBetween_19 rfl rfl rfl ?_
    refine g_iastN (nx := 21) (n) F dX0_addBetween_20 rfl rfl (by omega) ?_
    refine g_aload_n (nx := 22) 0 F dX0_addBetween_21 rfl rfl rfl ?_
    refine g_getR (nx := 25) F dX0_addBetween_22 rfl fl_RX0_15 rfl (by decide) (by decide) rfl ?_
    refine g_aload_n (nx := 26) 0 F dX0_addBetween_25 rfl rfl rfl ?_
    refine g_getV (nx := 29) (nI n) F dX0_addBetween_26 rfl fl_RX0_33 rfl (by decide) (by decide) rfl rfl (hn) ?_
    refine g_iload_n (nx := 30) 2 F dX0_addBetween_29 rfl rfl rfl ?_
    refine g_iastN (nx := 31) (n) F dX0_addBetween_30 rfl rfl (by omega) ?_
    refine g_aload_n (nx := 32) 0 F dX0_addBetween_31 rfl rfl rfl ?_
    refine g_getR (nx := 35) F dX0_addBetween_32 rfl fl_RX0_18 rfl (by decide) (by decide) rfl ?_
    refine g_aload_n (nx := 36) 0 F dX0_addBetween_35 rfl rfl rfl ?_
    refine g_getV (nx := 39) (nI n) F dX0_addBetween_36 rfl fl_RX0_33 rfl (by decide) (by decide) rfl rfl (hn) ?_
    refine g_iload_n (nx := 40) 3 F dX0_addBetween_39 rfl rfl rfl ?_
    refine g_iastN (nx := 41) (n) F dX0_addBetween_40 rfl rfl (by omega) ?_
    refine g_aload_n (nx := 42) 0 F dX0_addBetween_41 rfl rfl rfl ?_
    refine g_dup (nx := 43) F dX0_addBetween_42 rfl rfl ?_
    refine g_getV (nx := 46) (nI n) F dX0_addBetween_43 rfl fl_RX0_33 rfl (by decide) (by decide) rfl rfl (hn) ?_
    refine g_iconst (nx := 47) (1) F dX0_addBetween_46 rfl rfl ?_
    refine g_iadd (nx := 48) F dX0_addBetween_47 rfl ?_
    rw [nI_1]
    refine g_putI (nx := 51) F dX0_addBetween_48 rfl fl_RX0_33 fi_0_3 rfl (by decide) (by decide) rfl rfl ?_
    refine g_iconst (nx := 52) (1) F dX0_addBetween_51 rfl rfl ?_
    refine g_istore (nx := 54) F dX0_addBetween_52 rfl (by decide) ?_
    try dsimp only [List.set]
    refine g_iconst (nx := 55) (0) F dX0_addBetween_54 rfl rfl ?_
    refine g_istore (nx := 57) F dX0_addBetween_55 rfl (by decide) ?_
    try dsimp only [List.set]
    obtain ⟨hr, _, hC⟩ := hgr
    have hwn := wid_nn hr
    have hh := LO 100001 (σ 59) (σ 60) True 0 (.long 0) (fun _ => by have := hG.1; omega) (Or.inl (by have := hG.1; omega)) hr (fun a b hab => hC a b (Sol_less (fun g _ => ⟨rfl, rfl, rfl⟩) hab)) (fun z => absurd trivial z) (fun q _ => ⟨rfl, rfl⟩)
    rw [bI_t trivial] at hh
    refine g_st _ ?_ hh
    exact (st_zs2 (zu (zu (zu (zu σ 56 n (nI (S n))) 57 n (L n)) 58 n (M n)) 55 3 (nI (n + 1))) _ _ _ rfl rfl ht).symm
