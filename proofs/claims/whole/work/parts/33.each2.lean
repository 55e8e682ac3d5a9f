theorem nI_m2 {k : Nat} (h : k < 2 ^ 31) : nI k ≠ -2 := by
  rw [ne_eq, fa_eq, nI_toInt h]
  simp only [Int32.reduceToInt]
  omega
theorem eaL_le {B : Nat → Nat} {m : Nat} (hB : ∀ o, B o = 0 ∨ o + B o ≤ 10000) : ∀ (f : Nat) (pr : Nat → Nat) (all a : Nat), all = fb_sm pr m → all ≤ 10000 → eaL B m f pr all = some a → a ≤ 10000
  | 0, _, _, _, _, _, h => by cases h
  | f + 1, pr, all, a, h0, h1, h => by
    obtain ⟨i1, i2⟩ := eaH_inv hB h0 h1 m (Nat.le_refl m)
    rw [eaL] at h
    split at h
    · exact eaL_le hB f _ _ a i1 i2 h
    · cases h
      exact i2
set_option maxHeartbeats 4000000 in
set_option maxRecDepth 100000 in
theorem c_each (n : Nat) (w : Nat → Nat) (m x : Int32) (σ : zSt) (hn : σ 49 1 = nI n) (hn20 : n ≤ 20) (hw : ∀ k, k < n → σ 50 k = nI (w k) ∧ w k ≤ 10000) (hs : srd w n) : Con mX11_each 2 [.ref 0, .int m, .int x] σ (fun r τ => (∃ g, τ = zs σ 51 g) ∧ r = some (.int (eachR w n m x))) := by
  refine Con.of (lv := [.ref 0, .int m, .int x, .long 0]) mk_X11_each rfl (Nat.le_of_ble_eq_true rfl) rfl (fun X F E => ?_)
  by_cases hA : (1 ≤ m.toInt ∧ m.toInt ≤ 11) ∧ isin x 1
  · obtain ⟨mh, hmh, em⟩ := nI_rng (n := 11) (x := m) (by omega) (by omega)
    subst em
    have em : (nI mh).toInt = mh := nI_toInt (by omega)
    have hB : ∀ o, bpX w n o = 0 ∨ o + bpX w n o ≤ 10000 := fun o => bpX_le (fun k hk => (hw k hk).2)
    refine g_iload_n (nx := 1) 1 F dX11_each_0 rfl rfl rfl ?_
    refine g_iconst (nx := 2) (1) F dX11_each_1 rfl rfl ?_
    refine g_icmp_lt (nx := 5) 19 F dX11_each_2 rfl (by decide) (fun c_2 => absurd c_2 (by simp only [fa_lt, Int32.reduceToInt]; omega)) (fun c_2 => ?_)
    refine g_iload_n (nx := 6) 1 F dX11_each_5 rfl rfl rfl ?_
    refine g_bipush (nx := 8) (11) F dX11_each_6 rfl (by decide) ?_
    refine g_icmp_gt (nx := 11) 19 F dX11_each_8 rfl (by decide) (fun c_8 => absurd c_8 (by simp only [fa_lt, Int32.reduceToInt]; omega)) (fun c_8 => ?_)
    refine g_iload_n (nx := 12) 2 F dX11_each_11 rfl rfl rfl ?_
    refine g_iconst (nx := 13) (1) F dX11_each_12 rfl rfl ?_
    refine g_callS (nx := 16) 2 0 [.int x, .int 1] F dX11_each_13 rfl ml_RX11_79 mo_X11_isOutside rfl rfl (Nat.le_of_ble_eq_true rfl) (by first | decide | omega) (c_isOutside x 1 _) (fun r_13 τ_13 q_13 => ?_)
    obtain ⟨rfl, et_13⟩ := q_13
    have et_13 := et_13.symm
    subst et_13
    dsimp only [Option.toList, List.append, List.cons_append, List.nil_append]
    refine g_if_eq (nx := 19) 21 F dX11_each_16 rfl (by decide) (fun c_16 => ?_) (fun c_16 => absurd c_16 (by exact fun q => q (bI_f (by simp only [Int32.reduceToInt]; omega))))
    refine g_aload_n (nx := 22) 0 F dX11_each_21 rfl rfl rfl ?_
    refine g_getR (nx := 25) F dX11_each_22 rfl fl_RX11_61 rfl (by decide) (by decide) rfl ?_
    refine g_iload_n (nx := 26) 1 F dX11_each_25 rfl rfl rfl ?_
    refine g_callV (nx := 29) 1 1 [.int (nI mh)] F dX11_each_26 rfl ml_RX11_268 mo_X1_settle rfl rfl rfl rfl (Nat.le_of_ble_eq_true rfl) (by first | decide | omega) (c_settle n mh w _ hmh hn hn20 hw hs) (fun r_26 τ_26 q_26 => ?_)
    obtain ⟨⟨g, rfl⟩, rfl⟩ := q_26
    dsimp only [Option.toList, List.append, List.cons_append, List.nil_append]
    rcases he : eaL (bpX w n) mh 100 (fun _ => 0) 0 with _ | a
    · show Gs X 29 [.ref 0, .int (nI mh), .int x, .long 0] [.int (-2)] _
      refine g_istore_n (nx := 30) 3 F dX11_each_29 rfl rfl (by decide) ?_
      try dsimp only [List.set]
      refine g_iload_n (nx := 31) 3 F dX11_each_30 rfl rfl rfl ?_
      refine g_bipush (nx := 33) (-2) F dX11_each_31 rfl (by decide) ?_
      refine g_icmp_eq (nx := 36) 40 F dX11_each_33 rfl (by decide) (fun c_33 => ?_) (fun c_33 => absurd c_33 (by exact fun zq => zq rfl))
      refine g_iload_n (nx := 41) 3 F dX11_each_40 rfl rfl rfl ?_
      refine g_goto 52 F dX11_each_41 (by decide) ?_
      refine g_iret F E dX11_each_52 ?_
      exact ⟨⟨g, rfl⟩, by rw [eachR, if_pos hA, nI_tn (by omega), he]; rfl⟩
    · have hal := eaL_le hB 100 _ _ a (fb_sm_0 mh).symm (by omega) he
      show Gs X 29 [.ref 0, .int (nI mh), .int x, .long 0] [.int (nI a)] _
      refine g_istore_n (nx := 30) 3 F dX11_each_29 rfl rfl (by decide) ?_
      try dsimp only [List.set]
      refine g_iload_n (nx := 31) 3 F dX11_each_30 rfl rfl rfl ?_
      refine g_bipush (nx := 33) (-2) F dX11_each_31 rfl (by decide) ?_
      refine g_icmp_eq (nx := 36) 40 F dX11_each_33 rfl (by decide) (fun c_33 => absurd c_33 (by exact nI_m2 (by omega))) (fun c_33 => ?_)
      refine g_iload_n (nx := 37) 2 F dX11_each_36 rfl rfl rfl ?_
      refine g_if_ne (nx := 40) 44 F dX11_each_37 rfl (by decide) (fun c_37 => ?_) (fun c_37 => ?_)
      · refine g_aload_n (nx := 45) 0 F dX11_each_44 rfl rfl rfl ?_
        refine g_getR (nx := 48) F dX11_each_45 rfl fl_RX11_61 rfl (by decide) (by decide) rfl ?_
        refine g_iload_n (nx := 49) 3 F dX11_each_48 rfl rfl rfl ?_
        refine g_callV (nx := 52) 1 0 [.int (nI a)] F dX11_each_49 rfl ml_RX11_265 mo_X1_brings rfl rfl rfl rfl (Nat.le_of_ble_eq_true rfl) (by first | decide | omega) (c_brings n a w _ hn hn20 hal hw hs) (fun r_49 τ_49 q_49 => ?_)
        obtain ⟨rfl, rfl⟩ := q_49
        dsimp only [Option.toList, List.append, List.cons_append, List.nil_append]
        refine g_iret F E dX11_each_52 ?_
        exact ⟨⟨g, rfl⟩, by rw [eachR, if_pos hA, nI_tn (by omega), he]; first | (rw [eaV, if_pos (by assumption)]; done) | (rw [eaV, if_neg (by assumption)]; done)⟩
      · refine g_iload_n (nx := 41) 3 F dX11_each_40 rfl rfl rfl ?_
        refine g_goto 52 F dX11_each_41 (by decide) ?_
        refine g_iret F E dX11_each_52 ?_
        exact ⟨⟨g, rfl⟩, by rw [eachR, if_pos hA, nI_tn (by omega), he]; first | (rw [eaV, if_pos (by assumption)]; done) | (rw [eaV, if_neg (by assumption)]; done)⟩
  · refine g_iload_n (nx := 1) 1 F dX11_each_0 rfl rfl rfl ?_
    refine g_iconst (nx := 2) (1) F dX11_each_1 rfl rfl ?_
    refine g_icmp_lt (nx := 5) 19 F dX11_each_2 rfl (by decide) (fun c_2 => ?_) (fun c_2 => ?_)
    · refine g_iconst (nx := 20) (-1) F dX11_each_19 rfl rfl ?_
      refine g_iret F E dX11_each_20 ?_
      exact ⟨⟨_, (zs_id σ 51 _ rfl).symm⟩, by rw [eachR, if_neg hA]⟩
    · refine g_iload_n (nx := 6) 1 F dX11_each_5 rfl rfl rfl ?_
      refine g_bipush (nx := 8) (11) F dX11_each_6 rfl (by decide) ?_
      refine g_icmp_gt (nx := 11) 19 F dX11_each_8 rfl (by decide) (fun c_8 => ?_) (fun c_8 => ?_)
      · refine g_iconst (nx := 20) (-1) F dX11_each_19 rfl rfl ?_
        refine g_iret F E dX11_each_20 ?_
        exact ⟨⟨_, (zs_id σ 51 _ rfl).symm⟩, by rw [eachR, if_neg hA]⟩
      · refine g_iload_n (nx := 12) 2 F dX11_each_11 rfl rfl rfl ?_
        refine g_iconst (nx := 13) (1) F dX11_each_12 rfl rfl ?_
        refine g_callS (nx := 16) 2 0 [.int x, .int 1] F dX11_each_13 rfl ml_RX11_79 mo_X11_isOutside rfl rfl (Nat.le_of_ble_eq_true rfl) (by first | decide | omega) (c_isOutside x 1 _) (fun r_13 τ_13 q_13 => ?_)
        obtain ⟨rfl, et_13⟩ := q_13
        have et_13 := et_13.symm
        subst et_13
        dsimp only [Option.toList, List.append, List.cons_append, List.nil_append]
        refine g_if_eq (nx := 19) 21 F dX11_each_16 rfl (by decide) (fun c_16 => ?_) (fun c_16 => ?_)
        · exfalso
          clear F E
          simp only [isin, bI_0, bI_n0, ne_eq, Decidable.not_not] at *
          (try simp only [fa_eq, fa_lt, fa_le, Int32.reduceToInt, Int32.toInt_zero] at *)
          omega
        · refine g_iconst (nx := 20) (-1) F dX11_each_19 rfl rfl ?_
          refine g_iret F E dX11_each_20 ?_
          exact ⟨⟨_, (zs_id σ 51 _ rfl).symm⟩, by rw [eachR, if_neg hA]⟩
set_option maxHeartbeats 4000000 in
set_option maxRecDepth 100000 in
theorem k_each (n : Nat) (w : Nat → Nat) (m x : Int32) (σ : zSt) (hn : σ 145 51 = nI n) (hn20 : n ≤ 20) (hw : ∀ k, k < n → σ 177 k = nI (w k) ∧ w k ≤ 10000) : Con mX12_each 2 [.ref 145, .int m, .int x] σ (fun r τ => (∃ g, τ = zs σ 184 g) ∧ r = some (.int (eachR w n m x))) := by
  refine Con.of (lv := [.ref 145, .int m, .int x, .long 0, .long 0, .long 0, .long 0, .long 0]) mk_X12_each rfl (Nat.le_of_ble_eq_true rfl) rfl (fun X F E => ?_)
  by_cases hA : (1 ≤ m.toInt ∧ m.toInt ≤ 11) ∧ isin x 1
  · obtain ⟨mh, hmh, em⟩ := nI_rng (n := 11) (x := m) (by omega) (by omega)
    subst em
    have em : (nI mh).toInt = mh := nI_toInt (by omega)
    have hB : ∀ o, bpX w n o = 0 ∨ o + bpX w n o ≤ 10000 := fun o => bpX_le (fun k hk => (hw k hk).2)
    have L : ∀ (f rd : Nat) (pr : Nat → Nat) (all : Nat) (g : Nat → Int32) (z1 z2 z3 : Value), rd + f = 100 → all = fb_sm pr mh → all ≤ 10000 → (∀ k, k < mh → g k = nI (pr k)) → eaL (bpX w n) mh f pr all = eaL (bpX w n) mh 100 (fun _ => 0) 0 → Gs X 49 [.ref 145, .int (nI mh), .int x, .int (nI all), .int (nI rd), z1, z2, z3] [] (zs σ 184 g) := by
      intro f
      induction f with
      | zero =>
        intro rd pr all g z1 z2 z3 hrd ha0 ha1 hg hE
        have hrd : rd = 100 := hrd
        subst hrd
        refine g_iload (nx := 51) F dX12_each_49 rfl rfl ?_
        refine g_bipush (nx := 53) (100) F dX12_each_51 rfl (by decide) ?_
        refine g_icmp_ge (nx := 56) 162 F dX12_each_53 rfl (by decide) (fun c_53 => ?_) (fun c_53 => absurd c_53 (by decide))
        refine g_bipush (nx := 164) (-2) F dX12_each_162 rfl (by decide) ?_
        refine g_iret F E dX12_each_164 ?_
        exact ⟨⟨g, rfl⟩, by rw [eachR, if_pos hA, nI_tn (by omega), ← hE]; rfl⟩
      | succ f ih =>
        intro rd pr all g z1 z2 z3 hrd ha0 ha1 hg hE
        have LI : ∀ (q h : Nat) (g : Nat → Int32) (z3 : Value), h + q = mh → (∀ k, k < mh → g k = nI ((eaH (bpX w n) pr all h).1 k)) → Gs X 62 [.ref 145, .int (nI mh), .int x, .int (nI (eaH (bpX w n) pr all h).2.1), .int (nI rd), .int (bI ((eaH (bpX w n) pr all h).2.2 = true)), .int (nI h), z3] [] (zs σ 184 g) := by
          intro q
          induction q with
          | zero =>
            intro h g z3 hh hg
            have hh : h = mh := hh
            subst hh
            obtain ⟨i1, i2⟩ := eaH_inv hB ha0 ha1 h (Nat.le_refl h)
            refine g_iload (nx := 64) F dX12_each_62 rfl rfl ?_
            refine g_iload_n (nx := 65) 1 F dX12_each_64 rfl rfl rfl ?_
            refine g_icmp_ge (nx := 68) 135 F dX12_each_65 rfl (by decide) (fun c_65 => ?_) (fun c_65 => absurd c_65 (by exact fun zq => zq (nI_le (Nat.le_refl h) (by omega))))
            refine g_iload (nx := 137) F dX12_each_135 rfl rfl ?_
            refine g_if_ne (nx := 140) 156 F dX12_each_137 rfl (by decide) (fun c_137 => ?_) (fun c_137 => ?_)
            · refine g_iinc (nx := 159) (1) F dX12_each_156 rfl rfl (by decide) (by decide) ?_
              try dsimp only [List.set]
              refine g_goto 49 F dX12_each_159 (by decide) ?_
              rw [eaL, if_pos (bI_n0.mp c_137)] at hE
              rw [nI_1]
              exact ih (rd + 1) _ _ g _ _ _ (by omega) i1 i2 hg hE
            · refine g_iload_n (nx := 141) 2 F dX12_each_140 rfl rfl rfl ?_
              refine g_if_ne (nx := 144) 148 F dX12_each_141 rfl (by decide) (fun c_141 => ?_) (fun c_141 => ?_)
              · refine g_iload_n (nx := 149) 3 F dX12_each_148 rfl rfl rfl ?_
                refine g_aload_n (nx := 150) 0 F dX12_each_149 rfl rfl rfl ?_
                refine g_iload_n (nx := 151) 3 F dX12_each_150 rfl rfl rfl ?_
                refine g_callV (nx := 154) 1 0 [.int (nI (eaH (bpX w n) pr all h).2.1)] F dX12_each_151 rfl ml_RX12_377 mo_X12_whoPay rfl rfl rfl rfl (Nat.le_of_ble_eq_true rfl) (by first | decide | omega) (k_whoPay n (eaH (bpX w n) pr all h).2.1 w _ hn hn20 i2 hw) (fun r_151 τ_151 q_151 => ?_)
                obtain ⟨rfl, et_151⟩ := q_151
                subst et_151
                dsimp only [Option.toList, List.append, List.cons_append, List.nil_append]
                refine g_imul (nx := 155) F dX12_each_154 rfl ?_
                try rw [pk_mul]
                refine g_iret F E dX12_each_155 ?_
                rw [eaL, if_neg (bI_0.mp c_137)] at hE
                exact ⟨⟨g, rfl⟩, by rw [eachR, if_pos hA, nI_tn (by omega), ← hE]; first | (rw [eaV, if_pos (by assumption)]; done) | (rw [eaV, if_neg (by assumption)]; done)⟩
              · refine g_iload_n (nx := 145) 3 F dX12_each_144 rfl rfl rfl ?_
                refine g_goto 155 F dX12_each_145 (by decide) ?_
                try rw [pk_mul]
                refine g_iret F E dX12_each_155 ?_
                rw [eaL, if_neg (bI_0.mp c_137)] at hE
                exact ⟨⟨g, rfl⟩, by rw [eachR, if_pos hA, nI_tn (by omega), ← hE]; first | (rw [eaV, if_pos (by assumption)]; done) | (rw [eaV, if_neg (by assumption)]; done)⟩
          | succ q ihq =>
            intro h g z3 hh hg
            obtain ⟨i1, i2⟩ := eaH_inv hB ha0 ha1 h (by omega)
            have hle : (eaH (bpX w n) pr all h).1 h ≤ (eaH (bpX w n) pr all h).2.1 := by rw [i1]; exact fb_sm_le1 _ (by omega)
            have hbo := hB ((eaH (bpX w n) pr all h).2.1 - (eaH (bpX w n) pr all h).1 h)
            have hprl : (eaH (bpX w n) pr all h).1 h ≤ 10000 := by omega
            refine g_iload (nx := 64) F dX12_each_62 rfl rfl ?_
            refine g_iload_n (nx := 65) 1 F dX12_each_64 rfl rfl rfl ?_
            refine g_icmp_ge (nx := 68) 135 F dX12_each_65 rfl (by decide) (fun c_65 => absurd c_65 (by exact nI_ge (by omega) (by omega))) (fun c_65 => ?_)
            refine g_aload_n (nx := 69) 0 F dX12_each_68 rfl rfl rfl ?_
            refine g_iload_n (nx := 70) 3 F dX12_each_69 rfl rfl rfl ?_
            refine g_aload_n (nx := 71) 0 F dX12_each_70 rfl rfl rfl ?_
            refine g_getR (nx := 74) F dX12_each_71 rfl fl_RX12_125 rfl (by decide) (by decide) rfl ?_
            refine g_iload (nx := 76) F dX12_each_74 rfl rfl ?_
            refine g_ialdN (nx := 77) (h) (nI ((eaH (bpX w n) pr all h).1 h)) F dX12_each_76 rfl rfl (by omega) (hg h (by omega)) ?_
            refine g_isub (nx := 78) F dX12_each_77 rfl ?_
            rw [pk_sub hle]
            refine g_callV (nx := 81) 1 1 [.int (nI ((eaH (bpX w n) pr all h).2.1 - (eaH (bpX w n) pr all h).1 h))] F dX12_each_78 rfl ml_RX12_380 mo_X12_bestPrice rfl rfl rfl rfl (Nat.le_of_ble_eq_true rfl) (by first | decide | omega) (k_bestPrice n ((eaH (bpX w n) pr all h).2.1 - (eaH (bpX w n) pr all h).1 h) w _ hn hn20 (by omega) hw) (fun r_78 τ_78 q_78 => ?_)
            obtain ⟨p_78, rfl, et_78, hp_78⟩ := q_78
            subst et_78
            dsimp only [Option.toList, List.append, List.cons_append, List.nil_append]
            refine g_istore (nx := 83) F dX12_each_81 rfl (by decide) ?_
            try dsimp only [List.set]
            refine g_iload (nx := 85) F dX12_each_83 rfl rfl ?_
            refine g_if_ne (nx := 88) 100 F dX12_each_85 rfl (by decide) (fun c_85 => ?_) (fun c_85 => ?_)
            · refine g_iconst (nx := 101) (1) F dX12_each_100 rfl rfl ?_
              refine g_goto 105 F dX12_each_101 (by decide) ?_
              refine g_istore (nx := 107) F dX12_each_105 rfl (by decide) ?_
              try dsimp only [List.set]
              refine g_iload_n (nx := 108) 3 F dX12_each_107 rfl rfl rfl ?_
              refine g_aload_n (nx := 109) 0 F dX12_each_108 rfl rfl rfl ?_
              refine g_getR (nx := 112) F dX12_each_109 rfl fl_RX12_125 rfl (by decide) (by decide) rfl ?_
              refine g_iload (nx := 114) F dX12_each_112 rfl rfl ?_
              refine g_ialdN (nx := 115) (h) (nI ((eaH (bpX w n) pr all h).1 h)) F dX12_each_114 rfl rfl (by omega) (hg h (by omega)) ?_
              refine g_isub (nx := 116) F dX12_each_115 rfl ?_
              refine g_iload (nx := 118) F dX12_each_116 rfl rfl ?_
              refine g_iadd (nx := 119) F dX12_each_118 rfl ?_
              rw [pk_sub hle, nI_add]
              refine g_istore_n (nx := 120) 3 F dX12_each_119 rfl rfl (by decide) ?_
              try dsimp only [List.set]
              refine g_aload_n (nx := 121) 0 F dX12_each_120 rfl rfl rfl ?_
              refine g_getR (nx := 124) F dX12_each_121 rfl fl_RX12_125 rfl (by decide) (by decide) rfl ?_
              refine g_iload (nx := 126) F dX12_each_124 rfl rfl ?_
              refine g_iload (nx := 128) F dX12_each_126 rfl rfl ?_
              refine g_iastN (nx := 129) (h) F dX12_each_128 rfl rfl (by omega) ?_
              refine g_iinc (nx := 132) (1) F dX12_each_129 rfl rfl (by decide) (by decide) ?_
              try dsimp only [List.set]
              refine g_goto 62 F dX12_each_132 (by decide) ?_
              rw [nI_1, zs_zu]
              have hh2 := fun z3 => ihq (h + 1) (upd g h (nI (bpX w n ((eaH (bpX w n) pr all h).2.1 - (eaH (bpX w n) pr all h).1 h)))) z3 (by omega) (fun k hk => by
                unfold upd
                simp only [eaH]
                by_cases e : k = h
                · rw [if_pos e, if_pos e]
                · rw [if_neg e, if_neg e]; exact hg k hk)
              first
                | (have e2 : bI ((eaH (bpX w n) pr all (h + 1)).2.2 = true) = 1 := bI_t (by have := bI_n0.mp c_85; simp [eaH, this])
                   rw [e2] at hh2
                   first | exact hh2 _ | (rw [bI_t (bI_n0.mp c_85)]; exact hh2 _))
                | (have hne : bpX w n ((eaH (bpX w n) pr all h).2.1 - (eaH (bpX w n) pr all h).1 h) ≠ (eaH (bpX w n) pr all h).1 h := fun e => c_97 (by rw [e])
                   have e2 : bI ((eaH (bpX w n) pr all (h + 1)).2.2 = true) = 1 := bI_t (by simp [eaH, hne])
                   rw [e2] at hh2
                   exact hh2 _)
                | (have heq : bpX w n ((eaH (bpX w n) pr all h).2.1 - (eaH (bpX w n) pr all h).1 h) = (eaH (bpX w n) pr all h).1 h := (nI_eq (by omega) (by omega)).mp c_97
                   have hz := bI_0.mp c_85
                   have e2 : bI ((eaH (bpX w n) pr all (h + 1)).2.2 = true) = 0 := bI_f (by simp [eaH, heq, hz])
                   rw [e2] at hh2
                   exact hh2 _)
            · refine g_iload (nx := 90) F dX12_each_88 rfl rfl ?_
              refine g_aload_n (nx := 91) 0 F dX12_each_90 rfl rfl rfl ?_
              refine g_getR (nx := 94) F dX12_each_91 rfl fl_RX12_125 rfl (by decide) (by decide) rfl ?_
              refine g_iload (nx := 96) F dX12_each_94 rfl rfl ?_
              refine g_ialdN (nx := 97) (h) (nI ((eaH (bpX w n) pr all h).1 h)) F dX12_each_96 rfl rfl (by omega) (hg h (by omega)) ?_
              refine g_icmp_eq (nx := 100) 104 F dX12_each_97 rfl (by decide) (fun c_97 => ?_) (fun c_97 => ?_)
              · refine g_iconst (nx := 105) (0) F dX12_each_104 rfl rfl ?_
                refine g_istore (nx := 107) F dX12_each_105 rfl (by decide) ?_
                try dsimp only [List.set]
                refine g_iload_n (nx := 108) 3 F dX12_each_107 rfl rfl rfl ?_
                refine g_aload_n (nx := 109) 0 F dX12_each_108 rfl rfl rfl ?_
                refine g_getR (nx := 112) F dX12_each_109 rfl fl_RX12_125 rfl (by decide) (by decide) rfl ?_
                refine g_iload (nx := 114) F dX12_each_112 rfl rfl ?_
                refine g_ialdN (nx := 115) (h) (nI ((eaH (bpX w n) pr all h).1 h)) F dX12_each_114 rfl rfl (by omega) (hg h (by omega)) ?_
                refine g_isub (nx := 116) F dX12_each_115 rfl ?_
                refine g_iload (nx := 118) F dX12_each_116 rfl rfl ?_
                refine g_iadd (nx := 119) F dX12_each_118 rfl ?_
                rw [pk_sub hle, nI_add]
                refine g_istore_n (nx := 120) 3 F dX12_each_119 rfl rfl (by decide) ?_
                try dsimp only [List.set]
                refine g_aload_n (nx := 121) 0 F dX12_each_120 rfl rfl rfl ?_
                refine g_getR (nx := 124) F dX12_each_121 rfl fl_RX12_125 rfl (by decide) (by decide) rfl ?_
                refine g_iload (nx := 126) F dX12_each_124 rfl rfl ?_
                refine g_iload (nx := 128) F dX12_each_126 rfl rfl ?_
                refine g_iastN (nx := 129) (h) F dX12_each_128 rfl rfl (by omega) ?_
                refine g_iinc (nx := 132) (1) F dX12_each_129 rfl rfl (by decide) (by decide) ?_
                try dsimp only [List.set]
                refine g_goto 62 F dX12_each_132 (by decide) ?_
                rw [nI_1, zs_zu]
                have hh2 := fun z3 => ihq (h + 1) (upd g h (nI (bpX w n ((eaH (bpX w n) pr all h).2.1 - (eaH (bpX w n) pr all h).1 h)))) z3 (by omega) (fun k hk => by
                  unfold upd
                  simp only [eaH]
                  by_cases e : k = h
                  · rw [if_pos e, if_pos e]
                  · rw [if_neg e, if_neg e]; exact hg k hk)
                first
                  | (have e2 : bI ((eaH (bpX w n) pr all (h + 1)).2.2 = true) = 1 := bI_t (by have := bI_n0.mp c_85; simp [eaH, this])
                     rw [e2] at hh2
                     first | exact hh2 _ | (rw [bI_t (bI_n0.mp c_85)]; exact hh2 _))
                  | (have hne : bpX w n ((eaH (bpX w n) pr all h).2.1 - (eaH (bpX w n) pr all h).1 h) ≠ (eaH (bpX w n) pr all h).1 h := fun e => c_97 (by rw [e])
                     have e2 : bI ((eaH (bpX w n) pr all (h + 1)).2.2 = true) = 1 := bI_t (by simp [eaH, hne])
                     rw [e2] at hh2
                     exact hh2 _)
                  | (have heq : bpX w n ((eaH (bpX w n) pr all h).2.1 - (eaH (bpX w n) pr all h).1 h) = (eaH (bpX w n) pr all h).1 h := (nI_eq (by omega) (by omega)).mp c_97
                     have hz := bI_0.mp c_85
                     have e2 : bI ((eaH (bpX w n) pr all (h + 1)).2.2 = true) = 0 := bI_f (by simp [eaH, heq, hz])
                     rw [e2] at hh2
                     exact hh2 _)
              · refine g_iconst (nx := 101) (1) F dX12_each_100 rfl rfl ?_
                refine g_goto 105 F dX12_each_101 (by decide) ?_
                refine g_istore (nx := 107) F dX12_each_105 rfl (by decide) ?_
                try dsimp only [List.set]
                refine g_iload_n (nx := 108) 3 F dX12_each_107 rfl rfl rfl ?_
                refine g_aload_n (nx := 109) 0 F dX12_each_108 rfl rfl rfl ?_
                refine g_getR (nx := 112) F dX12_each_109 rfl fl_RX12_125 rfl (by decide) (by decide) rfl ?_
                refine g_iload (nx := 114) F dX12_each_112 rfl rfl ?_
                refine g_ialdN (nx := 115) (h) (nI ((eaH (bpX w n) pr all h).1 h)) F dX12_each_114 rfl rfl (by omega) (hg h (by omega)) ?_
                refine g_isub (nx := 116) F dX12_each_115 rfl ?_
                refine g_iload (nx := 118) F dX12_each_116 rfl rfl ?_
                refine g_iadd (nx := 119) F dX12_each_118 rfl ?_
                rw [pk_sub hle, nI_add]
                refine g_istore_n (nx := 120) 3 F dX12_each_119 rfl rfl (by decide) ?_
                try dsimp only [List.set]
                refine g_aload_n (nx := 121) 0 F dX12_each_120 rfl rfl rfl ?_
                refine g_getR (nx := 124) F dX12_each_121 rfl fl_RX12_125 rfl (by decide) (by decide) rfl ?_
                refine g_iload (nx := 126) F dX12_each_124 rfl rfl ?_
                refine g_iload (nx := 128) F dX12_each_126 rfl rfl ?_
                refine g_iastN (nx := 129) (h) F dX12_each_128 rfl rfl (by omega) ?_
                refine g_iinc (nx := 132) (1) F dX12_each_129 rfl rfl (by decide) (by decide) ?_
                try dsimp only [List.set]
                refine g_goto 62 F dX12_each_132 (by decide) ?_
                rw [nI_1, zs_zu]
                have hh2 := fun z3 => ihq (h + 1) (upd g h (nI (bpX w n ((eaH (bpX w n) pr all h).2.1 - (eaH (bpX w n) pr all h).1 h)))) z3 (by omega) (fun k hk => by
                  unfold upd
                  simp only [eaH]
                  by_cases e : k = h
                  · rw [if_pos e, if_pos e]
                  · rw [if_neg e, if_neg e]; exact hg k hk)
                first
                  | (have e2 : bI ((eaH (bpX w n) pr all (h + 1)).2.2 = true) = 1 := bI_t (by have := bI_n0.mp c_85; simp [eaH, this])
                     rw [e2] at hh2
                     first | exact hh2 _ | (rw [bI_t (bI_n0.mp c_85)]; exact hh2 _))
                  | (have hne : bpX w n ((eaH (bpX w n) pr all h).2.1 - (eaH (bpX w n) pr all h).1 h) ≠ (eaH (bpX w n) pr all h).1 h := fun e => c_97 (by rw [e])
                     have e2 : bI ((eaH (bpX w n) pr all (h + 1)).2.2 = true) = 1 := bI_t (by simp [eaH, hne])
                     rw [e2] at hh2
                     exact hh2 _)
                  | (have heq : bpX w n ((eaH (bpX w n) pr all h).2.1 - (eaH (bpX w n) pr all h).1 h) = (eaH (bpX w n) pr all h).1 h := (nI_eq (by omega) (by omega)).mp c_97
                     have hz := bI_0.mp c_85
                     have e2 : bI ((eaH (bpX w n) pr all (h + 1)).2.2 = true) = 0 := bI_f (by simp [eaH, heq, hz])
                     rw [e2] at hh2
                     exact hh2 _)
        refine g_iload (nx := 51) F dX12_each_49 rfl rfl ?_
        refine g_bipush (nx := 53) (100) F dX12_each_51 rfl (by decide) ?_
        refine g_icmp_ge (nx := 56) 162 F dX12_each_53 rfl (by decide) (fun c_53 => absurd c_53 (by exact nI_ge (b := 100) (by omega) (by omega))) (fun c_53 => ?_)
        refine g_iconst (nx := 57) (0) F dX12_each_56 rfl rfl ?_
        refine g_istore (nx := 59) F dX12_each_57 rfl (by decide) ?_
        try dsimp only [List.set]
        refine g_iconst (nx := 60) (0) F dX12_each_59 rfl rfl ?_
        refine g_istore (nx := 62) F dX12_each_60 rfl (by decide) ?_
        try dsimp only [List.set]
        have hh := LI mh 0 g z3 (by omega) hg
        rw [bI_f (by simp [eaH])] at hh
        exact hh
    have LZ : ∀ (q j : Nat) (z1 z2 z3 : Value), j + q = mh → Gs X 26 [.ref 145, .int (nI mh), .int x, .int 0, .int (nI j), z1, z2, z3] [] (zs σ 184 (fun k => if k < j then 0 else σ 184 k)) := by
      intro q
      induction q with
      | zero =>
        intro j z1 z2 z3 hj
        have hj : j = mh := hj
        subst hj
        refine g_iload (nx := 28) F dX12_each_26 rfl rfl ?_
        refine g_iload_n (nx := 29) 1 F dX12_each_28 rfl rfl rfl ?_
        refine g_icmp_ge (nx := 32) 46 F dX12_each_29 rfl (by decide) (fun c_29 => ?_) (fun c_29 => absurd c_29 (by exact fun zq => zq (nI_le (Nat.le_refl j) (by omega))))
        refine g_iconst (nx := 47) (0) F dX12_each_46 rfl rfl ?_
        refine g_istore (nx := 49) F dX12_each_47 rfl (by decide) ?_
        try dsimp only [List.set]
        exact L 100 0 (fun _ => 0) 0 _ _ _ _ (by omega) (fb_sm_0 j).symm (by omega) (fun k hk => by rw [if_pos hk]; rfl) rfl
      | succ q ih =>
        intro j z1 z2 z3 hj
        refine g_iload (nx := 28) F dX12_each_26 rfl rfl ?_
        refine g_iload_n (nx := 29) 1 F dX12_each_28 rfl rfl rfl ?_
        refine g_icmp_ge (nx := 32) 46 F dX12_each_29 rfl (by decide) (fun c_29 => absurd c_29 (by exact nI_ge (by omega) (by omega))) (fun c_29 => ?_)
        refine g_aload_n (nx := 33) 0 F dX12_each_32 rfl rfl rfl ?_
        refine g_getR (nx := 36) F dX12_each_33 rfl fl_RX12_125 rfl (by decide) (by decide) rfl ?_
        refine g_iload (nx := 38) F dX12_each_36 rfl rfl ?_
        refine g_iconst (nx := 39) (0) F dX12_each_38 rfl rfl ?_
        refine g_iastN (nx := 40) (j) F dX12_each_39 rfl rfl (by omega) ?_
        refine g_iinc (nx := 43) (1) F dX12_each_40 rfl rfl (by decide) (by decide) ?_
        try dsimp only [List.set]
        refine g_goto 26 F dX12_each_43 (by decide) ?_
        rw [nI_1, zs_zu]
        refine g_st (zs σ 184 (fun k => if k < j + 1 then 0 else σ 184 k)) ?_ (ih (j + 1) _ _ _ (by omega))
        congr 1
        funext k
        unfold upd
        by_cases e : k = j
        · rw [if_pos e, if_pos (by omega)]
        · rw [if_neg e]
          by_cases e2 : k < j
          · simp only [if_pos e2, if_pos (show k < j + 1 by omega)]
          · simp only [if_neg e2, if_neg (show ¬ k < j + 1 by omega)]
    refine g_iload_n (nx := 1) 1 F dX12_each_0 rfl rfl rfl ?_
    refine g_iconst (nx := 2) (1) F dX12_each_1 rfl rfl ?_
    refine g_bipush (nx := 4) (11) F dX12_each_2 rfl (by decide) ?_
    refine g_callS (nx := 7) 3 0 [.int (nI mh), .int 1, .int 11] F dX12_each_4 rfl ml_RX12_174 mo_X12_in rfl rfl (Nat.le_of_ble_eq_true rfl) (by first | decide | omega) (k_in _ _ _ _) (fun r_4 τ_4 q_4 => ?_)
    obtain ⟨rfl, et_4⟩ := q_4
    have et_4 := et_4.symm
    subst et_4
    dsimp only [Option.toList, List.append, List.cons_append, List.nil_append]
    refine g_if_eq (nx := 10) 19 F dX12_each_7 rfl (by decide) (fun c_7 => absurd c_7 (by exact bI_n0.mpr (by simp only [Int32.reduceToInt]; omega))) (fun c_7 => ?_)
    refine g_iload_n (nx := 11) 2 F dX12_each_10 rfl rfl rfl ?_
    refine g_iconst (nx := 12) (0) F dX12_each_11 rfl rfl ?_
    refine g_iconst (nx := 13) (1) F dX12_each_12 rfl rfl ?_
    refine g_callS (nx := 16) 3 0 [.int x, .int 0, .int 1] F dX12_each_13 rfl ml_RX12_174 mo_X12_in rfl rfl (Nat.le_of_ble_eq_true rfl) (by first | decide | omega) (k_in x 0 1 _) (fun r_13 τ_13 q_13 => ?_)
    obtain ⟨rfl, et_13⟩ := q_13
    have et_13 := et_13.symm
    subst et_13
    dsimp only [Option.toList, List.append, List.cons_append, List.nil_append]
    refine g_if_ne (nx := 19) 21 F dX12_each_16 rfl (by decide) (fun c_16 => ?_) (fun c_16 => absurd c_16 (by exact bI_n0.mpr (by simp only [Int32.reduceToInt]; omega)))
    refine g_iconst (nx := 22) (0) F dX12_each_21 rfl rfl ?_
    refine g_istore_n (nx := 23) 3 F dX12_each_22 rfl rfl (by decide) ?_
    try dsimp only [List.set]
    refine g_iconst (nx := 24) (0) F dX12_each_23 rfl rfl ?_
    refine g_istore (nx := 26) F dX12_each_24 rfl (by decide) ?_
    try dsimp only [List.set]
    refine g_st (zs σ 184 (fun k => if k < 0 then 0 else σ 184 k)) ?_ (LZ mh 0 _ _ _ (by omega))
    rw [zs_id]
    funext k
    rw [if_neg (Nat.not_lt_zero k)]
  · refine g_iload_n (nx := 1) 1 F dX12_each_0 rfl rfl rfl ?_
    refine g_iconst (nx := 2) (1) F dX12_each_1 rfl rfl ?_
    refine g_bipush (nx := 4) (11) F dX12_each_2 rfl (by decide) ?_
    refine g_callS (nx := 7) 3 0 [.int m, .int 1, .int 11] F dX12_each_4 rfl ml_RX12_174 mo_X12_in rfl rfl (Nat.le_of_ble_eq_true rfl) (by first | decide | omega) (k_in _ _ _ _) (fun r_4 τ_4 q_4 => ?_)
    obtain ⟨rfl, et_4⟩ := q_4
    have et_4 := et_4.symm
    subst et_4
    dsimp only [Option.toList, List.append, List.cons_append, List.nil_append]
    refine g_if_eq (nx := 10) 19 F dX12_each_7 rfl (by decide) (fun c_7 => ?_) (fun c_7 => ?_)
    · refine g_iconst (nx := 20) (-1) F dX12_each_19 rfl rfl ?_
      refine g_iret F E dX12_each_20 ?_
      exact ⟨⟨_, (zs_id _ 184 _ rfl).symm⟩, by rw [eachR, if_neg hA]⟩
    · refine g_iload_n (nx := 11) 2 F dX12_each_10 rfl rfl rfl ?_
      refine g_iconst (nx := 12) (0) F dX12_each_11 rfl rfl ?_
      refine g_iconst (nx := 13) (1) F dX12_each_12 rfl rfl ?_
      refine g_callS (nx := 16) 3 0 [.int x, .int 0, .int 1] F dX12_each_13 rfl ml_RX12_174 mo_X12_in rfl rfl (Nat.le_of_ble_eq_true rfl) (by first | decide | omega) (k_in x 0 1 _) (fun r_13 τ_13 q_13 => ?_)
      obtain ⟨rfl, et_13⟩ := q_13
      have et_13 := et_13.symm
      subst et_13
      dsimp only [Option.toList, List.append, List.cons_append, List.nil_append]
      refine g_if_ne (nx := 19) 21 F dX12_each_16 rfl (by decide) (fun c_16 => ?_) (fun c_16 => ?_)
      · exfalso
        clear F E
        simp only [isin, bI_0, bI_n0, ne_eq, Decidable.not_not] at *
        (try simp only [fa_eq, fa_lt, fa_le, Int32.reduceToInt, Int32.toInt_zero] at *)
        omega
      · refine g_iconst (nx := 20) (-1) F dX12_each_19 rfl rfl ?_
        refine g_iret F E dX12_each_20 ?_
        exact ⟨⟨_, (zs_id _ 184 _ rfl).symm⟩, by rw [eachR, if_neg hA]⟩
