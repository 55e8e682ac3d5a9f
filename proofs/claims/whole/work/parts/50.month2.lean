/-- FILES: right, haste -/
def okF (D : zSt) (n : Nat) : Prop := ∀ j, j < n → (D 4 j = 0 ∨ D 4 j = 1) ∧ ∃ h, h ≤ 200 ∧ D 5 j = nI h
theorem wt_rng (T : Nat → TXT) (D P : zSt) (n : Nat) (o y : Int32) (i j : Nat) : ∃ w, w ≤ 24 ∧ wtP T D P n o y i j = nI w := by
  have := pkF_rng (T i) (fcP D P n o y i j 0) 119 (most := 24) (by decide)
  rw [fa_le, fa_le] at this
  unfold wtP
  exact nI_rng (by simpa using this.1) (by have := this.2; rw [show (24 : Int32).toInt = 24 from rfl] at this; exact this)
theorem pr_pos (T : Nat → TXT) (D P : zSt) (n : Nat) (o y : Int32) (i j : Nat) : 0 ≤ prP T D P n o y i j := (pkF_rng (T i) (fcP D P n o y i j 0) 97 (most := 10000) (by decide)).1
set_option maxHeartbeats 4000000 in
set_option maxRecDepth 100000 in
theorem k_passes (T : Nat → TXT) (D P σ0 : zSt) (n f s mm e : Nat) (o y : Int32) (σ : zSt) (he : EnvK σ0 D T s e) (hr : KR σ0 σ P) (hth : thK σ0 n f y) (ho : σ0 145 6 = o) (hD : okD D s e) (hok : okP s n mm 0 (zu (zu P 8 2 0) 8 1 0)) (hmm : mm ≤ 900) (hokf : okF D n) : Con mX12_passes 5 [.ref 145] σ (fun r τ => ∃ τ1, KR σ0 τ1 (monP T D s n o y n 0 (zu (zu P 8 2 0) 8 1 0)) ∧ τ = zu (zu τ1 145 6 (nI (bcN ((monP T D s n o y n 0 (zu (zu P 8 2 0) 8 1 0)) 8 1).toInt.toNat))) 145 0 (y + 1) ∧ r = none) := by
  refine Con.of (lv := [.ref 145, .long 0, .long 0, .long 0]) mk_X12_passes rfl (Nat.le_of_ble_eq_true rfl) rfl (fun X F E => ?_)
  obtain ⟨hnf, hf40, hf, hy, hthq⟩ := hth
  have hs8 := he.2.2.2.2.2.2.2.1
  have hokF := okP_mon (T := T) (o := o) (y := y) (m := mm) hD hs8 n 0 (zu (zu P 8 2 0) 8 1 0) (by omega) hok
  obtain ⟨t, ht, ht2⟩ := hokF.2.2
  have L1 : ∀ (q j : Nat) (τ : zSt) (z2 z3 : Value), j + q = f → n ≤ j → KR σ0 τ (monP T D s n o y n 0 (zu (zu P 8 2 0) 8 1 0)) → Gs X 12 [.ref 145, .int (nI j), z2, z3] [] τ := by
    intro q
    induction q with
    | zero =>
      intro j τ z2 z3 hj hnj hr
      have hj : j = f := hj
      subst hj
      refine g_iload_n (nx := 13) 1 F dX12_passes_12 rfl rfl rfl ?_
      refine g_aload_n (nx := 14) 0 F dX12_passes_13 rfl rfl rfl ?_
      refine g_getV (nx := 17) (nI j) F dX12_passes_14 rfl fl_RX12_171 rfl (by decide) (by decide) rfl rfl ((hr.2.1 3 (by decide) (by decide)).trans hf) ?_
      refine g_icmp_ge (nx := 20) 187 F dX12_passes_17 rfl (by decide) (fun c_17 => ?_) (fun c_17 => absurd c_17 (by exact fun zq => zq (nI_le (Nat.le_refl j) (by omega))))
      refine g_aload_n (nx := 188) 0 F dX12_passes_187 rfl rfl rfl ?_
      refine g_aload_n (nx := 189) 0 F dX12_passes_188 rfl rfl rfl ?_
      refine g_getV (nx := 192) (nI t) F dX12_passes_189 rfl fl_RX12_337 rfl (by decide) (by decide) rfl rfl (hr.2.2.2.1.trans ht2) ?_
      refine g_callS (nx := 195) 1 0 [.int (nI t)] F dX12_passes_192 rfl ml_RX12_328 mo_X12_bits rfl rfl (Nat.le_of_ble_eq_true rfl) (by first | decide | omega) (k_bits t _ ht) (fun r_192 τ_192 q_192 => ?_)
      obtain ⟨rfl, et_192⟩ := q_192
      have et_192 := et_192.symm
      subst et_192
      dsimp only [Option.toList, List.append, List.cons_append, List.nil_append]
      refine g_putI (nx := 198) F dX12_passes_195 rfl fl_RX12_308 fi_11_6 rfl (by decide) (by decide) rfl rfl ?_
      refine g_aload_n (nx := 199) 0 F dX12_passes_198 rfl rfl rfl ?_
      refine g_aload_n (nx := 200) 0 F dX12_passes_199 rfl rfl rfl ?_
      refine g_getV (nx := 203) (y) F dX12_passes_200 rfl fl_RX12_183 rfl (by decide) (by decide) rfl rfl ((hr.2.1 0 (by decide) (by decide)).trans hy) ?_
      refine g_iconst (nx := 204) (1) F dX12_passes_203 rfl rfl ?_
      refine g_iadd (nx := 205) F dX12_passes_204 rfl ?_
      refine g_putI (nx := 208) F dX12_passes_205 rfl fl_RX12_183 fi_11_0 rfl (by decide) (by decide) rfl rfl ?_
      refine g_vret F E dX12_passes_208 ?_
      refine ⟨τ, hr, ?_, rfl⟩
      rw [ht2, nI_tn (by omega)]
    | succ q ih =>
      intro j τ z2 z3 hj hnj hr
      have hth2 : ¬ τ 155 j ≤ τ 145 0 := by
        rw [hr.1 155 (by decide) (by decide) (by decide) (by decide) (by decide) (by decide), hr.2.1 0 (by decide) (by decide), hy, hthq j (by omega)]
        omega
      refine g_iload_n (nx := 13) 1 F dX12_passes_12 rfl rfl rfl ?_
      refine g_aload_n (nx := 14) 0 F dX12_passes_13 rfl rfl rfl ?_
      refine g_getV (nx := 17) (nI f) F dX12_passes_14 rfl fl_RX12_171 rfl (by decide) (by decide) rfl rfl ((hr.2.1 3 (by decide) (by decide)).trans hf) ?_
      refine g_icmp_ge (nx := 20) 187 F dX12_passes_17 rfl (by decide) (fun c_17 => absurd c_17 (by exact nI_ge (by omega) (by omega))) (fun c_17 => ?_)
      refine g_aload_n (nx := 21) 0 F dX12_passes_20 rfl rfl rfl ?_
      refine g_iload_n (nx := 22) 1 F dX12_passes_21 rfl rfl rfl ?_
      refine g_callV (nx := 25) 1 0 [.int (nI j)] F dX12_passes_22 rfl ml_RX12_305 mo_X12_isThere rfl rfl rfl rfl (Nat.le_of_ble_eq_true rfl) (by first | decide | omega) (k_isThere j _ (by omega)) (fun r_22 τ_22 q_22 => ?_)
      obtain ⟨rfl, et_22⟩ := q_22
      have et_22 := et_22.symm
      subst et_22
      dsimp only [Option.toList, List.append, List.cons_append, List.nil_append]
      refine g_if_eq (nx := 28) 181 F dX12_passes_25 rfl (by decide) (fun c_25 => ?_) (fun c_25 => absurd c_25 (by exact fun zq => zq (bI_f hth2)))
      refine g_iinc (nx := 184) (1) F dX12_passes_181 rfl rfl (by decide) (by decide) ?_
      try dsimp only [List.set]
      refine g_goto 12 F dX12_passes_184 (by decide) ?_
      rw [nI_1]
      exact ih (j + 1) _ _ _ (by omega) (by omega) hr
  have L2 : ∀ (q j : Nat) (Q τ : zSt) (z2 z3 : Value), j + q = n → okP s n mm j Q → KR σ0 τ Q → monP T D s n o y q j Q = monP T D s n o y n 0 (zu (zu P 8 2 0) 8 1 0) → Gs X 12 [.ref 145, .int (nI j), z2, z3] [] τ := by
    intro q
    induction q with
    | zero =>
      intro j Q τ z2 z3 hj hok hr hA
      have hA : Q = _ := hA
      have hj : j = n := hj
      exact L1 (f - j) j τ z2 z3 (by omega) (by omega) (by rw [← hA]; exact hr)
    | succ q ih =>
      intro j Q τ z2 z3 hj hok hr hA
      have hjn : j < n := by omega
      have heτ := KR_env hr he
      have hth2 : τ 155 j ≤ τ 145 0 := by
        rw [hr.1 155 (by decide) (by decide) (by decide) (by decide) (by decide) (by decide), hr.2.1 0 (by decide) (by decide), hy, hthq j (by omega)]
        omega
      obtain ⟨⟨a, ha, hQ⟩, m0, hm0, hm1⟩ := hok.1 j (by omega)
      rw [if_neg (by omega)] at hm0
      obtain ⟨hri, h0, hh0, hh1⟩ := hokf j hjn
      have hok2 := okP_step (T := T) (o := o) (y := y) hD hok (show j < n by omega) hs8
      have hlt := nI_ltI (a := a) (b := s) (by omega) (by omega)
      have heq := nI_eq (a := a) (b := s) (by omega) (by omega)
      rw [monP] at hA
      unfold stepP at hA hok2
      rw [hQ] at hA hok2
      by_cases has : a = s
      · rw [if_neg (by rw [hlt]; omega)] at hA hok2
        refine g_iload_n (nx := 13) 1 F dX12_passes_12 rfl rfl rfl ?_
        refine g_aload_n (nx := 14) 0 F dX12_passes_13 rfl rfl rfl ?_
        refine g_getV (nx := 17) (nI f) F dX12_passes_14 rfl fl_RX12_171 rfl (by decide) (by decide) rfl rfl ((hr.2.1 3 (by decide) (by decide)).trans hf) ?_
        refine g_icmp_ge (nx := 20) 187 F dX12_passes_17 rfl (by decide) (fun c_17 => absurd c_17 (by exact nI_ge (by omega) (by omega))) (fun c_17 => ?_)
        refine g_aload_n (nx := 21) 0 F dX12_passes_20 rfl rfl rfl ?_
        refine g_iload_n (nx := 22) 1 F dX12_passes_21 rfl rfl rfl ?_
        refine g_callV (nx := 25) 1 0 [.int (nI j)] F dX12_passes_22 rfl ml_RX12_305 mo_X12_isThere rfl rfl rfl rfl (Nat.le_of_ble_eq_true rfl) (by first | decide | omega) (k_isThere j _ (by omega)) (fun r_22 τ_22 q_22 => ?_)
        obtain ⟨rfl, et_22⟩ := q_22
        have et_22 := et_22.symm
        subst et_22
        dsimp only [Option.toList, List.append, List.cons_append, List.nil_append]
        refine g_if_eq (nx := 28) 181 F dX12_passes_25 rfl (by decide) (fun c_25 => absurd c_25 (by exact bI_n0.mpr hth2)) (fun c_25 => ?_)
        refine g_aload_n (nx := 29) 0 F dX12_passes_28 rfl rfl rfl ?_
        refine g_getR (nx := 32) F dX12_passes_29 rfl fl_RX12_40 rfl (by decide) (by decide) rfl ?_
        refine g_iload_n (nx := 33) 1 F dX12_passes_32 rfl rfl rfl ?_
        refine g_ialdN (nx := 34) (j) (nI a) F dX12_passes_33 rfl rfl (by omega) ((congrFun (hr.2.2.2.2.2 0 (by decide)) j).trans hQ) ?_
        refine g_aload_n (nx := 35) 0 F dX12_passes_34 rfl rfl rfl ?_
        refine g_getV (nx := 38) (nI s) F dX12_passes_35 rfl fl_RX12_168 rfl (by decide) (by decide) rfl rfl (heτ.2.2.2.2.2.2.1) ?_
        refine g_icmp_ne (nx := 41) 44 F dX12_passes_38 rfl (by decide) (fun c_38 => absurd c_38 (by exact fun zq => zq (by rw [has]))) (fun c_38 => ?_)
        refine g_goto 181 F dX12_passes_41 (by decide) ?_
        refine g_iinc (nx := 184) (1) F dX12_passes_181 rfl rfl (by decide) (by decide) ?_
        try dsimp only [List.set]
        refine g_goto 12 F dX12_passes_184 (by decide) ?_
        rw [nI_1]
        exact ih (j + 1) Q _ _ _ (by omega) hok2 hr hA
      · have ha2 : a < s := by omega
        rw [if_pos (hlt.mpr ha2)] at hA hok2
        obtain ⟨_, _, _, _, _, _, _, hsi, _⟩ := srvI_ok (T := T) (n := n) (o := o) (y := y) hD ha2 hs8 hQ
        have hsi : srvI T D n o y Q j < 10 := Nat.lt_of_lt_of_le hsi hD.1
        have hZ1 : (srvQ D Q j) 0 j = nI a := by rw [srvQ_o.1 0 (by decide)]; exact hQ
        have hZ2 : (srvQ D Q j) 2 j = nI m0 := by rw [srvQ_o.1 2 (by decide)]; exact hm1
        obtain ⟨w0, hw0, hw1⟩ := wt_rng T D (srvQ D Q j) n o y (srvI T D n o y Q j) j
        have hpq := payQ_K (c := (srvQ D Q j) 1 j) (pr_pos T D (srvQ D Q j) n o y (srvI T D n o y Q j) j) hri hh1 hh0 hw1 hw0 hZ2 (by omega)
        have hp0 : ¬ 0 < prP T D (srvQ D Q j) n o y (srvI T D n o y Q j) j ↔ prP T D (srvQ D Q j) n o y (srvI T D n o y Q j) j = 0 := by
          have := pr_pos T D (srvQ D Q j) n o y (srvI T D n o y Q j) j
          rw [fa_le] at this
          rw [fa_lt, fa_eq]
          omega
        unfold servP at hA hok2
        refine g_iload_n (nx := 13) 1 F dX12_passes_12 rfl rfl rfl ?_
        refine g_aload_n (nx := 14) 0 F dX12_passes_13 rfl rfl rfl ?_
        refine g_getV (nx := 17) (nI f) F dX12_passes_14 rfl fl_RX12_171 rfl (by decide) (by decide) rfl rfl ((hr.2.1 3 (by decide) (by decide)).trans hf) ?_
        refine g_icmp_ge (nx := 20) 187 F dX12_passes_17 rfl (by decide) (fun c_17 => absurd c_17 (by exact nI_ge (by omega) (by omega))) (fun c_17 => ?_)
        refine g_aload_n (nx := 21) 0 F dX12_passes_20 rfl rfl rfl ?_
        refine g_iload_n (nx := 22) 1 F dX12_passes_21 rfl rfl rfl ?_
        refine g_callV (nx := 25) 1 0 [.int (nI j)] F dX12_passes_22 rfl ml_RX12_305 mo_X12_isThere rfl rfl rfl rfl (Nat.le_of_ble_eq_true rfl) (by first | decide | omega) (k_isThere j _ (by omega)) (fun r_22 τ_22 q_22 => ?_)
        obtain ⟨rfl, et_22⟩ := q_22
        have et_22 := et_22.symm
        subst et_22
        dsimp only [Option.toList, List.append, List.cons_append, List.nil_append]
        refine g_if_eq (nx := 28) 181 F dX12_passes_25 rfl (by decide) (fun c_25 => absurd c_25 (by exact bI_n0.mpr hth2)) (fun c_25 => ?_)
        refine g_aload_n (nx := 29) 0 F dX12_passes_28 rfl rfl rfl ?_
        refine g_getR (nx := 32) F dX12_passes_29 rfl fl_RX12_40 rfl (by decide) (by decide) rfl ?_
        refine g_iload_n (nx := 33) 1 F dX12_passes_32 rfl rfl rfl ?_
        refine g_ialdN (nx := 34) (j) (nI a) F dX12_passes_33 rfl rfl (by omega) ((congrFun (hr.2.2.2.2.2 0 (by decide)) j).trans hQ) ?_
        refine g_aload_n (nx := 35) 0 F dX12_passes_34 rfl rfl rfl ?_
        refine g_getV (nx := 38) (nI s) F dX12_passes_35 rfl fl_RX12_168 rfl (by decide) (by decide) rfl rfl (heτ.2.2.2.2.2.2.1) ?_
        refine g_icmp_ne (nx := 41) 44 F dX12_passes_38 rfl (by decide) (fun c_38 => ?_) (fun c_38 => absurd c_38 (by exact fun zq => absurd (heq.mp zq) (by omega)))
        refine g_aload_n (nx := 45) 0 F dX12_passes_44 rfl rfl rfl ?_
        refine g_iload_n (nx := 46) 1 F dX12_passes_45 rfl rfl rfl ?_
        refine g_callV (nx := 49) 1 4 [.int (nI j)] F dX12_passes_46 rfl ml_RX12_340 mo_X12_server rfl rfl rfl rfl (Nat.le_of_ble_eq_true rfl) (by first | decide | omega) (k_server T D Q σ0 n f s e a o y j _ he hr ⟨hnf, hf40, hf, hy, hthq⟩ ho hjn ha2 hQ hD hok.2.1) (fun r_46 τ_46 q_46 => ?_)
        obtain ⟨rfl, hr46⟩ := q_46
        dsimp only [Option.toList, List.append, List.cons_append, List.nil_append]
        have he46 := KR_env hr46 he
        have ht46 := KR_th hr46 ⟨hnf, hf40, hf, hy, hthq⟩
        refine g_istore_n (nx := 50) 2 F dX12_passes_49 rfl rfl (by decide) ?_
        try dsimp only [List.set]
        refine g_aload_n (nx := 51) 0 F dX12_passes_50 rfl rfl rfl ?_
        refine g_iload_n (nx := 52) 2 F dX12_passes_51 rfl rfl rfl ?_
        refine g_iload_n (nx := 53) 1 F dX12_passes_52 rfl rfl rfl ?_
        refine g_callV (nx := 56) 2 3 [.int (nI (srvI T D n o y Q j)), .int (nI j)] F dX12_passes_53 rfl ml_RX12_331 mo_X12_asksOf rfl rfl rfl rfl (Nat.le_of_ble_eq_true rfl) (by first | decide | omega) (k_asksOf T D (srvQ D Q j) σ0 n f s e a o y (srvI T D n o y Q j) j _ he46 hr46 ht46 ho hsi hjn (by omega) hZ1) (fun r_53 τ_53 q_53 => ?_)
        obtain ⟨rfl, hr3, hp3, hw3⟩ := q_53
        dsimp only [Option.toList, List.append, List.cons_append, List.nil_append]
        have he3 := KR_env hr3 he
        refine g_aload_n (nx := 57) 0 F dX12_passes_56 rfl rfl rfl ?_
        refine g_getR (nx := 60) F dX12_passes_57 rfl fl_RX12_28 rfl (by decide) (by decide) rfl ?_
        refine g_iload_n (nx := 61) 1 F dX12_passes_60 rfl rfl rfl ?_
        refine g_ialdN (nx := 62) (j) (D 4 j) F dX12_passes_61 rfl rfl (by omega) (congrFun he3.2.2.2.2.1 j) ?_
        refine g_iconst (nx := 63) (1) F dX12_passes_62 rfl rfl ?_
        refine g_icmp_ne (nx := 66) 70 F dX12_passes_63 rfl (by decide) (fun c_63 => ?_) (fun c_63 => ?_)
        · refine g_iconst (nx := 71) (0) F dX12_passes_70 rfl rfl ?_
          refine g_istore_n (nx := 72) 3 F dX12_passes_71 rfl rfl (by decide) ?_
          try dsimp only [List.set]
          refine g_aload_n (nx := 73) 0 F dX12_passes_72 rfl rfl rfl ?_
          refine g_getV (nx := 76) (prP T D (srvQ D Q j) n o y (srvI T D n o y Q j) j) F dX12_passes_73 rfl fl_RX12_318 rfl (by decide) (by decide) rfl rfl (hp3) ?_
          refine g_if_le (nx := 79) 135 F dX12_passes_76 rfl (by decide) (fun c_76 => ?_) (fun c_76 => ?_)
          · refine g_iload_n (nx := 136) 3 F dX12_passes_135 rfl rfl rfl ?_
            refine g_if_ne (nx := 139) 146 F dX12_passes_136 rfl (by decide) (fun c_136 => ?_) (fun c_136 => ?_)
            · refine g_aload_n (nx := 147) 0 F dX12_passes_146 rfl rfl rfl ?_
              refine g_getR (nx := 150) F dX12_passes_147 rfl fl_RX12_46 rfl (by decide) (by decide) rfl ?_
              refine g_iload_n (nx := 151) 1 F dX12_passes_150 rfl rfl rfl ?_
              refine g_ialdN (nx := 152) (j) ((srvQ D Q j) 2 j) F dX12_passes_151 rfl rfl (by omega) (congrFun (hr3.2.2.2.2.2 2 (by decide)) j) ?_
              refine g_aload_n (nx := 153) 0 F dX12_passes_152 rfl rfl rfl ?_
              refine g_getV (nx := 156) (wtP T D (srvQ D Q j) n o y (srvI T D n o y Q j) j) F dX12_passes_153 rfl fl_RX12_321 rfl (by decide) (by decide) rfl rfl (hw3) ?_
              refine g_icmp_lt (nx := 159) 167 F dX12_passes_156 rfl (by decide) (fun c_156 => ?_) (fun c_156 => ?_)
              · refine g_aload_n (nx := 168) 0 F dX12_passes_167 rfl rfl rfl ?_
                refine g_getR (nx := 171) F dX12_passes_168 rfl fl_RX12_46 rfl (by decide) (by decide) rfl ?_
                refine g_iload_n (nx := 172) 1 F dX12_passes_171 rfl rfl rfl ?_
                refine g_aload_n (nx := 173) 0 F dX12_passes_172 rfl rfl rfl ?_
                refine g_getR (nx := 176) F dX12_passes_173 rfl fl_RX12_46 rfl (by decide) (by decide) rfl ?_
                refine g_iload_n (nx := 177) 1 F dX12_passes_176 rfl rfl rfl ?_
                refine g_ialdN (nx := 178) (j) ((srvQ D Q j) 2 j) F dX12_passes_177 rfl rfl (by omega) (congrFun (hr3.2.2.2.2.2 2 (by decide)) j) ?_
                refine g_iconst (nx := 179) (1) F dX12_passes_178 rfl rfl ?_
                refine g_iadd (nx := 180) F dX12_passes_179 rfl ?_
                refine g_iastN (nx := 181) (j) F dX12_passes_180 rfl rfl (by omega) ?_
                refine g_iinc (nx := 184) (1) F dX12_passes_181 rfl rfl (by decide) (by decide) ?_
                try dsimp only [List.set]
                refine g_goto 12 F dX12_passes_184 (by decide) ?_
                rw [nI_1]
                first
                  | exact absurd rfl c_93
                  | exact absurd (show (1 : Int32) = 0 from c_93) (by decide)
                  | exact absurd rfl c_136
                  | exact absurd (show (1 : Int32) = 0 from c_136) (by decide)
                  | (have hq := hpq.mp ⟨not_le_I.mp c_76, not_lt_I.mp c_89, Or.inl c_63⟩; rw [if_pos hq] at hA hok2; exact ih (j + 1) _ _ _ _ (by omega) hok2 hr129 hA)
                  | (have hq := hpq.mp ⟨not_le_I.mp c_76, not_lt_I.mp c_89, Or.inr (not_lt_I.mp c_118)⟩; rw [if_pos hq] at hA hok2; exact ih (j + 1) _ _ _ _ (by omega) hok2 hr129 hA)
                  | (have hq : ¬ payQ (prP T D (srvQ D Q j) n o y (srvI T D n o y Q j) j) (wtP T D (srvQ D Q j) n o y (srvI T D n o y Q j) j) ((srvQ D Q j) 1 j) (D 4 j) (D 5 j) ((srvQ D Q j) 2 j) := fun z => absurd (hpq.mpr z).1 (not_lt_I.mpr c_76); rw [if_neg hq] at hA hok2
                     first
                       | (have hq2 : (D 4 j = 1 ∨ prP T D (srvQ D Q j) n o y (srvI T D n o y Q j) j = 0) ∧ wtP T D (srvQ D Q j) n o y (srvI T D n o y Q j) j ≤ (srvQ D Q j) 2 j := ⟨Or.inl c_63, not_lt_I.mp c_156⟩; rw [if_pos hq2] at hA hok2; exact ih (j + 1) _ _ _ _ (by omega) hok2 hr161 hA)
                       | (have hq2 : (D 4 j = 1 ∨ prP T D (srvQ D Q j) n o y (srvI T D n o y Q j) j = 0) ∧ wtP T D (srvQ D Q j) n o y (srvI T D n o y Q j) j ≤ (srvQ D Q j) 2 j := ⟨Or.inr c_143, not_lt_I.mp c_156⟩; rw [if_pos hq2] at hA hok2; exact ih (j + 1) _ _ _ _ (by omega) hok2 hr161 hA)
                       | (have hq2 : ¬ ((D 4 j = 1 ∨ prP T D (srvQ D Q j) n o y (srvI T D n o y Q j) j = 0) ∧ wtP T D (srvQ D Q j) n o y (srvI T D n o y Q j) j ≤ (srvQ D Q j) 2 j) := fun z => absurd c_156 (not_lt_I.mpr z.2); rw [if_neg hq2] at hA hok2; exact ih (j + 1) _ _ _ _ (by omega) hok2 (KR_upd 2 j _ (by decide) hr3) hA)
                       | (have hq2 : ¬ ((D 4 j = 1 ∨ prP T D (srvQ D Q j) n o y (srvI T D n o y Q j) j = 0) ∧ wtP T D (srvQ D Q j) n o y (srvI T D n o y Q j) j ≤ (srvQ D Q j) 2 j) := fun z => z.1.elim c_63 c_143; rw [if_neg hq2] at hA hok2; exact ih (j + 1) _ _ _ _ (by omega) hok2 (KR_upd 2 j _ (by decide) hr3) hA))
                  | (have hq : ¬ payQ (prP T D (srvQ D Q j) n o y (srvI T D n o y Q j) j) (wtP T D (srvQ D Q j) n o y (srvI T D n o y Q j) j) ((srvQ D Q j) 1 j) (D 4 j) (D 5 j) ((srvQ D Q j) 2 j) := fun z => absurd c_89 (not_lt_I.mpr (hpq.mpr z).2.1); rw [if_neg hq] at hA hok2
                     first
                       | (have hq2 : (D 4 j = 1 ∨ prP T D (srvQ D Q j) n o y (srvI T D n o y Q j) j = 0) ∧ wtP T D (srvQ D Q j) n o y (srvI T D n o y Q j) j ≤ (srvQ D Q j) 2 j := ⟨Or.inl c_63, not_lt_I.mp c_156⟩; rw [if_pos hq2] at hA hok2; exact ih (j + 1) _ _ _ _ (by omega) hok2 hr161 hA)
                       | (have hq2 : (D 4 j = 1 ∨ prP T D (srvQ D Q j) n o y (srvI T D n o y Q j) j = 0) ∧ wtP T D (srvQ D Q j) n o y (srvI T D n o y Q j) j ≤ (srvQ D Q j) 2 j := ⟨Or.inr c_143, not_lt_I.mp c_156⟩; rw [if_pos hq2] at hA hok2; exact ih (j + 1) _ _ _ _ (by omega) hok2 hr161 hA)
                       | (have hq2 : ¬ ((D 4 j = 1 ∨ prP T D (srvQ D Q j) n o y (srvI T D n o y Q j) j = 0) ∧ wtP T D (srvQ D Q j) n o y (srvI T D n o y Q j) j ≤ (srvQ D Q j) 2 j) := fun z => absurd c_156 (not_lt_I.mpr z.2); rw [if_neg hq2] at hA hok2; exact ih (j + 1) _ _ _ _ (by omega) hok2 (KR_upd 2 j _ (by decide) hr3) hA)
                       | (have hq2 : ¬ ((D 4 j = 1 ∨ prP T D (srvQ D Q j) n o y (srvI T D n o y Q j) j = 0) ∧ wtP T D (srvQ D Q j) n o y (srvI T D n o y Q j) j ≤ (srvQ D Q j) 2 j) := fun z => z.1.elim c_63 c_143; rw [if_neg hq2] at hA hok2; exact ih (j + 1) _ _ _ _ (by omega) hok2 (KR_upd 2 j _ (by decide) hr3) hA))
                  | (have hq : ¬ payQ (prP T D (srvQ D Q j) n o y (srvI T D n o y Q j) j) (wtP T D (srvQ D Q j) n o y (srvI T D n o y Q j) j) ((srvQ D Q j) 1 j) (D 4 j) (D 5 j) ((srvQ D Q j) 2 j) := fun z => (hpq.mpr z).2.2.elim (fun z1 => z1 c_63) (fun z1 => absurd c_118 (not_lt_I.mpr z1)); rw [if_neg hq] at hA hok2
                     first
                       | (have hq2 : (D 4 j = 1 ∨ prP T D (srvQ D Q j) n o y (srvI T D n o y Q j) j = 0) ∧ wtP T D (srvQ D Q j) n o y (srvI T D n o y Q j) j ≤ (srvQ D Q j) 2 j := ⟨Or.inl c_63, not_lt_I.mp c_156⟩; rw [if_pos hq2] at hA hok2; exact ih (j + 1) _ _ _ _ (by omega) hok2 hr161 hA)
                       | (have hq2 : ¬ ((D 4 j = 1 ∨ prP T D (srvQ D Q j) n o y (srvI T D n o y Q j) j = 0) ∧ wtP T D (srvQ D Q j) n o y (srvI T D n o y Q j) j ≤ (srvQ D Q j) 2 j) := fun z => absurd c_156 (not_lt_I.mpr z.2); rw [if_neg hq2] at hA hok2; exact ih (j + 1) _ _ _ _ (by omega) hok2 (KR_upd 2 j _ (by decide) hr3) hA))
              · refine g_aload_n (nx := 160) 0 F dX12_passes_159 rfl rfl rfl ?_
                refine g_iload_n (nx := 161) 1 F dX12_passes_160 rfl rfl rfl ?_
                refine g_callV (nx := 164) 1 0 [.int (nI j)] F dX12_passes_161 rfl ml_RX12_346 mo_X12_goesOn rfl rfl rfl rfl (Nat.le_of_ble_eq_true rfl) (by first | decide | omega) (k_goesOn (srvQ D Q j) σ0 s a y j _ hr3 hy (by omega) hZ1 he3.2.2.2.2.2.2.1) (fun r_161 τ_161 q_161 => ?_)
                obtain ⟨rfl, hr161⟩ := q_161
                dsimp only [Option.toList, List.append, List.cons_append, List.nil_append]
                refine g_goto 181 F dX12_passes_164 (by decide) ?_
                refine g_iinc (nx := 184) (1) F dX12_passes_181 rfl rfl (by decide) (by decide) ?_
                try dsimp only [List.set]
                refine g_goto 12 F dX12_passes_184 (by decide) ?_
                rw [nI_1]
                first
                  | exact absurd rfl c_93
                  | exact absurd (show (1 : Int32) = 0 from c_93) (by decide)
                  | exact absurd rfl c_136
                  | exact absurd (show (1 : Int32) = 0 from c_136) (by decide)
                  | (have hq := hpq.mp ⟨not_le_I.mp c_76, not_lt_I.mp c_89, Or.inl c_63⟩; rw [if_pos hq] at hA hok2; exact ih (j + 1) _ _ _ _ (by omega) hok2 hr129 hA)
                  | (have hq := hpq.mp ⟨not_le_I.mp c_76, not_lt_I.mp c_89, Or.inr (not_lt_I.mp c_118)⟩; rw [if_pos hq] at hA hok2; exact ih (j + 1) _ _ _ _ (by omega) hok2 hr129 hA)
                  | (have hq : ¬ payQ (prP T D (srvQ D Q j) n o y (srvI T D n o y Q j) j) (wtP T D (srvQ D Q j) n o y (srvI T D n o y Q j) j) ((srvQ D Q j) 1 j) (D 4 j) (D 5 j) ((srvQ D Q j) 2 j) := fun z => absurd (hpq.mpr z).1 (not_lt_I.mpr c_76); rw [if_neg hq] at hA hok2
                     first
                       | (have hq2 : (D 4 j = 1 ∨ prP T D (srvQ D Q j) n o y (srvI T D n o y Q j) j = 0) ∧ wtP T D (srvQ D Q j) n o y (srvI T D n o y Q j) j ≤ (srvQ D Q j) 2 j := ⟨Or.inl c_63, not_lt_I.mp c_156⟩; rw [if_pos hq2] at hA hok2; exact ih (j + 1) _ _ _ _ (by omega) hok2 hr161 hA)
                       | (have hq2 : (D 4 j = 1 ∨ prP T D (srvQ D Q j) n o y (srvI T D n o y Q j) j = 0) ∧ wtP T D (srvQ D Q j) n o y (srvI T D n o y Q j) j ≤ (srvQ D Q j) 2 j := ⟨Or.inr c_143, not_lt_I.mp c_156⟩; rw [if_pos hq2] at hA hok2; exact ih (j + 1) _ _ _ _ (by omega) hok2 hr161 hA)
                       | (have hq2 : ¬ ((D 4 j = 1 ∨ prP T D (srvQ D Q j) n o y (srvI T D n o y Q j) j = 0) ∧ wtP T D (srvQ D Q j) n o y (srvI T D n o y Q j) j ≤ (srvQ D Q j) 2 j) := fun z => absurd c_156 (not_lt_I.mpr z.2); rw [if_neg hq2] at hA hok2; exact ih (j + 1) _ _ _ _ (by omega) hok2 (KR_upd 2 j _ (by decide) hr3) hA)
                       | (have hq2 : ¬ ((D 4 j = 1 ∨ prP T D (srvQ D Q j) n o y (srvI T D n o y Q j) j = 0) ∧ wtP T D (srvQ D Q j) n o y (srvI T D n o y Q j) j ≤ (srvQ D Q j) 2 j) := fun z => z.1.elim c_63 c_143; rw [if_neg hq2] at hA hok2; exact ih (j + 1) _ _ _ _ (by omega) hok2 (KR_upd 2 j _ (by decide) hr3) hA))
                  | (have hq : ¬ payQ (prP T D (srvQ D Q j) n o y (srvI T D n o y Q j) j) (wtP T D (srvQ D Q j) n o y (srvI T D n o y Q j) j) ((srvQ D Q j) 1 j) (D 4 j) (D 5 j) ((srvQ D Q j) 2 j) := fun z => absurd c_89 (not_lt_I.mpr (hpq.mpr z).2.1); rw [if_neg hq] at hA hok2
                     first
                       | (have hq2 : (D 4 j = 1 ∨ prP T D (srvQ D Q j) n o y (srvI T D n o y Q j) j = 0) ∧ wtP T D (srvQ D Q j) n o y (srvI T D n o y Q j) j ≤ (srvQ D Q j) 2 j := ⟨Or.inl c_63, not_lt_I.mp c_156⟩; rw [if_pos hq2] at hA hok2; exact ih (j + 1) _ _ _ _ (by omega) hok2 hr161 hA)
                       | (have hq2 : (D 4 j = 1 ∨ prP T D (srvQ D Q j) n o y (srvI T D n o y Q j) j = 0) ∧ wtP T D (srvQ D Q j) n o y (srvI T D n o y Q j) j ≤ (srvQ D Q j) 2 j := ⟨Or.inr c_143, not_lt_I.mp c_156⟩; rw [if_pos hq2] at hA hok2; exact ih (j + 1) _ _ _ _ (by omega) hok2 hr161 hA)
                       | (have hq2 : ¬ ((D 4 j = 1 ∨ prP T D (srvQ D Q j) n o y (srvI T D n o y Q j) j = 0) ∧ wtP T D (srvQ D Q j) n o y (srvI T D n o y Q j) j ≤ (srvQ D Q j) 2 j) := fun z => absurd c_156 (not_lt_I.mpr z.2); rw [if_neg hq2] at hA hok2; exact ih (j + 1) _ _ _ _ (by omega) hok2 (KR_upd 2 j _ (by decide) hr3) hA)
                       | (have hq2 : ¬ ((D 4 j = 1 ∨ prP T D (srvQ D Q j) n o y (srvI T D n o y Q j) j = 0) ∧ wtP T D (srvQ D Q j) n o y (srvI T D n o y Q j) j ≤ (srvQ D Q j) 2 j) := fun z => z.1.elim c_63 c_143; rw [if_neg hq2] at hA hok2; exact ih (j + 1) _ _ _ _ (by omega) hok2 (KR_upd 2 j _ (by decide) hr3) hA))
                  | (have hq : ¬ payQ (prP T D (srvQ D Q j) n o y (srvI T D n o y Q j) j) (wtP T D (srvQ D Q j) n o y (srvI T D n o y Q j) j) ((srvQ D Q j) 1 j) (D 4 j) (D 5 j) ((srvQ D Q j) 2 j) := fun z => (hpq.mpr z).2.2.elim (fun z1 => z1 c_63) (fun z1 => absurd c_118 (not_lt_I.mpr z1)); rw [if_neg hq] at hA hok2
                     first
                       | (have hq2 : (D 4 j = 1 ∨ prP T D (srvQ D Q j) n o y (srvI T D n o y Q j) j = 0) ∧ wtP T D (srvQ D Q j) n o y (srvI T D n o y Q j) j ≤ (srvQ D Q j) 2 j := ⟨Or.inl c_63, not_lt_I.mp c_156⟩; rw [if_pos hq2] at hA hok2; exact ih (j + 1) _ _ _ _ (by omega) hok2 hr161 hA)
                       | (have hq2 : ¬ ((D 4 j = 1 ∨ prP T D (srvQ D Q j) n o y (srvI T D n o y Q j) j = 0) ∧ wtP T D (srvQ D Q j) n o y (srvI T D n o y Q j) j ≤ (srvQ D Q j) 2 j) := fun z => absurd c_156 (not_lt_I.mpr z.2); rw [if_neg hq2] at hA hok2; exact ih (j + 1) _ _ _ _ (by omega) hok2 (KR_upd 2 j _ (by decide) hr3) hA))
            · refine g_aload_n (nx := 140) 0 F dX12_passes_139 rfl rfl rfl ?_
              refine g_getV (nx := 143) (prP T D (srvQ D Q j) n o y (srvI T D n o y Q j) j) F dX12_passes_140 rfl fl_RX12_318 rfl (by decide) (by decide) rfl rfl (hp3) ?_
              refine g_if_ne (nx := 146) 167 F dX12_passes_143 rfl (by decide) (fun c_143 => ?_) (fun c_143 => ?_)
              · refine g_aload_n (nx := 168) 0 F dX12_passes_167 rfl rfl rfl ?_
                refine g_getR (nx := 171) F dX12_passes_168 rfl fl_RX12_46 rfl (by decide) (by decide) rfl ?_
                refine g_iload_n (nx := 172) 1 F dX12_passes_171 rfl rfl rfl ?_
                refine g_aload_n (nx := 173) 0 F dX12_passes_172 rfl rfl rfl ?_
                refine g_getR (nx := 176) F dX12_passes_173 rfl fl_RX12_46 rfl (by decide) (by decide) rfl ?_
                refine g_iload_n (nx := 177) 1 F dX12_passes_176 rfl rfl rfl ?_
                refine g_ialdN (nx := 178) (j) ((srvQ D Q j) 2 j) F dX12_passes_177 rfl rfl (by omega) (congrFun (hr3.2.2.2.2.2 2 (by decide)) j) ?_
                refine g_iconst (nx := 179) (1) F dX12_passes_178 rfl rfl ?_
                refine g_iadd (nx := 180) F dX12_passes_179 rfl ?_
                refine g_iastN (nx := 181) (j) F dX12_passes_180 rfl rfl (by omega) ?_
                refine g_iinc (nx := 184) (1) F dX12_passes_181 rfl rfl (by decide) (by decide) ?_
                try dsimp only [List.set]
                refine g_goto 12 F dX12_passes_184 (by decide) ?_
                rw [nI_1]
                first
                  | exact absurd rfl c_93
                  | exact absurd (show (1 : Int32) = 0 from c_93) (by decide)
                  | exact absurd rfl c_136
                  | exact absurd (show (1 : Int32) = 0 from c_136) (by decide)
                  | (have hq := hpq.mp ⟨not_le_I.mp c_76, not_lt_I.mp c_89, Or.inl c_63⟩; rw [if_pos hq] at hA hok2; exact ih (j + 1) _ _ _ _ (by omega) hok2 hr129 hA)
                  | (have hq := hpq.mp ⟨not_le_I.mp c_76, not_lt_I.mp c_89, Or.inr (not_lt_I.mp c_118)⟩; rw [if_pos hq] at hA hok2; exact ih (j + 1) _ _ _ _ (by omega) hok2 hr129 hA)
                  | (have hq : ¬ payQ (prP T D (srvQ D Q j) n o y (srvI T D n o y Q j) j) (wtP T D (srvQ D Q j) n o y (srvI T D n o y Q j) j) ((srvQ D Q j) 1 j) (D 4 j) (D 5 j) ((srvQ D Q j) 2 j) := fun z => absurd (hpq.mpr z).1 (not_lt_I.mpr c_76); rw [if_neg hq] at hA hok2
                     first
                       | (have hq2 : (D 4 j = 1 ∨ prP T D (srvQ D Q j) n o y (srvI T D n o y Q j) j = 0) ∧ wtP T D (srvQ D Q j) n o y (srvI T D n o y Q j) j ≤ (srvQ D Q j) 2 j := ⟨Or.inl c_63, not_lt_I.mp c_156⟩; rw [if_pos hq2] at hA hok2; exact ih (j + 1) _ _ _ _ (by omega) hok2 hr161 hA)
                       | (have hq2 : (D 4 j = 1 ∨ prP T D (srvQ D Q j) n o y (srvI T D n o y Q j) j = 0) ∧ wtP T D (srvQ D Q j) n o y (srvI T D n o y Q j) j ≤ (srvQ D Q j) 2 j := ⟨Or.inr c_143, not_lt_I.mp c_156⟩; rw [if_pos hq2] at hA hok2; exact ih (j + 1) _ _ _ _ (by omega) hok2 hr161 hA)
                       | (have hq2 : ¬ ((D 4 j = 1 ∨ prP T D (srvQ D Q j) n o y (srvI T D n o y Q j) j = 0) ∧ wtP T D (srvQ D Q j) n o y (srvI T D n o y Q j) j ≤ (srvQ D Q j) 2 j) := fun z => absurd c_156 (not_lt_I.mpr z.2); rw [if_neg hq2] at hA hok2; exact ih (j + 1) _ _ _ _ (by omega) hok2 (KR_upd 2 j _ (by decide) hr3) hA)
                       | (have hq2 : ¬ ((D 4 j = 1 ∨ prP T D (srvQ D Q j) n o y (srvI T D n o y Q j) j = 0) ∧ wtP T D (srvQ D Q j) n o y (srvI T D n o y Q j) j ≤ (srvQ D Q j) 2 j) := fun z => z.1.elim c_63 c_143; rw [if_neg hq2] at hA hok2; exact ih (j + 1) _ _ _ _ (by omega) hok2 (KR_upd 2 j _ (by decide) hr3) hA))
                  | (have hq : ¬ payQ (prP T D (srvQ D Q j) n o y (srvI T D n o y Q j) j) (wtP T D (srvQ D Q j) n o y (srvI T D n o y Q j) j) ((srvQ D Q j) 1 j) (D 4 j) (D 5 j) ((srvQ D Q j) 2 j) := fun z => absurd c_89 (not_lt_I.mpr (hpq.mpr z).2.1); rw [if_neg hq] at hA hok2
                     first
                       | (have hq2 : (D 4 j = 1 ∨ prP T D (srvQ D Q j) n o y (srvI T D n o y Q j) j = 0) ∧ wtP T D (srvQ D Q j) n o y (srvI T D n o y Q j) j ≤ (srvQ D Q j) 2 j := ⟨Or.inl c_63, not_lt_I.mp c_156⟩; rw [if_pos hq2] at hA hok2; exact ih (j + 1) _ _ _ _ (by omega) hok2 hr161 hA)
                       | (have hq2 : (D 4 j = 1 ∨ prP T D (srvQ D Q j) n o y (srvI T D n o y Q j) j = 0) ∧ wtP T D (srvQ D Q j) n o y (srvI T D n o y Q j) j ≤ (srvQ D Q j) 2 j := ⟨Or.inr c_143, not_lt_I.mp c_156⟩; rw [if_pos hq2] at hA hok2; exact ih (j + 1) _ _ _ _ (by omega) hok2 hr161 hA)
                       | (have hq2 : ¬ ((D 4 j = 1 ∨ prP T D (srvQ D Q j) n o y (srvI T D n o y Q j) j = 0) ∧ wtP T D (srvQ D Q j) n o y (srvI T D n o y Q j) j ≤ (srvQ D Q j) 2 j) := fun z => absurd c_156 (not_lt_I.mpr z.2); rw [if_neg hq2] at hA hok2; exact ih (j + 1) _ _ _ _ (by omega) hok2 (KR_upd 2 j _ (by decide) hr3) hA)
                       | (have hq2 : ¬ ((D 4 j = 1 ∨ prP T D (srvQ D Q j) n o y (srvI T D n o y Q j) j = 0) ∧ wtP T D (srvQ D Q j) n o y (srvI T D n o y Q j) j ≤ (srvQ D Q j) 2 j) := fun z => z.1.elim c_63 c_143; rw [if_neg hq2] at hA hok2; exact ih (j + 1) _ _ _ _ (by omega) hok2 (KR_upd 2 j _ (by decide) hr3) hA))
                  | (have hq : ¬ payQ (prP T D (srvQ D Q j) n o y (srvI T D n o y Q j) j) (wtP T D (srvQ D Q j) n o y (srvI T D n o y Q j) j) ((srvQ D Q j) 1 j) (D 4 j) (D 5 j) ((srvQ D Q j) 2 j) := fun z => (hpq.mpr z).2.2.elim (fun z1 => z1 c_63) (fun z1 => absurd c_118 (not_lt_I.mpr z1)); rw [if_neg hq] at hA hok2
                     first
                       | (have hq2 : (D 4 j = 1 ∨ prP T D (srvQ D Q j) n o y (srvI T D n o y Q j) j = 0) ∧ wtP T D (srvQ D Q j) n o y (srvI T D n o y Q j) j ≤ (srvQ D Q j) 2 j := ⟨Or.inl c_63, not_lt_I.mp c_156⟩; rw [if_pos hq2] at hA hok2; exact ih (j + 1) _ _ _ _ (by omega) hok2 hr161 hA)
                       | (have hq2 : ¬ ((D 4 j = 1 ∨ prP T D (srvQ D Q j) n o y (srvI T D n o y Q j) j = 0) ∧ wtP T D (srvQ D Q j) n o y (srvI T D n o y Q j) j ≤ (srvQ D Q j) 2 j) := fun z => absurd c_156 (not_lt_I.mpr z.2); rw [if_neg hq2] at hA hok2; exact ih (j + 1) _ _ _ _ (by omega) hok2 (KR_upd 2 j _ (by decide) hr3) hA))
              · refine g_aload_n (nx := 147) 0 F dX12_passes_146 rfl rfl rfl ?_
                refine g_getR (nx := 150) F dX12_passes_147 rfl fl_RX12_46 rfl (by decide) (by decide) rfl ?_
                refine g_iload_n (nx := 151) 1 F dX12_passes_150 rfl rfl rfl ?_
                refine g_ialdN (nx := 152) (j) ((srvQ D Q j) 2 j) F dX12_passes_151 rfl rfl (by omega) (congrFun (hr3.2.2.2.2.2 2 (by decide)) j) ?_
                refine g_aload_n (nx := 153) 0 F dX12_passes_152 rfl rfl rfl ?_
                refine g_getV (nx := 156) (wtP T D (srvQ D Q j) n o y (srvI T D n o y Q j) j) F dX12_passes_153 rfl fl_RX12_321 rfl (by decide) (by decide) rfl rfl (hw3) ?_
                refine g_icmp_lt (nx := 159) 167 F dX12_passes_156 rfl (by decide) (fun c_156 => ?_) (fun c_156 => ?_)
                · refine g_aload_n (nx := 168) 0 F dX12_passes_167 rfl rfl rfl ?_
                  refine g_getR (nx := 171) F dX12_passes_168 rfl fl_RX12_46 rfl (by decide) (by decide) rfl ?_
                  refine g_iload_n (nx := 172) 1 F dX12_passes_171 rfl rfl rfl ?_
                  refine g_aload_n (nx := 173) 0 F dX12_passes_172 rfl rfl rfl ?_
                  refine g_getR (nx := 176) F dX12_passes_173 rfl fl_RX12_46 rfl (by decide) (by decide) rfl ?_
                  refine g_iload_n (nx := 177) 1 F dX12_passes_176 rfl rfl rfl ?_
                  refine g_ialdN (nx := 178) (j) ((srvQ D Q j) 2 j) F dX12_passes_177 rfl rfl (by omega) (congrFun (hr3.2.2.2.2.2 2 (by decide)) j) ?_
                  refine g_iconst (nx := 179) (1) F dX12_passes_178 rfl rfl ?_
                  refine g_iadd (nx := 180) F dX12_passes_179 rfl ?_
                  refine g_iastN (nx := 181) (j) F dX12_passes_180 rfl rfl (by omega) ?_
                  refine g_iinc (nx := 184) (1) F dX12_passes_181 rfl rfl (by decide) (by decide) ?_
                  try dsimp only [List.set]
                  refine g_goto 12 F dX12_passes_184 (by decide) ?_
                  rw [nI_1]
                  first
                    | exact absurd rfl c_93
                    | exact absurd (show (1 : Int32) = 0 from c_93) (by decide)
                    | exact absurd rfl c_136
                    | exact absurd (show (1 : Int32) = 0 from c_136) (by decide)
                    | (have hq := hpq.mp ⟨not_le_I.mp c_76, not_lt_I.mp c_89, Or.inl c_63⟩; rw [if_pos hq] at hA hok2; exact ih (j + 1) _ _ _ _ (by omega) hok2 hr129 hA)
                    | (have hq := hpq.mp ⟨not_le_I.mp c_76, not_lt_I.mp c_89, Or.inr (not_lt_I.mp c_118)⟩; rw [if_pos hq] at hA hok2; exact ih (j + 1) _ _ _ _ (by omega) hok2 hr129 hA)
                    | (have hq : ¬ payQ (prP T D (srvQ D Q j) n o y (srvI T D n o y Q j) j) (wtP T D (srvQ D Q j) n o y (srvI T D n o y Q j) j) ((srvQ D Q j) 1 j) (D 4 j) (D 5 j) ((srvQ D Q j) 2 j) := fun z => absurd (hpq.mpr z).1 (not_lt_I.mpr c_76); rw [if_neg hq] at hA hok2
                       first
                         | (have hq2 : (D 4 j = 1 ∨ prP T D (srvQ D Q j) n o y (srvI T D n o y Q j) j = 0) ∧ wtP T D (srvQ D Q j) n o y (srvI T D n o y Q j) j ≤ (srvQ D Q j) 2 j := ⟨Or.inl c_63, not_lt_I.mp c_156⟩; rw [if_pos hq2] at hA hok2; exact ih (j + 1) _ _ _ _ (by omega) hok2 hr161 hA)
                         | (have hq2 : (D 4 j = 1 ∨ prP T D (srvQ D Q j) n o y (srvI T D n o y Q j) j = 0) ∧ wtP T D (srvQ D Q j) n o y (srvI T D n o y Q j) j ≤ (srvQ D Q j) 2 j := ⟨Or.inr c_143, not_lt_I.mp c_156⟩; rw [if_pos hq2] at hA hok2; exact ih (j + 1) _ _ _ _ (by omega) hok2 hr161 hA)
                         | (have hq2 : ¬ ((D 4 j = 1 ∨ prP T D (srvQ D Q j) n o y (srvI T D n o y Q j) j = 0) ∧ wtP T D (srvQ D Q j) n o y (srvI T D n o y Q j) j ≤ (srvQ D Q j) 2 j) := fun z => absurd c_156 (not_lt_I.mpr z.2); rw [if_neg hq2] at hA hok2; exact ih (j + 1) _ _ _ _ (by omega) hok2 (KR_upd 2 j _ (by decide) hr3) hA)
                         | (have hq2 : ¬ ((D 4 j = 1 ∨ prP T D (srvQ D Q j) n o y (srvI T D n o y Q j) j = 0) ∧ wtP T D (srvQ D Q j) n o y (srvI T D n o y Q j) j ≤ (srvQ D Q j) 2 j) := fun z => z.1.elim c_63 c_143; rw [if_neg hq2] at hA hok2; exact ih (j + 1) _ _ _ _ (by omega) hok2 (KR_upd 2 j _ (by decide) hr3) hA))
                    | (have hq : ¬ payQ (prP T D (srvQ D Q j) n o y (srvI T D n o y Q j) j) (wtP T D (srvQ D Q j) n o y (srvI T D n o y Q j) j) ((srvQ D Q j) 1 j) (D 4 j) (D 5 j) ((srvQ D Q j) 2 j) := fun z => absurd c_89 (not_lt_I.mpr (hpq.mpr z).2.1); rw [if_neg hq] at hA hok2
                       first
                         | (have hq2 : (D 4 j = 1 ∨ prP T D (srvQ D Q j) n o y (srvI T D n o y Q j) j = 0) ∧ wtP T D (srvQ D Q j) n o y (srvI T D n o y Q j) j ≤ (srvQ D Q j) 2 j := ⟨Or.inl c_63, not_lt_I.mp c_156⟩; rw [if_pos hq2] at hA hok2; exact ih (j + 1) _ _ _ _ (by omega) hok2 hr161 hA)
                         | (have hq2 : (D 4 j = 1 ∨ prP T D (srvQ D Q j) n o y (srvI T D n o y Q j) j = 0) ∧ wtP T D (srvQ D Q j) n o y (srvI T D n o y Q j) j ≤ (srvQ D Q j) 2 j := ⟨Or.inr c_143, not_lt_I.mp c_156⟩; rw [if_pos hq2] at hA hok2; exact ih (j + 1) _ _ _ _ (by omega) hok2 hr161 hA)
                         | (have hq2 : ¬ ((D 4 j = 1 ∨ prP T D (srvQ D Q j) n o y (srvI T D n o y Q j) j = 0) ∧ wtP T D (srvQ D Q j) n o y (srvI T D n o y Q j) j ≤ (srvQ D Q j) 2 j) := fun z => absurd c_156 (not_lt_I.mpr z.2); rw [if_neg hq2] at hA hok2; exact ih (j + 1) _ _ _ _ (by omega) hok2 (KR_upd 2 j _ (by decide) hr3) hA)
                         | (have hq2 : ¬ ((D 4 j = 1 ∨ prP T D (srvQ D Q j) n o y (srvI T D n o y Q j) j = 0) ∧ wtP T D (srvQ D Q j) n o y (srvI T D n o y Q j) j ≤ (srvQ D Q j) 2 j) := fun z => z.1.elim c_63 c_143; rw [if_neg hq2] at hA hok2; exact ih (j + 1) _ _ _ _ (by omega) hok2 (KR_upd 2 j _ (by decide) hr3) hA))
                    | (have hq : ¬ payQ (prP T D (srvQ D Q j) n o y (srvI T D n o y Q j) j) (wtP T D (srvQ D Q j) n o y (srvI T D n o y Q j) j) ((srvQ D Q j) 1 j) (D 4 j) (D 5 j) ((srvQ D Q j) 2 j) := fun z => (hpq.mpr z).2.2.elim (fun z1 => z1 c_63) (fun z1 => absurd c_118 (not_lt_I.mpr z1)); rw [if_neg hq] at hA hok2
                       first
                         | (have hq2 : (D 4 j = 1 ∨ prP T D (srvQ D Q j) n o y (srvI T D n o y Q j) j = 0) ∧ wtP T D (srvQ D Q j) n o y (srvI T D n o y Q j) j ≤ (srvQ D Q j) 2 j := ⟨Or.inl c_63, not_lt_I.mp c_156⟩; rw [if_pos hq2] at hA hok2; exact ih (j + 1) _ _ _ _ (by omega) hok2 hr161 hA)
                         | (have hq2 : ¬ ((D 4 j = 1 ∨ prP T D (srvQ D Q j) n o y (srvI T D n o y Q j) j = 0) ∧ wtP T D (srvQ D Q j) n o y (srvI T D n o y Q j) j ≤ (srvQ D Q j) 2 j) := fun z => absurd c_156 (not_lt_I.mpr z.2); rw [if_neg hq2] at hA hok2; exact ih (j + 1) _ _ _ _ (by omega) hok2 (KR_upd 2 j _ (by decide) hr3) hA))
                · refine g_aload_n (nx := 160) 0 F dX12_passes_159 rfl rfl rfl ?_
                  refine g_iload_n (nx := 161) 1 F dX12_passes_160 rfl rfl rfl ?_
                  refine g_callV (nx := 164) 1 0 [.int (nI j)] F dX12_passes_161 rfl ml_RX12_346 mo_X12_goesOn rfl rfl rfl rfl (Nat.le_of_ble_eq_true rfl) (by first | decide | omega) (k_goesOn (srvQ D Q j) σ0 s a y j _ hr3 hy (by omega) hZ1 he3.2.2.2.2.2.2.1) (fun r_161 τ_161 q_161 => ?_)
                  obtain ⟨rfl, hr161⟩ := q_161
                  dsimp only [Option.toList, List.append, List.cons_append, List.nil_append]
                  refine g_goto 181 F dX12_passes_164 (by decide) ?_
                  refine g_iinc (nx := 184) (1) F dX12_passes_181 rfl rfl (by decide) (by decide) ?_
                  try dsimp only [List.set]
                  refine g_goto 12 F dX12_passes_184 (by decide) ?_
                  rw [nI_1]
                  first
                    | exact absurd rfl c_93
                    | exact absurd (show (1 : Int32) = 0 from c_93) (by decide)
                    | exact absurd rfl c_136
                    | exact absurd (show (1 : Int32) = 0 from c_136) (by decide)
                    | (have hq := hpq.mp ⟨not_le_I.mp c_76, not_lt_I.mp c_89, Or.inl c_63⟩; rw [if_pos hq] at hA hok2; exact ih (j + 1) _ _ _ _ (by omega) hok2 hr129 hA)
                    | (have hq := hpq.mp ⟨not_le_I.mp c_76, not_lt_I.mp c_89, Or.inr (not_lt_I.mp c_118)⟩; rw [if_pos hq] at hA hok2; exact ih (j + 1) _ _ _ _ (by omega) hok2 hr129 hA)
                    | (have hq : ¬ payQ (prP T D (srvQ D Q j) n o y (srvI T D n o y Q j) j) (wtP T D (srvQ D Q j) n o y (srvI T D n o y Q j) j) ((srvQ D Q j) 1 j) (D 4 j) (D 5 j) ((srvQ D Q j) 2 j) := fun z => absurd (hpq.mpr z).1 (not_lt_I.mpr c_76); rw [if_neg hq] at hA hok2
                       first
                         | (have hq2 : (D 4 j = 1 ∨ prP T D (srvQ D Q j) n o y (srvI T D n o y Q j) j = 0) ∧ wtP T D (srvQ D Q j) n o y (srvI T D n o y Q j) j ≤ (srvQ D Q j) 2 j := ⟨Or.inl c_63, not_lt_I.mp c_156⟩; rw [if_pos hq2] at hA hok2; exact ih (j + 1) _ _ _ _ (by omega) hok2 hr161 hA)
                         | (have hq2 : (D 4 j = 1 ∨ prP T D (srvQ D Q j) n o y (srvI T D n o y Q j) j = 0) ∧ wtP T D (srvQ D Q j) n o y (srvI T D n o y Q j) j ≤ (srvQ D Q j) 2 j := ⟨Or.inr c_143, not_lt_I.mp c_156⟩; rw [if_pos hq2] at hA hok2; exact ih (j + 1) _ _ _ _ (by omega) hok2 hr161 hA)
                         | (have hq2 : ¬ ((D 4 j = 1 ∨ prP T D (srvQ D Q j) n o y (srvI T D n o y Q j) j = 0) ∧ wtP T D (srvQ D Q j) n o y (srvI T D n o y Q j) j ≤ (srvQ D Q j) 2 j) := fun z => absurd c_156 (not_lt_I.mpr z.2); rw [if_neg hq2] at hA hok2; exact ih (j + 1) _ _ _ _ (by omega) hok2 (KR_upd 2 j _ (by decide) hr3) hA)
                         | (have hq2 : ¬ ((D 4 j = 1 ∨ prP T D (srvQ D Q j) n o y (srvI T D n o y Q j) j = 0) ∧ wtP T D (srvQ D Q j) n o y (srvI T D n o y Q j) j ≤ (srvQ D Q j) 2 j) := fun z => z.1.elim c_63 c_143; rw [if_neg hq2] at hA hok2; exact ih (j + 1) _ _ _ _ (by omega) hok2 (KR_upd 2 j _ (by decide) hr3) hA))
                    | (have hq : ¬ payQ (prP T D (srvQ D Q j) n o y (srvI T D n o y Q j) j) (wtP T D (srvQ D Q j) n o y (srvI T D n o y Q j) j) ((srvQ D Q j) 1 j) (D 4 j) (D 5 j) ((srvQ D Q j) 2 j) := fun z => absurd c_89 (not_lt_I.mpr (hpq.mpr z).2.1); rw [if_neg hq] at hA hok2
                       first
                         | (have hq2 : (D 4 j = 1 ∨ prP T D (srvQ D Q j) n o y (srvI T D n o y Q j) j = 0) ∧ wtP T D (srvQ D Q j) n o y (srvI T D n o y Q j) j ≤ (srvQ D Q j) 2 j := ⟨Or.inl c_63, not_lt_I.mp c_156⟩; rw [if_pos hq2] at hA hok2; exact ih (j + 1) _ _ _ _ (by omega) hok2 hr161 hA)
                         | (have hq2 : (D 4 j = 1 ∨ prP T D (srvQ D Q j) n o y (srvI T D n o y Q j) j = 0) ∧ wtP T D (srvQ D Q j) n o y (srvI T D n o y Q j) j ≤ (srvQ D Q j) 2 j := ⟨Or.inr c_143, not_lt_I.mp c_156⟩; rw [if_pos hq2] at hA hok2; exact ih (j + 1) _ _ _ _ (by omega) hok2 hr161 hA)
                         | (have hq2 : ¬ ((D 4 j = 1 ∨ prP T D (srvQ D Q j) n o y (srvI T D n o y Q j) j = 0) ∧ wtP T D (srvQ D Q j) n o y (srvI T D n o y Q j) j ≤ (srvQ D Q j) 2 j) := fun z => absurd c_156 (not_lt_I.mpr z.2); rw [if_neg hq2] at hA hok2; exact ih (j + 1) _ _ _ _ (by omega) hok2 (KR_upd 2 j _ (by decide) hr3) hA)
                         | (have hq2 : ¬ ((D 4 j = 1 ∨ prP T D (srvQ D Q j) n o y (srvI T D n o y Q j) j = 0) ∧ wtP T D (srvQ D Q j) n o y (srvI T D n o y Q j) j ≤ (srvQ D Q j) 2 j) := fun z => z.1.elim c_63 c_143; rw [if_neg hq2] at hA hok2; exact ih (j + 1) _ _ _ _ (by omega) hok2 (KR_upd 2 j _ (by decide) hr3) hA))
                    | (have hq : ¬ payQ (prP T D (srvQ D Q j) n o y (srvI T D n o y Q j) j) (wtP T D (srvQ D Q j) n o y (srvI T D n o y Q j) j) ((srvQ D Q j) 1 j) (D 4 j) (D 5 j) ((srvQ D Q j) 2 j) := fun z => (hpq.mpr z).2.2.elim (fun z1 => z1 c_63) (fun z1 => absurd c_118 (not_lt_I.mpr z1)); rw [if_neg hq] at hA hok2
                       first
                         | (have hq2 : (D 4 j = 1 ∨ prP T D (srvQ D Q j) n o y (srvI T D n o y Q j) j = 0) ∧ wtP T D (srvQ D Q j) n o y (srvI T D n o y Q j) j ≤ (srvQ D Q j) 2 j := ⟨Or.inl c_63, not_lt_I.mp c_156⟩; rw [if_pos hq2] at hA hok2; exact ih (j + 1) _ _ _ _ (by omega) hok2 hr161 hA)
                         | (have hq2 : ¬ ((D 4 j = 1 ∨ prP T D (srvQ D Q j) n o y (srvI T D n o y Q j) j = 0) ∧ wtP T D (srvQ D Q j) n o y (srvI T D n o y Q j) j ≤ (srvQ D Q j) 2 j) := fun z => absurd c_156 (not_lt_I.mpr z.2); rw [if_neg hq2] at hA hok2; exact ih (j + 1) _ _ _ _ (by omega) hok2 (KR_upd 2 j _ (by decide) hr3) hA))
          · refine g_aload_n (nx := 80) 0 F dX12_passes_79 rfl rfl rfl ?_
            refine g_getV (nx := 83) (prP T D (srvQ D Q j) n o y (srvI T D n o y Q j) j) F dX12_passes_80 rfl fl_RX12_318 rfl (by decide) (by decide) rfl rfl (hp3) ?_
            refine g_aload_n (nx := 84) 0 F dX12_passes_83 rfl rfl rfl ?_
            refine g_getR (nx := 87) F dX12_passes_84 rfl fl_RX12_43 rfl (by decide) (by decide) rfl ?_
            refine g_iload_n (nx := 88) 1 F dX12_passes_87 rfl rfl rfl ?_
            refine g_ialdN (nx := 89) (j) ((srvQ D Q j) 1 j) F dX12_passes_88 rfl rfl (by omega) (congrFun (hr3.2.2.2.2.2 1 (by decide)) j) ?_
            refine g_icmp_gt (nx := 92) 135 F dX12_passes_89 rfl (by decide) (fun c_89 => ?_) (fun c_89 => ?_)
            · refine g_iload_n (nx := 136) 3 F dX12_passes_135 rfl rfl rfl ?_
              refine g_if_ne (nx := 139) 146 F dX12_passes_136 rfl (by decide) (fun c_136 => ?_) (fun c_136 => ?_)
              · refine g_aload_n (nx := 147) 0 F dX12_passes_146 rfl rfl rfl ?_
                refine g_getR (nx := 150) F dX12_passes_147 rfl fl_RX12_46 rfl (by decide) (by decide) rfl ?_
                refine g_iload_n (nx := 151) 1 F dX12_passes_150 rfl rfl rfl ?_
                refine g_ialdN (nx := 152) (j) ((srvQ D Q j) 2 j) F dX12_passes_151 rfl rfl (by omega) (congrFun (hr3.2.2.2.2.2 2 (by decide)) j) ?_
                refine g_aload_n (nx := 153) 0 F dX12_passes_152 rfl rfl rfl ?_
                refine g_getV (nx := 156) (wtP T D (srvQ D Q j) n o y (srvI T D n o y Q j) j) F dX12_passes_153 rfl fl_RX12_321 rfl (by decide) (by decide) rfl rfl (hw3) ?_
                refine g_icmp_lt (nx := 159) 167 F dX12_passes_156 rfl (by decide) (fun c_156 => ?_) (fun c_156 => ?_)
                · refine g_aload_n (nx := 168) 0 F dX12_passes_167 rfl rfl rfl ?_
                  refine g_getR (nx := 171) F dX12_passes_168 rfl fl_RX12_46 rfl (by decide) (by decide) rfl ?_
                  refine g_iload_n (nx := 172) 1 F dX12_passes_171 rfl rfl rfl ?_
                  refine g_aload_n (nx := 173) 0 F dX12_passes_172 rfl rfl rfl ?_
                  refine g_getR (nx := 176) F dX12_passes_173 rfl fl_RX12_46 rfl (by decide) (by decide) rfl ?_
                  refine g_iload_n (nx := 177) 1 F dX12_passes_176 rfl rfl rfl ?_
                  refine g_ialdN (nx := 178) (j) ((srvQ D Q j) 2 j) F dX12_passes_177 rfl rfl (by omega) (congrFun (hr3.2.2.2.2.2 2 (by decide)) j) ?_
                  refine g_iconst (nx := 179) (1) F dX12_passes_178 rfl rfl ?_
                  refine g_iadd (nx := 180) F dX12_passes_179 rfl ?_
                  refine g_iastN (nx := 181) (j) F dX12_passes_180 rfl rfl (by omega) ?_
                  refine g_iinc (nx := 184) (1) F dX12_passes_181 rfl rfl (by decide) (by decide) ?_
                  try dsimp only [List.set]
                  refine g_goto 12 F dX12_passes_184 (by decide) ?_
                  rw [nI_1]
                  first
                    | exact absurd rfl c_93
                    | exact absurd (show (1 : Int32) = 0 from c_93) (by decide)
                    | exact absurd rfl c_136
                    | exact absurd (show (1 : Int32) = 0 from c_136) (by decide)
                    | (have hq := hpq.mp ⟨not_le_I.mp c_76, not_lt_I.mp c_89, Or.inl c_63⟩; rw [if_pos hq] at hA hok2; exact ih (j + 1) _ _ _ _ (by omega) hok2 hr129 hA)
                    | (have hq := hpq.mp ⟨not_le_I.mp c_76, not_lt_I.mp c_89, Or.inr (not_lt_I.mp c_118)⟩; rw [if_pos hq] at hA hok2; exact ih (j + 1) _ _ _ _ (by omega) hok2 hr129 hA)
                    | (have hq : ¬ payQ (prP T D (srvQ D Q j) n o y (srvI T D n o y Q j) j) (wtP T D (srvQ D Q j) n o y (srvI T D n o y Q j) j) ((srvQ D Q j) 1 j) (D 4 j) (D 5 j) ((srvQ D Q j) 2 j) := fun z => absurd (hpq.mpr z).1 (not_lt_I.mpr c_76); rw [if_neg hq] at hA hok2
                       first
                         | (have hq2 : (D 4 j = 1 ∨ prP T D (srvQ D Q j) n o y (srvI T D n o y Q j) j = 0) ∧ wtP T D (srvQ D Q j) n o y (srvI T D n o y Q j) j ≤ (srvQ D Q j) 2 j := ⟨Or.inl c_63, not_lt_I.mp c_156⟩; rw [if_pos hq2] at hA hok2; exact ih (j + 1) _ _ _ _ (by omega) hok2 hr161 hA)
                         | (have hq2 : (D 4 j = 1 ∨ prP T D (srvQ D Q j) n o y (srvI T D n o y Q j) j = 0) ∧ wtP T D (srvQ D Q j) n o y (srvI T D n o y Q j) j ≤ (srvQ D Q j) 2 j := ⟨Or.inr c_143, not_lt_I.mp c_156⟩; rw [if_pos hq2] at hA hok2; exact ih (j + 1) _ _ _ _ (by omega) hok2 hr161 hA)
                         | (have hq2 : ¬ ((D 4 j = 1 ∨ prP T D (srvQ D Q j) n o y (srvI T D n o y Q j) j = 0) ∧ wtP T D (srvQ D Q j) n o y (srvI T D n o y Q j) j ≤ (srvQ D Q j) 2 j) := fun z => absurd c_156 (not_lt_I.mpr z.2); rw [if_neg hq2] at hA hok2; exact ih (j + 1) _ _ _ _ (by omega) hok2 (KR_upd 2 j _ (by decide) hr3) hA)
                         | (have hq2 : ¬ ((D 4 j = 1 ∨ prP T D (srvQ D Q j) n o y (srvI T D n o y Q j) j = 0) ∧ wtP T D (srvQ D Q j) n o y (srvI T D n o y Q j) j ≤ (srvQ D Q j) 2 j) := fun z => z.1.elim c_63 c_143; rw [if_neg hq2] at hA hok2; exact ih (j + 1) _ _ _ _ (by omega) hok2 (KR_upd 2 j _ (by decide) hr3) hA))
                    | (have hq : ¬ payQ (prP T D (srvQ D Q j) n o y (srvI T D n o y Q j) j) (wtP T D (srvQ D Q j) n o y (srvI T D n o y Q j) j) ((srvQ D Q j) 1 j) (D 4 j) (D 5 j) ((srvQ D Q j) 2 j) := fun z => absurd c_89 (not_lt_I.mpr (hpq.mpr z).2.1); rw [if_neg hq] at hA hok2
                       first
                         | (have hq2 : (D 4 j = 1 ∨ prP T D (srvQ D Q j) n o y (srvI T D n o y Q j) j = 0) ∧ wtP T D (srvQ D Q j) n o y (srvI T D n o y Q j) j ≤ (srvQ D Q j) 2 j := ⟨Or.inl c_63, not_lt_I.mp c_156⟩; rw [if_pos hq2] at hA hok2; exact ih (j + 1) _ _ _ _ (by omega) hok2 hr161 hA)
                         | (have hq2 : (D 4 j = 1 ∨ prP T D (srvQ D Q j) n o y (srvI T D n o y Q j) j = 0) ∧ wtP T D (srvQ D Q j) n o y (srvI T D n o y Q j) j ≤ (srvQ D Q j) 2 j := ⟨Or.inr c_143, not_lt_I.mp c_156⟩; rw [if_pos hq2] at hA hok2; exact ih (j + 1) _ _ _ _ (by omega) hok2 hr161 hA)
                         | (have hq2 : ¬ ((D 4 j = 1 ∨ prP T D (srvQ D Q j) n o y (srvI T D n o y Q j) j = 0) ∧ wtP T D (srvQ D Q j) n o y (srvI T D n o y Q j) j ≤ (srvQ D Q j) 2 j) := fun z => absurd c_156 (not_lt_I.mpr z.2); rw [if_neg hq2] at hA hok2; exact ih (j + 1) _ _ _ _ (by omega) hok2 (KR_upd 2 j _ (by decide) hr3) hA)
                         | (have hq2 : ¬ ((D 4 j = 1 ∨ prP T D (srvQ D Q j) n o y (srvI T D n o y Q j) j = 0) ∧ wtP T D (srvQ D Q j) n o y (srvI T D n o y Q j) j ≤ (srvQ D Q j) 2 j) := fun z => z.1.elim c_63 c_143; rw [if_neg hq2] at hA hok2; exact ih (j + 1) _ _ _ _ (by omega) hok2 (KR_upd 2 j _ (by decide) hr3) hA))
                    | (have hq : ¬ payQ (prP T D (srvQ D Q j) n o y (srvI T D n o y Q j) j) (wtP T D (srvQ D Q j) n o y (srvI T D n o y Q j) j) ((srvQ D Q j) 1 j) (D 4 j) (D 5 j) ((srvQ D Q j) 2 j) := fun z => (hpq.mpr z).2.2.elim (fun z1 => z1 c_63) (fun z1 => absurd c_118 (not_lt_I.mpr z1)); rw [if_neg hq] at hA hok2
                       first
                         | (have hq2 : (D 4 j = 1 ∨ prP T D (srvQ D Q j) n o y (srvI T D n o y Q j) j = 0) ∧ wtP T D (srvQ D Q j) n o y (srvI T D n o y Q j) j ≤ (srvQ D Q j) 2 j := ⟨Or.inl c_63, not_lt_I.mp c_156⟩; rw [if_pos hq2] at hA hok2; exact ih (j + 1) _ _ _ _ (by omega) hok2 hr161 hA)
                         | (have hq2 : ¬ ((D 4 j = 1 ∨ prP T D (srvQ D Q j) n o y (srvI T D n o y Q j) j = 0) ∧ wtP T D (srvQ D Q j) n o y (srvI T D n o y Q j) j ≤ (srvQ D Q j) 2 j) := fun z => absurd c_156 (not_lt_I.mpr z.2); rw [if_neg hq2] at hA hok2; exact ih (j + 1) _ _ _ _ (by omega) hok2 (KR_upd 2 j _ (by decide) hr3) hA))
                · refine g_aload_n (nx := 160) 0 F dX12_passes_159 rfl rfl rfl ?_
                  refine g_iload_n (nx := 161) 1 F dX12_passes_160 rfl rfl rfl ?_
                  refine g_callV (nx := 164) 1 0 [.int (nI j)] F dX12_passes_161 rfl ml_RX12_346 mo_X12_goesOn rfl rfl rfl rfl (Nat.le_of_ble_eq_true rfl) (by first | decide | omega) (k_goesOn (srvQ D Q j) σ0 s a y j _ hr3 hy (by omega) hZ1 he3.2.2.2.2.2.2.1) (fun r_161 τ_161 q_161 => ?_)
                  obtain ⟨rfl, hr161⟩ := q_161
                  dsimp only [Option.toList, List.append, List.cons_append, List.nil_append]
                  refine g_goto 181 F dX12_passes_164 (by decide) ?_
                  refine g_iinc (nx := 184) (1) F dX12_passes_181 rfl rfl (by decide) (by decide) ?_
                  try dsimp only [List.set]
                  refine g_goto 12 F dX12_passes_184 (by decide) ?_
                  rw [nI_1]
                  first
                    | exact absurd rfl c_93
                    | exact absurd (show (1 : Int32) = 0 from c_93) (by decide)
                    | exact absurd rfl c_136
                    | exact absurd (show (1 : Int32) = 0 from c_136) (by decide)
                    | (have hq := hpq.mp ⟨not_le_I.mp c_76, not_lt_I.mp c_89, Or.inl c_63⟩; rw [if_pos hq] at hA hok2; exact ih (j + 1) _ _ _ _ (by omega) hok2 hr129 hA)
                    | (have hq := hpq.mp ⟨not_le_I.mp c_76, not_lt_I.mp c_89, Or.inr (not_lt_I.mp c_118)⟩; rw [if_pos hq] at hA hok2; exact ih (j + 1) _ _ _ _ (by omega) hok2 hr129 hA)
                    | (have hq : ¬ payQ (prP T D (srvQ D Q j) n o y (srvI T D n o y Q j) j) (wtP T D (srvQ D Q j) n o y (srvI T D n o y Q j) j) ((srvQ D Q j) 1 j) (D 4 j) (D 5 j) ((srvQ D Q j) 2 j) := fun z => absurd (hpq.mpr z).1 (not_lt_I.mpr c_76); rw [if_neg hq] at hA hok2
                       first
                         | (have hq2 : (D 4 j = 1 ∨ prP T D (srvQ D Q j) n o y (srvI T D n o y Q j) j = 0) ∧ wtP T D (srvQ D Q j) n o y (srvI T D n o y Q j) j ≤ (srvQ D Q j) 2 j := ⟨Or.inl c_63, not_lt_I.mp c_156⟩; rw [if_pos hq2] at hA hok2; exact ih (j + 1) _ _ _ _ (by omega) hok2 hr161 hA)
                         | (have hq2 : (D 4 j = 1 ∨ prP T D (srvQ D Q j) n o y (srvI T D n o y Q j) j = 0) ∧ wtP T D (srvQ D Q j) n o y (srvI T D n o y Q j) j ≤ (srvQ D Q j) 2 j := ⟨Or.inr c_143, not_lt_I.mp c_156⟩; rw [if_pos hq2] at hA hok2; exact ih (j + 1) _ _ _ _ (by omega) hok2 hr161 hA)
                         | (have hq2 : ¬ ((D 4 j = 1 ∨ prP T D (srvQ D Q j) n o y (srvI T D n o y Q j) j = 0) ∧ wtP T D (srvQ D Q j) n o y (srvI T D n o y Q j) j ≤ (srvQ D Q j) 2 j) := fun z => absurd c_156 (not_lt_I.mpr z.2); rw [if_neg hq2] at hA hok2; exact ih (j + 1) _ _ _ _ (by omega) hok2 (KR_upd 2 j _ (by decide) hr3) hA)
                         | (have hq2 : ¬ ((D 4 j = 1 ∨ prP T D (srvQ D Q j) n o y (srvI T D n o y Q j) j = 0) ∧ wtP T D (srvQ D Q j) n o y (srvI T D n o y Q j) j ≤ (srvQ D Q j) 2 j) := fun z => z.1.elim c_63 c_143; rw [if_neg hq2] at hA hok2; exact ih (j + 1) _ _ _ _ (by omega) hok2 (KR_upd 2 j _ (by decide) hr3) hA))
                    | (have hq : ¬ payQ (prP T D (srvQ D Q j) n o y (srvI T D n o y Q j) j) (wtP T D (srvQ D Q j) n o y (srvI T D n o y Q j) j) ((srvQ D Q j) 1 j) (D 4 j) (D 5 j) ((srvQ D Q j) 2 j) := fun z => absurd c_89 (not_lt_I.mpr (hpq.mpr z).2.1); rw [if_neg hq] at hA hok2
                       first
                         | (have hq2 : (D 4 j = 1 ∨ prP T D (srvQ D Q j) n o y (srvI T D n o y Q j) j = 0) ∧ wtP T D (srvQ D Q j) n o y (srvI T D n o y Q j) j ≤ (srvQ D Q j) 2 j := ⟨Or.inl c_63, not_lt_I.mp c_156⟩; rw [if_pos hq2] at hA hok2; exact ih (j + 1) _ _ _ _ (by omega) hok2 hr161 hA)
                         | (have hq2 : (D 4 j = 1 ∨ prP T D (srvQ D Q j) n o y (srvI T D n o y Q j) j = 0) ∧ wtP T D (srvQ D Q j) n o y (srvI T D n o y Q j) j ≤ (srvQ D Q j) 2 j := ⟨Or.inr c_143, not_lt_I.mp c_156⟩; rw [if_pos hq2] at hA hok2; exact ih (j + 1) _ _ _ _ (by omega) hok2 hr161 hA)
                         | (have hq2 : ¬ ((D 4 j = 1 ∨ prP T D (srvQ D Q j) n o y (srvI T D n o y Q j) j = 0) ∧ wtP T D (srvQ D Q j) n o y (srvI T D n o y Q j) j ≤ (srvQ D Q j) 2 j) := fun z => absurd c_156 (not_lt_I.mpr z.2); rw [if_neg hq2] at hA hok2; exact ih (j + 1) _ _ _ _ (by omega) hok2 (KR_upd 2 j _ (by decide) hr3) hA)
                         | (have hq2 : ¬ ((D 4 j = 1 ∨ prP T D (srvQ D Q j) n o y (srvI T D n o y Q j) j = 0) ∧ wtP T D (srvQ D Q j) n o y (srvI T D n o y Q j) j ≤ (srvQ D Q j) 2 j) := fun z => z.1.elim c_63 c_143; rw [if_neg hq2] at hA hok2; exact ih (j + 1) _ _ _ _ (by omega) hok2 (KR_upd 2 j _ (by decide) hr3) hA))
                    | (have hq : ¬ payQ (prP T D (srvQ D Q j) n o y (srvI T D n o y Q j) j) (wtP T D (srvQ D Q j) n o y (srvI T D n o y Q j) j) ((srvQ D Q j) 1 j) (D 4 j) (D 5 j) ((srvQ D Q j) 2 j) := fun z => (hpq.mpr z).2.2.elim (fun z1 => z1 c_63) (fun z1 => absurd c_118 (not_lt_I.mpr z1)); rw [if_neg hq] at hA hok2
                       first
                         | (have hq2 : (D 4 j = 1 ∨ prP T D (srvQ D Q j) n o y (srvI T D n o y Q j) j = 0) ∧ wtP T D (srvQ D Q j) n o y (srvI T D n o y Q j) j ≤ (srvQ D Q j) 2 j := ⟨Or.inl c_63, not_lt_I.mp c_156⟩; rw [if_pos hq2] at hA hok2; exact ih (j + 1) _ _ _ _ (by omega) hok2 hr161 hA)
                         | (have hq2 : ¬ ((D 4 j = 1 ∨ prP T D (srvQ D Q j) n o y (srvI T D n o y Q j) j = 0) ∧ wtP T D (srvQ D Q j) n o y (srvI T D n o y Q j) j ≤ (srvQ D Q j) 2 j) := fun z => absurd c_156 (not_lt_I.mpr z.2); rw [if_neg hq2] at hA hok2; exact ih (j + 1) _ _ _ _ (by omega) hok2 (KR_upd 2 j _ (by decide) hr3) hA))
              · refine g_aload_n (nx := 140) 0 F dX12_passes_139 rfl rfl rfl ?_
                refine g_getV (nx := 143) (prP T D (srvQ D Q j) n o y (srvI T D n o y Q j) j) F dX12_passes_140 rfl fl_RX12_318 rfl (by decide) (by decide) rfl rfl (hp3) ?_
                refine g_if_ne (nx := 146) 167 F dX12_passes_143 rfl (by decide) (fun c_143 => ?_) (fun c_143 => ?_)
                · refine g_aload_n (nx := 168) 0 F dX12_passes_167 rfl rfl rfl ?_
                  refine g_getR (nx := 171) F dX12_passes_168 rfl fl_RX12_46 rfl (by decide) (by decide) rfl ?_
                  refine g_iload_n (nx := 172) 1 F dX12_passes_171 rfl rfl rfl ?_
                  refine g_aload_n (nx := 173) 0 F dX12_passes_172 rfl rfl rfl ?_
                  refine g_getR (nx := 176) F dX12_passes_173 rfl fl_RX12_46 rfl (by decide) (by decide) rfl ?_
                  refine g_iload_n (nx := 177) 1 F dX12_passes_176 rfl rfl rfl ?_
                  refine g_ialdN (nx := 178) (j) ((srvQ D Q j) 2 j) F dX12_passes_177 rfl rfl (by omega) (congrFun (hr3.2.2.2.2.2 2 (by decide)) j) ?_
                  refine g_iconst (nx := 179) (1) F dX12_passes_178 rfl rfl ?_
                  refine g_iadd (nx := 180) F dX12_passes_179 rfl ?_
                  refine g_iastN (nx := 181) (j) F dX12_passes_180 rfl rfl (by omega) ?_
                  refine g_iinc (nx := 184) (1) F dX12_passes_181 rfl rfl (by decide) (by decide) ?_
                  try dsimp only [List.set]
                  refine g_goto 12 F dX12_passes_184 (by decide) ?_
                  rw [nI_1]
                  first
                    | exact absurd rfl c_93
                    | exact absurd (show (1 : Int32) = 0 from c_93) (by decide)
                    | exact absurd rfl c_136
                    | exact absurd (show (1 : Int32) = 0 from c_136) (by decide)
                    | (have hq := hpq.mp ⟨not_le_I.mp c_76, not_lt_I.mp c_89, Or.inl c_63⟩; rw [if_pos hq] at hA hok2; exact ih (j + 1) _ _ _ _ (by omega) hok2 hr129 hA)
                    | (have hq := hpq.mp ⟨not_le_I.mp c_76, not_lt_I.mp c_89, Or.inr (not_lt_I.mp c_118)⟩; rw [if_pos hq] at hA hok2; exact ih (j + 1) _ _ _ _ (by omega) hok2 hr129 hA)
                    | (have hq : ¬ payQ (prP T D (srvQ D Q j) n o y (srvI T D n o y Q j) j) (wtP T D (srvQ D Q j) n o y (srvI T D n o y Q j) j) ((srvQ D Q j) 1 j) (D 4 j) (D 5 j) ((srvQ D Q j) 2 j) := fun z => absurd (hpq.mpr z).1 (not_lt_I.mpr c_76); rw [if_neg hq] at hA hok2
                       first
                         | (have hq2 : (D 4 j = 1 ∨ prP T D (srvQ D Q j) n o y (srvI T D n o y Q j) j = 0) ∧ wtP T D (srvQ D Q j) n o y (srvI T D n o y Q j) j ≤ (srvQ D Q j) 2 j := ⟨Or.inl c_63, not_lt_I.mp c_156⟩; rw [if_pos hq2] at hA hok2; exact ih (j + 1) _ _ _ _ (by omega) hok2 hr161 hA)
                         | (have hq2 : (D 4 j = 1 ∨ prP T D (srvQ D Q j) n o y (srvI T D n o y Q j) j = 0) ∧ wtP T D (srvQ D Q j) n o y (srvI T D n o y Q j) j ≤ (srvQ D Q j) 2 j := ⟨Or.inr c_143, not_lt_I.mp c_156⟩; rw [if_pos hq2] at hA hok2; exact ih (j + 1) _ _ _ _ (by omega) hok2 hr161 hA)
                         | (have hq2 : ¬ ((D 4 j = 1 ∨ prP T D (srvQ D Q j) n o y (srvI T D n o y Q j) j = 0) ∧ wtP T D (srvQ D Q j) n o y (srvI T D n o y Q j) j ≤ (srvQ D Q j) 2 j) := fun z => absurd c_156 (not_lt_I.mpr z.2); rw [if_neg hq2] at hA hok2; exact ih (j + 1) _ _ _ _ (by omega) hok2 (KR_upd 2 j _ (by decide) hr3) hA)
                         | (have hq2 : ¬ ((D 4 j = 1 ∨ prP T D (srvQ D Q j) n o y (srvI T D n o y Q j) j = 0) ∧ wtP T D (srvQ D Q j) n o y (srvI T D n o y Q j) j ≤ (srvQ D Q j) 2 j) := fun z => z.1.elim c_63 c_143; rw [if_neg hq2] at hA hok2; exact ih (j + 1) _ _ _ _ (by omega) hok2 (KR_upd 2 j _ (by decide) hr3) hA))
                    | (have hq : ¬ payQ (prP T D (srvQ D Q j) n o y (srvI T D n o y Q j) j) (wtP T D (srvQ D Q j) n o y (srvI T D n o y Q j) j) ((srvQ D Q j) 1 j) (D 4 j) (D 5 j) ((srvQ D Q j) 2 j) := fun z => absurd c_89 (not_lt_I.mpr (hpq.mpr z).2.1); rw [if_neg hq] at hA hok2
                       first
                         | (have hq2 : (D 4 j = 1 ∨ prP T D (srvQ D Q j) n o y (srvI T D n o y Q j) j = 0) ∧ wtP T D (srvQ D Q j) n o y (srvI T D n o y Q j) j ≤ (srvQ D Q j) 2 j := ⟨Or.inl c_63, not_lt_I.mp c_156⟩; rw [if_pos hq2] at hA hok2; exact ih (j + 1) _ _ _ _ (by omega) hok2 hr161 hA)
                         | (have hq2 : (D 4 j = 1 ∨ prP T D (srvQ D Q j) n o y (srvI T D n o y Q j) j = 0) ∧ wtP T D (srvQ D Q j) n o y (srvI T D n o y Q j) j ≤ (srvQ D Q j) 2 j := ⟨Or.inr c_143, not_lt_I.mp c_156⟩; rw [if_pos hq2] at hA hok2; exact ih (j + 1) _ _ _ _ (by omega) hok2 hr161 hA)
                         | (have hq2 : ¬ ((D 4 j = 1 ∨ prP T D (srvQ D Q j) n o y (srvI T D n o y Q j) j = 0) ∧ wtP T D (srvQ D Q j) n o y (srvI T D n o y Q j) j ≤ (srvQ D Q j) 2 j) := fun z => absurd c_156 (not_lt_I.mpr z.2); rw [if_neg hq2] at hA hok2; exact ih (j + 1) _ _ _ _ (by omega) hok2 (KR_upd 2 j _ (by decide) hr3) hA)
                         | (have hq2 : ¬ ((D 4 j = 1 ∨ prP T D (srvQ D Q j) n o y (srvI T D n o y Q j) j = 0) ∧ wtP T D (srvQ D Q j) n o y (srvI T D n o y Q j) j ≤ (srvQ D Q j) 2 j) := fun z => z.1.elim c_63 c_143; rw [if_neg hq2] at hA hok2; exact ih (j + 1) _ _ _ _ (by omega) hok2 (KR_upd 2 j _ (by decide) hr3) hA))
                    | (have hq : ¬ payQ (prP T D (srvQ D Q j) n o y (srvI T D n o y Q j) j) (wtP T D (srvQ D Q j) n o y (srvI T D n o y Q j) j) ((srvQ D Q j) 1 j) (D 4 j) (D 5 j) ((srvQ D Q j) 2 j) := fun z => (hpq.mpr z).2.2.elim (fun z1 => z1 c_63) (fun z1 => absurd c_118 (not_lt_I.mpr z1)); rw [if_neg hq] at hA hok2
                       first
                         | (have hq2 : (D 4 j = 1 ∨ prP T D (srvQ D Q j) n o y (srvI T D n o y Q j) j = 0) ∧ wtP T D (srvQ D Q j) n o y (srvI T D n o y Q j) j ≤ (srvQ D Q j) 2 j := ⟨Or.inl c_63, not_lt_I.mp c_156⟩; rw [if_pos hq2] at hA hok2; exact ih (j + 1) _ _ _ _ (by omega) hok2 hr161 hA)
                         | (have hq2 : ¬ ((D 4 j = 1 ∨ prP T D (srvQ D Q j) n o y (srvI T D n o y Q j) j = 0) ∧ wtP T D (srvQ D Q j) n o y (srvI T D n o y Q j) j ≤ (srvQ D Q j) 2 j) := fun z => absurd c_156 (not_lt_I.mpr z.2); rw [if_neg hq2] at hA hok2; exact ih (j + 1) _ _ _ _ (by omega) hok2 (KR_upd 2 j _ (by decide) hr3) hA))
                · refine g_aload_n (nx := 147) 0 F dX12_passes_146 rfl rfl rfl ?_
                  refine g_getR (nx := 150) F dX12_passes_147 rfl fl_RX12_46 rfl (by decide) (by decide) rfl ?_
                  refine g_iload_n (nx := 151) 1 F dX12_passes_150 rfl rfl rfl ?_
                  refine g_ialdN (nx := 152) (j) ((srvQ D Q j) 2 j) F dX12_passes_151 rfl rfl (by omega) (congrFun (hr3.2.2.2.2.2 2 (by decide)) j) ?_
                  refine g_aload_n (nx := 153) 0 F dX12_passes_152 rfl rfl rfl ?_
                  refine g_getV (nx := 156) (wtP T D (srvQ D Q j) n o y (srvI T D n o y Q j) j) F dX12_passes_153 rfl fl_RX12_321 rfl (by decide) (by decide) rfl rfl (hw3) ?_
                  refine g_icmp_lt (nx := 159) 167 F dX12_passes_156 rfl (by decide) (fun c_156 => ?_) (fun c_156 => ?_)
                  · refine g_aload_n (nx := 168) 0 F dX12_passes_167 rfl rfl rfl ?_
                    refine g_getR (nx := 171) F dX12_passes_168 rfl fl_RX12_46 rfl (by decide) (by decide) rfl ?_
                    refine g_iload_n (nx := 172) 1 F dX12_passes_171 rfl rfl rfl ?_
                    refine g_aload_n (nx := 173) 0 F dX12_passes_172 rfl rfl rfl ?_
                    refine g_getR (nx := 176) F dX12_passes_173 rfl fl_RX12_46 rfl (by decide) (by decide) rfl ?_
                    refine g_iload_n (nx := 177) 1 F dX12_passes_176 rfl rfl rfl ?_
                    refine g_ialdN (nx := 178) (j) ((srvQ D Q j) 2 j) F dX12_passes_177 rfl rfl (by omega) (congrFun (hr3.2.2.2.2.2 2 (by decide)) j) ?_
                    refine g_iconst (nx := 179) (1) F dX12_passes_178 rfl rfl ?_
                    refine g_iadd (nx := 180) F dX12_passes_179 rfl ?_
                    refine g_iastN (nx := 181) (j) F dX12_passes_180 rfl rfl (by omega) ?_
                    refine g_iinc (nx := 184) (1) F dX12_passes_181 rfl rfl (by decide) (by decide) ?_
                    try dsimp only [List.set]
                    refine g_goto 12 F dX12_passes_184 (by decide) ?_
                    rw [nI_1]
                    first
                      | exact absurd rfl c_93
                      | exact absurd (show (1 : Int32) = 0 from c_93) (by decide)
                      | exact absurd rfl c_136
                      | exact absurd (show (1 : Int32) = 0 from c_136) (by decide)
                      | (have hq := hpq.mp ⟨not_le_I.mp c_76, not_lt_I.mp c_89, Or.inl c_63⟩; rw [if_pos hq] at hA hok2; exact ih (j + 1) _ _ _ _ (by omega) hok2 hr129 hA)
                      | (have hq := hpq.mp ⟨not_le_I.mp c_76, not_lt_I.mp c_89, Or.inr (not_lt_I.mp c_118)⟩; rw [if_pos hq] at hA hok2; exact ih (j + 1) _ _ _ _ (by omega) hok2 hr129 hA)
                      | (have hq : ¬ payQ (prP T D (srvQ D Q j) n o y (srvI T D n o y Q j) j) (wtP T D (srvQ D Q j) n o y (srvI T D n o y Q j) j) ((srvQ D Q j) 1 j) (D 4 j) (D 5 j) ((srvQ D Q j) 2 j) := fun z => absurd (hpq.mpr z).1 (not_lt_I.mpr c_76); rw [if_neg hq] at hA hok2
                         first
                           | (have hq2 : (D 4 j = 1 ∨ prP T D (srvQ D Q j) n o y (srvI T D n o y Q j) j = 0) ∧ wtP T D (srvQ D Q j) n o y (srvI T D n o y Q j) j ≤ (srvQ D Q j) 2 j := ⟨Or.inl c_63, not_lt_I.mp c_156⟩; rw [if_pos hq2] at hA hok2; exact ih (j + 1) _ _ _ _ (by omega) hok2 hr161 hA)
                           | (have hq2 : (D 4 j = 1 ∨ prP T D (srvQ D Q j) n o y (srvI T D n o y Q j) j = 0) ∧ wtP T D (srvQ D Q j) n o y (srvI T D n o y Q j) j ≤ (srvQ D Q j) 2 j := ⟨Or.inr c_143, not_lt_I.mp c_156⟩; rw [if_pos hq2] at hA hok2; exact ih (j + 1) _ _ _ _ (by omega) hok2 hr161 hA)
                           | (have hq2 : ¬ ((D 4 j = 1 ∨ prP T D (srvQ D Q j) n o y (srvI T D n o y Q j) j = 0) ∧ wtP T D (srvQ D Q j) n o y (srvI T D n o y Q j) j ≤ (srvQ D Q j) 2 j) := fun z => absurd c_156 (not_lt_I.mpr z.2); rw [if_neg hq2] at hA hok2; exact ih (j + 1) _ _ _ _ (by omega) hok2 (KR_upd 2 j _ (by decide) hr3) hA)
                           | (have hq2 : ¬ ((D 4 j = 1 ∨ prP T D (srvQ D Q j) n o y (srvI T D n o y Q j) j = 0) ∧ wtP T D (srvQ D Q j) n o y (srvI T D n o y Q j) j ≤ (srvQ D Q j) 2 j) := fun z => z.1.elim c_63 c_143; rw [if_neg hq2] at hA hok2; exact ih (j + 1) _ _ _ _ (by omega) hok2 (KR_upd 2 j _ (by decide) hr3) hA))
                      | (have hq : ¬ payQ (prP T D (srvQ D Q j) n o y (srvI T D n o y Q j) j) (wtP T D (srvQ D Q j) n o y (srvI T D n o y Q j) j) ((srvQ D Q j) 1 j) (D 4 j) (D 5 j) ((srvQ D Q j) 2 j) := fun z => absurd c_89 (not_lt_I.mpr (hpq.mpr z).2.1); rw [if_neg hq] at hA hok2
                         first
                           | (have hq2 : (D 4 j = 1 ∨ prP T D (srvQ D Q j) n o y (srvI T D n o y Q j) j = 0) ∧ wtP T D (srvQ D Q j) n o y (srvI T D n o y Q j) j ≤ (srvQ D Q j) 2 j := ⟨Or.inl c_63, not_lt_I.mp c_156⟩; rw [if_pos hq2] at hA hok2; exact ih (j + 1) _ _ _ _ (by omega) hok2 hr161 hA)
                           | (have hq2 : (D 4 j = 1 ∨ prP T D (srvQ D Q j) n o y (srvI T D n o y Q j) j = 0) ∧ wtP T D (srvQ D Q j) n o y (srvI T D n o y Q j) j ≤ (srvQ D Q j) 2 j := ⟨Or.inr c_143, not_lt_I.mp c_156⟩; rw [if_pos hq2] at hA hok2; exact ih (j + 1) _ _ _ _ (by omega) hok2 hr161 hA)
                           | (have hq2 : ¬ ((D 4 j = 1 ∨ prP T D (srvQ D Q j) n o y (srvI T D n o y Q j) j = 0) ∧ wtP T D (srvQ D Q j) n o y (srvI T D n o y Q j) j ≤ (srvQ D Q j) 2 j) := fun z => absurd c_156 (not_lt_I.mpr z.2); rw [if_neg hq2] at hA hok2; exact ih (j + 1) _ _ _ _ (by omega) hok2 (KR_upd 2 j _ (by decide) hr3) hA)
                           | (have hq2 : ¬ ((D 4 j = 1 ∨ prP T D (srvQ D Q j) n o y (srvI T D n o y Q j) j = 0) ∧ wtP T D (srvQ D Q j) n o y (srvI T D n o y Q j) j ≤ (srvQ D Q j) 2 j) := fun z => z.1.elim c_63 c_143; rw [if_neg hq2] at hA hok2; exact ih (j + 1) _ _ _ _ (by omega) hok2 (KR_upd 2 j _ (by decide) hr3) hA))
                      | (have hq : ¬ payQ (prP T D (srvQ D Q j) n o y (srvI T D n o y Q j) j) (wtP T D (srvQ D Q j) n o y (srvI T D n o y Q j) j) ((srvQ D Q j) 1 j) (D 4 j) (D 5 j) ((srvQ D Q j) 2 j) := fun z => (hpq.mpr z).2.2.elim (fun z1 => z1 c_63) (fun z1 => absurd c_118 (not_lt_I.mpr z1)); rw [if_neg hq] at hA hok2
                         first
                           | (have hq2 : (D 4 j = 1 ∨ prP T D (srvQ D Q j) n o y (srvI T D n o y Q j) j = 0) ∧ wtP T D (srvQ D Q j) n o y (srvI T D n o y Q j) j ≤ (srvQ D Q j) 2 j := ⟨Or.inl c_63, not_lt_I.mp c_156⟩; rw [if_pos hq2] at hA hok2; exact ih (j + 1) _ _ _ _ (by omega) hok2 hr161 hA)
                           | (have hq2 : ¬ ((D 4 j = 1 ∨ prP T D (srvQ D Q j) n o y (srvI T D n o y Q j) j = 0) ∧ wtP T D (srvQ D Q j) n o y (srvI T D n o y Q j) j ≤ (srvQ D Q j) 2 j) := fun z => absurd c_156 (not_lt_I.mpr z.2); rw [if_neg hq2] at hA hok2; exact ih (j + 1) _ _ _ _ (by omega) hok2 (KR_upd 2 j _ (by decide) hr3) hA))
                  · refine g_aload_n (nx := 160) 0 F dX12_passes_159 rfl rfl rfl ?_
                    refine g_iload_n (nx := 161) 1 F dX12_passes_160 rfl rfl rfl ?_
                    refine g_callV (nx := 164) 1 0 [.int (nI j)] F dX12_passes_161 rfl ml_RX12_346 mo_X12_goesOn rfl rfl rfl rfl (Nat.le_of_ble_eq_true rfl) (by first | decide | omega) (k_goesOn (srvQ D Q j) σ0 s a y j _ hr3 hy (by omega) hZ1 he3.2.2.2.2.2.2.1) (fun r_161 τ_161 q_161 => ?_)
                    obtain ⟨rfl, hr161⟩ := q_161
                    dsimp only [Option.toList, List.append, List.cons_append, List.nil_append]
                    refine g_goto 181 F dX12_passes_164 (by decide) ?_
                    refine g_iinc (nx := 184) (1) F dX12_passes_181 rfl rfl (by decide) (by decide) ?_
                    try dsimp only [List.set]
                    refine g_goto 12 F dX12_passes_184 (by decide) ?_
                    rw [nI_1]
                    first
                      | exact absurd rfl c_93
                      | exact absurd (show (1 : Int32) = 0 from c_93) (by decide)
                      | exact absurd rfl c_136
                      | exact absurd (show (1 : Int32) = 0 from c_136) (by decide)
                      | (have hq := hpq.mp ⟨not_le_I.mp c_76, not_lt_I.mp c_89, Or.inl c_63⟩; rw [if_pos hq] at hA hok2; exact ih (j + 1) _ _ _ _ (by omega) hok2 hr129 hA)
                      | (have hq := hpq.mp ⟨not_le_I.mp c_76, not_lt_I.mp c_89, Or.inr (not_lt_I.mp c_118)⟩; rw [if_pos hq] at hA hok2; exact ih (j + 1) _ _ _ _ (by omega) hok2 hr129 hA)
                      | (have hq : ¬ payQ (prP T D (srvQ D Q j) n o y (srvI T D n o y Q j) j) (wtP T D (srvQ D Q j) n o y (srvI T D n o y Q j) j) ((srvQ D Q j) 1 j) (D 4 j) (D 5 j) ((srvQ D Q j) 2 j) := fun z => absurd (hpq.mpr z).1 (not_lt_I.mpr c_76); rw [if_neg hq] at hA hok2
                         first
                           | (have hq2 : (D 4 j = 1 ∨ prP T D (srvQ D Q j) n o y (srvI T D n o y Q j) j = 0) ∧ wtP T D (srvQ D Q j) n o y (srvI T D n o y Q j) j ≤ (srvQ D Q j) 2 j := ⟨Or.inl c_63, not_lt_I.mp c_156⟩; rw [if_pos hq2] at hA hok2; exact ih (j + 1) _ _ _ _ (by omega) hok2 hr161 hA)
                           | (have hq2 : (D 4 j = 1 ∨ prP T D (srvQ D Q j) n o y (srvI T D n o y Q j) j = 0) ∧ wtP T D (srvQ D Q j) n o y (srvI T D n o y Q j) j ≤ (srvQ D Q j) 2 j := ⟨Or.inr c_143, not_lt_I.mp c_156⟩; rw [if_pos hq2] at hA hok2; exact ih (j + 1) _ _ _ _ (by omega) hok2 hr161 hA)
                           | (have hq2 : ¬ ((D 4 j = 1 ∨ prP T D (srvQ D Q j) n o y (srvI T D n o y Q j) j = 0) ∧ wtP T D (srvQ D Q j) n o y (srvI T D n o y Q j) j ≤ (srvQ D Q j) 2 j) := fun z => absurd c_156 (not_lt_I.mpr z.2); rw [if_neg hq2] at hA hok2; exact ih (j + 1) _ _ _ _ (by omega) hok2 (KR_upd 2 j _ (by decide) hr3) hA)
                           | (have hq2 : ¬ ((D 4 j = 1 ∨ prP T D (srvQ D Q j) n o y (srvI T D n o y Q j) j = 0) ∧ wtP T D (srvQ D Q j) n o y (srvI T D n o y Q j) j ≤ (srvQ D Q j) 2 j) := fun z => z.1.elim c_63 c_143; rw [if_neg hq2] at hA hok2; exact ih (j + 1) _ _ _ _ (by omega) hok2 (KR_upd 2 j _ (by decide) hr3) hA))
                      | (have hq : ¬ payQ (prP T D (srvQ D Q j) n o y (srvI T D n o y Q j) j) (wtP T D (srvQ D Q j) n o y (srvI T D n o y Q j) j) ((srvQ D Q j) 1 j) (D 4 j) (D 5 j) ((srvQ D Q j) 2 j) := fun z => absurd c_89 (not_lt_I.mpr (hpq.mpr z).2.1); rw [if_neg hq] at hA hok2
                         first
                           | (have hq2 : (D 4 j = 1 ∨ prP T D (srvQ D Q j) n o y (srvI T D n o y Q j) j = 0) ∧ wtP T D (srvQ D Q j) n o y (srvI T D n o y Q j) j ≤ (srvQ D Q j) 2 j := ⟨Or.inl c_63, not_lt_I.mp c_156⟩; rw [if_pos hq2] at hA hok2; exact ih (j + 1) _ _ _ _ (by omega) hok2 hr161 hA)
                           | (have hq2 : (D 4 j = 1 ∨ prP T D (srvQ D Q j) n o y (srvI T D n o y Q j) j = 0) ∧ wtP T D (srvQ D Q j) n o y (srvI T D n o y Q j) j ≤ (srvQ D Q j) 2 j := ⟨Or.inr c_143, not_lt_I.mp c_156⟩; rw [if_pos hq2] at hA hok2; exact ih (j + 1) _ _ _ _ (by omega) hok2 hr161 hA)
                           | (have hq2 : ¬ ((D 4 j = 1 ∨ prP T D (srvQ D Q j) n o y (srvI T D n o y Q j) j = 0) ∧ wtP T D (srvQ D Q j) n o y (srvI T D n o y Q j) j ≤ (srvQ D Q j) 2 j) := fun z => absurd c_156 (not_lt_I.mpr z.2); rw [if_neg hq2] at hA hok2; exact ih (j + 1) _ _ _ _ (by omega) hok2 (KR_upd 2 j _ (by decide) hr3) hA)
                           | (have hq2 : ¬ ((D 4 j = 1 ∨ prP T D (srvQ D Q j) n o y (srvI T D n o y Q j) j = 0) ∧ wtP T D (srvQ D Q j) n o y (srvI T D n o y Q j) j ≤ (srvQ D Q j) 2 j) := fun z => z.1.elim c_63 c_143; rw [if_neg hq2] at hA hok2; exact ih (j + 1) _ _ _ _ (by omega) hok2 (KR_upd 2 j _ (by decide) hr3) hA))
                      | (have hq : ¬ payQ (prP T D (srvQ D Q j) n o y (srvI T D n o y Q j) j) (wtP T D (srvQ D Q j) n o y (srvI T D n o y Q j) j) ((srvQ D Q j) 1 j) (D 4 j) (D 5 j) ((srvQ D Q j) 2 j) := fun z => (hpq.mpr z).2.2.elim (fun z1 => z1 c_63) (fun z1 => absurd c_118 (not_lt_I.mpr z1)); rw [if_neg hq] at hA hok2
                         first
                           | (have hq2 : (D 4 j = 1 ∨ prP T D (srvQ D Q j) n o y (srvI T D n o y Q j) j = 0) ∧ wtP T D (srvQ D Q j) n o y (srvI T D n o y Q j) j ≤ (srvQ D Q j) 2 j := ⟨Or.inl c_63, not_lt_I.mp c_156⟩; rw [if_pos hq2] at hA hok2; exact ih (j + 1) _ _ _ _ (by omega) hok2 hr161 hA)
                           | (have hq2 : ¬ ((D 4 j = 1 ∨ prP T D (srvQ D Q j) n o y (srvI T D n o y Q j) j = 0) ∧ wtP T D (srvQ D Q j) n o y (srvI T D n o y Q j) j ≤ (srvQ D Q j) 2 j) := fun z => absurd c_156 (not_lt_I.mpr z.2); rw [if_neg hq2] at hA hok2; exact ih (j + 1) _ _ _ _ (by omega) hok2 (KR_upd 2 j _ (by decide) hr3) hA))
            · refine g_iload_n (nx := 93) 3 F dX12_passes_92 rfl rfl rfl ?_
              refine g_if_eq (nx := 96) 121 F dX12_passes_93 rfl (by decide) (fun c_93 => ?_) (fun c_93 => ?_)
              · refine g_aload_n (nx := 122) 0 F dX12_passes_121 rfl rfl rfl ?_
                refine g_iload_n (nx := 123) 2 F dX12_passes_122 rfl rfl rfl ?_
                refine g_iload_n (nx := 124) 1 F dX12_passes_123 rfl rfl rfl ?_
                refine g_callV (nx := 127) 2 3 [.int (nI (srvI T D n o y Q j)), .int (nI j)] F dX12_passes_124 rfl ml_RX12_343 mo_X12_pays rfl rfl rfl rfl (Nat.le_of_ble_eq_true rfl) (by first | decide | omega) (k_pays T D (srvQ D Q j) σ0 n f s e a o y j (srvI T D n o y Q j) (prP T D (srvQ D Q j) n o y (srvI T D n o y Q j) j) _ he hr3 ⟨hnf, hf40, hf, hy, hthq⟩ ho hjn ha2 hZ1 hsi hp3) (fun r_124 τ_124 q_124 => ?_)
                obtain ⟨rfl, hr124⟩ := q_124
                dsimp only [Option.toList, List.append, List.cons_append, List.nil_append]
                have he124 := KR_env hr124 he
                refine g_aload_n (nx := 128) 0 F dX12_passes_127 rfl rfl rfl ?_
                refine g_iload_n (nx := 129) 1 F dX12_passes_128 rfl rfl rfl ?_
                refine g_callV (nx := 132) 1 0 [.int (nI j)] F dX12_passes_129 rfl ml_RX12_346 mo_X12_goesOn rfl rfl rfl rfl (Nat.le_of_ble_eq_true rfl) (by first | decide | omega) (k_goesOn (giveP (srvQ D Q j) (srvI T D n o y Q j) j (prP T D (srvQ D Q j) n o y (srvI T D n o y Q j) j) (lwP T D (srvQ D Q j) n o y (srvI T D n o y Q j) j (prP T D (srvQ D Q j) n o y (srvI T D n o y Q j) j) 103) (lwP T D (srvQ D Q j) n o y (srvI T D n o y Q j) j (prP T D (srvQ D Q j) n o y (srvI T D n o y Q j) j) 107) (lwP T D (srvQ D Q j) n o y (srvI T D n o y Q j) j (prP T D (srvQ D Q j) n o y (srvI T D n o y Q j) j) 98)) σ0 s a y j _ hr124 hy (by omega) (by rw [giveP_0]; exact hZ1) he124.2.2.2.2.2.2.1) (fun r_129 τ_129 q_129 => ?_)
                obtain ⟨rfl, hr129⟩ := q_129
                dsimp only [Option.toList, List.append, List.cons_append, List.nil_append]
                refine g_goto 181 F dX12_passes_132 (by decide) ?_
                refine g_iinc (nx := 184) (1) F dX12_passes_181 rfl rfl (by decide) (by decide) ?_
                try dsimp only [List.set]
                refine g_goto 12 F dX12_passes_184 (by decide) ?_
                rw [nI_1]
                first
                  | exact absurd rfl c_93
                  | exact absurd (show (1 : Int32) = 0 from c_93) (by decide)
                  | exact absurd rfl c_136
                  | exact absurd (show (1 : Int32) = 0 from c_136) (by decide)
                  | (have hq := hpq.mp ⟨not_le_I.mp c_76, not_lt_I.mp c_89, Or.inl c_63⟩; rw [if_pos hq] at hA hok2; exact ih (j + 1) _ _ _ _ (by omega) hok2 hr129 hA)
                  | (have hq := hpq.mp ⟨not_le_I.mp c_76, not_lt_I.mp c_89, Or.inr (not_lt_I.mp c_118)⟩; rw [if_pos hq] at hA hok2; exact ih (j + 1) _ _ _ _ (by omega) hok2 hr129 hA)
                  | (have hq : ¬ payQ (prP T D (srvQ D Q j) n o y (srvI T D n o y Q j) j) (wtP T D (srvQ D Q j) n o y (srvI T D n o y Q j) j) ((srvQ D Q j) 1 j) (D 4 j) (D 5 j) ((srvQ D Q j) 2 j) := fun z => absurd (hpq.mpr z).1 (not_lt_I.mpr c_76); rw [if_neg hq] at hA hok2
                     first
                       | (have hq2 : (D 4 j = 1 ∨ prP T D (srvQ D Q j) n o y (srvI T D n o y Q j) j = 0) ∧ wtP T D (srvQ D Q j) n o y (srvI T D n o y Q j) j ≤ (srvQ D Q j) 2 j := ⟨Or.inl c_63, not_lt_I.mp c_156⟩; rw [if_pos hq2] at hA hok2; exact ih (j + 1) _ _ _ _ (by omega) hok2 hr161 hA)
                       | (have hq2 : (D 4 j = 1 ∨ prP T D (srvQ D Q j) n o y (srvI T D n o y Q j) j = 0) ∧ wtP T D (srvQ D Q j) n o y (srvI T D n o y Q j) j ≤ (srvQ D Q j) 2 j := ⟨Or.inr c_143, not_lt_I.mp c_156⟩; rw [if_pos hq2] at hA hok2; exact ih (j + 1) _ _ _ _ (by omega) hok2 hr161 hA)
                       | (have hq2 : ¬ ((D 4 j = 1 ∨ prP T D (srvQ D Q j) n o y (srvI T D n o y Q j) j = 0) ∧ wtP T D (srvQ D Q j) n o y (srvI T D n o y Q j) j ≤ (srvQ D Q j) 2 j) := fun z => absurd c_156 (not_lt_I.mpr z.2); rw [if_neg hq2] at hA hok2; exact ih (j + 1) _ _ _ _ (by omega) hok2 (KR_upd 2 j _ (by decide) hr3) hA)
                       | (have hq2 : ¬ ((D 4 j = 1 ∨ prP T D (srvQ D Q j) n o y (srvI T D n o y Q j) j = 0) ∧ wtP T D (srvQ D Q j) n o y (srvI T D n o y Q j) j ≤ (srvQ D Q j) 2 j) := fun z => z.1.elim c_63 c_143; rw [if_neg hq2] at hA hok2; exact ih (j + 1) _ _ _ _ (by omega) hok2 (KR_upd 2 j _ (by decide) hr3) hA))
                  | (have hq : ¬ payQ (prP T D (srvQ D Q j) n o y (srvI T D n o y Q j) j) (wtP T D (srvQ D Q j) n o y (srvI T D n o y Q j) j) ((srvQ D Q j) 1 j) (D 4 j) (D 5 j) ((srvQ D Q j) 2 j) := fun z => absurd c_89 (not_lt_I.mpr (hpq.mpr z).2.1); rw [if_neg hq] at hA hok2
                     first
                       | (have hq2 : (D 4 j = 1 ∨ prP T D (srvQ D Q j) n o y (srvI T D n o y Q j) j = 0) ∧ wtP T D (srvQ D Q j) n o y (srvI T D n o y Q j) j ≤ (srvQ D Q j) 2 j := ⟨Or.inl c_63, not_lt_I.mp c_156⟩; rw [if_pos hq2] at hA hok2; exact ih (j + 1) _ _ _ _ (by omega) hok2 hr161 hA)
                       | (have hq2 : (D 4 j = 1 ∨ prP T D (srvQ D Q j) n o y (srvI T D n o y Q j) j = 0) ∧ wtP T D (srvQ D Q j) n o y (srvI T D n o y Q j) j ≤ (srvQ D Q j) 2 j := ⟨Or.inr c_143, not_lt_I.mp c_156⟩; rw [if_pos hq2] at hA hok2; exact ih (j + 1) _ _ _ _ (by omega) hok2 hr161 hA)
                       | (have hq2 : ¬ ((D 4 j = 1 ∨ prP T D (srvQ D Q j) n o y (srvI T D n o y Q j) j = 0) ∧ wtP T D (srvQ D Q j) n o y (srvI T D n o y Q j) j ≤ (srvQ D Q j) 2 j) := fun z => absurd c_156 (not_lt_I.mpr z.2); rw [if_neg hq2] at hA hok2; exact ih (j + 1) _ _ _ _ (by omega) hok2 (KR_upd 2 j _ (by decide) hr3) hA)
                       | (have hq2 : ¬ ((D 4 j = 1 ∨ prP T D (srvQ D Q j) n o y (srvI T D n o y Q j) j = 0) ∧ wtP T D (srvQ D Q j) n o y (srvI T D n o y Q j) j ≤ (srvQ D Q j) 2 j) := fun z => z.1.elim c_63 c_143; rw [if_neg hq2] at hA hok2; exact ih (j + 1) _ _ _ _ (by omega) hok2 (KR_upd 2 j _ (by decide) hr3) hA))
                  | (have hq : ¬ payQ (prP T D (srvQ D Q j) n o y (srvI T D n o y Q j) j) (wtP T D (srvQ D Q j) n o y (srvI T D n o y Q j) j) ((srvQ D Q j) 1 j) (D 4 j) (D 5 j) ((srvQ D Q j) 2 j) := fun z => (hpq.mpr z).2.2.elim (fun z1 => z1 c_63) (fun z1 => absurd c_118 (not_lt_I.mpr z1)); rw [if_neg hq] at hA hok2
                     first
                       | (have hq2 : (D 4 j = 1 ∨ prP T D (srvQ D Q j) n o y (srvI T D n o y Q j) j = 0) ∧ wtP T D (srvQ D Q j) n o y (srvI T D n o y Q j) j ≤ (srvQ D Q j) 2 j := ⟨Or.inl c_63, not_lt_I.mp c_156⟩; rw [if_pos hq2] at hA hok2; exact ih (j + 1) _ _ _ _ (by omega) hok2 hr161 hA)
                       | (have hq2 : ¬ ((D 4 j = 1 ∨ prP T D (srvQ D Q j) n o y (srvI T D n o y Q j) j = 0) ∧ wtP T D (srvQ D Q j) n o y (srvI T D n o y Q j) j ≤ (srvQ D Q j) 2 j) := fun z => absurd c_156 (not_lt_I.mpr z.2); rw [if_neg hq2] at hA hok2; exact ih (j + 1) _ _ _ _ (by omega) hok2 (KR_upd 2 j _ (by decide) hr3) hA))
              · refine g_aload_n (nx := 97) 0 F dX12_passes_96 rfl rfl rfl ?_
                refine g_getV (nx := 100) (prP T D (srvQ D Q j) n o y (srvI T D n o y Q j) j) F dX12_passes_97 rfl fl_RX12_318 rfl (by decide) (by decide) rfl rfl (hp3) ?_
                refine g_aload_n (nx := 101) 0 F dX12_passes_100 rfl rfl rfl ?_
                refine g_getR (nx := 104) F dX12_passes_101 rfl fl_RX12_34 rfl (by decide) (by decide) rfl ?_
                refine g_iload_n (nx := 105) 1 F dX12_passes_104 rfl rfl rfl ?_
                refine g_ialdN (nx := 106) (j) (D 5 j) F dX12_passes_105 rfl rfl (by omega) (congrFun he3.2.2.2.2.2.1 j) ?_
                refine g_aload_n (nx := 107) 0 F dX12_passes_106 rfl rfl rfl ?_
                refine g_getV (nx := 110) (wtP T D (srvQ D Q j) n o y (srvI T D n o y Q j) j) F dX12_passes_107 rfl fl_RX12_321 rfl (by decide) (by decide) rfl rfl (hw3) ?_
                refine g_aload_n (nx := 111) 0 F dX12_passes_110 rfl rfl rfl ?_
                refine g_getR (nx := 114) F dX12_passes_111 rfl fl_RX12_46 rfl (by decide) (by decide) rfl ?_
                refine g_iload_n (nx := 115) 1 F dX12_passes_114 rfl rfl rfl ?_
                refine g_ialdN (nx := 116) (j) ((srvQ D Q j) 2 j) F dX12_passes_115 rfl rfl (by omega) (congrFun (hr3.2.2.2.2.2 2 (by decide)) j) ?_
                refine g_isub (nx := 117) F dX12_passes_116 rfl ?_
                refine g_imul (nx := 118) F dX12_passes_117 rfl ?_
                refine g_icmp_gt (nx := 121) 135 F dX12_passes_118 rfl (by decide) (fun c_118 => ?_) (fun c_118 => ?_)
                · refine g_iload_n (nx := 136) 3 F dX12_passes_135 rfl rfl rfl ?_
                  refine g_if_ne (nx := 139) 146 F dX12_passes_136 rfl (by decide) (fun c_136 => ?_) (fun c_136 => ?_)
                  · refine g_aload_n (nx := 147) 0 F dX12_passes_146 rfl rfl rfl ?_
                    refine g_getR (nx := 150) F dX12_passes_147 rfl fl_RX12_46 rfl (by decide) (by decide) rfl ?_
                    refine g_iload_n (nx := 151) 1 F dX12_passes_150 rfl rfl rfl ?_
                    refine g_ialdN (nx := 152) (j) ((srvQ D Q j) 2 j) F dX12_passes_151 rfl rfl (by omega) (congrFun (hr3.2.2.2.2.2 2 (by decide)) j) ?_
                    refine g_aload_n (nx := 153) 0 F dX12_passes_152 rfl rfl rfl ?_
                    refine g_getV (nx := 156) (wtP T D (srvQ D Q j) n o y (srvI T D n o y Q j) j) F dX12_passes_153 rfl fl_RX12_321 rfl (by decide) (by decide) rfl rfl (hw3) ?_
                    refine g_icmp_lt (nx := 159) 167 F dX12_passes_156 rfl (by decide) (fun c_156 => ?_) (fun c_156 => ?_)
                    · refine g_aload_n (nx := 168) 0 F dX12_passes_167 rfl rfl rfl ?_
                      refine g_getR (nx := 171) F dX12_passes_168 rfl fl_RX12_46 rfl (by decide) (by decide) rfl ?_
                      refine g_iload_n (nx := 172) 1 F dX12_passes_171 rfl rfl rfl ?_
                      refine g_aload_n (nx := 173) 0 F dX12_passes_172 rfl rfl rfl ?_
                      refine g_getR (nx := 176) F dX12_passes_173 rfl fl_RX12_46 rfl (by decide) (by decide) rfl ?_
                      refine g_iload_n (nx := 177) 1 F dX12_passes_176 rfl rfl rfl ?_
                      refine g_ialdN (nx := 178) (j) ((srvQ D Q j) 2 j) F dX12_passes_177 rfl rfl (by omega) (congrFun (hr3.2.2.2.2.2 2 (by decide)) j) ?_
                      refine g_iconst (nx := 179) (1) F dX12_passes_178 rfl rfl ?_
                      refine g_iadd (nx := 180) F dX12_passes_179 rfl ?_
                      refine g_iastN (nx := 181) (j) F dX12_passes_180 rfl rfl (by omega) ?_
                      refine g_iinc (nx := 184) (1) F dX12_passes_181 rfl rfl (by decide) (by decide) ?_
                      try dsimp only [List.set]
                      refine g_goto 12 F dX12_passes_184 (by decide) ?_
                      rw [nI_1]
                      first
                        | exact absurd rfl c_93
                        | exact absurd (show (1 : Int32) = 0 from c_93) (by decide)
                        | exact absurd rfl c_136
                        | exact absurd (show (1 : Int32) = 0 from c_136) (by decide)
                        | (have hq := hpq.mp ⟨not_le_I.mp c_76, not_lt_I.mp c_89, Or.inl c_63⟩; rw [if_pos hq] at hA hok2; exact ih (j + 1) _ _ _ _ (by omega) hok2 hr129 hA)
                        | (have hq := hpq.mp ⟨not_le_I.mp c_76, not_lt_I.mp c_89, Or.inr (not_lt_I.mp c_118)⟩; rw [if_pos hq] at hA hok2; exact ih (j + 1) _ _ _ _ (by omega) hok2 hr129 hA)
                        | (have hq : ¬ payQ (prP T D (srvQ D Q j) n o y (srvI T D n o y Q j) j) (wtP T D (srvQ D Q j) n o y (srvI T D n o y Q j) j) ((srvQ D Q j) 1 j) (D 4 j) (D 5 j) ((srvQ D Q j) 2 j) := fun z => absurd (hpq.mpr z).1 (not_lt_I.mpr c_76); rw [if_neg hq] at hA hok2
                           first
                             | (have hq2 : (D 4 j = 1 ∨ prP T D (srvQ D Q j) n o y (srvI T D n o y Q j) j = 0) ∧ wtP T D (srvQ D Q j) n o y (srvI T D n o y Q j) j ≤ (srvQ D Q j) 2 j := ⟨Or.inl c_63, not_lt_I.mp c_156⟩; rw [if_pos hq2] at hA hok2; exact ih (j + 1) _ _ _ _ (by omega) hok2 hr161 hA)
                             | (have hq2 : (D 4 j = 1 ∨ prP T D (srvQ D Q j) n o y (srvI T D n o y Q j) j = 0) ∧ wtP T D (srvQ D Q j) n o y (srvI T D n o y Q j) j ≤ (srvQ D Q j) 2 j := ⟨Or.inr c_143, not_lt_I.mp c_156⟩; rw [if_pos hq2] at hA hok2; exact ih (j + 1) _ _ _ _ (by omega) hok2 hr161 hA)
                             | (have hq2 : ¬ ((D 4 j = 1 ∨ prP T D (srvQ D Q j) n o y (srvI T D n o y Q j) j = 0) ∧ wtP T D (srvQ D Q j) n o y (srvI T D n o y Q j) j ≤ (srvQ D Q j) 2 j) := fun z => absurd c_156 (not_lt_I.mpr z.2); rw [if_neg hq2] at hA hok2; exact ih (j + 1) _ _ _ _ (by omega) hok2 (KR_upd 2 j _ (by decide) hr3) hA)
                             | (have hq2 : ¬ ((D 4 j = 1 ∨ prP T D (srvQ D Q j) n o y (srvI T D n o y Q j) j = 0) ∧ wtP T D (srvQ D Q j) n o y (srvI T D n o y Q j) j ≤ (srvQ D Q j) 2 j) := fun z => z.1.elim c_63 c_143; rw [if_neg hq2] at hA hok2; exact ih (j + 1) _ _ _ _ (by omega) hok2 (KR_upd 2 j _ (by decide) hr3) hA))
                        | (have hq : ¬ payQ (prP T D (srvQ D Q j) n o y (srvI T D n o y Q j) j) (wtP T D (srvQ D Q j) n o y (srvI T D n o y Q j) j) ((srvQ D Q j) 1 j) (D 4 j) (D 5 j) ((srvQ D Q j) 2 j) := fun z => absurd c_89 (not_lt_I.mpr (hpq.mpr z).2.1); rw [if_neg hq] at hA hok2
                           first
                             | (have hq2 : (D 4 j = 1 ∨ prP T D (srvQ D Q j) n o y (srvI T D n o y Q j) j = 0) ∧ wtP T D (srvQ D Q j) n o y (srvI T D n o y Q j) j ≤ (srvQ D Q j) 2 j := ⟨Or.inl c_63, not_lt_I.mp c_156⟩; rw [if_pos hq2] at hA hok2; exact ih (j + 1) _ _ _ _ (by omega) hok2 hr161 hA)
                             | (have hq2 : (D 4 j = 1 ∨ prP T D (srvQ D Q j) n o y (srvI T D n o y Q j) j = 0) ∧ wtP T D (srvQ D Q j) n o y (srvI T D n o y Q j) j ≤ (srvQ D Q j) 2 j := ⟨Or.inr c_143, not_lt_I.mp c_156⟩; rw [if_pos hq2] at hA hok2; exact ih (j + 1) _ _ _ _ (by omega) hok2 hr161 hA)
                             | (have hq2 : ¬ ((D 4 j = 1 ∨ prP T D (srvQ D Q j) n o y (srvI T D n o y Q j) j = 0) ∧ wtP T D (srvQ D Q j) n o y (srvI T D n o y Q j) j ≤ (srvQ D Q j) 2 j) := fun z => absurd c_156 (not_lt_I.mpr z.2); rw [if_neg hq2] at hA hok2; exact ih (j + 1) _ _ _ _ (by omega) hok2 (KR_upd 2 j _ (by decide) hr3) hA)
                             | (have hq2 : ¬ ((D 4 j = 1 ∨ prP T D (srvQ D Q j) n o y (srvI T D n o y Q j) j = 0) ∧ wtP T D (srvQ D Q j) n o y (srvI T D n o y Q j) j ≤ (srvQ D Q j) 2 j) := fun z => z.1.elim c_63 c_143; rw [if_neg hq2] at hA hok2; exact ih (j + 1) _ _ _ _ (by omega) hok2 (KR_upd 2 j _ (by decide) hr3) hA))
                        | (have hq : ¬ payQ (prP T D (srvQ D Q j) n o y (srvI T D n o y Q j) j) (wtP T D (srvQ D Q j) n o y (srvI T D n o y Q j) j) ((srvQ D Q j) 1 j) (D 4 j) (D 5 j) ((srvQ D Q j) 2 j) := fun z => (hpq.mpr z).2.2.elim (fun z1 => z1 c_63) (fun z1 => absurd c_118 (not_lt_I.mpr z1)); rw [if_neg hq] at hA hok2
                           first
                             | (have hq2 : (D 4 j = 1 ∨ prP T D (srvQ D Q j) n o y (srvI T D n o y Q j) j = 0) ∧ wtP T D (srvQ D Q j) n o y (srvI T D n o y Q j) j ≤ (srvQ D Q j) 2 j := ⟨Or.inl c_63, not_lt_I.mp c_156⟩; rw [if_pos hq2] at hA hok2; exact ih (j + 1) _ _ _ _ (by omega) hok2 hr161 hA)
                             | (have hq2 : ¬ ((D 4 j = 1 ∨ prP T D (srvQ D Q j) n o y (srvI T D n o y Q j) j = 0) ∧ wtP T D (srvQ D Q j) n o y (srvI T D n o y Q j) j ≤ (srvQ D Q j) 2 j) := fun z => absurd c_156 (not_lt_I.mpr z.2); rw [if_neg hq2] at hA hok2; exact ih (j + 1) _ _ _ _ (by omega) hok2 (KR_upd 2 j _ (by decide) hr3) hA))
                    · refine g_aload_n (nx := 160) 0 F dX12_passes_159 rfl rfl rfl ?_
                      refine g_iload_n (nx := 161) 1 F dX12_passes_160 rfl rfl rfl ?_
                      refine g_callV (nx := 164) 1 0 [.int (nI j)] F dX12_passes_161 rfl ml_RX12_346 mo_X12_goesOn rfl rfl rfl rfl (Nat.le_of_ble_eq_true rfl) (by first | decide | omega) (k_goesOn (srvQ D Q j) σ0 s a y j _ hr3 hy (by omega) hZ1 he3.2.2.2.2.2.2.1) (fun r_161 τ_161 q_161 => ?_)
                      obtain ⟨rfl, hr161⟩ := q_161
                      dsimp only [Option.toList, List.append, List.cons_append, List.nil_append]
                      refine g_goto 181 F dX12_passes_164 (by decide) ?_
                      refine g_iinc (nx := 184) (1) F dX12_passes_181 rfl rfl (by decide) (by decide) ?_
                      try dsimp only [List.set]
                      refine g_goto 12 F dX12_passes_184 (by decide) ?_
                      rw [nI_1]
                      first
                        | exact absurd rfl c_93
                        | exact absurd (show (1 : Int32) = 0 from c_93) (by decide)
                        | exact absurd rfl c_136
                        | exact absurd (show (1 : Int32) = 0 from c_136) (by decide)
                        | (have hq := hpq.mp ⟨not_le_I.mp c_76, not_lt_I.mp c_89, Or.inl c_63⟩; rw [if_pos hq] at hA hok2; exact ih (j + 1) _ _ _ _ (by omega) hok2 hr129 hA)
                        | (have hq := hpq.mp ⟨not_le_I.mp c_76, not_lt_I.mp c_89, Or.inr (not_lt_I.mp c_118)⟩; rw [if_pos hq] at hA hok2; exact ih (j + 1) _ _ _ _ (by omega) hok2 hr129 hA)
                        | (have hq : ¬ payQ (prP T D (srvQ D Q j) n o y (srvI T D n o y Q j) j) (wtP T D (srvQ D Q j) n o y (srvI T D n o y Q j) j) ((srvQ D Q j) 1 j) (D 4 j) (D 5 j) ((srvQ D Q j) 2 j) := fun z => absurd (hpq.mpr z).1 (not_lt_I.mpr c_76); rw [if_neg hq] at hA hok2
                           first
                             | (have hq2 : (D 4 j = 1 ∨ prP T D (srvQ D Q j) n o y (srvI T D n o y Q j) j = 0) ∧ wtP T D (srvQ D Q j) n o y (srvI T D n o y Q j) j ≤ (srvQ D Q j) 2 j := ⟨Or.inl c_63, not_lt_I.mp c_156⟩; rw [if_pos hq2] at hA hok2; exact ih (j + 1) _ _ _ _ (by omega) hok2 hr161 hA)
                             | (have hq2 : (D 4 j = 1 ∨ prP T D (srvQ D Q j) n o y (srvI T D n o y Q j) j = 0) ∧ wtP T D (srvQ D Q j) n o y (srvI T D n o y Q j) j ≤ (srvQ D Q j) 2 j := ⟨Or.inr c_143, not_lt_I.mp c_156⟩; rw [if_pos hq2] at hA hok2; exact ih (j + 1) _ _ _ _ (by omega) hok2 hr161 hA)
                             | (have hq2 : ¬ ((D 4 j = 1 ∨ prP T D (srvQ D Q j) n o y (srvI T D n o y Q j) j = 0) ∧ wtP T D (srvQ D Q j) n o y (srvI T D n o y Q j) j ≤ (srvQ D Q j) 2 j) := fun z => absurd c_156 (not_lt_I.mpr z.2); rw [if_neg hq2] at hA hok2; exact ih (j + 1) _ _ _ _ (by omega) hok2 (KR_upd 2 j _ (by decide) hr3) hA)
                             | (have hq2 : ¬ ((D 4 j = 1 ∨ prP T D (srvQ D Q j) n o y (srvI T D n o y Q j) j = 0) ∧ wtP T D (srvQ D Q j) n o y (srvI T D n o y Q j) j ≤ (srvQ D Q j) 2 j) := fun z => z.1.elim c_63 c_143; rw [if_neg hq2] at hA hok2; exact ih (j + 1) _ _ _ _ (by omega) hok2 (KR_upd 2 j _ (by decide) hr3) hA))
                        | (have hq : ¬ payQ (prP T D (srvQ D Q j) n o y (srvI T D n o y Q j) j) (wtP T D (srvQ D Q j) n o y (srvI T D n o y Q j) j) ((srvQ D Q j) 1 j) (D 4 j) (D 5 j) ((srvQ D Q j) 2 j) := fun z => absurd c_89 (not_lt_I.mpr (hpq.mpr z).2.1); rw [if_neg hq] at hA hok2
                           first
                             | (have hq2 : (D 4 j = 1 ∨ prP T D (srvQ D Q j) n o y (srvI T D n o y Q j) j = 0) ∧ wtP T D (srvQ D Q j) n o y (srvI T D n o y Q j) j ≤ (srvQ D Q j) 2 j := ⟨Or.inl c_63, not_lt_I.mp c_156⟩; rw [if_pos hq2] at hA hok2; exact ih (j + 1) _ _ _ _ (by omega) hok2 hr161 hA)
                             | (have hq2 : (D 4 j = 1 ∨ prP T D (srvQ D Q j) n o y (srvI T D n o y Q j) j = 0) ∧ wtP T D (srvQ D Q j) n o y (srvI T D n o y Q j) j ≤ (srvQ D Q j) 2 j := ⟨Or.inr c_143, not_lt_I.mp c_156⟩; rw [if_pos hq2] at hA hok2; exact ih (j + 1) _ _ _ _ (by omega) hok2 hr161 hA)
                             | (have hq2 : ¬ ((D 4 j = 1 ∨ prP T D (srvQ D Q j) n o y (srvI T D n o y Q j) j = 0) ∧ wtP T D (srvQ D Q j) n o y (srvI T D n o y Q j) j ≤ (srvQ D Q j) 2 j) := fun z => absurd c_156 (not_lt_I.mpr z.2); rw [if_neg hq2] at hA hok2; exact ih (j + 1) _ _ _ _ (by omega) hok2 (KR_upd 2 j _ (by decide) hr3) hA)
                             | (have hq2 : ¬ ((D 4 j = 1 ∨ prP T D (srvQ D Q j) n o y (srvI T D n o y Q j) j = 0) ∧ wtP T D (srvQ D Q j) n o y (srvI T D n o y Q j) j ≤ (srvQ D Q j) 2 j) := fun z => z.1.elim c_63 c_143; rw [if_neg hq2] at hA hok2; exact ih (j + 1) _ _ _ _ (by omega) hok2 (KR_upd 2 j _ (by decide) hr3) hA))
                        | (have hq : ¬ payQ (prP T D (srvQ D Q j) n o y (srvI T D n o y Q j) j) (wtP T D (srvQ D Q j) n o y (srvI T D n o y Q j) j) ((srvQ D Q j) 1 j) (D 4 j) (D 5 j) ((srvQ D Q j) 2 j) := fun z => (hpq.mpr z).2.2.elim (fun z1 => z1 c_63) (fun z1 => absurd c_118 (not_lt_I.mpr z1)); rw [if_neg hq] at hA hok2
                           first
                             | (have hq2 : (D 4 j = 1 ∨ prP T D (srvQ D Q j) n o y (srvI T D n o y Q j) j = 0) ∧ wtP T D (srvQ D Q j) n o y (srvI T D n o y Q j) j ≤ (srvQ D Q j) 2 j := ⟨Or.inl c_63, not_lt_I.mp c_156⟩; rw [if_pos hq2] at hA hok2; exact ih (j + 1) _ _ _ _ (by omega) hok2 hr161 hA)
                             | (have hq2 : ¬ ((D 4 j = 1 ∨ prP T D (srvQ D Q j) n o y (srvI T D n o y Q j) j = 0) ∧ wtP T D (srvQ D Q j) n o y (srvI T D n o y Q j) j ≤ (srvQ D Q j) 2 j) := fun z => absurd c_156 (not_lt_I.mpr z.2); rw [if_neg hq2] at hA hok2; exact ih (j + 1) _ _ _ _ (by omega) hok2 (KR_upd 2 j _ (by decide) hr3) hA))
                  · refine g_aload_n (nx := 140) 0 F dX12_passes_139 rfl rfl rfl ?_
                    refine g_getV (nx := 143) (prP T D (srvQ D Q j) n o y (srvI T D n o y Q j) j) F dX12_passes_140 rfl fl_RX12_318 rfl (by decide) (by decide) rfl rfl (hp3) ?_
                    refine g_if_ne (nx := 146) 167 F dX12_passes_143 rfl (by decide) (fun c_143 => ?_) (fun c_143 => ?_)
                    · refine g_aload_n (nx := 168) 0 F dX12_passes_167 rfl rfl rfl ?_
                      refine g_getR (nx := 171) F dX12_passes_168 rfl fl_RX12_46 rfl (by decide) (by decide) rfl ?_
                      refine g_iload_n (nx := 172) 1 F dX12_passes_171 rfl rfl rfl ?_
                      refine g_aload_n (nx := 173) 0 F dX12_passes_172 rfl rfl rfl ?_
                      refine g_getR (nx := 176) F dX12_passes_173 rfl fl_RX12_46 rfl (by decide) (by decide) rfl ?_
                      refine g_iload_n (nx := 177) 1 F dX12_passes_176 rfl rfl rfl ?_
                      refine g_ialdN (nx := 178) (j) ((srvQ D Q j) 2 j) F dX12_passes_177 rfl rfl (by omega) (congrFun (hr3.2.2.2.2.2 2 (by decide)) j) ?_
                      refine g_iconst (nx := 179) (1) F dX12_passes_178 rfl rfl ?_
                      refine g_iadd (nx := 180) F dX12_passes_179 rfl ?_
                      refine g_iastN (nx := 181) (j) F dX12_passes_180 rfl rfl (by omega) ?_
                      refine g_iinc (nx := 184) (1) F dX12_passes_181 rfl rfl (by decide) (by decide) ?_
                      try dsimp only [List.set]
                      refine g_goto 12 F dX12_passes_184 (by decide) ?_
                      rw [nI_1]
                      first
                        | exact absurd rfl c_93
                        | exact absurd (show (1 : Int32) = 0 from c_93) (by decide)
                        | exact absurd rfl c_136
                        | exact absurd (show (1 : Int32) = 0 from c_136) (by decide)
                        | (have hq := hpq.mp ⟨not_le_I.mp c_76, not_lt_I.mp c_89, Or.inl c_63⟩; rw [if_pos hq] at hA hok2; exact ih (j + 1) _ _ _ _ (by omega) hok2 hr129 hA)
                        | (have hq := hpq.mp ⟨not_le_I.mp c_76, not_lt_I.mp c_89, Or.inr (not_lt_I.mp c_118)⟩; rw [if_pos hq] at hA hok2; exact ih (j + 1) _ _ _ _ (by omega) hok2 hr129 hA)
                        | (have hq : ¬ payQ (prP T D (srvQ D Q j) n o y (srvI T D n o y Q j) j) (wtP T D (srvQ D Q j) n o y (srvI T D n o y Q j) j) ((srvQ D Q j) 1 j) (D 4 j) (D 5 j) ((srvQ D Q j) 2 j) := fun z => absurd (hpq.mpr z).1 (not_lt_I.mpr c_76); rw [if_neg hq] at hA hok2
                           first
                             | (have hq2 : (D 4 j = 1 ∨ prP T D (srvQ D Q j) n o y (srvI T D n o y Q j) j = 0) ∧ wtP T D (srvQ D Q j) n o y (srvI T D n o y Q j) j ≤ (srvQ D Q j) 2 j := ⟨Or.inl c_63, not_lt_I.mp c_156⟩; rw [if_pos hq2] at hA hok2; exact ih (j + 1) _ _ _ _ (by omega) hok2 hr161 hA)
                             | (have hq2 : (D 4 j = 1 ∨ prP T D (srvQ D Q j) n o y (srvI T D n o y Q j) j = 0) ∧ wtP T D (srvQ D Q j) n o y (srvI T D n o y Q j) j ≤ (srvQ D Q j) 2 j := ⟨Or.inr c_143, not_lt_I.mp c_156⟩; rw [if_pos hq2] at hA hok2; exact ih (j + 1) _ _ _ _ (by omega) hok2 hr161 hA)
                             | (have hq2 : ¬ ((D 4 j = 1 ∨ prP T D (srvQ D Q j) n o y (srvI T D n o y Q j) j = 0) ∧ wtP T D (srvQ D Q j) n o y (srvI T D n o y Q j) j ≤ (srvQ D Q j) 2 j) := fun z => absurd c_156 (not_lt_I.mpr z.2); rw [if_neg hq2] at hA hok2; exact ih (j + 1) _ _ _ _ (by omega) hok2 (KR_upd 2 j _ (by decide) hr3) hA)
                             | (have hq2 : ¬ ((D 4 j = 1 ∨ prP T D (srvQ D Q j) n o y (srvI T D n o y Q j) j = 0) ∧ wtP T D (srvQ D Q j) n o y (srvI T D n o y Q j) j ≤ (srvQ D Q j) 2 j) := fun z => z.1.elim c_63 c_143; rw [if_neg hq2] at hA hok2; exact ih (j + 1) _ _ _ _ (by omega) hok2 (KR_upd 2 j _ (by decide) hr3) hA))
                        | (have hq : ¬ payQ (prP T D (srvQ D Q j) n o y (srvI T D n o y Q j) j) (wtP T D (srvQ D Q j) n o y (srvI T D n o y Q j) j) ((srvQ D Q j) 1 j) (D 4 j) (D 5 j) ((srvQ D Q j) 2 j) := fun z => absurd c_89 (not_lt_I.mpr (hpq.mpr z).2.1); rw [if_neg hq] at hA hok2
                           first
                             | (have hq2 : (D 4 j = 1 ∨ prP T D (srvQ D Q j) n o y (srvI T D n o y Q j) j = 0) ∧ wtP T D (srvQ D Q j) n o y (srvI T D n o y Q j) j ≤ (srvQ D Q j) 2 j := ⟨Or.inl c_63, not_lt_I.mp c_156⟩; rw [if_pos hq2] at hA hok2; exact ih (j + 1) _ _ _ _ (by omega) hok2 hr161 hA)
                             | (have hq2 : (D 4 j = 1 ∨ prP T D (srvQ D Q j) n o y (srvI T D n o y Q j) j = 0) ∧ wtP T D (srvQ D Q j) n o y (srvI T D n o y Q j) j ≤ (srvQ D Q j) 2 j := ⟨Or.inr c_143, not_lt_I.mp c_156⟩; rw [if_pos hq2] at hA hok2; exact ih (j + 1) _ _ _ _ (by omega) hok2 hr161 hA)
                             | (have hq2 : ¬ ((D 4 j = 1 ∨ prP T D (srvQ D Q j) n o y (srvI T D n o y Q j) j = 0) ∧ wtP T D (srvQ D Q j) n o y (srvI T D n o y Q j) j ≤ (srvQ D Q j) 2 j) := fun z => absurd c_156 (not_lt_I.mpr z.2); rw [if_neg hq2] at hA hok2; exact ih (j + 1) _ _ _ _ (by omega) hok2 (KR_upd 2 j _ (by decide) hr3) hA)
                             | (have hq2 : ¬ ((D 4 j = 1 ∨ prP T D (srvQ D Q j) n o y (srvI T D n o y Q j) j = 0) ∧ wtP T D (srvQ D Q j) n o y (srvI T D n o y Q j) j ≤ (srvQ D Q j) 2 j) := fun z => z.1.elim c_63 c_143; rw [if_neg hq2] at hA hok2; exact ih (j + 1) _ _ _ _ (by omega) hok2 (KR_upd 2 j _ (by decide) hr3) hA))
                        | (have hq : ¬ payQ (prP T D (srvQ D Q j) n o y (srvI T D n o y Q j) j) (wtP T D (srvQ D Q j) n o y (srvI T D n o y Q j) j) ((srvQ D Q j) 1 j) (D 4 j) (D 5 j) ((srvQ D Q j) 2 j) := fun z => (hpq.mpr z).2.2.elim (fun z1 => z1 c_63) (fun z1 => absurd c_118 (not_lt_I.mpr z1)); rw [if_neg hq] at hA hok2
                           first
                             | (have hq2 : (D 4 j = 1 ∨ prP T D (srvQ D Q j) n o y (srvI T D n o y Q j) j = 0) ∧ wtP T D (srvQ D Q j) n o y (srvI T D n o y Q j) j ≤ (srvQ D Q j) 2 j := ⟨Or.inl c_63, not_lt_I.mp c_156⟩; rw [if_pos hq2] at hA hok2; exact ih (j + 1) _ _ _ _ (by omega) hok2 hr161 hA)
                             | (have hq2 : ¬ ((D 4 j = 1 ∨ prP T D (srvQ D Q j) n o y (srvI T D n o y Q j) j = 0) ∧ wtP T D (srvQ D Q j) n o y (srvI T D n o y Q j) j ≤ (srvQ D Q j) 2 j) := fun z => absurd c_156 (not_lt_I.mpr z.2); rw [if_neg hq2] at hA hok2; exact ih (j + 1) _ _ _ _ (by omega) hok2 (KR_upd 2 j _ (by decide) hr3) hA))
                    · refine g_aload_n (nx := 147) 0 F dX12_passes_146 rfl rfl rfl ?_
                      refine g_getR (nx := 150) F dX12_passes_147 rfl fl_RX12_46 rfl (by decide) (by decide) rfl ?_
                      refine g_iload_n (nx := 151) 1 F dX12_passes_150 rfl rfl rfl ?_
                      refine g_ialdN (nx := 152) (j) ((srvQ D Q j) 2 j) F dX12_passes_151 rfl rfl (by omega) (congrFun (hr3.2.2.2.2.2 2 (by decide)) j) ?_
                      refine g_aload_n (nx := 153) 0 F dX12_passes_152 rfl rfl rfl ?_
                      refine g_getV (nx := 156) (wtP T D (srvQ D Q j) n o y (srvI T D n o y Q j) j) F dX12_passes_153 rfl fl_RX12_321 rfl (by decide) (by decide) rfl rfl (hw3) ?_
                      refine g_icmp_lt (nx := 159) 167 F dX12_passes_156 rfl (by decide) (fun c_156 => ?_) (fun c_156 => ?_)
                      · refine g_aload_n (nx := 168) 0 F dX12_passes_167 rfl rfl rfl ?_
                        refine g_getR (nx := 171) F dX12_passes_168 rfl fl_RX12_46 rfl (by decide) (by decide) rfl ?_
                        refine g_iload_n (nx := 172) 1 F dX12_passes_171 rfl rfl rfl ?_
                        refine g_aload_n (nx := 173) 0 F dX12_passes_172 rfl rfl rfl ?_
                        refine g_getR (nx := 176) F dX12_passes_173 rfl fl_RX12_46 rfl (by decide) (by decide) rfl ?_
                        refine g_iload_n (nx := 177) 1 F dX12_passes_176 rfl rfl rfl ?_
                        refine g_ialdN (nx := 178) (j) ((srvQ D Q j) 2 j) F dX12_passes_177 rfl rfl (by omega) (congrFun (hr3.2.2.2.2.2 2 (by decide)) j) ?_
                        refine g_iconst (nx := 179) (1) F dX12_passes_178 rfl rfl ?_
                        refine g_iadd (nx := 180) F dX12_passes_179 rfl ?_
                        refine g_iastN (nx := 181) (j) F dX12_passes_180 rfl rfl (by omega) ?_
                        refine g_iinc (nx := 184) (1) F dX12_passes_181 rfl rfl (by decide) (by decide) ?_
                        try dsimp only [List.set]
                        refine g_goto 12 F dX12_passes_184 (by decide) ?_
                        rw [nI_1]
                        first
                          | exact absurd rfl c_93
                          | exact absurd (show (1 : Int32) = 0 from c_93) (by decide)
                          | exact absurd rfl c_136
                          | exact absurd (show (1 : Int32) = 0 from c_136) (by decide)
                          | (have hq := hpq.mp ⟨not_le_I.mp c_76, not_lt_I.mp c_89, Or.inl c_63⟩; rw [if_pos hq] at hA hok2; exact ih (j + 1) _ _ _ _ (by omega) hok2 hr129 hA)
                          | (have hq := hpq.mp ⟨not_le_I.mp c_76, not_lt_I.mp c_89, Or.inr (not_lt_I.mp c_118)⟩; rw [if_pos hq] at hA hok2; exact ih (j + 1) _ _ _ _ (by omega) hok2 hr129 hA)
                          | (have hq : ¬ payQ (prP T D (srvQ D Q j) n o y (srvI T D n o y Q j) j) (wtP T D (srvQ D Q j) n o y (srvI T D n o y Q j) j) ((srvQ D Q j) 1 j) (D 4 j) (D 5 j) ((srvQ D Q j) 2 j) := fun z => absurd (hpq.mpr z).1 (not_lt_I.mpr c_76); rw [if_neg hq] at hA hok2
                             first
                               | (have hq2 : (D 4 j = 1 ∨ prP T D (srvQ D Q j) n o y (srvI T D n o y Q j) j = 0) ∧ wtP T D (srvQ D Q j) n o y (srvI T D n o y Q j) j ≤ (srvQ D Q j) 2 j := ⟨Or.inl c_63, not_lt_I.mp c_156⟩; rw [if_pos hq2] at hA hok2; exact ih (j + 1) _ _ _ _ (by omega) hok2 hr161 hA)
                               | (have hq2 : (D 4 j = 1 ∨ prP T D (srvQ D Q j) n o y (srvI T D n o y Q j) j = 0) ∧ wtP T D (srvQ D Q j) n o y (srvI T D n o y Q j) j ≤ (srvQ D Q j) 2 j := ⟨Or.inr c_143, not_lt_I.mp c_156⟩; rw [if_pos hq2] at hA hok2; exact ih (j + 1) _ _ _ _ (by omega) hok2 hr161 hA)
                               | (have hq2 : ¬ ((D 4 j = 1 ∨ prP T D (srvQ D Q j) n o y (srvI T D n o y Q j) j = 0) ∧ wtP T D (srvQ D Q j) n o y (srvI T D n o y Q j) j ≤ (srvQ D Q j) 2 j) := fun z => absurd c_156 (not_lt_I.mpr z.2); rw [if_neg hq2] at hA hok2; exact ih (j + 1) _ _ _ _ (by omega) hok2 (KR_upd 2 j _ (by decide) hr3) hA)
                               | (have hq2 : ¬ ((D 4 j = 1 ∨ prP T D (srvQ D Q j) n o y (srvI T D n o y Q j) j = 0) ∧ wtP T D (srvQ D Q j) n o y (srvI T D n o y Q j) j ≤ (srvQ D Q j) 2 j) := fun z => z.1.elim c_63 c_143; rw [if_neg hq2] at hA hok2; exact ih (j + 1) _ _ _ _ (by omega) hok2 (KR_upd 2 j _ (by decide) hr3) hA))
                          | (have hq : ¬ payQ (prP T D (srvQ D Q j) n o y (srvI T D n o y Q j) j) (wtP T D (srvQ D Q j) n o y (srvI T D n o y Q j) j) ((srvQ D Q j) 1 j) (D 4 j) (D 5 j) ((srvQ D Q j) 2 j) := fun z => absurd c_89 (not_lt_I.mpr (hpq.mpr z).2.1); rw [if_neg hq] at hA hok2
                             first
                               | (have hq2 : (D 4 j = 1 ∨ prP T D (srvQ D Q j) n o y (srvI T D n o y Q j) j = 0) ∧ wtP T D (srvQ D Q j) n o y (srvI T D n o y Q j) j ≤ (srvQ D Q j) 2 j := ⟨Or.inl c_63, not_lt_I.mp c_156⟩; rw [if_pos hq2] at hA hok2; exact ih (j + 1) _ _ _ _ (by omega) hok2 hr161 hA)
                               | (have hq2 : (D 4 j = 1 ∨ prP T D (srvQ D Q j) n o y (srvI T D n o y Q j) j = 0) ∧ wtP T D (srvQ D Q j) n o y (srvI T D n o y Q j) j ≤ (srvQ D Q j) 2 j := ⟨Or.inr c_143, not_lt_I.mp c_156⟩; rw [if_pos hq2] at hA hok2; exact ih (j + 1) _ _ _ _ (by omega) hok2 hr161 hA)
                               | (have hq2 : ¬ ((D 4 j = 1 ∨ prP T D (srvQ D Q j) n o y (srvI T D n o y Q j) j = 0) ∧ wtP T D (srvQ D Q j) n o y (srvI T D n o y Q j) j ≤ (srvQ D Q j) 2 j) := fun z => absurd c_156 (not_lt_I.mpr z.2); rw [if_neg hq2] at hA hok2; exact ih (j + 1) _ _ _ _ (by omega) hok2 (KR_upd 2 j _ (by decide) hr3) hA)
                               | (have hq2 : ¬ ((D 4 j = 1 ∨ prP T D (srvQ D Q j) n o y (srvI T D n o y Q j) j = 0) ∧ wtP T D (srvQ D Q j) n o y (srvI T D n o y Q j) j ≤ (srvQ D Q j) 2 j) := fun z => z.1.elim c_63 c_143; rw [if_neg hq2] at hA hok2; exact ih (j + 1) _ _ _ _ (by omega) hok2 (KR_upd 2 j _ (by decide) hr3) hA))
                          | (have hq : ¬ payQ (prP T D (srvQ D Q j) n o y (srvI T D n o y Q j) j) (wtP T D (srvQ D Q j) n o y (srvI T D n o y Q j) j) ((srvQ D Q j) 1 j) (D 4 j) (D 5 j) ((srvQ D Q j) 2 j) := fun z => (hpq.mpr z).2.2.elim (fun z1 => z1 c_63) (fun z1 => absurd c_118 (not_lt_I.mpr z1)); rw [if_neg hq] at hA hok2
                             first
                               | (have hq2 : (D 4 j = 1 ∨ prP T D (srvQ D Q j) n o y (srvI T D n o y Q j) j = 0) ∧ wtP T D (srvQ D Q j) n o y (srvI T D n o y Q j) j ≤ (srvQ D Q j) 2 j := ⟨Or.inl c_63, not_lt_I.mp c_156⟩; rw [if_pos hq2] at hA hok2; exact ih (j + 1) _ _ _ _ (by omega) hok2 hr161 hA)
                               | (have hq2 : ¬ ((D 4 j = 1 ∨ prP T D (srvQ D Q j) n o y (srvI T D n o y Q j) j = 0) ∧ wtP T D (srvQ D Q j) n o y (srvI T D n o y Q j) j ≤ (srvQ D Q j) 2 j) := fun z => absurd c_156 (not_lt_I.mpr z.2); rw [if_neg hq2] at hA hok2; exact ih (j + 1) _ _ _ _ (by omega) hok2 (KR_upd 2 j _ (by decide) hr3) hA))
                      · refine g_aload_n (nx := 160) 0 F dX12_passes_159 rfl rfl rfl ?_
                        refine g_iload_n (nx := 161) 1 F dX12_passes_160 rfl rfl rfl ?_
                        refine g_callV (nx := 164) 1 0 [.int (nI j)] F dX12_passes_161 rfl ml_RX12_346 mo_X12_goesOn rfl rfl rfl rfl (Nat.le_of_ble_eq_true rfl) (by first | decide | omega) (k_goesOn (srvQ D Q j) σ0 s a y j _ hr3 hy (by omega) hZ1 he3.2.2.2.2.2.2.1) (fun r_161 τ_161 q_161 => ?_)
                        obtain ⟨rfl, hr161⟩ := q_161
                        dsimp only [Option.toList, List.append, List.cons_append, List.nil_append]
                        refine g_goto 181 F dX12_passes_164 (by decide) ?_
                        refine g_iinc (nx := 184) (1) F dX12_passes_181 rfl rfl (by decide) (by decide) ?_
                        try dsimp only [List.set]
                        refine g_goto 12 F dX12_passes_184 (by decide) ?_
                        rw [nI_1]
                        first
                          | exact absurd rfl c_93
                          | exact absurd (show (1 : Int32) = 0 from c_93) (by decide)
                          | exact absurd rfl c_136
                          | exact absurd (show (1 : Int32) = 0 from c_136) (by decide)
                          | (have hq := hpq.mp ⟨not_le_I.mp c_76, not_lt_I.mp c_89, Or.inl c_63⟩; rw [if_pos hq] at hA hok2; exact ih (j + 1) _ _ _ _ (by omega) hok2 hr129 hA)
                          | (have hq := hpq.mp ⟨not_le_I.mp c_76, not_lt_I.mp c_89, Or.inr (not_lt_I.mp c_118)⟩; rw [if_pos hq] at hA hok2; exact ih (j + 1) _ _ _ _ (by omega) hok2 hr129 hA)
                          | (have hq : ¬ payQ (prP T D (srvQ D Q j) n o y (srvI T D n o y Q j) j) (wtP T D (srvQ D Q j) n o y (srvI T D n o y Q j) j) ((srvQ D Q j) 1 j) (D 4 j) (D 5 j) ((srvQ D Q j) 2 j) := fun z => absurd (hpq.mpr z).1 (not_lt_I.mpr c_76); rw [if_neg hq] at hA hok2
                             first
                               | (have hq2 : (D 4 j = 1 ∨ prP T D (srvQ D Q j) n o y (srvI T D n o y Q j) j = 0) ∧ wtP T D (srvQ D Q j) n o y (srvI T D n o y Q j) j ≤ (srvQ D Q j) 2 j := ⟨Or.inl c_63, not_lt_I.mp c_156⟩; rw [if_pos hq2] at hA hok2; exact ih (j + 1) _ _ _ _ (by omega) hok2 hr161 hA)
                               | (have hq2 : (D 4 j = 1 ∨ prP T D (srvQ D Q j) n o y (srvI T D n o y Q j) j = 0) ∧ wtP T D (srvQ D Q j) n o y (srvI T D n o y Q j) j ≤ (srvQ D Q j) 2 j := ⟨Or.inr c_143, not_lt_I.mp c_156⟩; rw [if_pos hq2] at hA hok2; exact ih (j + 1) _ _ _ _ (by omega) hok2 hr161 hA)
                               | (have hq2 : ¬ ((D 4 j = 1 ∨ prP T D (srvQ D Q j) n o y (srvI T D n o y Q j) j = 0) ∧ wtP T D (srvQ D Q j) n o y (srvI T D n o y Q j) j ≤ (srvQ D Q j) 2 j) := fun z => absurd c_156 (not_lt_I.mpr z.2); rw [if_neg hq2] at hA hok2; exact ih (j + 1) _ _ _ _ (by omega) hok2 (KR_upd 2 j _ (by decide) hr3) hA)
                               | (have hq2 : ¬ ((D 4 j = 1 ∨ prP T D (srvQ D Q j) n o y (srvI T D n o y Q j) j = 0) ∧ wtP T D (srvQ D Q j) n o y (srvI T D n o y Q j) j ≤ (srvQ D Q j) 2 j) := fun z => z.1.elim c_63 c_143; rw [if_neg hq2] at hA hok2; exact ih (j + 1) _ _ _ _ (by omega) hok2 (KR_upd 2 j _ (by decide) hr3) hA))
                          | (have hq : ¬ payQ (prP T D (srvQ D Q j) n o y (srvI T D n o y Q j) j) (wtP T D (srvQ D Q j) n o y (srvI T D n o y Q j) j) ((srvQ D Q j) 1 j) (D 4 j) (D 5 j) ((srvQ D Q j) 2 j) := fun z => absurd c_89 (not_lt_I.mpr (hpq.mpr z).2.1); rw [if_neg hq] at hA hok2
                             first
                               | (have hq2 : (D 4 j = 1 ∨ prP T D (srvQ D Q j) n o y (srvI T D n o y Q j) j = 0) ∧ wtP T D (srvQ D Q j) n o y (srvI T D n o y Q j) j ≤ (srvQ D Q j) 2 j := ⟨Or.inl c_63, not_lt_I.mp c_156⟩; rw [if_pos hq2] at hA hok2; exact ih (j + 1) _ _ _ _ (by omega) hok2 hr161 hA)
                               | (have hq2 : (D 4 j = 1 ∨ prP T D (srvQ D Q j) n o y (srvI T D n o y Q j) j = 0) ∧ wtP T D (srvQ D Q j) n o y (srvI T D n o y Q j) j ≤ (srvQ D Q j) 2 j := ⟨Or.inr c_143, not_lt_I.mp c_156⟩; rw [if_pos hq2] at hA hok2; exact ih (j + 1) _ _ _ _ (by omega) hok2 hr161 hA)
                               | (have hq2 : ¬ ((D 4 j = 1 ∨ prP T D (srvQ D Q j) n o y (srvI T D n o y Q j) j = 0) ∧ wtP T D (srvQ D Q j) n o y (srvI T D n o y Q j) j ≤ (srvQ D Q j) 2 j) := fun z => absurd c_156 (not_lt_I.mpr z.2); rw [if_neg hq2] at hA hok2; exact ih (j + 1) _ _ _ _ (by omega) hok2 (KR_upd 2 j _ (by decide) hr3) hA)
                               | (have hq2 : ¬ ((D 4 j = 1 ∨ prP T D (srvQ D Q j) n o y (srvI T D n o y Q j) j = 0) ∧ wtP T D (srvQ D Q j) n o y (srvI T D n o y Q j) j ≤ (srvQ D Q j) 2 j) := fun z => z.1.elim c_63 c_143; rw [if_neg hq2] at hA hok2; exact ih (j + 1) _ _ _ _ (by omega) hok2 (KR_upd 2 j _ (by decide) hr3) hA))
                          | (have hq : ¬ payQ (prP T D (srvQ D Q j) n o y (srvI T D n o y Q j) j) (wtP T D (srvQ D Q j) n o y (srvI T D n o y Q j) j) ((srvQ D Q j) 1 j) (D 4 j) (D 5 j) ((srvQ D Q j) 2 j) := fun z => (hpq.mpr z).2.2.elim (fun z1 => z1 c_63) (fun z1 => absurd c_118 (not_lt_I.mpr z1)); rw [if_neg hq] at hA hok2
                             first
                               | (have hq2 : (D 4 j = 1 ∨ prP T D (srvQ D Q j) n o y (srvI T D n o y Q j) j = 0) ∧ wtP T D (srvQ D Q j) n o y (srvI T D n o y Q j) j ≤ (srvQ D Q j) 2 j := ⟨Or.inl c_63, not_lt_I.mp c_156⟩; rw [if_pos hq2] at hA hok2; exact ih (j + 1) _ _ _ _ (by omega) hok2 hr161 hA)
                               | (have hq2 : ¬ ((D 4 j = 1 ∨ prP T D (srvQ D Q j) n o y (srvI T D n o y Q j) j = 0) ∧ wtP T D (srvQ D Q j) n o y (srvI T D n o y Q j) j ≤ (srvQ D Q j) 2 j) := fun z => absurd c_156 (not_lt_I.mpr z.2); rw [if_neg hq2] at hA hok2; exact ih (j + 1) _ _ _ _ (by omega) hok2 (KR_upd 2 j _ (by decide) hr3) hA))
                · refine g_aload_n (nx := 122) 0 F dX12_passes_121 rfl rfl rfl ?_
                  refine g_iload_n (nx := 123) 2 F dX12_passes_122 rfl rfl rfl ?_
                  refine g_iload_n (nx := 124) 1 F dX12_passes_123 rfl rfl rfl ?_
                  refine g_callV (nx := 127) 2 3 [.int (nI (srvI T D n o y Q j)), .int (nI j)] F dX12_passes_124 rfl ml_RX12_343 mo_X12_pays rfl rfl rfl rfl (Nat.le_of_ble_eq_true rfl) (by first | decide | omega) (k_pays T D (srvQ D Q j) σ0 n f s e a o y j (srvI T D n o y Q j) (prP T D (srvQ D Q j) n o y (srvI T D n o y Q j) j) _ he hr3 ⟨hnf, hf40, hf, hy, hthq⟩ ho hjn ha2 hZ1 hsi hp3) (fun r_124 τ_124 q_124 => ?_)
                  obtain ⟨rfl, hr124⟩ := q_124
                  dsimp only [Option.toList, List.append, List.cons_append, List.nil_append]
                  have he124 := KR_env hr124 he
                  refine g_aload_n (nx := 128) 0 F dX12_passes_127 rfl rfl rfl ?_
                  refine g_iload_n (nx := 129) 1 F dX12_passes_128 rfl rfl rfl ?_
                  refine g_callV (nx := 132) 1 0 [.int (nI j)] F dX12_passes_129 rfl ml_RX12_346 mo_X12_goesOn rfl rfl rfl rfl (Nat.le_of_ble_eq_true rfl) (by first | decide | omega) (k_goesOn (giveP (srvQ D Q j) (srvI T D n o y Q j) j (prP T D (srvQ D Q j) n o y (srvI T D n o y Q j) j) (lwP T D (srvQ D Q j) n o y (srvI T D n o y Q j) j (prP T D (srvQ D Q j) n o y (srvI T D n o y Q j) j) 103) (lwP T D (srvQ D Q j) n o y (srvI T D n o y Q j) j (prP T D (srvQ D Q j) n o y (srvI T D n o y Q j) j) 107) (lwP T D (srvQ D Q j) n o y (srvI T D n o y Q j) j (prP T D (srvQ D Q j) n o y (srvI T D n o y Q j) j) 98)) σ0 s a y j _ hr124 hy (by omega) (by rw [giveP_0]; exact hZ1) he124.2.2.2.2.2.2.1) (fun r_129 τ_129 q_129 => ?_)
                  obtain ⟨rfl, hr129⟩ := q_129
                  dsimp only [Option.toList, List.append, List.cons_append, List.nil_append]
                  refine g_goto 181 F dX12_passes_132 (by decide) ?_
                  refine g_iinc (nx := 184) (1) F dX12_passes_181 rfl rfl (by decide) (by decide) ?_
                  try dsimp only [List.set]
                  refine g_goto 12 F dX12_passes_184 (by decide) ?_
                  rw [nI_1]
                  first
                    | exact absurd rfl c_93
                    | exact absurd (show (1 : Int32) = 0 from c_93) (by decide)
                    | exact absurd rfl c_136
                    | exact absurd (show (1 : Int32) = 0 from c_136) (by decide)
                    | (have hq := hpq.mp ⟨not_le_I.mp c_76, not_lt_I.mp c_89, Or.inl c_63⟩; rw [if_pos hq] at hA hok2; exact ih (j + 1) _ _ _ _ (by omega) hok2 hr129 hA)
                    | (have hq := hpq.mp ⟨not_le_I.mp c_76, not_lt_I.mp c_89, Or.inr (not_lt_I.mp c_118)⟩; rw [if_pos hq] at hA hok2; exact ih (j + 1) _ _ _ _ (by omega) hok2 hr129 hA)
                    | (have hq : ¬ payQ (prP T D (srvQ D Q j) n o y (srvI T D n o y Q j) j) (wtP T D (srvQ D Q j) n o y (srvI T D n o y Q j) j) ((srvQ D Q j) 1 j) (D 4 j) (D 5 j) ((srvQ D Q j) 2 j) := fun z => absurd (hpq.mpr z).1 (not_lt_I.mpr c_76); rw [if_neg hq] at hA hok2
                       first
                         | (have hq2 : (D 4 j = 1 ∨ prP T D (srvQ D Q j) n o y (srvI T D n o y Q j) j = 0) ∧ wtP T D (srvQ D Q j) n o y (srvI T D n o y Q j) j ≤ (srvQ D Q j) 2 j := ⟨Or.inl c_63, not_lt_I.mp c_156⟩; rw [if_pos hq2] at hA hok2; exact ih (j + 1) _ _ _ _ (by omega) hok2 hr161 hA)
                         | (have hq2 : (D 4 j = 1 ∨ prP T D (srvQ D Q j) n o y (srvI T D n o y Q j) j = 0) ∧ wtP T D (srvQ D Q j) n o y (srvI T D n o y Q j) j ≤ (srvQ D Q j) 2 j := ⟨Or.inr c_143, not_lt_I.mp c_156⟩; rw [if_pos hq2] at hA hok2; exact ih (j + 1) _ _ _ _ (by omega) hok2 hr161 hA)
                         | (have hq2 : ¬ ((D 4 j = 1 ∨ prP T D (srvQ D Q j) n o y (srvI T D n o y Q j) j = 0) ∧ wtP T D (srvQ D Q j) n o y (srvI T D n o y Q j) j ≤ (srvQ D Q j) 2 j) := fun z => absurd c_156 (not_lt_I.mpr z.2); rw [if_neg hq2] at hA hok2; exact ih (j + 1) _ _ _ _ (by omega) hok2 (KR_upd 2 j _ (by decide) hr3) hA)
                         | (have hq2 : ¬ ((D 4 j = 1 ∨ prP T D (srvQ D Q j) n o y (srvI T D n o y Q j) j = 0) ∧ wtP T D (srvQ D Q j) n o y (srvI T D n o y Q j) j ≤ (srvQ D Q j) 2 j) := fun z => z.1.elim c_63 c_143; rw [if_neg hq2] at hA hok2; exact ih (j + 1) _ _ _ _ (by omega) hok2 (KR_upd 2 j _ (by decide) hr3) hA))
                    | (have hq : ¬ payQ (prP T D (srvQ D Q j) n o y (srvI T D n o y Q j) j) (wtP T D (srvQ D Q j) n o y (srvI T D n o y Q j) j) ((srvQ D Q j) 1 j) (D 4 j) (D 5 j) ((srvQ D Q j) 2 j) := fun z => absurd c_89 (not_lt_I.mpr (hpq.mpr z).2.1); rw [if_neg hq] at hA hok2
                       first
                         | (have hq2 : (D 4 j = 1 ∨ prP T D (srvQ D Q j) n o y (srvI T D n o y Q j) j = 0) ∧ wtP T D (srvQ D Q j) n o y (srvI T D n o y Q j) j ≤ (srvQ D Q j) 2 j := ⟨Or.inl c_63, not_lt_I.mp c_156⟩; rw [if_pos hq2] at hA hok2; exact ih (j + 1) _ _ _ _ (by omega) hok2 hr161 hA)
                         | (have hq2 : (D 4 j = 1 ∨ prP T D (srvQ D Q j) n o y (srvI T D n o y Q j) j = 0) ∧ wtP T D (srvQ D Q j) n o y (srvI T D n o y Q j) j ≤ (srvQ D Q j) 2 j := ⟨Or.inr c_143, not_lt_I.mp c_156⟩; rw [if_pos hq2] at hA hok2; exact ih (j + 1) _ _ _ _ (by omega) hok2 hr161 hA)
                         | (have hq2 : ¬ ((D 4 j = 1 ∨ prP T D (srvQ D Q j) n o y (srvI T D n o y Q j) j = 0) ∧ wtP T D (srvQ D Q j) n o y (srvI T D n o y Q j) j ≤ (srvQ D Q j) 2 j) := fun z => absurd c_156 (not_lt_I.mpr z.2); rw [if_neg hq2] at hA hok2; exact ih (j + 1) _ _ _ _ (by omega) hok2 (KR_upd 2 j _ (by decide) hr3) hA)
                         | (have hq2 : ¬ ((D 4 j = 1 ∨ prP T D (srvQ D Q j) n o y (srvI T D n o y Q j) j = 0) ∧ wtP T D (srvQ D Q j) n o y (srvI T D n o y Q j) j ≤ (srvQ D Q j) 2 j) := fun z => z.1.elim c_63 c_143; rw [if_neg hq2] at hA hok2; exact ih (j + 1) _ _ _ _ (by omega) hok2 (KR_upd 2 j _ (by decide) hr3) hA))
                    | (have hq : ¬ payQ (prP T D (srvQ D Q j) n o y (srvI T D n o y Q j) j) (wtP T D (srvQ D Q j) n o y (srvI T D n o y Q j) j) ((srvQ D Q j) 1 j) (D 4 j) (D 5 j) ((srvQ D Q j) 2 j) := fun z => (hpq.mpr z).2.2.elim (fun z1 => z1 c_63) (fun z1 => absurd c_118 (not_lt_I.mpr z1)); rw [if_neg hq] at hA hok2
                       first
                         | (have hq2 : (D 4 j = 1 ∨ prP T D (srvQ D Q j) n o y (srvI T D n o y Q j) j = 0) ∧ wtP T D (srvQ D Q j) n o y (srvI T D n o y Q j) j ≤ (srvQ D Q j) 2 j := ⟨Or.inl c_63, not_lt_I.mp c_156⟩; rw [if_pos hq2] at hA hok2; exact ih (j + 1) _ _ _ _ (by omega) hok2 hr161 hA)
                         | (have hq2 : ¬ ((D 4 j = 1 ∨ prP T D (srvQ D Q j) n o y (srvI T D n o y Q j) j = 0) ∧ wtP T D (srvQ D Q j) n o y (srvI T D n o y Q j) j ≤ (srvQ D Q j) 2 j) := fun z => absurd c_156 (not_lt_I.mpr z.2); rw [if_neg hq2] at hA hok2; exact ih (j + 1) _ _ _ _ (by omega) hok2 (KR_upd 2 j _ (by decide) hr3) hA))
        · refine g_iconst (nx := 67) (1) F dX12_passes_66 rfl rfl ?_
          refine g_goto 71 F dX12_passes_67 (by decide) ?_
          refine g_istore_n (nx := 72) 3 F dX12_passes_71 rfl rfl (by decide) ?_
          try dsimp only [List.set]
          refine g_aload_n (nx := 73) 0 F dX12_passes_72 rfl rfl rfl ?_
          refine g_getV (nx := 76) (prP T D (srvQ D Q j) n o y (srvI T D n o y Q j) j) F dX12_passes_73 rfl fl_RX12_318 rfl (by decide) (by decide) rfl rfl (hp3) ?_
          refine g_if_le (nx := 79) 135 F dX12_passes_76 rfl (by decide) (fun c_76 => ?_) (fun c_76 => ?_)
          · refine g_iload_n (nx := 136) 3 F dX12_passes_135 rfl rfl rfl ?_
            refine g_if_ne (nx := 139) 146 F dX12_passes_136 rfl (by decide) (fun c_136 => ?_) (fun c_136 => ?_)
            · refine g_aload_n (nx := 147) 0 F dX12_passes_146 rfl rfl rfl ?_
              refine g_getR (nx := 150) F dX12_passes_147 rfl fl_RX12_46 rfl (by decide) (by decide) rfl ?_
              refine g_iload_n (nx := 151) 1 F dX12_passes_150 rfl rfl rfl ?_
              refine g_ialdN (nx := 152) (j) ((srvQ D Q j) 2 j) F dX12_passes_151 rfl rfl (by omega) (congrFun (hr3.2.2.2.2.2 2 (by decide)) j) ?_
              refine g_aload_n (nx := 153) 0 F dX12_passes_152 rfl rfl rfl ?_
              refine g_getV (nx := 156) (wtP T D (srvQ D Q j) n o y (srvI T D n o y Q j) j) F dX12_passes_153 rfl fl_RX12_321 rfl (by decide) (by decide) rfl rfl (hw3) ?_
              refine g_icmp_lt (nx := 159) 167 F dX12_passes_156 rfl (by decide) (fun c_156 => ?_) (fun c_156 => ?_)
              · refine g_aload_n (nx := 168) 0 F dX12_passes_167 rfl rfl rfl ?_
                refine g_getR (nx := 171) F dX12_passes_168 rfl fl_RX12_46 rfl (by decide) (by decide) rfl ?_
                refine g_iload_n (nx := 172) 1 F dX12_passes_171 rfl rfl rfl ?_
                refine g_aload_n (nx := 173) 0 F dX12_passes_172 rfl rfl rfl ?_
                refine g_getR (nx := 176) F dX12_passes_173 rfl fl_RX12_46 rfl (by decide) (by decide) rfl ?_
                refine g_iload_n (nx := 177) 1 F dX12_passes_176 rfl rfl rfl ?_
                refine g_ialdN (nx := 178) (j) ((srvQ D Q j) 2 j) F dX12_passes_177 rfl rfl (by omega) (congrFun (hr3.2.2.2.2.2 2 (by decide)) j) ?_
                refine g_iconst (nx := 179) (1) F dX12_passes_178 rfl rfl ?_
                refine g_iadd (nx := 180) F dX12_passes_179 rfl ?_
                refine g_iastN (nx := 181) (j) F dX12_passes_180 rfl rfl (by omega) ?_
                refine g_iinc (nx := 184) (1) F dX12_passes_181 rfl rfl (by decide) (by decide) ?_
                try dsimp only [List.set]
                refine g_goto 12 F dX12_passes_184 (by decide) ?_
                rw [nI_1]
                first
                  | exact absurd rfl c_93
                  | exact absurd (show (1 : Int32) = 0 from c_93) (by decide)
                  | exact absurd rfl c_136
                  | exact absurd (show (1 : Int32) = 0 from c_136) (by decide)
                  | (have hq := hpq.mp ⟨not_le_I.mp c_76, not_lt_I.mp c_89, Or.inl c_63⟩; rw [if_pos hq] at hA hok2; exact ih (j + 1) _ _ _ _ (by omega) hok2 hr129 hA)
                  | (have hq := hpq.mp ⟨not_le_I.mp c_76, not_lt_I.mp c_89, Or.inr (not_lt_I.mp c_118)⟩; rw [if_pos hq] at hA hok2; exact ih (j + 1) _ _ _ _ (by omega) hok2 hr129 hA)
                  | (have hq : ¬ payQ (prP T D (srvQ D Q j) n o y (srvI T D n o y Q j) j) (wtP T D (srvQ D Q j) n o y (srvI T D n o y Q j) j) ((srvQ D Q j) 1 j) (D 4 j) (D 5 j) ((srvQ D Q j) 2 j) := fun z => absurd (hpq.mpr z).1 (not_lt_I.mpr c_76); rw [if_neg hq] at hA hok2
                     first
                       | (have hq2 : (D 4 j = 1 ∨ prP T D (srvQ D Q j) n o y (srvI T D n o y Q j) j = 0) ∧ wtP T D (srvQ D Q j) n o y (srvI T D n o y Q j) j ≤ (srvQ D Q j) 2 j := ⟨Or.inl c_63, not_lt_I.mp c_156⟩; rw [if_pos hq2] at hA hok2; exact ih (j + 1) _ _ _ _ (by omega) hok2 hr161 hA)
                       | (have hq2 : (D 4 j = 1 ∨ prP T D (srvQ D Q j) n o y (srvI T D n o y Q j) j = 0) ∧ wtP T D (srvQ D Q j) n o y (srvI T D n o y Q j) j ≤ (srvQ D Q j) 2 j := ⟨Or.inr c_143, not_lt_I.mp c_156⟩; rw [if_pos hq2] at hA hok2; exact ih (j + 1) _ _ _ _ (by omega) hok2 hr161 hA)
                       | (have hq2 : ¬ ((D 4 j = 1 ∨ prP T D (srvQ D Q j) n o y (srvI T D n o y Q j) j = 0) ∧ wtP T D (srvQ D Q j) n o y (srvI T D n o y Q j) j ≤ (srvQ D Q j) 2 j) := fun z => absurd c_156 (not_lt_I.mpr z.2); rw [if_neg hq2] at hA hok2; exact ih (j + 1) _ _ _ _ (by omega) hok2 (KR_upd 2 j _ (by decide) hr3) hA)
                       | (have hq2 : ¬ ((D 4 j = 1 ∨ prP T D (srvQ D Q j) n o y (srvI T D n o y Q j) j = 0) ∧ wtP T D (srvQ D Q j) n o y (srvI T D n o y Q j) j ≤ (srvQ D Q j) 2 j) := fun z => z.1.elim c_63 c_143; rw [if_neg hq2] at hA hok2; exact ih (j + 1) _ _ _ _ (by omega) hok2 (KR_upd 2 j _ (by decide) hr3) hA))
                  | (have hq : ¬ payQ (prP T D (srvQ D Q j) n o y (srvI T D n o y Q j) j) (wtP T D (srvQ D Q j) n o y (srvI T D n o y Q j) j) ((srvQ D Q j) 1 j) (D 4 j) (D 5 j) ((srvQ D Q j) 2 j) := fun z => absurd c_89 (not_lt_I.mpr (hpq.mpr z).2.1); rw [if_neg hq] at hA hok2
                     first
                       | (have hq2 : (D 4 j = 1 ∨ prP T D (srvQ D Q j) n o y (srvI T D n o y Q j) j = 0) ∧ wtP T D (srvQ D Q j) n o y (srvI T D n o y Q j) j ≤ (srvQ D Q j) 2 j := ⟨Or.inl c_63, not_lt_I.mp c_156⟩; rw [if_pos hq2] at hA hok2; exact ih (j + 1) _ _ _ _ (by omega) hok2 hr161 hA)
                       | (have hq2 : (D 4 j = 1 ∨ prP T D (srvQ D Q j) n o y (srvI T D n o y Q j) j = 0) ∧ wtP T D (srvQ D Q j) n o y (srvI T D n o y Q j) j ≤ (srvQ D Q j) 2 j := ⟨Or.inr c_143, not_lt_I.mp c_156⟩; rw [if_pos hq2] at hA hok2; exact ih (j + 1) _ _ _ _ (by omega) hok2 hr161 hA)
                       | (have hq2 : ¬ ((D 4 j = 1 ∨ prP T D (srvQ D Q j) n o y (srvI T D n o y Q j) j = 0) ∧ wtP T D (srvQ D Q j) n o y (srvI T D n o y Q j) j ≤ (srvQ D Q j) 2 j) := fun z => absurd c_156 (not_lt_I.mpr z.2); rw [if_neg hq2] at hA hok2; exact ih (j + 1) _ _ _ _ (by omega) hok2 (KR_upd 2 j _ (by decide) hr3) hA)
                       | (have hq2 : ¬ ((D 4 j = 1 ∨ prP T D (srvQ D Q j) n o y (srvI T D n o y Q j) j = 0) ∧ wtP T D (srvQ D Q j) n o y (srvI T D n o y Q j) j ≤ (srvQ D Q j) 2 j) := fun z => z.1.elim c_63 c_143; rw [if_neg hq2] at hA hok2; exact ih (j + 1) _ _ _ _ (by omega) hok2 (KR_upd 2 j _ (by decide) hr3) hA))
                  | (have hq : ¬ payQ (prP T D (srvQ D Q j) n o y (srvI T D n o y Q j) j) (wtP T D (srvQ D Q j) n o y (srvI T D n o y Q j) j) ((srvQ D Q j) 1 j) (D 4 j) (D 5 j) ((srvQ D Q j) 2 j) := fun z => (hpq.mpr z).2.2.elim (fun z1 => z1 c_63) (fun z1 => absurd c_118 (not_lt_I.mpr z1)); rw [if_neg hq] at hA hok2
                     first
                       | (have hq2 : (D 4 j = 1 ∨ prP T D (srvQ D Q j) n o y (srvI T D n o y Q j) j = 0) ∧ wtP T D (srvQ D Q j) n o y (srvI T D n o y Q j) j ≤ (srvQ D Q j) 2 j := ⟨Or.inl c_63, not_lt_I.mp c_156⟩; rw [if_pos hq2] at hA hok2; exact ih (j + 1) _ _ _ _ (by omega) hok2 hr161 hA)
                       | (have hq2 : ¬ ((D 4 j = 1 ∨ prP T D (srvQ D Q j) n o y (srvI T D n o y Q j) j = 0) ∧ wtP T D (srvQ D Q j) n o y (srvI T D n o y Q j) j ≤ (srvQ D Q j) 2 j) := fun z => absurd c_156 (not_lt_I.mpr z.2); rw [if_neg hq2] at hA hok2; exact ih (j + 1) _ _ _ _ (by omega) hok2 (KR_upd 2 j _ (by decide) hr3) hA))
              · refine g_aload_n (nx := 160) 0 F dX12_passes_159 rfl rfl rfl ?_
                refine g_iload_n (nx := 161) 1 F dX12_passes_160 rfl rfl rfl ?_
                refine g_callV (nx := 164) 1 0 [.int (nI j)] F dX12_passes_161 rfl ml_RX12_346 mo_X12_goesOn rfl rfl rfl rfl (Nat.le_of_ble_eq_true rfl) (by first | decide | omega) (k_goesOn (srvQ D Q j) σ0 s a y j _ hr3 hy (by omega) hZ1 he3.2.2.2.2.2.2.1) (fun r_161 τ_161 q_161 => ?_)
                obtain ⟨rfl, hr161⟩ := q_161
                dsimp only [Option.toList, List.append, List.cons_append, List.nil_append]
                refine g_goto 181 F dX12_passes_164 (by decide) ?_
                refine g_iinc (nx := 184) (1) F dX12_passes_181 rfl rfl (by decide) (by decide) ?_
                try dsimp only [List.set]
                refine g_goto 12 F dX12_passes_184 (by decide) ?_
                rw [nI_1]
                first
                  | exact absurd rfl c_93
                  | exact absurd (show (1 : Int32) = 0 from c_93) (by decide)
                  | exact absurd rfl c_136
                  | exact absurd (show (1 : Int32) = 0 from c_136) (by decide)
                  | (have hq := hpq.mp ⟨not_le_I.mp c_76, not_lt_I.mp c_89, Or.inl c_63⟩; rw [if_pos hq] at hA hok2; exact ih (j + 1) _ _ _ _ (by omega) hok2 hr129 hA)
                  | (have hq := hpq.mp ⟨not_le_I.mp c_76, not_lt_I.mp c_89, Or.inr (not_lt_I.mp c_118)⟩; rw [if_pos hq] at hA hok2; exact ih (j + 1) _ _ _ _ (by omega) hok2 hr129 hA)
                  | (have hq : ¬ payQ (prP T D (srvQ D Q j) n o y (srvI T D n o y Q j) j) (wtP T D (srvQ D Q j) n o y (srvI T D n o y Q j) j) ((srvQ D Q j) 1 j) (D 4 j) (D 5 j) ((srvQ D Q j) 2 j) := fun z => absurd (hpq.mpr z).1 (not_lt_I.mpr c_76); rw [if_neg hq] at hA hok2
                     first
                       | (have hq2 : (D 4 j = 1 ∨ prP T D (srvQ D Q j) n o y (srvI T D n o y Q j) j = 0) ∧ wtP T D (srvQ D Q j) n o y (srvI T D n o y Q j) j ≤ (srvQ D Q j) 2 j := ⟨Or.inl c_63, not_lt_I.mp c_156⟩; rw [if_pos hq2] at hA hok2; exact ih (j + 1) _ _ _ _ (by omega) hok2 hr161 hA)
                       | (have hq2 : (D 4 j = 1 ∨ prP T D (srvQ D Q j) n o y (srvI T D n o y Q j) j = 0) ∧ wtP T D (srvQ D Q j) n o y (srvI T D n o y Q j) j ≤ (srvQ D Q j) 2 j := ⟨Or.inr c_143, not_lt_I.mp c_156⟩; rw [if_pos hq2] at hA hok2; exact ih (j + 1) _ _ _ _ (by omega) hok2 hr161 hA)
                       | (have hq2 : ¬ ((D 4 j = 1 ∨ prP T D (srvQ D Q j) n o y (srvI T D n o y Q j) j = 0) ∧ wtP T D (srvQ D Q j) n o y (srvI T D n o y Q j) j ≤ (srvQ D Q j) 2 j) := fun z => absurd c_156 (not_lt_I.mpr z.2); rw [if_neg hq2] at hA hok2; exact ih (j + 1) _ _ _ _ (by omega) hok2 (KR_upd 2 j _ (by decide) hr3) hA)
                       | (have hq2 : ¬ ((D 4 j = 1 ∨ prP T D (srvQ D Q j) n o y (srvI T D n o y Q j) j = 0) ∧ wtP T D (srvQ D Q j) n o y (srvI T D n o y Q j) j ≤ (srvQ D Q j) 2 j) := fun z => z.1.elim c_63 c_143; rw [if_neg hq2] at hA hok2; exact ih (j + 1) _ _ _ _ (by omega) hok2 (KR_upd 2 j _ (by decide) hr3) hA))
                  | (have hq : ¬ payQ (prP T D (srvQ D Q j) n o y (srvI T D n o y Q j) j) (wtP T D (srvQ D Q j) n o y (srvI T D n o y Q j) j) ((srvQ D Q j) 1 j) (D 4 j) (D 5 j) ((srvQ D Q j) 2 j) := fun z => absurd c_89 (not_lt_I.mpr (hpq.mpr z).2.1); rw [if_neg hq] at hA hok2
                     first
                       | (have hq2 : (D 4 j = 1 ∨ prP T D (srvQ D Q j) n o y (srvI T D n o y Q j) j = 0) ∧ wtP T D (srvQ D Q j) n o y (srvI T D n o y Q j) j ≤ (srvQ D Q j) 2 j := ⟨Or.inl c_63, not_lt_I.mp c_156⟩; rw [if_pos hq2] at hA hok2; exact ih (j + 1) _ _ _ _ (by omega) hok2 hr161 hA)
                       | (have hq2 : (D 4 j = 1 ∨ prP T D (srvQ D Q j) n o y (srvI T D n o y Q j) j = 0) ∧ wtP T D (srvQ D Q j) n o y (srvI T D n o y Q j) j ≤ (srvQ D Q j) 2 j := ⟨Or.inr c_143, not_lt_I.mp c_156⟩; rw [if_pos hq2] at hA hok2; exact ih (j + 1) _ _ _ _ (by omega) hok2 hr161 hA)
                       | (have hq2 : ¬ ((D 4 j = 1 ∨ prP T D (srvQ D Q j) n o y (srvI T D n o y Q j) j = 0) ∧ wtP T D (srvQ D Q j) n o y (srvI T D n o y Q j) j ≤ (srvQ D Q j) 2 j) := fun z => absurd c_156 (not_lt_I.mpr z.2); rw [if_neg hq2] at hA hok2; exact ih (j + 1) _ _ _ _ (by omega) hok2 (KR_upd 2 j _ (by decide) hr3) hA)
                       | (have hq2 : ¬ ((D 4 j = 1 ∨ prP T D (srvQ D Q j) n o y (srvI T D n o y Q j) j = 0) ∧ wtP T D (srvQ D Q j) n o y (srvI T D n o y Q j) j ≤ (srvQ D Q j) 2 j) := fun z => z.1.elim c_63 c_143; rw [if_neg hq2] at hA hok2; exact ih (j + 1) _ _ _ _ (by omega) hok2 (KR_upd 2 j _ (by decide) hr3) hA))
                  | (have hq : ¬ payQ (prP T D (srvQ D Q j) n o y (srvI T D n o y Q j) j) (wtP T D (srvQ D Q j) n o y (srvI T D n o y Q j) j) ((srvQ D Q j) 1 j) (D 4 j) (D 5 j) ((srvQ D Q j) 2 j) := fun z => (hpq.mpr z).2.2.elim (fun z1 => z1 c_63) (fun z1 => absurd c_118 (not_lt_I.mpr z1)); rw [if_neg hq] at hA hok2
                     first
                       | (have hq2 : (D 4 j = 1 ∨ prP T D (srvQ D Q j) n o y (srvI T D n o y Q j) j = 0) ∧ wtP T D (srvQ D Q j) n o y (srvI T D n o y Q j) j ≤ (srvQ D Q j) 2 j := ⟨Or.inl c_63, not_lt_I.mp c_156⟩; rw [if_pos hq2] at hA hok2; exact ih (j + 1) _ _ _ _ (by omega) hok2 hr161 hA)
                       | (have hq2 : ¬ ((D 4 j = 1 ∨ prP T D (srvQ D Q j) n o y (srvI T D n o y Q j) j = 0) ∧ wtP T D (srvQ D Q j) n o y (srvI T D n o y Q j) j ≤ (srvQ D Q j) 2 j) := fun z => absurd c_156 (not_lt_I.mpr z.2); rw [if_neg hq2] at hA hok2; exact ih (j + 1) _ _ _ _ (by omega) hok2 (KR_upd 2 j _ (by decide) hr3) hA))
            · refine g_aload_n (nx := 140) 0 F dX12_passes_139 rfl rfl rfl ?_
              refine g_getV (nx := 143) (prP T D (srvQ D Q j) n o y (srvI T D n o y Q j) j) F dX12_passes_140 rfl fl_RX12_318 rfl (by decide) (by decide) rfl rfl (hp3) ?_
              refine g_if_ne (nx := 146) 167 F dX12_passes_143 rfl (by decide) (fun c_143 => ?_) (fun c_143 => ?_)
              · refine g_aload_n (nx := 168) 0 F dX12_passes_167 rfl rfl rfl ?_
                refine g_getR (nx := 171) F dX12_passes_168 rfl fl_RX12_46 rfl (by decide) (by decide) rfl ?_
                refine g_iload_n (nx := 172) 1 F dX12_passes_171 rfl rfl rfl ?_
                refine g_aload_n (nx := 173) 0 F dX12_passes_172 rfl rfl rfl ?_
                refine g_getR (nx := 176) F dX12_passes_173 rfl fl_RX12_46 rfl (by decide) (by decide) rfl ?_
                refine g_iload_n (nx := 177) 1 F dX12_passes_176 rfl rfl rfl ?_
                refine g_ialdN (nx := 178) (j) ((srvQ D Q j) 2 j) F dX12_passes_177 rfl rfl (by omega) (congrFun (hr3.2.2.2.2.2 2 (by decide)) j) ?_
                refine g_iconst (nx := 179) (1) F dX12_passes_178 rfl rfl ?_
                refine g_iadd (nx := 180) F dX12_passes_179 rfl ?_
                refine g_iastN (nx := 181) (j) F dX12_passes_180 rfl rfl (by omega) ?_
                refine g_iinc (nx := 184) (1) F dX12_passes_181 rfl rfl (by decide) (by decide) ?_
                try dsimp only [List.set]
                refine g_goto 12 F dX12_passes_184 (by decide) ?_
                rw [nI_1]
                first
                  | exact absurd rfl c_93
                  | exact absurd (show (1 : Int32) = 0 from c_93) (by decide)
                  | exact absurd rfl c_136
                  | exact absurd (show (1 : Int32) = 0 from c_136) (by decide)
                  | (have hq := hpq.mp ⟨not_le_I.mp c_76, not_lt_I.mp c_89, Or.inl c_63⟩; rw [if_pos hq] at hA hok2; exact ih (j + 1) _ _ _ _ (by omega) hok2 hr129 hA)
                  | (have hq := hpq.mp ⟨not_le_I.mp c_76, not_lt_I.mp c_89, Or.inr (not_lt_I.mp c_118)⟩; rw [if_pos hq] at hA hok2; exact ih (j + 1) _ _ _ _ (by omega) hok2 hr129 hA)
                  | (have hq : ¬ payQ (prP T D (srvQ D Q j) n o y (srvI T D n o y Q j) j) (wtP T D (srvQ D Q j) n o y (srvI T D n o y Q j) j) ((srvQ D Q j) 1 j) (D 4 j) (D 5 j) ((srvQ D Q j) 2 j) := fun z => absurd (hpq.mpr z).1 (not_lt_I.mpr c_76); rw [if_neg hq] at hA hok2
                     first
                       | (have hq2 : (D 4 j = 1 ∨ prP T D (srvQ D Q j) n o y (srvI T D n o y Q j) j = 0) ∧ wtP T D (srvQ D Q j) n o y (srvI T D n o y Q j) j ≤ (srvQ D Q j) 2 j := ⟨Or.inl c_63, not_lt_I.mp c_156⟩; rw [if_pos hq2] at hA hok2; exact ih (j + 1) _ _ _ _ (by omega) hok2 hr161 hA)
                       | (have hq2 : (D 4 j = 1 ∨ prP T D (srvQ D Q j) n o y (srvI T D n o y Q j) j = 0) ∧ wtP T D (srvQ D Q j) n o y (srvI T D n o y Q j) j ≤ (srvQ D Q j) 2 j := ⟨Or.inr c_143, not_lt_I.mp c_156⟩; rw [if_pos hq2] at hA hok2; exact ih (j + 1) _ _ _ _ (by omega) hok2 hr161 hA)
                       | (have hq2 : ¬ ((D 4 j = 1 ∨ prP T D (srvQ D Q j) n o y (srvI T D n o y Q j) j = 0) ∧ wtP T D (srvQ D Q j) n o y (srvI T D n o y Q j) j ≤ (srvQ D Q j) 2 j) := fun z => absurd c_156 (not_lt_I.mpr z.2); rw [if_neg hq2] at hA hok2; exact ih (j + 1) _ _ _ _ (by omega) hok2 (KR_upd 2 j _ (by decide) hr3) hA)
                       | (have hq2 : ¬ ((D 4 j = 1 ∨ prP T D (srvQ D Q j) n o y (srvI T D n o y Q j) j = 0) ∧ wtP T D (srvQ D Q j) n o y (srvI T D n o y Q j) j ≤ (srvQ D Q j) 2 j) := fun z => z.1.elim c_63 c_143; rw [if_neg hq2] at hA hok2; exact ih (j + 1) _ _ _ _ (by omega) hok2 (KR_upd 2 j _ (by decide) hr3) hA))
                  | (have hq : ¬ payQ (prP T D (srvQ D Q j) n o y (srvI T D n o y Q j) j) (wtP T D (srvQ D Q j) n o y (srvI T D n o y Q j) j) ((srvQ D Q j) 1 j) (D 4 j) (D 5 j) ((srvQ D Q j) 2 j) := fun z => absurd c_89 (not_lt_I.mpr (hpq.mpr z).2.1); rw [if_neg hq] at hA hok2
                     first
                       | (have hq2 : (D 4 j = 1 ∨ prP T D (srvQ D Q j) n o y (srvI T D n o y Q j) j = 0) ∧ wtP T D (srvQ D Q j) n o y (srvI T D n o y Q j) j ≤ (srvQ D Q j) 2 j := ⟨Or.inl c_63, not_lt_I.mp c_156⟩; rw [if_pos hq2] at hA hok2; exact ih (j + 1) _ _ _ _ (by omega) hok2 hr161 hA)
                       | (have hq2 : (D 4 j = 1 ∨ prP T D (srvQ D Q j) n o y (srvI T D n o y Q j) j = 0) ∧ wtP T D (srvQ D Q j) n o y (srvI T D n o y Q j) j ≤ (srvQ D Q j) 2 j := ⟨Or.inr c_143, not_lt_I.mp c_156⟩; rw [if_pos hq2] at hA hok2; exact ih (j + 1) _ _ _ _ (by omega) hok2 hr161 hA)
                       | (have hq2 : ¬ ((D 4 j = 1 ∨ prP T D (srvQ D Q j) n o y (srvI T D n o y Q j) j = 0) ∧ wtP T D (srvQ D Q j) n o y (srvI T D n o y Q j) j ≤ (srvQ D Q j) 2 j) := fun z => absurd c_156 (not_lt_I.mpr z.2); rw [if_neg hq2] at hA hok2; exact ih (j + 1) _ _ _ _ (by omega) hok2 (KR_upd 2 j _ (by decide) hr3) hA)
                       | (have hq2 : ¬ ((D 4 j = 1 ∨ prP T D (srvQ D Q j) n o y (srvI T D n o y Q j) j = 0) ∧ wtP T D (srvQ D Q j) n o y (srvI T D n o y Q j) j ≤ (srvQ D Q j) 2 j) := fun z => z.1.elim c_63 c_143; rw [if_neg hq2] at hA hok2; exact ih (j + 1) _ _ _ _ (by omega) hok2 (KR_upd 2 j _ (by decide) hr3) hA))
                  | (have hq : ¬ payQ (prP T D (srvQ D Q j) n o y (srvI T D n o y Q j) j) (wtP T D (srvQ D Q j) n o y (srvI T D n o y Q j) j) ((srvQ D Q j) 1 j) (D 4 j) (D 5 j) ((srvQ D Q j) 2 j) := fun z => (hpq.mpr z).2.2.elim (fun z1 => z1 c_63) (fun z1 => absurd c_118 (not_lt_I.mpr z1)); rw [if_neg hq] at hA hok2
                     first
                       | (have hq2 : (D 4 j = 1 ∨ prP T D (srvQ D Q j) n o y (srvI T D n o y Q j) j = 0) ∧ wtP T D (srvQ D Q j) n o y (srvI T D n o y Q j) j ≤ (srvQ D Q j) 2 j := ⟨Or.inl c_63, not_lt_I.mp c_156⟩; rw [if_pos hq2] at hA hok2; exact ih (j + 1) _ _ _ _ (by omega) hok2 hr161 hA)
                       | (have hq2 : ¬ ((D 4 j = 1 ∨ prP T D (srvQ D Q j) n o y (srvI T D n o y Q j) j = 0) ∧ wtP T D (srvQ D Q j) n o y (srvI T D n o y Q j) j ≤ (srvQ D Q j) 2 j) := fun z => absurd c_156 (not_lt_I.mpr z.2); rw [if_neg hq2] at hA hok2; exact ih (j + 1) _ _ _ _ (by omega) hok2 (KR_upd 2 j _ (by decide) hr3) hA))
              · refine g_aload_n (nx := 147) 0 F dX12_passes_146 rfl rfl rfl ?_
                refine g_getR (nx := 150) F dX12_passes_147 rfl fl_RX12_46 rfl (by decide) (by decide) rfl ?_
                refine g_iload_n (nx := 151) 1 F dX12_passes_150 rfl rfl rfl ?_
                refine g_ialdN (nx := 152) (j) ((srvQ D Q j) 2 j) F dX12_passes_151 rfl rfl (by omega) (congrFun (hr3.2.2.2.2.2 2 (by decide)) j) ?_
                refine g_aload_n (nx := 153) 0 F dX12_passes_152 rfl rfl rfl ?_
                refine g_getV (nx := 156) (wtP T D (srvQ D Q j) n o y (srvI T D n o y Q j) j) F dX12_passes_153 rfl fl_RX12_321 rfl (by decide) (by decide) rfl rfl (hw3) ?_
                refine g_icmp_lt (nx := 159) 167 F dX12_passes_156 rfl (by decide) (fun c_156 => ?_) (fun c_156 => ?_)
                · refine g_aload_n (nx := 168) 0 F dX12_passes_167 rfl rfl rfl ?_
                  refine g_getR (nx := 171) F dX12_passes_168 rfl fl_RX12_46 rfl (by decide) (by decide) rfl ?_
                  refine g_iload_n (nx := 172) 1 F dX12_passes_171 rfl rfl rfl ?_
                  refine g_aload_n (nx := 173) 0 F dX12_passes_172 rfl rfl rfl ?_
                  refine g_getR (nx := 176) F dX12_passes_173 rfl fl_RX12_46 rfl (by decide) (by decide) rfl ?_
                  refine g_iload_n (nx := 177) 1 F dX12_passes_176 rfl rfl rfl ?_
                  refine g_ialdN (nx := 178) (j) ((srvQ D Q j) 2 j) F dX12_passes_177 rfl rfl (by omega) (congrFun (hr3.2.2.2.2.2 2 (by decide)) j) ?_
                  refine g_iconst (nx := 179) (1) F dX12_passes_178 rfl rfl ?_
                  refine g_iadd (nx := 180) F dX12_passes_179 rfl ?_
                  refine g_iastN (nx := 181) (j) F dX12_passes_180 rfl rfl (by omega) ?_
                  refine g_iinc (nx := 184) (1) F dX12_passes_181 rfl rfl (by decide) (by decide) ?_
                  try dsimp only [List.set]
                  refine g_goto 12 F dX12_passes_184 (by decide) ?_
                  rw [nI_1]
                  first
                    | exact absurd rfl c_93
                    | exact absurd (show (1 : Int32) = 0 from c_93) (by decide)
                    | exact absurd rfl c_136
                    | exact absurd (show (1 : Int32) = 0 from c_136) (by decide)
                    | (have hq := hpq.mp ⟨not_le_I.mp c_76, not_lt_I.mp c_89, Or.inl c_63⟩; rw [if_pos hq] at hA hok2; exact ih (j + 1) _ _ _ _ (by omega) hok2 hr129 hA)
                    | (have hq := hpq.mp ⟨not_le_I.mp c_76, not_lt_I.mp c_89, Or.inr (not_lt_I.mp c_118)⟩; rw [if_pos hq] at hA hok2; exact ih (j + 1) _ _ _ _ (by omega) hok2 hr129 hA)
                    | (have hq : ¬ payQ (prP T D (srvQ D Q j) n o y (srvI T D n o y Q j) j) (wtP T D (srvQ D Q j) n o y (srvI T D n o y Q j) j) ((srvQ D Q j) 1 j) (D 4 j) (D 5 j) ((srvQ D Q j) 2 j) := fun z => absurd (hpq.mpr z).1 (not_lt_I.mpr c_76); rw [if_neg hq] at hA hok2
                       first
                         | (have hq2 : (D 4 j = 1 ∨ prP T D (srvQ D Q j) n o y (srvI T D n o y Q j) j = 0) ∧ wtP T D (srvQ D Q j) n o y (srvI T D n o y Q j) j ≤ (srvQ D Q j) 2 j := ⟨Or.inl c_63, not_lt_I.mp c_156⟩; rw [if_pos hq2] at hA hok2; exact ih (j + 1) _ _ _ _ (by omega) hok2 hr161 hA)
                         | (have hq2 : (D 4 j = 1 ∨ prP T D (srvQ D Q j) n o y (srvI T D n o y Q j) j = 0) ∧ wtP T D (srvQ D Q j) n o y (srvI T D n o y Q j) j ≤ (srvQ D Q j) 2 j := ⟨Or.inr c_143, not_lt_I.mp c_156⟩; rw [if_pos hq2] at hA hok2; exact ih (j + 1) _ _ _ _ (by omega) hok2 hr161 hA)
                         | (have hq2 : ¬ ((D 4 j = 1 ∨ prP T D (srvQ D Q j) n o y (srvI T D n o y Q j) j = 0) ∧ wtP T D (srvQ D Q j) n o y (srvI T D n o y Q j) j ≤ (srvQ D Q j) 2 j) := fun z => absurd c_156 (not_lt_I.mpr z.2); rw [if_neg hq2] at hA hok2; exact ih (j + 1) _ _ _ _ (by omega) hok2 (KR_upd 2 j _ (by decide) hr3) hA)
                         | (have hq2 : ¬ ((D 4 j = 1 ∨ prP T D (srvQ D Q j) n o y (srvI T D n o y Q j) j = 0) ∧ wtP T D (srvQ D Q j) n o y (srvI T D n o y Q j) j ≤ (srvQ D Q j) 2 j) := fun z => z.1.elim c_63 c_143; rw [if_neg hq2] at hA hok2; exact ih (j + 1) _ _ _ _ (by omega) hok2 (KR_upd 2 j _ (by decide) hr3) hA))
                    | (have hq : ¬ payQ (prP T D (srvQ D Q j) n o y (srvI T D n o y Q j) j) (wtP T D (srvQ D Q j) n o y (srvI T D n o y Q j) j) ((srvQ D Q j) 1 j) (D 4 j) (D 5 j) ((srvQ D Q j) 2 j) := fun z => absurd c_89 (not_lt_I.mpr (hpq.mpr z).2.1); rw [if_neg hq] at hA hok2
                       first
                         | (have hq2 : (D 4 j = 1 ∨ prP T D (srvQ D Q j) n o y (srvI T D n o y Q j) j = 0) ∧ wtP T D (srvQ D Q j) n o y (srvI T D n o y Q j) j ≤ (srvQ D Q j) 2 j := ⟨Or.inl c_63, not_lt_I.mp c_156⟩; rw [if_pos hq2] at hA hok2; exact ih (j + 1) _ _ _ _ (by omega) hok2 hr161 hA)
                         | (have hq2 : (D 4 j = 1 ∨ prP T D (srvQ D Q j) n o y (srvI T D n o y Q j) j = 0) ∧ wtP T D (srvQ D Q j) n o y (srvI T D n o y Q j) j ≤ (srvQ D Q j) 2 j := ⟨Or.inr c_143, not_lt_I.mp c_156⟩; rw [if_pos hq2] at hA hok2; exact ih (j + 1) _ _ _ _ (by omega) hok2 hr161 hA)
                         | (have hq2 : ¬ ((D 4 j = 1 ∨ prP T D (srvQ D Q j) n o y (srvI T D n o y Q j) j = 0) ∧ wtP T D (srvQ D Q j) n o y (srvI T D n o y Q j) j ≤ (srvQ D Q j) 2 j) := fun z => absurd c_156 (not_lt_I.mpr z.2); rw [if_neg hq2] at hA hok2; exact ih (j + 1) _ _ _ _ (by omega) hok2 (KR_upd 2 j _ (by decide) hr3) hA)
                         | (have hq2 : ¬ ((D 4 j = 1 ∨ prP T D (srvQ D Q j) n o y (srvI T D n o y Q j) j = 0) ∧ wtP T D (srvQ D Q j) n o y (srvI T D n o y Q j) j ≤ (srvQ D Q j) 2 j) := fun z => z.1.elim c_63 c_143; rw [if_neg hq2] at hA hok2; exact ih (j + 1) _ _ _ _ (by omega) hok2 (KR_upd 2 j _ (by decide) hr3) hA))
                    | (have hq : ¬ payQ (prP T D (srvQ D Q j) n o y (srvI T D n o y Q j) j) (wtP T D (srvQ D Q j) n o y (srvI T D n o y Q j) j) ((srvQ D Q j) 1 j) (D 4 j) (D 5 j) ((srvQ D Q j) 2 j) := fun z => (hpq.mpr z).2.2.elim (fun z1 => z1 c_63) (fun z1 => absurd c_118 (not_lt_I.mpr z1)); rw [if_neg hq] at hA hok2
                       first
                         | (have hq2 : (D 4 j = 1 ∨ prP T D (srvQ D Q j) n o y (srvI T D n o y Q j) j = 0) ∧ wtP T D (srvQ D Q j) n o y (srvI T D n o y Q j) j ≤ (srvQ D Q j) 2 j := ⟨Or.inl c_63, not_lt_I.mp c_156⟩; rw [if_pos hq2] at hA hok2; exact ih (j + 1) _ _ _ _ (by omega) hok2 hr161 hA)
                         | (have hq2 : ¬ ((D 4 j = 1 ∨ prP T D (srvQ D Q j) n o y (srvI T D n o y Q j) j = 0) ∧ wtP T D (srvQ D Q j) n o y (srvI T D n o y Q j) j ≤ (srvQ D Q j) 2 j) := fun z => absurd c_156 (not_lt_I.mpr z.2); rw [if_neg hq2] at hA hok2; exact ih (j + 1) _ _ _ _ (by omega) hok2 (KR_upd 2 j _ (by decide) hr3) hA))
                · refine g_aload_n (nx := 160) 0 F dX12_passes_159 rfl rfl rfl ?_
                  refine g_iload_n (nx := 161) 1 F dX12_passes_160 rfl rfl rfl ?_
                  refine g_callV (nx := 164) 1 0 [.int (nI j)] F dX12_passes_161 rfl ml_RX12_346 mo_X12_goesOn rfl rfl rfl rfl (Nat.le_of_ble_eq_true rfl) (by first | decide | omega) (k_goesOn (srvQ D Q j) σ0 s a y j _ hr3 hy (by omega) hZ1 he3.2.2.2.2.2.2.1) (fun r_161 τ_161 q_161 => ?_)
                  obtain ⟨rfl, hr161⟩ := q_161
                  dsimp only [Option.toList, List.append, List.cons_append, List.nil_append]
                  refine g_goto 181 F dX12_passes_164 (by decide) ?_
                  refine g_iinc (nx := 184) (1) F dX12_passes_181 rfl rfl (by decide) (by decide) ?_
                  try dsimp only [List.set]
                  refine g_goto 12 F dX12_passes_184 (by decide) ?_
                  rw [nI_1]
                  first
                    | exact absurd rfl c_93
                    | exact absurd (show (1 : Int32) = 0 from c_93) (by decide)
                    | exact absurd rfl c_136
                    | exact absurd (show (1 : Int32) = 0 from c_136) (by decide)
                    | (have hq := hpq.mp ⟨not_le_I.mp c_76, not_lt_I.mp c_89, Or.inl c_63⟩; rw [if_pos hq] at hA hok2; exact ih (j + 1) _ _ _ _ (by omega) hok2 hr129 hA)
                    | (have hq := hpq.mp ⟨not_le_I.mp c_76, not_lt_I.mp c_89, Or.inr (not_lt_I.mp c_118)⟩; rw [if_pos hq] at hA hok2; exact ih (j + 1) _ _ _ _ (by omega) hok2 hr129 hA)
                    | (have hq : ¬ payQ (prP T D (srvQ D Q j) n o y (srvI T D n o y Q j) j) (wtP T D (srvQ D Q j) n o y (srvI T D n o y Q j) j) ((srvQ D Q j) 1 j) (D 4 j) (D 5 j) ((srvQ D Q j) 2 j) := fun z => absurd (hpq.mpr z).1 (not_lt_I.mpr c_76); rw [if_neg hq] at hA hok2
                       first
                         | (have hq2 : (D 4 j = 1 ∨ prP T D (srvQ D Q j) n o y (srvI T D n o y Q j) j = 0) ∧ wtP T D (srvQ D Q j) n o y (srvI T D n o y Q j) j ≤ (srvQ D Q j) 2 j := ⟨Or.inl c_63, not_lt_I.mp c_156⟩; rw [if_pos hq2] at hA hok2; exact ih (j + 1) _ _ _ _ (by omega) hok2 hr161 hA)
                         | (have hq2 : (D 4 j = 1 ∨ prP T D (srvQ D Q j) n o y (srvI T D n o y Q j) j = 0) ∧ wtP T D (srvQ D Q j) n o y (srvI T D n o y Q j) j ≤ (srvQ D Q j) 2 j := ⟨Or.inr c_143, not_lt_I.mp c_156⟩; rw [if_pos hq2] at hA hok2; exact ih (j + 1) _ _ _ _ (by omega) hok2 hr161 hA)
                         | (have hq2 : ¬ ((D 4 j = 1 ∨ prP T D (srvQ D Q j) n o y (srvI T D n o y Q j) j = 0) ∧ wtP T D (srvQ D Q j) n o y (srvI T D n o y Q j) j ≤ (srvQ D Q j) 2 j) := fun z => absurd c_156 (not_lt_I.mpr z.2); rw [if_neg hq2] at hA hok2; exact ih (j + 1) _ _ _ _ (by omega) hok2 (KR_upd 2 j _ (by decide) hr3) hA)
                         | (have hq2 : ¬ ((D 4 j = 1 ∨ prP T D (srvQ D Q j) n o y (srvI T D n o y Q j) j = 0) ∧ wtP T D (srvQ D Q j) n o y (srvI T D n o y Q j) j ≤ (srvQ D Q j) 2 j) := fun z => z.1.elim c_63 c_143; rw [if_neg hq2] at hA hok2; exact ih (j + 1) _ _ _ _ (by omega) hok2 (KR_upd 2 j _ (by decide) hr3) hA))
                    | (have hq : ¬ payQ (prP T D (srvQ D Q j) n o y (srvI T D n o y Q j) j) (wtP T D (srvQ D Q j) n o y (srvI T D n o y Q j) j) ((srvQ D Q j) 1 j) (D 4 j) (D 5 j) ((srvQ D Q j) 2 j) := fun z => absurd c_89 (not_lt_I.mpr (hpq.mpr z).2.1); rw [if_neg hq] at hA hok2
                       first
                         | (have hq2 : (D 4 j = 1 ∨ prP T D (srvQ D Q j) n o y (srvI T D n o y Q j) j = 0) ∧ wtP T D (srvQ D Q j) n o y (srvI T D n o y Q j) j ≤ (srvQ D Q j) 2 j := ⟨Or.inl c_63, not_lt_I.mp c_156⟩; rw [if_pos hq2] at hA hok2; exact ih (j + 1) _ _ _ _ (by omega) hok2 hr161 hA)
                         | (have hq2 : (D 4 j = 1 ∨ prP T D (srvQ D Q j) n o y (srvI T D n o y Q j) j = 0) ∧ wtP T D (srvQ D Q j) n o y (srvI T D n o y Q j) j ≤ (srvQ D Q j) 2 j := ⟨Or.inr c_143, not_lt_I.mp c_156⟩; rw [if_pos hq2] at hA hok2; exact ih (j + 1) _ _ _ _ (by omega) hok2 hr161 hA)
                         | (have hq2 : ¬ ((D 4 j = 1 ∨ prP T D (srvQ D Q j) n o y (srvI T D n o y Q j) j = 0) ∧ wtP T D (srvQ D Q j) n o y (srvI T D n o y Q j) j ≤ (srvQ D Q j) 2 j) := fun z => absurd c_156 (not_lt_I.mpr z.2); rw [if_neg hq2] at hA hok2; exact ih (j + 1) _ _ _ _ (by omega) hok2 (KR_upd 2 j _ (by decide) hr3) hA)
                         | (have hq2 : ¬ ((D 4 j = 1 ∨ prP T D (srvQ D Q j) n o y (srvI T D n o y Q j) j = 0) ∧ wtP T D (srvQ D Q j) n o y (srvI T D n o y Q j) j ≤ (srvQ D Q j) 2 j) := fun z => z.1.elim c_63 c_143; rw [if_neg hq2] at hA hok2; exact ih (j + 1) _ _ _ _ (by omega) hok2 (KR_upd 2 j _ (by decide) hr3) hA))
                    | (have hq : ¬ payQ (prP T D (srvQ D Q j) n o y (srvI T D n o y Q j) j) (wtP T D (srvQ D Q j) n o y (srvI T D n o y Q j) j) ((srvQ D Q j) 1 j) (D 4 j) (D 5 j) ((srvQ D Q j) 2 j) := fun z => (hpq.mpr z).2.2.elim (fun z1 => z1 c_63) (fun z1 => absurd c_118 (not_lt_I.mpr z1)); rw [if_neg hq] at hA hok2
                       first
                         | (have hq2 : (D 4 j = 1 ∨ prP T D (srvQ D Q j) n o y (srvI T D n o y Q j) j = 0) ∧ wtP T D (srvQ D Q j) n o y (srvI T D n o y Q j) j ≤ (srvQ D Q j) 2 j := ⟨Or.inl c_63, not_lt_I.mp c_156⟩; rw [if_pos hq2] at hA hok2; exact ih (j + 1) _ _ _ _ (by omega) hok2 hr161 hA)
                         | (have hq2 : ¬ ((D 4 j = 1 ∨ prP T D (srvQ D Q j) n o y (srvI T D n o y Q j) j = 0) ∧ wtP T D (srvQ D Q j) n o y (srvI T D n o y Q j) j ≤ (srvQ D Q j) 2 j) := fun z => absurd c_156 (not_lt_I.mpr z.2); rw [if_neg hq2] at hA hok2; exact ih (j + 1) _ _ _ _ (by omega) hok2 (KR_upd 2 j _ (by decide) hr3) hA))
          · refine g_aload_n (nx := 80) 0 F dX12_passes_79 rfl rfl rfl ?_
            refine g_getV (nx := 83) (prP T D (srvQ D Q j) n o y (srvI T D n o y Q j) j) F dX12_passes_80 rfl fl_RX12_318 rfl (by decide) (by decide) rfl rfl (hp3) ?_
            refine g_aload_n (nx := 84) 0 F dX12_passes_83 rfl rfl rfl ?_
            refine g_getR (nx := 87) F dX12_passes_84 rfl fl_RX12_43 rfl (by decide) (by decide) rfl ?_
            refine g_iload_n (nx := 88) 1 F dX12_passes_87 rfl rfl rfl ?_
            refine g_ialdN (nx := 89) (j) ((srvQ D Q j) 1 j) F dX12_passes_88 rfl rfl (by omega) (congrFun (hr3.2.2.2.2.2 1 (by decide)) j) ?_
            refine g_icmp_gt (nx := 92) 135 F dX12_passes_89 rfl (by decide) (fun c_89 => ?_) (fun c_89 => ?_)
            · refine g_iload_n (nx := 136) 3 F dX12_passes_135 rfl rfl rfl ?_
              refine g_if_ne (nx := 139) 146 F dX12_passes_136 rfl (by decide) (fun c_136 => ?_) (fun c_136 => ?_)
              · refine g_aload_n (nx := 147) 0 F dX12_passes_146 rfl rfl rfl ?_
                refine g_getR (nx := 150) F dX12_passes_147 rfl fl_RX12_46 rfl (by decide) (by decide) rfl ?_
                refine g_iload_n (nx := 151) 1 F dX12_passes_150 rfl rfl rfl ?_
                refine g_ialdN (nx := 152) (j) ((srvQ D Q j) 2 j) F dX12_passes_151 rfl rfl (by omega) (congrFun (hr3.2.2.2.2.2 2 (by decide)) j) ?_
                refine g_aload_n (nx := 153) 0 F dX12_passes_152 rfl rfl rfl ?_
                refine g_getV (nx := 156) (wtP T D (srvQ D Q j) n o y (srvI T D n o y Q j) j) F dX12_passes_153 rfl fl_RX12_321 rfl (by decide) (by decide) rfl rfl (hw3) ?_
                refine g_icmp_lt (nx := 159) 167 F dX12_passes_156 rfl (by decide) (fun c_156 => ?_) (fun c_156 => ?_)
                · refine g_aload_n (nx := 168) 0 F dX12_passes_167 rfl rfl rfl ?_
                  refine g_getR (nx := 171) F dX12_passes_168 rfl fl_RX12_46 rfl (by decide) (by decide) rfl ?_
                  refine g_iload_n (nx := 172) 1 F dX12_passes_171 rfl rfl rfl ?_
                  refine g_aload_n (nx := 173) 0 F dX12_passes_172 rfl rfl rfl ?_
                  refine g_getR (nx := 176) F dX12_passes_173 rfl fl_RX12_46 rfl (by decide) (by decide) rfl ?_
                  refine g_iload_n (nx := 177) 1 F dX12_passes_176 rfl rfl rfl ?_
                  refine g_ialdN (nx := 178) (j) ((srvQ D Q j) 2 j) F dX12_passes_177 rfl rfl (by omega) (congrFun (hr3.2.2.2.2.2 2 (by decide)) j) ?_
                  refine g_iconst (nx := 179) (1) F dX12_passes_178 rfl rfl ?_
                  refine g_iadd (nx := 180) F dX12_passes_179 rfl ?_
                  refine g_iastN (nx := 181) (j) F dX12_passes_180 rfl rfl (by omega) ?_
                  refine g_iinc (nx := 184) (1) F dX12_passes_181 rfl rfl (by decide) (by decide) ?_
                  try dsimp only [List.set]
                  refine g_goto 12 F dX12_passes_184 (by decide) ?_
                  rw [nI_1]
                  first
                    | exact absurd rfl c_93
                    | exact absurd (show (1 : Int32) = 0 from c_93) (by decide)
                    | exact absurd rfl c_136
                    | exact absurd (show (1 : Int32) = 0 from c_136) (by decide)
                    | (have hq := hpq.mp ⟨not_le_I.mp c_76, not_lt_I.mp c_89, Or.inl c_63⟩; rw [if_pos hq] at hA hok2; exact ih (j + 1) _ _ _ _ (by omega) hok2 hr129 hA)
                    | (have hq := hpq.mp ⟨not_le_I.mp c_76, not_lt_I.mp c_89, Or.inr (not_lt_I.mp c_118)⟩; rw [if_pos hq] at hA hok2; exact ih (j + 1) _ _ _ _ (by omega) hok2 hr129 hA)
                    | (have hq : ¬ payQ (prP T D (srvQ D Q j) n o y (srvI T D n o y Q j) j) (wtP T D (srvQ D Q j) n o y (srvI T D n o y Q j) j) ((srvQ D Q j) 1 j) (D 4 j) (D 5 j) ((srvQ D Q j) 2 j) := fun z => absurd (hpq.mpr z).1 (not_lt_I.mpr c_76); rw [if_neg hq] at hA hok2
                       first
                         | (have hq2 : (D 4 j = 1 ∨ prP T D (srvQ D Q j) n o y (srvI T D n o y Q j) j = 0) ∧ wtP T D (srvQ D Q j) n o y (srvI T D n o y Q j) j ≤ (srvQ D Q j) 2 j := ⟨Or.inl c_63, not_lt_I.mp c_156⟩; rw [if_pos hq2] at hA hok2; exact ih (j + 1) _ _ _ _ (by omega) hok2 hr161 hA)
                         | (have hq2 : (D 4 j = 1 ∨ prP T D (srvQ D Q j) n o y (srvI T D n o y Q j) j = 0) ∧ wtP T D (srvQ D Q j) n o y (srvI T D n o y Q j) j ≤ (srvQ D Q j) 2 j := ⟨Or.inr c_143, not_lt_I.mp c_156⟩; rw [if_pos hq2] at hA hok2; exact ih (j + 1) _ _ _ _ (by omega) hok2 hr161 hA)
                         | (have hq2 : ¬ ((D 4 j = 1 ∨ prP T D (srvQ D Q j) n o y (srvI T D n o y Q j) j = 0) ∧ wtP T D (srvQ D Q j) n o y (srvI T D n o y Q j) j ≤ (srvQ D Q j) 2 j) := fun z => absurd c_156 (not_lt_I.mpr z.2); rw [if_neg hq2] at hA hok2; exact ih (j + 1) _ _ _ _ (by omega) hok2 (KR_upd 2 j _ (by decide) hr3) hA)
                         | (have hq2 : ¬ ((D 4 j = 1 ∨ prP T D (srvQ D Q j) n o y (srvI T D n o y Q j) j = 0) ∧ wtP T D (srvQ D Q j) n o y (srvI T D n o y Q j) j ≤ (srvQ D Q j) 2 j) := fun z => z.1.elim c_63 c_143; rw [if_neg hq2] at hA hok2; exact ih (j + 1) _ _ _ _ (by omega) hok2 (KR_upd 2 j _ (by decide) hr3) hA))
                    | (have hq : ¬ payQ (prP T D (srvQ D Q j) n o y (srvI T D n o y Q j) j) (wtP T D (srvQ D Q j) n o y (srvI T D n o y Q j) j) ((srvQ D Q j) 1 j) (D 4 j) (D 5 j) ((srvQ D Q j) 2 j) := fun z => absurd c_89 (not_lt_I.mpr (hpq.mpr z).2.1); rw [if_neg hq] at hA hok2
                       first
                         | (have hq2 : (D 4 j = 1 ∨ prP T D (srvQ D Q j) n o y (srvI T D n o y Q j) j = 0) ∧ wtP T D (srvQ D Q j) n o y (srvI T D n o y Q j) j ≤ (srvQ D Q j) 2 j := ⟨Or.inl c_63, not_lt_I.mp c_156⟩; rw [if_pos hq2] at hA hok2; exact ih (j + 1) _ _ _ _ (by omega) hok2 hr161 hA)
                         | (have hq2 : (D 4 j = 1 ∨ prP T D (srvQ D Q j) n o y (srvI T D n o y Q j) j = 0) ∧ wtP T D (srvQ D Q j) n o y (srvI T D n o y Q j) j ≤ (srvQ D Q j) 2 j := ⟨Or.inr c_143, not_lt_I.mp c_156⟩; rw [if_pos hq2] at hA hok2; exact ih (j + 1) _ _ _ _ (by omega) hok2 hr161 hA)
                         | (have hq2 : ¬ ((D 4 j = 1 ∨ prP T D (srvQ D Q j) n o y (srvI T D n o y Q j) j = 0) ∧ wtP T D (srvQ D Q j) n o y (srvI T D n o y Q j) j ≤ (srvQ D Q j) 2 j) := fun z => absurd c_156 (not_lt_I.mpr z.2); rw [if_neg hq2] at hA hok2; exact ih (j + 1) _ _ _ _ (by omega) hok2 (KR_upd 2 j _ (by decide) hr3) hA)
                         | (have hq2 : ¬ ((D 4 j = 1 ∨ prP T D (srvQ D Q j) n o y (srvI T D n o y Q j) j = 0) ∧ wtP T D (srvQ D Q j) n o y (srvI T D n o y Q j) j ≤ (srvQ D Q j) 2 j) := fun z => z.1.elim c_63 c_143; rw [if_neg hq2] at hA hok2; exact ih (j + 1) _ _ _ _ (by omega) hok2 (KR_upd 2 j _ (by decide) hr3) hA))
                    | (have hq : ¬ payQ (prP T D (srvQ D Q j) n o y (srvI T D n o y Q j) j) (wtP T D (srvQ D Q j) n o y (srvI T D n o y Q j) j) ((srvQ D Q j) 1 j) (D 4 j) (D 5 j) ((srvQ D Q j) 2 j) := fun z => (hpq.mpr z).2.2.elim (fun z1 => z1 c_63) (fun z1 => absurd c_118 (not_lt_I.mpr z1)); rw [if_neg hq] at hA hok2
                       first
                         | (have hq2 : (D 4 j = 1 ∨ prP T D (srvQ D Q j) n o y (srvI T D n o y Q j) j = 0) ∧ wtP T D (srvQ D Q j) n o y (srvI T D n o y Q j) j ≤ (srvQ D Q j) 2 j := ⟨Or.inl c_63, not_lt_I.mp c_156⟩; rw [if_pos hq2] at hA hok2; exact ih (j + 1) _ _ _ _ (by omega) hok2 hr161 hA)
                         | (have hq2 : ¬ ((D 4 j = 1 ∨ prP T D (srvQ D Q j) n o y (srvI T D n o y Q j) j = 0) ∧ wtP T D (srvQ D Q j) n o y (srvI T D n o y Q j) j ≤ (srvQ D Q j) 2 j) := fun z => absurd c_156 (not_lt_I.mpr z.2); rw [if_neg hq2] at hA hok2; exact ih (j + 1) _ _ _ _ (by omega) hok2 (KR_upd 2 j _ (by decide) hr3) hA))
                · refine g_aload_n (nx := 160) 0 F dX12_passes_159 rfl rfl rfl ?_
                  refine g_iload_n (nx := 161) 1 F dX12_passes_160 rfl rfl rfl ?_
                  refine g_callV (nx := 164) 1 0 [.int (nI j)] F dX12_passes_161 rfl ml_RX12_346 mo_X12_goesOn rfl rfl rfl rfl (Nat.le_of_ble_eq_true rfl) (by first | decide | omega) (k_goesOn (srvQ D Q j) σ0 s a y j _ hr3 hy (by omega) hZ1 he3.2.2.2.2.2.2.1) (fun r_161 τ_161 q_161 => ?_)
                  obtain ⟨rfl, hr161⟩ := q_161
                  dsimp only [Option.toList, List.append, List.cons_append, List.nil_append]
                  refine g_goto 181 F dX12_passes_164 (by decide) ?_
                  refine g_iinc (nx := 184) (1) F dX12_passes_181 rfl rfl (by decide) (by decide) ?_
                  try dsimp only [List.set]
                  refine g_goto 12 F dX12_passes_184 (by decide) ?_
                  rw [nI_1]
                  first
                    | exact absurd rfl c_93
                    | exact absurd (show (1 : Int32) = 0 from c_93) (by decide)
                    | exact absurd rfl c_136
                    | exact absurd (show (1 : Int32) = 0 from c_136) (by decide)
                    | (have hq := hpq.mp ⟨not_le_I.mp c_76, not_lt_I.mp c_89, Or.inl c_63⟩; rw [if_pos hq] at hA hok2; exact ih (j + 1) _ _ _ _ (by omega) hok2 hr129 hA)
                    | (have hq := hpq.mp ⟨not_le_I.mp c_76, not_lt_I.mp c_89, Or.inr (not_lt_I.mp c_118)⟩; rw [if_pos hq] at hA hok2; exact ih (j + 1) _ _ _ _ (by omega) hok2 hr129 hA)
                    | (have hq : ¬ payQ (prP T D (srvQ D Q j) n o y (srvI T D n o y Q j) j) (wtP T D (srvQ D Q j) n o y (srvI T D n o y Q j) j) ((srvQ D Q j) 1 j) (D 4 j) (D 5 j) ((srvQ D Q j) 2 j) := fun z => absurd (hpq.mpr z).1 (not_lt_I.mpr c_76); rw [if_neg hq] at hA hok2
                       first
                         | (have hq2 : (D 4 j = 1 ∨ prP T D (srvQ D Q j) n o y (srvI T D n o y Q j) j = 0) ∧ wtP T D (srvQ D Q j) n o y (srvI T D n o y Q j) j ≤ (srvQ D Q j) 2 j := ⟨Or.inl c_63, not_lt_I.mp c_156⟩; rw [if_pos hq2] at hA hok2; exact ih (j + 1) _ _ _ _ (by omega) hok2 hr161 hA)
                         | (have hq2 : (D 4 j = 1 ∨ prP T D (srvQ D Q j) n o y (srvI T D n o y Q j) j = 0) ∧ wtP T D (srvQ D Q j) n o y (srvI T D n o y Q j) j ≤ (srvQ D Q j) 2 j := ⟨Or.inr c_143, not_lt_I.mp c_156⟩; rw [if_pos hq2] at hA hok2; exact ih (j + 1) _ _ _ _ (by omega) hok2 hr161 hA)
                         | (have hq2 : ¬ ((D 4 j = 1 ∨ prP T D (srvQ D Q j) n o y (srvI T D n o y Q j) j = 0) ∧ wtP T D (srvQ D Q j) n o y (srvI T D n o y Q j) j ≤ (srvQ D Q j) 2 j) := fun z => absurd c_156 (not_lt_I.mpr z.2); rw [if_neg hq2] at hA hok2; exact ih (j + 1) _ _ _ _ (by omega) hok2 (KR_upd 2 j _ (by decide) hr3) hA)
                         | (have hq2 : ¬ ((D 4 j = 1 ∨ prP T D (srvQ D Q j) n o y (srvI T D n o y Q j) j = 0) ∧ wtP T D (srvQ D Q j) n o y (srvI T D n o y Q j) j ≤ (srvQ D Q j) 2 j) := fun z => z.1.elim c_63 c_143; rw [if_neg hq2] at hA hok2; exact ih (j + 1) _ _ _ _ (by omega) hok2 (KR_upd 2 j _ (by decide) hr3) hA))
                    | (have hq : ¬ payQ (prP T D (srvQ D Q j) n o y (srvI T D n o y Q j) j) (wtP T D (srvQ D Q j) n o y (srvI T D n o y Q j) j) ((srvQ D Q j) 1 j) (D 4 j) (D 5 j) ((srvQ D Q j) 2 j) := fun z => absurd c_89 (not_lt_I.mpr (hpq.mpr z).2.1); rw [if_neg hq] at hA hok2
                       first
                         | (have hq2 : (D 4 j = 1 ∨ prP T D (srvQ D Q j) n o y (srvI T D n o y Q j) j = 0) ∧ wtP T D (srvQ D Q j) n o y (srvI T D n o y Q j) j ≤ (srvQ D Q j) 2 j := ⟨Or.inl c_63, not_lt_I.mp c_156⟩; rw [if_pos hq2] at hA hok2; exact ih (j + 1) _ _ _ _ (by omega) hok2 hr161 hA)
                         | (have hq2 : (D 4 j = 1 ∨ prP T D (srvQ D Q j) n o y (srvI T D n o y Q j) j = 0) ∧ wtP T D (srvQ D Q j) n o y (srvI T D n o y Q j) j ≤ (srvQ D Q j) 2 j := ⟨Or.inr c_143, not_lt_I.mp c_156⟩; rw [if_pos hq2] at hA hok2; exact ih (j + 1) _ _ _ _ (by omega) hok2 hr161 hA)
                         | (have hq2 : ¬ ((D 4 j = 1 ∨ prP T D (srvQ D Q j) n o y (srvI T D n o y Q j) j = 0) ∧ wtP T D (srvQ D Q j) n o y (srvI T D n o y Q j) j ≤ (srvQ D Q j) 2 j) := fun z => absurd c_156 (not_lt_I.mpr z.2); rw [if_neg hq2] at hA hok2; exact ih (j + 1) _ _ _ _ (by omega) hok2 (KR_upd 2 j _ (by decide) hr3) hA)
                         | (have hq2 : ¬ ((D 4 j = 1 ∨ prP T D (srvQ D Q j) n o y (srvI T D n o y Q j) j = 0) ∧ wtP T D (srvQ D Q j) n o y (srvI T D n o y Q j) j ≤ (srvQ D Q j) 2 j) := fun z => z.1.elim c_63 c_143; rw [if_neg hq2] at hA hok2; exact ih (j + 1) _ _ _ _ (by omega) hok2 (KR_upd 2 j _ (by decide) hr3) hA))
                    | (have hq : ¬ payQ (prP T D (srvQ D Q j) n o y (srvI T D n o y Q j) j) (wtP T D (srvQ D Q j) n o y (srvI T D n o y Q j) j) ((srvQ D Q j) 1 j) (D 4 j) (D 5 j) ((srvQ D Q j) 2 j) := fun z => (hpq.mpr z).2.2.elim (fun z1 => z1 c_63) (fun z1 => absurd c_118 (not_lt_I.mpr z1)); rw [if_neg hq] at hA hok2
                       first
                         | (have hq2 : (D 4 j = 1 ∨ prP T D (srvQ D Q j) n o y (srvI T D n o y Q j) j = 0) ∧ wtP T D (srvQ D Q j) n o y (srvI T D n o y Q j) j ≤ (srvQ D Q j) 2 j := ⟨Or.inl c_63, not_lt_I.mp c_156⟩; rw [if_pos hq2] at hA hok2; exact ih (j + 1) _ _ _ _ (by omega) hok2 hr161 hA)
                         | (have hq2 : ¬ ((D 4 j = 1 ∨ prP T D (srvQ D Q j) n o y (srvI T D n o y Q j) j = 0) ∧ wtP T D (srvQ D Q j) n o y (srvI T D n o y Q j) j ≤ (srvQ D Q j) 2 j) := fun z => absurd c_156 (not_lt_I.mpr z.2); rw [if_neg hq2] at hA hok2; exact ih (j + 1) _ _ _ _ (by omega) hok2 (KR_upd 2 j _ (by decide) hr3) hA))
              · refine g_aload_n (nx := 140) 0 F dX12_passes_139 rfl rfl rfl ?_
                refine g_getV (nx := 143) (prP T D (srvQ D Q j) n o y (srvI T D n o y Q j) j) F dX12_passes_140 rfl fl_RX12_318 rfl (by decide) (by decide) rfl rfl (hp3) ?_
                refine g_if_ne (nx := 146) 167 F dX12_passes_143 rfl (by decide) (fun c_143 => ?_) (fun c_143 => ?_)
                · refine g_aload_n (nx := 168) 0 F dX12_passes_167 rfl rfl rfl ?_
                  refine g_getR (nx := 171) F dX12_passes_168 rfl fl_RX12_46 rfl (by decide) (by decide) rfl ?_
                  refine g_iload_n (nx := 172) 1 F dX12_passes_171 rfl rfl rfl ?_
                  refine g_aload_n (nx := 173) 0 F dX12_passes_172 rfl rfl rfl ?_
                  refine g_getR (nx := 176) F dX12_passes_173 rfl fl_RX12_46 rfl (by decide) (by decide) rfl ?_
                  refine g_iload_n (nx := 177) 1 F dX12_passes_176 rfl rfl rfl ?_
                  refine g_ialdN (nx := 178) (j) ((srvQ D Q j) 2 j) F dX12_passes_177 rfl rfl (by omega) (congrFun (hr3.2.2.2.2.2 2 (by decide)) j) ?_
                  refine g_iconst (nx := 179) (1) F dX12_passes_178 rfl rfl ?_
                  refine g_iadd (nx := 180) F dX12_passes_179 rfl ?_
                  refine g_iastN (nx := 181) (j) F dX12_passes_180 rfl rfl (by omega) ?_
                  refine g_iinc (nx := 184) (1) F dX12_passes_181 rfl rfl (by decide) (by decide) ?_
                  try dsimp only [List.set]
                  refine g_goto 12 F dX12_passes_184 (by decide) ?_
                  rw [nI_1]
                  first
                    | exact absurd rfl c_93
                    | exact absurd (show (1 : Int32) = 0 from c_93) (by decide)
                    | exact absurd rfl c_136
                    | exact absurd (show (1 : Int32) = 0 from c_136) (by decide)
                    | (have hq := hpq.mp ⟨not_le_I.mp c_76, not_lt_I.mp c_89, Or.inl c_63⟩; rw [if_pos hq] at hA hok2; exact ih (j + 1) _ _ _ _ (by omega) hok2 hr129 hA)
                    | (have hq := hpq.mp ⟨not_le_I.mp c_76, not_lt_I.mp c_89, Or.inr (not_lt_I.mp c_118)⟩; rw [if_pos hq] at hA hok2; exact ih (j + 1) _ _ _ _ (by omega) hok2 hr129 hA)
                    | (have hq : ¬ payQ (prP T D (srvQ D Q j) n o y (srvI T D n o y Q j) j) (wtP T D (srvQ D Q j) n o y (srvI T D n o y Q j) j) ((srvQ D Q j) 1 j) (D 4 j) (D 5 j) ((srvQ D Q j) 2 j) := fun z => absurd (hpq.mpr z).1 (not_lt_I.mpr c_76); rw [if_neg hq] at hA hok2
                       first
                         | (have hq2 : (D 4 j = 1 ∨ prP T D (srvQ D Q j) n o y (srvI T D n o y Q j) j = 0) ∧ wtP T D (srvQ D Q j) n o y (srvI T D n o y Q j) j ≤ (srvQ D Q j) 2 j := ⟨Or.inl c_63, not_lt_I.mp c_156⟩; rw [if_pos hq2] at hA hok2; exact ih (j + 1) _ _ _ _ (by omega) hok2 hr161 hA)
                         | (have hq2 : (D 4 j = 1 ∨ prP T D (srvQ D Q j) n o y (srvI T D n o y Q j) j = 0) ∧ wtP T D (srvQ D Q j) n o y (srvI T D n o y Q j) j ≤ (srvQ D Q j) 2 j := ⟨Or.inr c_143, not_lt_I.mp c_156⟩; rw [if_pos hq2] at hA hok2; exact ih (j + 1) _ _ _ _ (by omega) hok2 hr161 hA)
                         | (have hq2 : ¬ ((D 4 j = 1 ∨ prP T D (srvQ D Q j) n o y (srvI T D n o y Q j) j = 0) ∧ wtP T D (srvQ D Q j) n o y (srvI T D n o y Q j) j ≤ (srvQ D Q j) 2 j) := fun z => absurd c_156 (not_lt_I.mpr z.2); rw [if_neg hq2] at hA hok2; exact ih (j + 1) _ _ _ _ (by omega) hok2 (KR_upd 2 j _ (by decide) hr3) hA)
                         | (have hq2 : ¬ ((D 4 j = 1 ∨ prP T D (srvQ D Q j) n o y (srvI T D n o y Q j) j = 0) ∧ wtP T D (srvQ D Q j) n o y (srvI T D n o y Q j) j ≤ (srvQ D Q j) 2 j) := fun z => z.1.elim c_63 c_143; rw [if_neg hq2] at hA hok2; exact ih (j + 1) _ _ _ _ (by omega) hok2 (KR_upd 2 j _ (by decide) hr3) hA))
                    | (have hq : ¬ payQ (prP T D (srvQ D Q j) n o y (srvI T D n o y Q j) j) (wtP T D (srvQ D Q j) n o y (srvI T D n o y Q j) j) ((srvQ D Q j) 1 j) (D 4 j) (D 5 j) ((srvQ D Q j) 2 j) := fun z => absurd c_89 (not_lt_I.mpr (hpq.mpr z).2.1); rw [if_neg hq] at hA hok2
                       first
                         | (have hq2 : (D 4 j = 1 ∨ prP T D (srvQ D Q j) n o y (srvI T D n o y Q j) j = 0) ∧ wtP T D (srvQ D Q j) n o y (srvI T D n o y Q j) j ≤ (srvQ D Q j) 2 j := ⟨Or.inl c_63, not_lt_I.mp c_156⟩; rw [if_pos hq2] at hA hok2; exact ih (j + 1) _ _ _ _ (by omega) hok2 hr161 hA)
                         | (have hq2 : (D 4 j = 1 ∨ prP T D (srvQ D Q j) n o y (srvI T D n o y Q j) j = 0) ∧ wtP T D (srvQ D Q j) n o y (srvI T D n o y Q j) j ≤ (srvQ D Q j) 2 j := ⟨Or.inr c_143, not_lt_I.mp c_156⟩; rw [if_pos hq2] at hA hok2; exact ih (j + 1) _ _ _ _ (by omega) hok2 hr161 hA)
                         | (have hq2 : ¬ ((D 4 j = 1 ∨ prP T D (srvQ D Q j) n o y (srvI T D n o y Q j) j = 0) ∧ wtP T D (srvQ D Q j) n o y (srvI T D n o y Q j) j ≤ (srvQ D Q j) 2 j) := fun z => absurd c_156 (not_lt_I.mpr z.2); rw [if_neg hq2] at hA hok2; exact ih (j + 1) _ _ _ _ (by omega) hok2 (KR_upd 2 j _ (by decide) hr3) hA)
                         | (have hq2 : ¬ ((D 4 j = 1 ∨ prP T D (srvQ D Q j) n o y (srvI T D n o y Q j) j = 0) ∧ wtP T D (srvQ D Q j) n o y (srvI T D n o y Q j) j ≤ (srvQ D Q j) 2 j) := fun z => z.1.elim c_63 c_143; rw [if_neg hq2] at hA hok2; exact ih (j + 1) _ _ _ _ (by omega) hok2 (KR_upd 2 j _ (by decide) hr3) hA))
                    | (have hq : ¬ payQ (prP T D (srvQ D Q j) n o y (srvI T D n o y Q j) j) (wtP T D (srvQ D Q j) n o y (srvI T D n o y Q j) j) ((srvQ D Q j) 1 j) (D 4 j) (D 5 j) ((srvQ D Q j) 2 j) := fun z => (hpq.mpr z).2.2.elim (fun z1 => z1 c_63) (fun z1 => absurd c_118 (not_lt_I.mpr z1)); rw [if_neg hq] at hA hok2
                       first
                         | (have hq2 : (D 4 j = 1 ∨ prP T D (srvQ D Q j) n o y (srvI T D n o y Q j) j = 0) ∧ wtP T D (srvQ D Q j) n o y (srvI T D n o y Q j) j ≤ (srvQ D Q j) 2 j := ⟨Or.inl c_63, not_lt_I.mp c_156⟩; rw [if_pos hq2] at hA hok2; exact ih (j + 1) _ _ _ _ (by omega) hok2 hr161 hA)
                         | (have hq2 : ¬ ((D 4 j = 1 ∨ prP T D (srvQ D Q j) n o y (srvI T D n o y Q j) j = 0) ∧ wtP T D (srvQ D Q j) n o y (srvI T D n o y Q j) j ≤ (srvQ D Q j) 2 j) := fun z => absurd c_156 (not_lt_I.mpr z.2); rw [if_neg hq2] at hA hok2; exact ih (j + 1) _ _ _ _ (by omega) hok2 (KR_upd 2 j _ (by decide) hr3) hA))
                · refine g_aload_n (nx := 147) 0 F dX12_passes_146 rfl rfl rfl ?_
                  refine g_getR (nx := 150) F dX12_passes_147 rfl fl_RX12_46 rfl (by decide) (by decide) rfl ?_
                  refine g_iload_n (nx := 151) 1 F dX12_passes_150 rfl rfl rfl ?_
                  refine g_ialdN (nx := 152) (j) ((srvQ D Q j) 2 j) F dX12_passes_151 rfl rfl (by omega) (congrFun (hr3.2.2.2.2.2 2 (by decide)) j) ?_
                  refine g_aload_n (nx := 153) 0 F dX12_passes_152 rfl rfl rfl ?_
                  refine g_getV (nx := 156) (wtP T D (srvQ D Q j) n o y (srvI T D n o y Q j) j) F dX12_passes_153 rfl fl_RX12_321 rfl (by decide) (by decide) rfl rfl (hw3) ?_
                  refine g_icmp_lt (nx := 159) 167 F dX12_passes_156 rfl (by decide) (fun c_156 => ?_) (fun c_156 => ?_)
                  · refine g_aload_n (nx := 168) 0 F dX12_passes_167 rfl rfl rfl ?_
                    refine g_getR (nx := 171) F dX12_passes_168 rfl fl_RX12_46 rfl (by decide) (by decide) rfl ?_
                    refine g_iload_n (nx := 172) 1 F dX12_passes_171 rfl rfl rfl ?_
                    refine g_aload_n (nx := 173) 0 F dX12_passes_172 rfl rfl rfl ?_
                    refine g_getR (nx := 176) F dX12_passes_173 rfl fl_RX12_46 rfl (by decide) (by decide) rfl ?_
                    refine g_iload_n (nx := 177) 1 F dX12_passes_176 rfl rfl rfl ?_
                    refine g_ialdN (nx := 178) (j) ((srvQ D Q j) 2 j) F dX12_passes_177 rfl rfl (by omega) (congrFun (hr3.2.2.2.2.2 2 (by decide)) j) ?_
                    refine g_iconst (nx := 179) (1) F dX12_passes_178 rfl rfl ?_
                    refine g_iadd (nx := 180) F dX12_passes_179 rfl ?_
                    refine g_iastN (nx := 181) (j) F dX12_passes_180 rfl rfl (by omega) ?_
                    refine g_iinc (nx := 184) (1) F dX12_passes_181 rfl rfl (by decide) (by decide) ?_
                    try dsimp only [List.set]
                    refine g_goto 12 F dX12_passes_184 (by decide) ?_
                    rw [nI_1]
                    first
                      | exact absurd rfl c_93
                      | exact absurd (show (1 : Int32) = 0 from c_93) (by decide)
                      | exact absurd rfl c_136
                      | exact absurd (show (1 : Int32) = 0 from c_136) (by decide)
                      | (have hq := hpq.mp ⟨not_le_I.mp c_76, not_lt_I.mp c_89, Or.inl c_63⟩; rw [if_pos hq] at hA hok2; exact ih (j + 1) _ _ _ _ (by omega) hok2 hr129 hA)
                      | (have hq := hpq.mp ⟨not_le_I.mp c_76, not_lt_I.mp c_89, Or.inr (not_lt_I.mp c_118)⟩; rw [if_pos hq] at hA hok2; exact ih (j + 1) _ _ _ _ (by omega) hok2 hr129 hA)
                      | (have hq : ¬ payQ (prP T D (srvQ D Q j) n o y (srvI T D n o y Q j) j) (wtP T D (srvQ D Q j) n o y (srvI T D n o y Q j) j) ((srvQ D Q j) 1 j) (D 4 j) (D 5 j) ((srvQ D Q j) 2 j) := fun z => absurd (hpq.mpr z).1 (not_lt_I.mpr c_76); rw [if_neg hq] at hA hok2
                         first
                           | (have hq2 : (D 4 j = 1 ∨ prP T D (srvQ D Q j) n o y (srvI T D n o y Q j) j = 0) ∧ wtP T D (srvQ D Q j) n o y (srvI T D n o y Q j) j ≤ (srvQ D Q j) 2 j := ⟨Or.inl c_63, not_lt_I.mp c_156⟩; rw [if_pos hq2] at hA hok2; exact ih (j + 1) _ _ _ _ (by omega) hok2 hr161 hA)
                           | (have hq2 : (D 4 j = 1 ∨ prP T D (srvQ D Q j) n o y (srvI T D n o y Q j) j = 0) ∧ wtP T D (srvQ D Q j) n o y (srvI T D n o y Q j) j ≤ (srvQ D Q j) 2 j := ⟨Or.inr c_143, not_lt_I.mp c_156⟩; rw [if_pos hq2] at hA hok2; exact ih (j + 1) _ _ _ _ (by omega) hok2 hr161 hA)
                           | (have hq2 : ¬ ((D 4 j = 1 ∨ prP T D (srvQ D Q j) n o y (srvI T D n o y Q j) j = 0) ∧ wtP T D (srvQ D Q j) n o y (srvI T D n o y Q j) j ≤ (srvQ D Q j) 2 j) := fun z => absurd c_156 (not_lt_I.mpr z.2); rw [if_neg hq2] at hA hok2; exact ih (j + 1) _ _ _ _ (by omega) hok2 (KR_upd 2 j _ (by decide) hr3) hA)
                           | (have hq2 : ¬ ((D 4 j = 1 ∨ prP T D (srvQ D Q j) n o y (srvI T D n o y Q j) j = 0) ∧ wtP T D (srvQ D Q j) n o y (srvI T D n o y Q j) j ≤ (srvQ D Q j) 2 j) := fun z => z.1.elim c_63 c_143; rw [if_neg hq2] at hA hok2; exact ih (j + 1) _ _ _ _ (by omega) hok2 (KR_upd 2 j _ (by decide) hr3) hA))
                      | (have hq : ¬ payQ (prP T D (srvQ D Q j) n o y (srvI T D n o y Q j) j) (wtP T D (srvQ D Q j) n o y (srvI T D n o y Q j) j) ((srvQ D Q j) 1 j) (D 4 j) (D 5 j) ((srvQ D Q j) 2 j) := fun z => absurd c_89 (not_lt_I.mpr (hpq.mpr z).2.1); rw [if_neg hq] at hA hok2
                         first
                           | (have hq2 : (D 4 j = 1 ∨ prP T D (srvQ D Q j) n o y (srvI T D n o y Q j) j = 0) ∧ wtP T D (srvQ D Q j) n o y (srvI T D n o y Q j) j ≤ (srvQ D Q j) 2 j := ⟨Or.inl c_63, not_lt_I.mp c_156⟩; rw [if_pos hq2] at hA hok2; exact ih (j + 1) _ _ _ _ (by omega) hok2 hr161 hA)
                           | (have hq2 : (D 4 j = 1 ∨ prP T D (srvQ D Q j) n o y (srvI T D n o y Q j) j = 0) ∧ wtP T D (srvQ D Q j) n o y (srvI T D n o y Q j) j ≤ (srvQ D Q j) 2 j := ⟨Or.inr c_143, not_lt_I.mp c_156⟩; rw [if_pos hq2] at hA hok2; exact ih (j + 1) _ _ _ _ (by omega) hok2 hr161 hA)
                           | (have hq2 : ¬ ((D 4 j = 1 ∨ prP T D (srvQ D Q j) n o y (srvI T D n o y Q j) j = 0) ∧ wtP T D (srvQ D Q j) n o y (srvI T D n o y Q j) j ≤ (srvQ D Q j) 2 j) := fun z => absurd c_156 (not_lt_I.mpr z.2); rw [if_neg hq2] at hA hok2; exact ih (j + 1) _ _ _ _ (by omega) hok2 (KR_upd 2 j _ (by decide) hr3) hA)
                           | (have hq2 : ¬ ((D 4 j = 1 ∨ prP T D (srvQ D Q j) n o y (srvI T D n o y Q j) j = 0) ∧ wtP T D (srvQ D Q j) n o y (srvI T D n o y Q j) j ≤ (srvQ D Q j) 2 j) := fun z => z.1.elim c_63 c_143; rw [if_neg hq2] at hA hok2; exact ih (j + 1) _ _ _ _ (by omega) hok2 (KR_upd 2 j _ (by decide) hr3) hA))
                      | (have hq : ¬ payQ (prP T D (srvQ D Q j) n o y (srvI T D n o y Q j) j) (wtP T D (srvQ D Q j) n o y (srvI T D n o y Q j) j) ((srvQ D Q j) 1 j) (D 4 j) (D 5 j) ((srvQ D Q j) 2 j) := fun z => (hpq.mpr z).2.2.elim (fun z1 => z1 c_63) (fun z1 => absurd c_118 (not_lt_I.mpr z1)); rw [if_neg hq] at hA hok2
                         first
                           | (have hq2 : (D 4 j = 1 ∨ prP T D (srvQ D Q j) n o y (srvI T D n o y Q j) j = 0) ∧ wtP T D (srvQ D Q j) n o y (srvI T D n o y Q j) j ≤ (srvQ D Q j) 2 j := ⟨Or.inl c_63, not_lt_I.mp c_156⟩; rw [if_pos hq2] at hA hok2; exact ih (j + 1) _ _ _ _ (by omega) hok2 hr161 hA)
                           | (have hq2 : ¬ ((D 4 j = 1 ∨ prP T D (srvQ D Q j) n o y (srvI T D n o y Q j) j = 0) ∧ wtP T D (srvQ D Q j) n o y (srvI T D n o y Q j) j ≤ (srvQ D Q j) 2 j) := fun z => absurd c_156 (not_lt_I.mpr z.2); rw [if_neg hq2] at hA hok2; exact ih (j + 1) _ _ _ _ (by omega) hok2 (KR_upd 2 j _ (by decide) hr3) hA))
                  · refine g_aload_n (nx := 160) 0 F dX12_passes_159 rfl rfl rfl ?_
                    refine g_iload_n (nx := 161) 1 F dX12_passes_160 rfl rfl rfl ?_
                    refine g_callV (nx := 164) 1 0 [.int (nI j)] F dX12_passes_161 rfl ml_RX12_346 mo_X12_goesOn rfl rfl rfl rfl (Nat.le_of_ble_eq_true rfl) (by first | decide | omega) (k_goesOn (srvQ D Q j) σ0 s a y j _ hr3 hy (by omega) hZ1 he3.2.2.2.2.2.2.1) (fun r_161 τ_161 q_161 => ?_)
                    obtain ⟨rfl, hr161⟩ := q_161
                    dsimp only [Option.toList, List.append, List.cons_append, List.nil_append]
                    refine g_goto 181 F dX12_passes_164 (by decide) ?_
                    refine g_iinc (nx := 184) (1) F dX12_passes_181 rfl rfl (by decide) (by decide) ?_
                    try dsimp only [List.set]
                    refine g_goto 12 F dX12_passes_184 (by decide) ?_
                    rw [nI_1]
                    first
                      | exact absurd rfl c_93
                      | exact absurd (show (1 : Int32) = 0 from c_93) (by decide)
                      | exact absurd rfl c_136
                      | exact absurd (show (1 : Int32) = 0 from c_136) (by decide)
                      | (have hq := hpq.mp ⟨not_le_I.mp c_76, not_lt_I.mp c_89, Or.inl c_63⟩; rw [if_pos hq] at hA hok2; exact ih (j + 1) _ _ _ _ (by omega) hok2 hr129 hA)
                      | (have hq := hpq.mp ⟨not_le_I.mp c_76, not_lt_I.mp c_89, Or.inr (not_lt_I.mp c_118)⟩; rw [if_pos hq] at hA hok2; exact ih (j + 1) _ _ _ _ (by omega) hok2 hr129 hA)
                      | (have hq : ¬ payQ (prP T D (srvQ D Q j) n o y (srvI T D n o y Q j) j) (wtP T D (srvQ D Q j) n o y (srvI T D n o y Q j) j) ((srvQ D Q j) 1 j) (D 4 j) (D 5 j) ((srvQ D Q j) 2 j) := fun z => absurd (hpq.mpr z).1 (not_lt_I.mpr c_76); rw [if_neg hq] at hA hok2
                         first
                           | (have hq2 : (D 4 j = 1 ∨ prP T D (srvQ D Q j) n o y (srvI T D n o y Q j) j = 0) ∧ wtP T D (srvQ D Q j) n o y (srvI T D n o y Q j) j ≤ (srvQ D Q j) 2 j := ⟨Or.inl c_63, not_lt_I.mp c_156⟩; rw [if_pos hq2] at hA hok2; exact ih (j + 1) _ _ _ _ (by omega) hok2 hr161 hA)
                           | (have hq2 : (D 4 j = 1 ∨ prP T D (srvQ D Q j) n o y (srvI T D n o y Q j) j = 0) ∧ wtP T D (srvQ D Q j) n o y (srvI T D n o y Q j) j ≤ (srvQ D Q j) 2 j := ⟨Or.inr c_143, not_lt_I.mp c_156⟩; rw [if_pos hq2] at hA hok2; exact ih (j + 1) _ _ _ _ (by omega) hok2 hr161 hA)
                           | (have hq2 : ¬ ((D 4 j = 1 ∨ prP T D (srvQ D Q j) n o y (srvI T D n o y Q j) j = 0) ∧ wtP T D (srvQ D Q j) n o y (srvI T D n o y Q j) j ≤ (srvQ D Q j) 2 j) := fun z => absurd c_156 (not_lt_I.mpr z.2); rw [if_neg hq2] at hA hok2; exact ih (j + 1) _ _ _ _ (by omega) hok2 (KR_upd 2 j _ (by decide) hr3) hA)
                           | (have hq2 : ¬ ((D 4 j = 1 ∨ prP T D (srvQ D Q j) n o y (srvI T D n o y Q j) j = 0) ∧ wtP T D (srvQ D Q j) n o y (srvI T D n o y Q j) j ≤ (srvQ D Q j) 2 j) := fun z => z.1.elim c_63 c_143; rw [if_neg hq2] at hA hok2; exact ih (j + 1) _ _ _ _ (by omega) hok2 (KR_upd 2 j _ (by decide) hr3) hA))
                      | (have hq : ¬ payQ (prP T D (srvQ D Q j) n o y (srvI T D n o y Q j) j) (wtP T D (srvQ D Q j) n o y (srvI T D n o y Q j) j) ((srvQ D Q j) 1 j) (D 4 j) (D 5 j) ((srvQ D Q j) 2 j) := fun z => absurd c_89 (not_lt_I.mpr (hpq.mpr z).2.1); rw [if_neg hq] at hA hok2
                         first
                           | (have hq2 : (D 4 j = 1 ∨ prP T D (srvQ D Q j) n o y (srvI T D n o y Q j) j = 0) ∧ wtP T D (srvQ D Q j) n o y (srvI T D n o y Q j) j ≤ (srvQ D Q j) 2 j := ⟨Or.inl c_63, not_lt_I.mp c_156⟩; rw [if_pos hq2] at hA hok2; exact ih (j + 1) _ _ _ _ (by omega) hok2 hr161 hA)
                           | (have hq2 : (D 4 j = 1 ∨ prP T D (srvQ D Q j) n o y (srvI T D n o y Q j) j = 0) ∧ wtP T D (srvQ D Q j) n o y (srvI T D n o y Q j) j ≤ (srvQ D Q j) 2 j := ⟨Or.inr c_143, not_lt_I.mp c_156⟩; rw [if_pos hq2] at hA hok2; exact ih (j + 1) _ _ _ _ (by omega) hok2 hr161 hA)
                           | (have hq2 : ¬ ((D 4 j = 1 ∨ prP T D (srvQ D Q j) n o y (srvI T D n o y Q j) j = 0) ∧ wtP T D (srvQ D Q j) n o y (srvI T D n o y Q j) j ≤ (srvQ D Q j) 2 j) := fun z => absurd c_156 (not_lt_I.mpr z.2); rw [if_neg hq2] at hA hok2; exact ih (j + 1) _ _ _ _ (by omega) hok2 (KR_upd 2 j _ (by decide) hr3) hA)
                           | (have hq2 : ¬ ((D 4 j = 1 ∨ prP T D (srvQ D Q j) n o y (srvI T D n o y Q j) j = 0) ∧ wtP T D (srvQ D Q j) n o y (srvI T D n o y Q j) j ≤ (srvQ D Q j) 2 j) := fun z => z.1.elim c_63 c_143; rw [if_neg hq2] at hA hok2; exact ih (j + 1) _ _ _ _ (by omega) hok2 (KR_upd 2 j _ (by decide) hr3) hA))
                      | (have hq : ¬ payQ (prP T D (srvQ D Q j) n o y (srvI T D n o y Q j) j) (wtP T D (srvQ D Q j) n o y (srvI T D n o y Q j) j) ((srvQ D Q j) 1 j) (D 4 j) (D 5 j) ((srvQ D Q j) 2 j) := fun z => (hpq.mpr z).2.2.elim (fun z1 => z1 c_63) (fun z1 => absurd c_118 (not_lt_I.mpr z1)); rw [if_neg hq] at hA hok2
                         first
                           | (have hq2 : (D 4 j = 1 ∨ prP T D (srvQ D Q j) n o y (srvI T D n o y Q j) j = 0) ∧ wtP T D (srvQ D Q j) n o y (srvI T D n o y Q j) j ≤ (srvQ D Q j) 2 j := ⟨Or.inl c_63, not_lt_I.mp c_156⟩; rw [if_pos hq2] at hA hok2; exact ih (j + 1) _ _ _ _ (by omega) hok2 hr161 hA)
                           | (have hq2 : ¬ ((D 4 j = 1 ∨ prP T D (srvQ D Q j) n o y (srvI T D n o y Q j) j = 0) ∧ wtP T D (srvQ D Q j) n o y (srvI T D n o y Q j) j ≤ (srvQ D Q j) 2 j) := fun z => absurd c_156 (not_lt_I.mpr z.2); rw [if_neg hq2] at hA hok2; exact ih (j + 1) _ _ _ _ (by omega) hok2 (KR_upd 2 j _ (by decide) hr3) hA))
            · refine g_iload_n (nx := 93) 3 F dX12_passes_92 rfl rfl rfl ?_
              refine g_if_eq (nx := 96) 121 F dX12_passes_93 rfl (by decide) (fun c_93 => ?_) (fun c_93 => ?_)
              · refine g_aload_n (nx := 122) 0 F dX12_passes_121 rfl rfl rfl ?_
                refine g_iload_n (nx := 123) 2 F dX12_passes_122 rfl rfl rfl ?_
                refine g_iload_n (nx := 124) 1 F dX12_passes_123 rfl rfl rfl ?_
                refine g_callV (nx := 127) 2 3 [.int (nI (srvI T D n o y Q j)), .int (nI j)] F dX12_passes_124 rfl ml_RX12_343 mo_X12_pays rfl rfl rfl rfl (Nat.le_of_ble_eq_true rfl) (by first | decide | omega) (k_pays T D (srvQ D Q j) σ0 n f s e a o y j (srvI T D n o y Q j) (prP T D (srvQ D Q j) n o y (srvI T D n o y Q j) j) _ he hr3 ⟨hnf, hf40, hf, hy, hthq⟩ ho hjn ha2 hZ1 hsi hp3) (fun r_124 τ_124 q_124 => ?_)
                obtain ⟨rfl, hr124⟩ := q_124
                dsimp only [Option.toList, List.append, List.cons_append, List.nil_append]
                have he124 := KR_env hr124 he
                refine g_aload_n (nx := 128) 0 F dX12_passes_127 rfl rfl rfl ?_
                refine g_iload_n (nx := 129) 1 F dX12_passes_128 rfl rfl rfl ?_
                refine g_callV (nx := 132) 1 0 [.int (nI j)] F dX12_passes_129 rfl ml_RX12_346 mo_X12_goesOn rfl rfl rfl rfl (Nat.le_of_ble_eq_true rfl) (by first | decide | omega) (k_goesOn (giveP (srvQ D Q j) (srvI T D n o y Q j) j (prP T D (srvQ D Q j) n o y (srvI T D n o y Q j) j) (lwP T D (srvQ D Q j) n o y (srvI T D n o y Q j) j (prP T D (srvQ D Q j) n o y (srvI T D n o y Q j) j) 103) (lwP T D (srvQ D Q j) n o y (srvI T D n o y Q j) j (prP T D (srvQ D Q j) n o y (srvI T D n o y Q j) j) 107) (lwP T D (srvQ D Q j) n o y (srvI T D n o y Q j) j (prP T D (srvQ D Q j) n o y (srvI T D n o y Q j) j) 98)) σ0 s a y j _ hr124 hy (by omega) (by rw [giveP_0]; exact hZ1) he124.2.2.2.2.2.2.1) (fun r_129 τ_129 q_129 => ?_)
                obtain ⟨rfl, hr129⟩ := q_129
                dsimp only [Option.toList, List.append, List.cons_append, List.nil_append]
                refine g_goto 181 F dX12_passes_132 (by decide) ?_
                refine g_iinc (nx := 184) (1) F dX12_passes_181 rfl rfl (by decide) (by decide) ?_
                try dsimp only [List.set]
                refine g_goto 12 F dX12_passes_184 (by decide) ?_
                rw [nI_1]
                first
                  | exact absurd rfl c_93
                  | exact absurd (show (1 : Int32) = 0 from c_93) (by decide)
                  | exact absurd rfl c_136
                  | exact absurd (show (1 : Int32) = 0 from c_136) (by decide)
                  | (have hq := hpq.mp ⟨not_le_I.mp c_76, not_lt_I.mp c_89, Or.inl c_63⟩; rw [if_pos hq] at hA hok2; exact ih (j + 1) _ _ _ _ (by omega) hok2 hr129 hA)
                  | (have hq := hpq.mp ⟨not_le_I.mp c_76, not_lt_I.mp c_89, Or.inr (not_lt_I.mp c_118)⟩; rw [if_pos hq] at hA hok2; exact ih (j + 1) _ _ _ _ (by omega) hok2 hr129 hA)
                  | (have hq : ¬ payQ (prP T D (srvQ D Q j) n o y (srvI T D n o y Q j) j) (wtP T D (srvQ D Q j) n o y (srvI T D n o y Q j) j) ((srvQ D Q j) 1 j) (D 4 j) (D 5 j) ((srvQ D Q j) 2 j) := fun z => absurd (hpq.mpr z).1 (not_lt_I.mpr c_76); rw [if_neg hq] at hA hok2
                     first
                       | (have hq2 : (D 4 j = 1 ∨ prP T D (srvQ D Q j) n o y (srvI T D n o y Q j) j = 0) ∧ wtP T D (srvQ D Q j) n o y (srvI T D n o y Q j) j ≤ (srvQ D Q j) 2 j := ⟨Or.inl c_63, not_lt_I.mp c_156⟩; rw [if_pos hq2] at hA hok2; exact ih (j + 1) _ _ _ _ (by omega) hok2 hr161 hA)
                       | (have hq2 : (D 4 j = 1 ∨ prP T D (srvQ D Q j) n o y (srvI T D n o y Q j) j = 0) ∧ wtP T D (srvQ D Q j) n o y (srvI T D n o y Q j) j ≤ (srvQ D Q j) 2 j := ⟨Or.inr c_143, not_lt_I.mp c_156⟩; rw [if_pos hq2] at hA hok2; exact ih (j + 1) _ _ _ _ (by omega) hok2 hr161 hA)
                       | (have hq2 : ¬ ((D 4 j = 1 ∨ prP T D (srvQ D Q j) n o y (srvI T D n o y Q j) j = 0) ∧ wtP T D (srvQ D Q j) n o y (srvI T D n o y Q j) j ≤ (srvQ D Q j) 2 j) := fun z => absurd c_156 (not_lt_I.mpr z.2); rw [if_neg hq2] at hA hok2; exact ih (j + 1) _ _ _ _ (by omega) hok2 (KR_upd 2 j _ (by decide) hr3) hA)
                       | (have hq2 : ¬ ((D 4 j = 1 ∨ prP T D (srvQ D Q j) n o y (srvI T D n o y Q j) j = 0) ∧ wtP T D (srvQ D Q j) n o y (srvI T D n o y Q j) j ≤ (srvQ D Q j) 2 j) := fun z => z.1.elim c_63 c_143; rw [if_neg hq2] at hA hok2; exact ih (j + 1) _ _ _ _ (by omega) hok2 (KR_upd 2 j _ (by decide) hr3) hA))
                  | (have hq : ¬ payQ (prP T D (srvQ D Q j) n o y (srvI T D n o y Q j) j) (wtP T D (srvQ D Q j) n o y (srvI T D n o y Q j) j) ((srvQ D Q j) 1 j) (D 4 j) (D 5 j) ((srvQ D Q j) 2 j) := fun z => absurd c_89 (not_lt_I.mpr (hpq.mpr z).2.1); rw [if_neg hq] at hA hok2
                     first
                       | (have hq2 : (D 4 j = 1 ∨ prP T D (srvQ D Q j) n o y (srvI T D n o y Q j) j = 0) ∧ wtP T D (srvQ D Q j) n o y (srvI T D n o y Q j) j ≤ (srvQ D Q j) 2 j := ⟨Or.inl c_63, not_lt_I.mp c_156⟩; rw [if_pos hq2] at hA hok2; exact ih (j + 1) _ _ _ _ (by omega) hok2 hr161 hA)
                       | (have hq2 : (D 4 j = 1 ∨ prP T D (srvQ D Q j) n o y (srvI T D n o y Q j) j = 0) ∧ wtP T D (srvQ D Q j) n o y (srvI T D n o y Q j) j ≤ (srvQ D Q j) 2 j := ⟨Or.inr c_143, not_lt_I.mp c_156⟩; rw [if_pos hq2] at hA hok2; exact ih (j + 1) _ _ _ _ (by omega) hok2 hr161 hA)
                       | (have hq2 : ¬ ((D 4 j = 1 ∨ prP T D (srvQ D Q j) n o y (srvI T D n o y Q j) j = 0) ∧ wtP T D (srvQ D Q j) n o y (srvI T D n o y Q j) j ≤ (srvQ D Q j) 2 j) := fun z => absurd c_156 (not_lt_I.mpr z.2); rw [if_neg hq2] at hA hok2; exact ih (j + 1) _ _ _ _ (by omega) hok2 (KR_upd 2 j _ (by decide) hr3) hA)
                       | (have hq2 : ¬ ((D 4 j = 1 ∨ prP T D (srvQ D Q j) n o y (srvI T D n o y Q j) j = 0) ∧ wtP T D (srvQ D Q j) n o y (srvI T D n o y Q j) j ≤ (srvQ D Q j) 2 j) := fun z => z.1.elim c_63 c_143; rw [if_neg hq2] at hA hok2; exact ih (j + 1) _ _ _ _ (by omega) hok2 (KR_upd 2 j _ (by decide) hr3) hA))
                  | (have hq : ¬ payQ (prP T D (srvQ D Q j) n o y (srvI T D n o y Q j) j) (wtP T D (srvQ D Q j) n o y (srvI T D n o y Q j) j) ((srvQ D Q j) 1 j) (D 4 j) (D 5 j) ((srvQ D Q j) 2 j) := fun z => (hpq.mpr z).2.2.elim (fun z1 => z1 c_63) (fun z1 => absurd c_118 (not_lt_I.mpr z1)); rw [if_neg hq] at hA hok2
                     first
                       | (have hq2 : (D 4 j = 1 ∨ prP T D (srvQ D Q j) n o y (srvI T D n o y Q j) j = 0) ∧ wtP T D (srvQ D Q j) n o y (srvI T D n o y Q j) j ≤ (srvQ D Q j) 2 j := ⟨Or.inl c_63, not_lt_I.mp c_156⟩; rw [if_pos hq2] at hA hok2; exact ih (j + 1) _ _ _ _ (by omega) hok2 hr161 hA)
                       | (have hq2 : ¬ ((D 4 j = 1 ∨ prP T D (srvQ D Q j) n o y (srvI T D n o y Q j) j = 0) ∧ wtP T D (srvQ D Q j) n o y (srvI T D n o y Q j) j ≤ (srvQ D Q j) 2 j) := fun z => absurd c_156 (not_lt_I.mpr z.2); rw [if_neg hq2] at hA hok2; exact ih (j + 1) _ _ _ _ (by omega) hok2 (KR_upd 2 j _ (by decide) hr3) hA))
              · refine g_aload_n (nx := 97) 0 F dX12_passes_96 rfl rfl rfl ?_
                refine g_getV (nx := 100) (prP T D (srvQ D Q j) n o y (srvI T D n o y Q j) j) F dX12_passes_97 rfl fl_RX12_318 rfl (by decide) (by decide) rfl rfl (hp3) ?_
                refine g_aload_n (nx := 101) 0 F dX12_passes_100 rfl rfl rfl ?_
                refine g_getR (nx := 104) F dX12_passes_101 rfl fl_RX12_34 rfl (by decide) (by decide) rfl ?_
                refine g_iload_n (nx := 105) 1 F dX12_passes_104 rfl rfl rfl ?_
                refine g_ialdN (nx := 106) (j) (D 5 j) F dX12_passes_105 rfl rfl (by omega) (congrFun he3.2.2.2.2.2.1 j) ?_
                refine g_aload_n (nx := 107) 0 F dX12_passes_106 rfl rfl rfl ?_
                refine g_getV (nx := 110) (wtP T D (srvQ D Q j) n o y (srvI T D n o y Q j) j) F dX12_passes_107 rfl fl_RX12_321 rfl (by decide) (by decide) rfl rfl (hw3) ?_
                refine g_aload_n (nx := 111) 0 F dX12_passes_110 rfl rfl rfl ?_
                refine g_getR (nx := 114) F dX12_passes_111 rfl fl_RX12_46 rfl (by decide) (by decide) rfl ?_
                refine g_iload_n (nx := 115) 1 F dX12_passes_114 rfl rfl rfl ?_
                refine g_ialdN (nx := 116) (j) ((srvQ D Q j) 2 j) F dX12_passes_115 rfl rfl (by omega) (congrFun (hr3.2.2.2.2.2 2 (by decide)) j) ?_
                refine g_isub (nx := 117) F dX12_passes_116 rfl ?_
                refine g_imul (nx := 118) F dX12_passes_117 rfl ?_
                refine g_icmp_gt (nx := 121) 135 F dX12_passes_118 rfl (by decide) (fun c_118 => ?_) (fun c_118 => ?_)
                · refine g_iload_n (nx := 136) 3 F dX12_passes_135 rfl rfl rfl ?_
                  refine g_if_ne (nx := 139) 146 F dX12_passes_136 rfl (by decide) (fun c_136 => ?_) (fun c_136 => ?_)
                  · refine g_aload_n (nx := 147) 0 F dX12_passes_146 rfl rfl rfl ?_
                    refine g_getR (nx := 150) F dX12_passes_147 rfl fl_RX12_46 rfl (by decide) (by decide) rfl ?_
                    refine g_iload_n (nx := 151) 1 F dX12_passes_150 rfl rfl rfl ?_
                    refine g_ialdN (nx := 152) (j) ((srvQ D Q j) 2 j) F dX12_passes_151 rfl rfl (by omega) (congrFun (hr3.2.2.2.2.2 2 (by decide)) j) ?_
                    refine g_aload_n (nx := 153) 0 F dX12_passes_152 rfl rfl rfl ?_
                    refine g_getV (nx := 156) (wtP T D (srvQ D Q j) n o y (srvI T D n o y Q j) j) F dX12_passes_153 rfl fl_RX12_321 rfl (by decide) (by decide) rfl rfl (hw3) ?_
                    refine g_icmp_lt (nx := 159) 167 F dX12_passes_156 rfl (by decide) (fun c_156 => ?_) (fun c_156 => ?_)
                    · refine g_aload_n (nx := 168) 0 F dX12_passes_167 rfl rfl rfl ?_
                      refine g_getR (nx := 171) F dX12_passes_168 rfl fl_RX12_46 rfl (by decide) (by decide) rfl ?_
                      refine g_iload_n (nx := 172) 1 F dX12_passes_171 rfl rfl rfl ?_
                      refine g_aload_n (nx := 173) 0 F dX12_passes_172 rfl rfl rfl ?_
                      refine g_getR (nx := 176) F dX12_passes_173 rfl fl_RX12_46 rfl (by decide) (by decide) rfl ?_
                      refine g_iload_n (nx := 177) 1 F dX12_passes_176 rfl rfl rfl ?_
                      refine g_ialdN (nx := 178) (j) ((srvQ D Q j) 2 j) F dX12_passes_177 rfl rfl (by omega) (congrFun (hr3.2.2.2.2.2 2 (by decide)) j) ?_
                      refine g_iconst (nx := 179) (1) F dX12_passes_178 rfl rfl ?_
                      refine g_iadd (nx := 180) F dX12_passes_179 rfl ?_
                      refine g_iastN (nx := 181) (j) F dX12_passes_180 rfl rfl (by omega) ?_
                      refine g_iinc (nx := 184) (1) F dX12_passes_181 rfl rfl (by decide) (by decide) ?_
                      try dsimp only [List.set]
                      refine g_goto 12 F dX12_passes_184 (by decide) ?_
                      rw [nI_1]
                      first
                        | exact absurd rfl c_93
                        | exact absurd (show (1 : Int32) = 0 from c_93) (by decide)
                        | exact absurd rfl c_136
                        | exact absurd (show (1 : Int32) = 0 from c_136) (by decide)
                        | (have hq := hpq.mp ⟨not_le_I.mp c_76, not_lt_I.mp c_89, Or.inl c_63⟩; rw [if_pos hq] at hA hok2; exact ih (j + 1) _ _ _ _ (by omega) hok2 hr129 hA)
                        | (have hq := hpq.mp ⟨not_le_I.mp c_76, not_lt_I.mp c_89, Or.inr (not_lt_I.mp c_118)⟩; rw [if_pos hq] at hA hok2; exact ih (j + 1) _ _ _ _ (by omega) hok2 hr129 hA)
                        | (have hq : ¬ payQ (prP T D (srvQ D Q j) n o y (srvI T D n o y Q j) j) (wtP T D (srvQ D Q j) n o y (srvI T D n o y Q j) j) ((srvQ D Q j) 1 j) (D 4 j) (D 5 j) ((srvQ D Q j) 2 j) := fun z => absurd (hpq.mpr z).1 (not_lt_I.mpr c_76); rw [if_neg hq] at hA hok2
                           first
                             | (have hq2 : (D 4 j = 1 ∨ prP T D (srvQ D Q j) n o y (srvI T D n o y Q j) j = 0) ∧ wtP T D (srvQ D Q j) n o y (srvI T D n o y Q j) j ≤ (srvQ D Q j) 2 j := ⟨Or.inl c_63, not_lt_I.mp c_156⟩; rw [if_pos hq2] at hA hok2; exact ih (j + 1) _ _ _ _ (by omega) hok2 hr161 hA)
                             | (have hq2 : (D 4 j = 1 ∨ prP T D (srvQ D Q j) n o y (srvI T D n o y Q j) j = 0) ∧ wtP T D (srvQ D Q j) n o y (srvI T D n o y Q j) j ≤ (srvQ D Q j) 2 j := ⟨Or.inr c_143, not_lt_I.mp c_156⟩; rw [if_pos hq2] at hA hok2; exact ih (j + 1) _ _ _ _ (by omega) hok2 hr161 hA)
                             | (have hq2 : ¬ ((D 4 j = 1 ∨ prP T D (srvQ D Q j) n o y (srvI T D n o y Q j) j = 0) ∧ wtP T D (srvQ D Q j) n o y (srvI T D n o y Q j) j ≤ (srvQ D Q j) 2 j) := fun z => absurd c_156 (not_lt_I.mpr z.2); rw [if_neg hq2] at hA hok2; exact ih (j + 1) _ _ _ _ (by omega) hok2 (KR_upd 2 j _ (by decide) hr3) hA)
                             | (have hq2 : ¬ ((D 4 j = 1 ∨ prP T D (srvQ D Q j) n o y (srvI T D n o y Q j) j = 0) ∧ wtP T D (srvQ D Q j) n o y (srvI T D n o y Q j) j ≤ (srvQ D Q j) 2 j) := fun z => z.1.elim c_63 c_143; rw [if_neg hq2] at hA hok2; exact ih (j + 1) _ _ _ _ (by omega) hok2 (KR_upd 2 j _ (by decide) hr3) hA))
                        | (have hq : ¬ payQ (prP T D (srvQ D Q j) n o y (srvI T D n o y Q j) j) (wtP T D (srvQ D Q j) n o y (srvI T D n o y Q j) j) ((srvQ D Q j) 1 j) (D 4 j) (D 5 j) ((srvQ D Q j) 2 j) := fun z => absurd c_89 (not_lt_I.mpr (hpq.mpr z).2.1); rw [if_neg hq] at hA hok2
                           first
                             | (have hq2 : (D 4 j = 1 ∨ prP T D (srvQ D Q j) n o y (srvI T D n o y Q j) j = 0) ∧ wtP T D (srvQ D Q j) n o y (srvI T D n o y Q j) j ≤ (srvQ D Q j) 2 j := ⟨Or.inl c_63, not_lt_I.mp c_156⟩; rw [if_pos hq2] at hA hok2; exact ih (j + 1) _ _ _ _ (by omega) hok2 hr161 hA)
                             | (have hq2 : (D 4 j = 1 ∨ prP T D (srvQ D Q j) n o y (srvI T D n o y Q j) j = 0) ∧ wtP T D (srvQ D Q j) n o y (srvI T D n o y Q j) j ≤ (srvQ D Q j) 2 j := ⟨Or.inr c_143, not_lt_I.mp c_156⟩; rw [if_pos hq2] at hA hok2; exact ih (j + 1) _ _ _ _ (by omega) hok2 hr161 hA)
                             | (have hq2 : ¬ ((D 4 j = 1 ∨ prP T D (srvQ D Q j) n o y (srvI T D n o y Q j) j = 0) ∧ wtP T D (srvQ D Q j) n o y (srvI T D n o y Q j) j ≤ (srvQ D Q j) 2 j) := fun z => absurd c_156 (not_lt_I.mpr z.2); rw [if_neg hq2] at hA hok2; exact ih (j + 1) _ _ _ _ (by omega) hok2 (KR_upd 2 j _ (by decide) hr3) hA)
                             | (have hq2 : ¬ ((D 4 j = 1 ∨ prP T D (srvQ D Q j) n o y (srvI T D n o y Q j) j = 0) ∧ wtP T D (srvQ D Q j) n o y (srvI T D n o y Q j) j ≤ (srvQ D Q j) 2 j) := fun z => z.1.elim c_63 c_143; rw [if_neg hq2] at hA hok2; exact ih (j + 1) _ _ _ _ (by omega) hok2 (KR_upd 2 j _ (by decide) hr3) hA))
                        | (have hq : ¬ payQ (prP T D (srvQ D Q j) n o y (srvI T D n o y Q j) j) (wtP T D (srvQ D Q j) n o y (srvI T D n o y Q j) j) ((srvQ D Q j) 1 j) (D 4 j) (D 5 j) ((srvQ D Q j) 2 j) := fun z => (hpq.mpr z).2.2.elim (fun z1 => z1 c_63) (fun z1 => absurd c_118 (not_lt_I.mpr z1)); rw [if_neg hq] at hA hok2
                           first
                             | (have hq2 : (D 4 j = 1 ∨ prP T D (srvQ D Q j) n o y (srvI T D n o y Q j) j = 0) ∧ wtP T D (srvQ D Q j) n o y (srvI T D n o y Q j) j ≤ (srvQ D Q j) 2 j := ⟨Or.inl c_63, not_lt_I.mp c_156⟩; rw [if_pos hq2] at hA hok2; exact ih (j + 1) _ _ _ _ (by omega) hok2 hr161 hA)
                             | (have hq2 : ¬ ((D 4 j = 1 ∨ prP T D (srvQ D Q j) n o y (srvI T D n o y Q j) j = 0) ∧ wtP T D (srvQ D Q j) n o y (srvI T D n o y Q j) j ≤ (srvQ D Q j) 2 j) := fun z => absurd c_156 (not_lt_I.mpr z.2); rw [if_neg hq2] at hA hok2; exact ih (j + 1) _ _ _ _ (by omega) hok2 (KR_upd 2 j _ (by decide) hr3) hA))
                    · refine g_aload_n (nx := 160) 0 F dX12_passes_159 rfl rfl rfl ?_
                      refine g_iload_n (nx := 161) 1 F dX12_passes_160 rfl rfl rfl ?_
                      refine g_callV (nx := 164) 1 0 [.int (nI j)] F dX12_passes_161 rfl ml_RX12_346 mo_X12_goesOn rfl rfl rfl rfl (Nat.le_of_ble_eq_true rfl) (by first | decide | omega) (k_goesOn (srvQ D Q j) σ0 s a y j _ hr3 hy (by omega) hZ1 he3.2.2.2.2.2.2.1) (fun r_161 τ_161 q_161 => ?_)
                      obtain ⟨rfl, hr161⟩ := q_161
                      dsimp only [Option.toList, List.append, List.cons_append, List.nil_append]
                      refine g_goto 181 F dX12_passes_164 (by decide) ?_
                      refine g_iinc (nx := 184) (1) F dX12_passes_181 rfl rfl (by decide) (by decide) ?_
                      try dsimp only [List.set]
                      refine g_goto 12 F dX12_passes_184 (by decide) ?_
                      rw [nI_1]
                      first
                        | exact absurd rfl c_93
                        | exact absurd (show (1 : Int32) = 0 from c_93) (by decide)
                        | exact absurd rfl c_136
                        | exact absurd (show (1 : Int32) = 0 from c_136) (by decide)
                        | (have hq := hpq.mp ⟨not_le_I.mp c_76, not_lt_I.mp c_89, Or.inl c_63⟩; rw [if_pos hq] at hA hok2; exact ih (j + 1) _ _ _ _ (by omega) hok2 hr129 hA)
                        | (have hq := hpq.mp ⟨not_le_I.mp c_76, not_lt_I.mp c_89, Or.inr (not_lt_I.mp c_118)⟩; rw [if_pos hq] at hA hok2; exact ih (j + 1) _ _ _ _ (by omega) hok2 hr129 hA)
                        | (have hq : ¬ payQ (prP T D (srvQ D Q j) n o y (srvI T D n o y Q j) j) (wtP T D (srvQ D Q j) n o y (srvI T D n o y Q j) j) ((srvQ D Q j) 1 j) (D 4 j) (D 5 j) ((srvQ D Q j) 2 j) := fun z => absurd (hpq.mpr z).1 (not_lt_I.mpr c_76); rw [if_neg hq] at hA hok2
                           first
                             | (have hq2 : (D 4 j = 1 ∨ prP T D (srvQ D Q j) n o y (srvI T D n o y Q j) j = 0) ∧ wtP T D (srvQ D Q j) n o y (srvI T D n o y Q j) j ≤ (srvQ D Q j) 2 j := ⟨Or.inl c_63, not_lt_I.mp c_156⟩; rw [if_pos hq2] at hA hok2; exact ih (j + 1) _ _ _ _ (by omega) hok2 hr161 hA)
                             | (have hq2 : (D 4 j = 1 ∨ prP T D (srvQ D Q j) n o y (srvI T D n o y Q j) j = 0) ∧ wtP T D (srvQ D Q j) n o y (srvI T D n o y Q j) j ≤ (srvQ D Q j) 2 j := ⟨Or.inr c_143, not_lt_I.mp c_156⟩; rw [if_pos hq2] at hA hok2; exact ih (j + 1) _ _ _ _ (by omega) hok2 hr161 hA)
                             | (have hq2 : ¬ ((D 4 j = 1 ∨ prP T D (srvQ D Q j) n o y (srvI T D n o y Q j) j = 0) ∧ wtP T D (srvQ D Q j) n o y (srvI T D n o y Q j) j ≤ (srvQ D Q j) 2 j) := fun z => absurd c_156 (not_lt_I.mpr z.2); rw [if_neg hq2] at hA hok2; exact ih (j + 1) _ _ _ _ (by omega) hok2 (KR_upd 2 j _ (by decide) hr3) hA)
                             | (have hq2 : ¬ ((D 4 j = 1 ∨ prP T D (srvQ D Q j) n o y (srvI T D n o y Q j) j = 0) ∧ wtP T D (srvQ D Q j) n o y (srvI T D n o y Q j) j ≤ (srvQ D Q j) 2 j) := fun z => z.1.elim c_63 c_143; rw [if_neg hq2] at hA hok2; exact ih (j + 1) _ _ _ _ (by omega) hok2 (KR_upd 2 j _ (by decide) hr3) hA))
                        | (have hq : ¬ payQ (prP T D (srvQ D Q j) n o y (srvI T D n o y Q j) j) (wtP T D (srvQ D Q j) n o y (srvI T D n o y Q j) j) ((srvQ D Q j) 1 j) (D 4 j) (D 5 j) ((srvQ D Q j) 2 j) := fun z => absurd c_89 (not_lt_I.mpr (hpq.mpr z).2.1); rw [if_neg hq] at hA hok2
                           first
                             | (have hq2 : (D 4 j = 1 ∨ prP T D (srvQ D Q j) n o y (srvI T D n o y Q j) j = 0) ∧ wtP T D (srvQ D Q j) n o y (srvI T D n o y Q j) j ≤ (srvQ D Q j) 2 j := ⟨Or.inl c_63, not_lt_I.mp c_156⟩; rw [if_pos hq2] at hA hok2; exact ih (j + 1) _ _ _ _ (by omega) hok2 hr161 hA)
                             | (have hq2 : (D 4 j = 1 ∨ prP T D (srvQ D Q j) n o y (srvI T D n o y Q j) j = 0) ∧ wtP T D (srvQ D Q j) n o y (srvI T D n o y Q j) j ≤ (srvQ D Q j) 2 j := ⟨Or.inr c_143, not_lt_I.mp c_156⟩; rw [if_pos hq2] at hA hok2; exact ih (j + 1) _ _ _ _ (by omega) hok2 hr161 hA)
                             | (have hq2 : ¬ ((D 4 j = 1 ∨ prP T D (srvQ D Q j) n o y (srvI T D n o y Q j) j = 0) ∧ wtP T D (srvQ D Q j) n o y (srvI T D n o y Q j) j ≤ (srvQ D Q j) 2 j) := fun z => absurd c_156 (not_lt_I.mpr z.2); rw [if_neg hq2] at hA hok2; exact ih (j + 1) _ _ _ _ (by omega) hok2 (KR_upd 2 j _ (by decide) hr3) hA)
                             | (have hq2 : ¬ ((D 4 j = 1 ∨ prP T D (srvQ D Q j) n o y (srvI T D n o y Q j) j = 0) ∧ wtP T D (srvQ D Q j) n o y (srvI T D n o y Q j) j ≤ (srvQ D Q j) 2 j) := fun z => z.1.elim c_63 c_143; rw [if_neg hq2] at hA hok2; exact ih (j + 1) _ _ _ _ (by omega) hok2 (KR_upd 2 j _ (by decide) hr3) hA))
                        | (have hq : ¬ payQ (prP T D (srvQ D Q j) n o y (srvI T D n o y Q j) j) (wtP T D (srvQ D Q j) n o y (srvI T D n o y Q j) j) ((srvQ D Q j) 1 j) (D 4 j) (D 5 j) ((srvQ D Q j) 2 j) := fun z => (hpq.mpr z).2.2.elim (fun z1 => z1 c_63) (fun z1 => absurd c_118 (not_lt_I.mpr z1)); rw [if_neg hq] at hA hok2
                           first
                             | (have hq2 : (D 4 j = 1 ∨ prP T D (srvQ D Q j) n o y (srvI T D n o y Q j) j = 0) ∧ wtP T D (srvQ D Q j) n o y (srvI T D n o y Q j) j ≤ (srvQ D Q j) 2 j := ⟨Or.inl c_63, not_lt_I.mp c_156⟩; rw [if_pos hq2] at hA hok2; exact ih (j + 1) _ _ _ _ (by omega) hok2 hr161 hA)
                             | (have hq2 : ¬ ((D 4 j = 1 ∨ prP T D (srvQ D Q j) n o y (srvI T D n o y Q j) j = 0) ∧ wtP T D (srvQ D Q j) n o y (srvI T D n o y Q j) j ≤ (srvQ D Q j) 2 j) := fun z => absurd c_156 (not_lt_I.mpr z.2); rw [if_neg hq2] at hA hok2; exact ih (j + 1) _ _ _ _ (by omega) hok2 (KR_upd 2 j _ (by decide) hr3) hA))
                  · refine g_aload_n (nx := 140) 0 F dX12_passes_139 rfl rfl rfl ?_
                    refine g_getV (nx := 143) (prP T D (srvQ D Q j) n o y (srvI T D n o y Q j) j) F dX12_passes_140 rfl fl_RX12_318 rfl (by decide) (by decide) rfl rfl (hp3) ?_
                    refine g_if_ne (nx := 146) 167 F dX12_passes_143 rfl (by decide) (fun c_143 => ?_) (fun c_143 => ?_)
                    · refine g_aload_n (nx := 168) 0 F dX12_passes_167 rfl rfl rfl ?_
                      refine g_getR (nx := 171) F dX12_passes_168 rfl fl_RX12_46 rfl (by decide) (by decide) rfl ?_
                      refine g_iload_n (nx := 172) 1 F dX12_passes_171 rfl rfl rfl ?_
                      refine g_aload_n (nx := 173) 0 F dX12_passes_172 rfl rfl rfl ?_
                      refine g_getR (nx := 176) F dX12_passes_173 rfl fl_RX12_46 rfl (by decide) (by decide) rfl ?_
                      refine g_iload_n (nx := 177) 1 F dX12_passes_176 rfl rfl rfl ?_
                      refine g_ialdN (nx := 178) (j) ((srvQ D Q j) 2 j) F dX12_passes_177 rfl rfl (by omega) (congrFun (hr3.2.2.2.2.2 2 (by decide)) j) ?_
                      refine g_iconst (nx := 179) (1) F dX12_passes_178 rfl rfl ?_
                      refine g_iadd (nx := 180) F dX12_passes_179 rfl ?_
                      refine g_iastN (nx := 181) (j) F dX12_passes_180 rfl rfl (by omega) ?_
                      refine g_iinc (nx := 184) (1) F dX12_passes_181 rfl rfl (by decide) (by decide) ?_
                      try dsimp only [List.set]
                      refine g_goto 12 F dX12_passes_184 (by decide) ?_
                      rw [nI_1]
                      first
                        | exact absurd rfl c_93
                        | exact absurd (show (1 : Int32) = 0 from c_93) (by decide)
                        | exact absurd rfl c_136
                        | exact absurd (show (1 : Int32) = 0 from c_136) (by decide)
                        | (have hq := hpq.mp ⟨not_le_I.mp c_76, not_lt_I.mp c_89, Or.inl c_63⟩; rw [if_pos hq] at hA hok2; exact ih (j + 1) _ _ _ _ (by omega) hok2 hr129 hA)
                        | (have hq := hpq.mp ⟨not_le_I.mp c_76, not_lt_I.mp c_89, Or.inr (not_lt_I.mp c_118)⟩; rw [if_pos hq] at hA hok2; exact ih (j + 1) _ _ _ _ (by omega) hok2 hr129 hA)
                        | (have hq : ¬ payQ (prP T D (srvQ D Q j) n o y (srvI T D n o y Q j) j) (wtP T D (srvQ D Q j) n o y (srvI T D n o y Q j) j) ((srvQ D Q j) 1 j) (D 4 j) (D 5 j) ((srvQ D Q j) 2 j) := fun z => absurd (hpq.mpr z).1 (not_lt_I.mpr c_76); rw [if_neg hq] at hA hok2
                           first
                             | (have hq2 : (D 4 j = 1 ∨ prP T D (srvQ D Q j) n o y (srvI T D n o y Q j) j = 0) ∧ wtP T D (srvQ D Q j) n o y (srvI T D n o y Q j) j ≤ (srvQ D Q j) 2 j := ⟨Or.inl c_63, not_lt_I.mp c_156⟩; rw [if_pos hq2] at hA hok2; exact ih (j + 1) _ _ _ _ (by omega) hok2 hr161 hA)
                             | (have hq2 : (D 4 j = 1 ∨ prP T D (srvQ D Q j) n o y (srvI T D n o y Q j) j = 0) ∧ wtP T D (srvQ D Q j) n o y (srvI T D n o y Q j) j ≤ (srvQ D Q j) 2 j := ⟨Or.inr c_143, not_lt_I.mp c_156⟩; rw [if_pos hq2] at hA hok2; exact ih (j + 1) _ _ _ _ (by omega) hok2 hr161 hA)
                             | (have hq2 : ¬ ((D 4 j = 1 ∨ prP T D (srvQ D Q j) n o y (srvI T D n o y Q j) j = 0) ∧ wtP T D (srvQ D Q j) n o y (srvI T D n o y Q j) j ≤ (srvQ D Q j) 2 j) := fun z => absurd c_156 (not_lt_I.mpr z.2); rw [if_neg hq2] at hA hok2; exact ih (j + 1) _ _ _ _ (by omega) hok2 (KR_upd 2 j _ (by decide) hr3) hA)
                             | (have hq2 : ¬ ((D 4 j = 1 ∨ prP T D (srvQ D Q j) n o y (srvI T D n o y Q j) j = 0) ∧ wtP T D (srvQ D Q j) n o y (srvI T D n o y Q j) j ≤ (srvQ D Q j) 2 j) := fun z => z.1.elim c_63 c_143; rw [if_neg hq2] at hA hok2; exact ih (j + 1) _ _ _ _ (by omega) hok2 (KR_upd 2 j _ (by decide) hr3) hA))
                        | (have hq : ¬ payQ (prP T D (srvQ D Q j) n o y (srvI T D n o y Q j) j) (wtP T D (srvQ D Q j) n o y (srvI T D n o y Q j) j) ((srvQ D Q j) 1 j) (D 4 j) (D 5 j) ((srvQ D Q j) 2 j) := fun z => absurd c_89 (not_lt_I.mpr (hpq.mpr z).2.1); rw [if_neg hq] at hA hok2
                           first
                             | (have hq2 : (D 4 j = 1 ∨ prP T D (srvQ D Q j) n o y (srvI T D n o y Q j) j = 0) ∧ wtP T D (srvQ D Q j) n o y (srvI T D n o y Q j) j ≤ (srvQ D Q j) 2 j := ⟨Or.inl c_63, not_lt_I.mp c_156⟩; rw [if_pos hq2] at hA hok2; exact ih (j + 1) _ _ _ _ (by omega) hok2 hr161 hA)
                             | (have hq2 : (D 4 j = 1 ∨ prP T D (srvQ D Q j) n o y (srvI T D n o y Q j) j = 0) ∧ wtP T D (srvQ D Q j) n o y (srvI T D n o y Q j) j ≤ (srvQ D Q j) 2 j := ⟨Or.inr c_143, not_lt_I.mp c_156⟩; rw [if_pos hq2] at hA hok2; exact ih (j + 1) _ _ _ _ (by omega) hok2 hr161 hA)
                             | (have hq2 : ¬ ((D 4 j = 1 ∨ prP T D (srvQ D Q j) n o y (srvI T D n o y Q j) j = 0) ∧ wtP T D (srvQ D Q j) n o y (srvI T D n o y Q j) j ≤ (srvQ D Q j) 2 j) := fun z => absurd c_156 (not_lt_I.mpr z.2); rw [if_neg hq2] at hA hok2; exact ih (j + 1) _ _ _ _ (by omega) hok2 (KR_upd 2 j _ (by decide) hr3) hA)
                             | (have hq2 : ¬ ((D 4 j = 1 ∨ prP T D (srvQ D Q j) n o y (srvI T D n o y Q j) j = 0) ∧ wtP T D (srvQ D Q j) n o y (srvI T D n o y Q j) j ≤ (srvQ D Q j) 2 j) := fun z => z.1.elim c_63 c_143; rw [if_neg hq2] at hA hok2; exact ih (j + 1) _ _ _ _ (by omega) hok2 (KR_upd 2 j _ (by decide) hr3) hA))
                        | (have hq : ¬ payQ (prP T D (srvQ D Q j) n o y (srvI T D n o y Q j) j) (wtP T D (srvQ D Q j) n o y (srvI T D n o y Q j) j) ((srvQ D Q j) 1 j) (D 4 j) (D 5 j) ((srvQ D Q j) 2 j) := fun z => (hpq.mpr z).2.2.elim (fun z1 => z1 c_63) (fun z1 => absurd c_118 (not_lt_I.mpr z1)); rw [if_neg hq] at hA hok2
                           first
                             | (have hq2 : (D 4 j = 1 ∨ prP T D (srvQ D Q j) n o y (srvI T D n o y Q j) j = 0) ∧ wtP T D (srvQ D Q j) n o y (srvI T D n o y Q j) j ≤ (srvQ D Q j) 2 j := ⟨Or.inl c_63, not_lt_I.mp c_156⟩; rw [if_pos hq2] at hA hok2; exact ih (j + 1) _ _ _ _ (by omega) hok2 hr161 hA)
                             | (have hq2 : ¬ ((D 4 j = 1 ∨ prP T D (srvQ D Q j) n o y (srvI T D n o y Q j) j = 0) ∧ wtP T D (srvQ D Q j) n o y (srvI T D n o y Q j) j ≤ (srvQ D Q j) 2 j) := fun z => absurd c_156 (not_lt_I.mpr z.2); rw [if_neg hq2] at hA hok2; exact ih (j + 1) _ _ _ _ (by omega) hok2 (KR_upd 2 j _ (by decide) hr3) hA))
                    · refine g_aload_n (nx := 147) 0 F dX12_passes_146 rfl rfl rfl ?_
                      refine g_getR (nx := 150) F dX12_passes_147 rfl fl_RX12_46 rfl (by decide) (by decide) rfl ?_
                      refine g_iload_n (nx := 151) 1 F dX12_passes_150 rfl rfl rfl ?_
                      refine g_ialdN (nx := 152) (j) ((srvQ D Q j) 2 j) F dX12_passes_151 rfl rfl (by omega) (congrFun (hr3.2.2.2.2.2 2 (by decide)) j) ?_
                      refine g_aload_n (nx := 153) 0 F dX12_passes_152 rfl rfl rfl ?_
                      refine g_getV (nx := 156) (wtP T D (srvQ D Q j) n o y (srvI T D n o y Q j) j) F dX12_passes_153 rfl fl_RX12_321 rfl (by decide) (by decide) rfl rfl (hw3) ?_
                      refine g_icmp_lt (nx := 159) 167 F dX12_passes_156 rfl (by decide) (fun c_156 => ?_) (fun c_156 => ?_)
                      · refine g_aload_n (nx := 168) 0 F dX12_passes_167 rfl rfl rfl ?_
                        refine g_getR (nx := 171) F dX12_passes_168 rfl fl_RX12_46 rfl (by decide) (by decide) rfl ?_
                        refine g_iload_n (nx := 172) 1 F dX12_passes_171 rfl rfl rfl ?_
                        refine g_aload_n (nx := 173) 0 F dX12_passes_172 rfl rfl rfl ?_
                        refine g_getR (nx := 176) F dX12_passes_173 rfl fl_RX12_46 rfl (by decide) (by decide) rfl ?_
                        refine g_iload_n (nx := 177) 1 F dX12_passes_176 rfl rfl rfl ?_
                        refine g_ialdN (nx := 178) (j) ((srvQ D Q j) 2 j) F dX12_passes_177 rfl rfl (by omega) (congrFun (hr3.2.2.2.2.2 2 (by decide)) j) ?_
                        refine g_iconst (nx := 179) (1) F dX12_passes_178 rfl rfl ?_
                        refine g_iadd (nx := 180) F dX12_passes_179 rfl ?_
                        refine g_iastN (nx := 181) (j) F dX12_passes_180 rfl rfl (by omega) ?_
                        refine g_iinc (nx := 184) (1) F dX12_passes_181 rfl rfl (by decide) (by decide) ?_
                        try dsimp only [List.set]
                        refine g_goto 12 F dX12_passes_184 (by decide) ?_
                        rw [nI_1]
                        first
                          | exact absurd rfl c_93
                          | exact absurd (show (1 : Int32) = 0 from c_93) (by decide)
                          | exact absurd rfl c_136
                          | exact absurd (show (1 : Int32) = 0 from c_136) (by decide)
                          | (have hq := hpq.mp ⟨not_le_I.mp c_76, not_lt_I.mp c_89, Or.inl c_63⟩; rw [if_pos hq] at hA hok2; exact ih (j + 1) _ _ _ _ (by omega) hok2 hr129 hA)
                          | (have hq := hpq.mp ⟨not_le_I.mp c_76, not_lt_I.mp c_89, Or.inr (not_lt_I.mp c_118)⟩; rw [if_pos hq] at hA hok2; exact ih (j + 1) _ _ _ _ (by omega) hok2 hr129 hA)
                          | (have hq : ¬ payQ (prP T D (srvQ D Q j) n o y (srvI T D n o y Q j) j) (wtP T D (srvQ D Q j) n o y (srvI T D n o y Q j) j) ((srvQ D Q j) 1 j) (D 4 j) (D 5 j) ((srvQ D Q j) 2 j) := fun z => absurd (hpq.mpr z).1 (not_lt_I.mpr c_76); rw [if_neg hq] at hA hok2
                             first
                               | (have hq2 : (D 4 j = 1 ∨ prP T D (srvQ D Q j) n o y (srvI T D n o y Q j) j = 0) ∧ wtP T D (srvQ D Q j) n o y (srvI T D n o y Q j) j ≤ (srvQ D Q j) 2 j := ⟨Or.inl c_63, not_lt_I.mp c_156⟩; rw [if_pos hq2] at hA hok2; exact ih (j + 1) _ _ _ _ (by omega) hok2 hr161 hA)
                               | (have hq2 : (D 4 j = 1 ∨ prP T D (srvQ D Q j) n o y (srvI T D n o y Q j) j = 0) ∧ wtP T D (srvQ D Q j) n o y (srvI T D n o y Q j) j ≤ (srvQ D Q j) 2 j := ⟨Or.inr c_143, not_lt_I.mp c_156⟩; rw [if_pos hq2] at hA hok2; exact ih (j + 1) _ _ _ _ (by omega) hok2 hr161 hA)
                               | (have hq2 : ¬ ((D 4 j = 1 ∨ prP T D (srvQ D Q j) n o y (srvI T D n o y Q j) j = 0) ∧ wtP T D (srvQ D Q j) n o y (srvI T D n o y Q j) j ≤ (srvQ D Q j) 2 j) := fun z => absurd c_156 (not_lt_I.mpr z.2); rw [if_neg hq2] at hA hok2; exact ih (j + 1) _ _ _ _ (by omega) hok2 (KR_upd 2 j _ (by decide) hr3) hA)
                               | (have hq2 : ¬ ((D 4 j = 1 ∨ prP T D (srvQ D Q j) n o y (srvI T D n o y Q j) j = 0) ∧ wtP T D (srvQ D Q j) n o y (srvI T D n o y Q j) j ≤ (srvQ D Q j) 2 j) := fun z => z.1.elim c_63 c_143; rw [if_neg hq2] at hA hok2; exact ih (j + 1) _ _ _ _ (by omega) hok2 (KR_upd 2 j _ (by decide) hr3) hA))
                          | (have hq : ¬ payQ (prP T D (srvQ D Q j) n o y (srvI T D n o y Q j) j) (wtP T D (srvQ D Q j) n o y (srvI T D n o y Q j) j) ((srvQ D Q j) 1 j) (D 4 j) (D 5 j) ((srvQ D Q j) 2 j) := fun z => absurd c_89 (not_lt_I.mpr (hpq.mpr z).2.1); rw [if_neg hq] at hA hok2
                             first
                               | (have hq2 : (D 4 j = 1 ∨ prP T D (srvQ D Q j) n o y (srvI T D n o y Q j) j = 0) ∧ wtP T D (srvQ D Q j) n o y (srvI T D n o y Q j) j ≤ (srvQ D Q j) 2 j := ⟨Or.inl c_63, not_lt_I.mp c_156⟩; rw [if_pos hq2] at hA hok2; exact ih (j + 1) _ _ _ _ (by omega) hok2 hr161 hA)
                               | (have hq2 : (D 4 j = 1 ∨ prP T D (srvQ D Q j) n o y (srvI T D n o y Q j) j = 0) ∧ wtP T D (srvQ D Q j) n o y (srvI T D n o y Q j) j ≤ (srvQ D Q j) 2 j := ⟨Or.inr c_143, not_lt_I.mp c_156⟩; rw [if_pos hq2] at hA hok2; exact ih (j + 1) _ _ _ _ (by omega) hok2 hr161 hA)
                               | (have hq2 : ¬ ((D 4 j = 1 ∨ prP T D (srvQ D Q j) n o y (srvI T D n o y Q j) j = 0) ∧ wtP T D (srvQ D Q j) n o y (srvI T D n o y Q j) j ≤ (srvQ D Q j) 2 j) := fun z => absurd c_156 (not_lt_I.mpr z.2); rw [if_neg hq2] at hA hok2; exact ih (j + 1) _ _ _ _ (by omega) hok2 (KR_upd 2 j _ (by decide) hr3) hA)
                               | (have hq2 : ¬ ((D 4 j = 1 ∨ prP T D (srvQ D Q j) n o y (srvI T D n o y Q j) j = 0) ∧ wtP T D (srvQ D Q j) n o y (srvI T D n o y Q j) j ≤ (srvQ D Q j) 2 j) := fun z => z.1.elim c_63 c_143; rw [if_neg hq2] at hA hok2; exact ih (j + 1) _ _ _ _ (by omega) hok2 (KR_upd 2 j _ (by decide) hr3) hA))
                          | (have hq : ¬ payQ (prP T D (srvQ D Q j) n o y (srvI T D n o y Q j) j) (wtP T D (srvQ D Q j) n o y (srvI T D n o y Q j) j) ((srvQ D Q j) 1 j) (D 4 j) (D 5 j) ((srvQ D Q j) 2 j) := fun z => (hpq.mpr z).2.2.elim (fun z1 => z1 c_63) (fun z1 => absurd c_118 (not_lt_I.mpr z1)); rw [if_neg hq] at hA hok2
                             first
                               | (have hq2 : (D 4 j = 1 ∨ prP T D (srvQ D Q j) n o y (srvI T D n o y Q j) j = 0) ∧ wtP T D (srvQ D Q j) n o y (srvI T D n o y Q j) j ≤ (srvQ D Q j) 2 j := ⟨Or.inl c_63, not_lt_I.mp c_156⟩; rw [if_pos hq2] at hA hok2; exact ih (j + 1) _ _ _ _ (by omega) hok2 hr161 hA)
                               | (have hq2 : ¬ ((D 4 j = 1 ∨ prP T D (srvQ D Q j) n o y (srvI T D n o y Q j) j = 0) ∧ wtP T D (srvQ D Q j) n o y (srvI T D n o y Q j) j ≤ (srvQ D Q j) 2 j) := fun z => absurd c_156 (not_lt_I.mpr z.2); rw [if_neg hq2] at hA hok2; exact ih (j + 1) _ _ _ _ (by omega) hok2 (KR_upd 2 j _ (by decide) hr3) hA))
                      · refine g_aload_n (nx := 160) 0 F dX12_passes_159 rfl rfl rfl ?_
                        refine g_iload_n (nx := 161) 1 F dX12_passes_160 rfl rfl rfl ?_
                        refine g_callV (nx := 164) 1 0 [.int (nI j)] F dX12_passes_161 rfl ml_RX12_346 mo_X12_goesOn rfl rfl rfl rfl (Nat.le_of_ble_eq_true rfl) (by first | decide | omega) (k_goesOn (srvQ D Q j) σ0 s a y j _ hr3 hy (by omega) hZ1 he3.2.2.2.2.2.2.1) (fun r_161 τ_161 q_161 => ?_)
                        obtain ⟨rfl, hr161⟩ := q_161
                        dsimp only [Option.toList, List.append, List.cons_append, List.nil_append]
                        refine g_goto 181 F dX12_passes_164 (by decide) ?_
                        refine g_iinc (nx := 184) (1) F dX12_passes_181 rfl rfl (by decide) (by decide) ?_
                        try dsimp only [List.set]
                        refine g_goto 12 F dX12_passes_184 (by decide) ?_
                        rw [nI_1]
                        first
                          | exact absurd rfl c_93
                          | exact absurd (show (1 : Int32) = 0 from c_93) (by decide)
                          | exact absurd rfl c_136
                          | exact absurd (show (1 : Int32) = 0 from c_136) (by decide)
                          | (have hq := hpq.mp ⟨not_le_I.mp c_76, not_lt_I.mp c_89, Or.inl c_63⟩; rw [if_pos hq] at hA hok2; exact ih (j + 1) _ _ _ _ (by omega) hok2 hr129 hA)
                          | (have hq := hpq.mp ⟨not_le_I.mp c_76, not_lt_I.mp c_89, Or.inr (not_lt_I.mp c_118)⟩; rw [if_pos hq] at hA hok2; exact ih (j + 1) _ _ _ _ (by omega) hok2 hr129 hA)
                          | (have hq : ¬ payQ (prP T D (srvQ D Q j) n o y (srvI T D n o y Q j) j) (wtP T D (srvQ D Q j) n o y (srvI T D n o y Q j) j) ((srvQ D Q j) 1 j) (D 4 j) (D 5 j) ((srvQ D Q j) 2 j) := fun z => absurd (hpq.mpr z).1 (not_lt_I.mpr c_76); rw [if_neg hq] at hA hok2
                             first
                               | (have hq2 : (D 4 j = 1 ∨ prP T D (srvQ D Q j) n o y (srvI T D n o y Q j) j = 0) ∧ wtP T D (srvQ D Q j) n o y (srvI T D n o y Q j) j ≤ (srvQ D Q j) 2 j := ⟨Or.inl c_63, not_lt_I.mp c_156⟩; rw [if_pos hq2] at hA hok2; exact ih (j + 1) _ _ _ _ (by omega) hok2 hr161 hA)
                               | (have hq2 : (D 4 j = 1 ∨ prP T D (srvQ D Q j) n o y (srvI T D n o y Q j) j = 0) ∧ wtP T D (srvQ D Q j) n o y (srvI T D n o y Q j) j ≤ (srvQ D Q j) 2 j := ⟨Or.inr c_143, not_lt_I.mp c_156⟩; rw [if_pos hq2] at hA hok2; exact ih (j + 1) _ _ _ _ (by omega) hok2 hr161 hA)
                               | (have hq2 : ¬ ((D 4 j = 1 ∨ prP T D (srvQ D Q j) n o y (srvI T D n o y Q j) j = 0) ∧ wtP T D (srvQ D Q j) n o y (srvI T D n o y Q j) j ≤ (srvQ D Q j) 2 j) := fun z => absurd c_156 (not_lt_I.mpr z.2); rw [if_neg hq2] at hA hok2; exact ih (j + 1) _ _ _ _ (by omega) hok2 (KR_upd 2 j _ (by decide) hr3) hA)
                               | (have hq2 : ¬ ((D 4 j = 1 ∨ prP T D (srvQ D Q j) n o y (srvI T D n o y Q j) j = 0) ∧ wtP T D (srvQ D Q j) n o y (srvI T D n o y Q j) j ≤ (srvQ D Q j) 2 j) := fun z => z.1.elim c_63 c_143; rw [if_neg hq2] at hA hok2; exact ih (j + 1) _ _ _ _ (by omega) hok2 (KR_upd 2 j _ (by decide) hr3) hA))
                          | (have hq : ¬ payQ (prP T D (srvQ D Q j) n o y (srvI T D n o y Q j) j) (wtP T D (srvQ D Q j) n o y (srvI T D n o y Q j) j) ((srvQ D Q j) 1 j) (D 4 j) (D 5 j) ((srvQ D Q j) 2 j) := fun z => absurd c_89 (not_lt_I.mpr (hpq.mpr z).2.1); rw [if_neg hq] at hA hok2
                             first
                               | (have hq2 : (D 4 j = 1 ∨ prP T D (srvQ D Q j) n o y (srvI T D n o y Q j) j = 0) ∧ wtP T D (srvQ D Q j) n o y (srvI T D n o y Q j) j ≤ (srvQ D Q j) 2 j := ⟨Or.inl c_63, not_lt_I.mp c_156⟩; rw [if_pos hq2] at hA hok2; exact ih (j + 1) _ _ _ _ (by omega) hok2 hr161 hA)
                               | (have hq2 : (D 4 j = 1 ∨ prP T D (srvQ D Q j) n o y (srvI T D n o y Q j) j = 0) ∧ wtP T D (srvQ D Q j) n o y (srvI T D n o y Q j) j ≤ (srvQ D Q j) 2 j := ⟨Or.inr c_143, not_lt_I.mp c_156⟩; rw [if_pos hq2] at hA hok2; exact ih (j + 1) _ _ _ _ (by omega) hok2 hr161 hA)
                               | (have hq2 : ¬ ((D 4 j = 1 ∨ prP T D (srvQ D Q j) n o y (srvI T D n o y Q j) j = 0) ∧ wtP T D (srvQ D Q j) n o y (srvI T D n o y Q j) j ≤ (srvQ D Q j) 2 j) := fun z => absurd c_156 (not_lt_I.mpr z.2); rw [if_neg hq2] at hA hok2; exact ih (j + 1) _ _ _ _ (by omega) hok2 (KR_upd 2 j _ (by decide) hr3) hA)
                               | (have hq2 : ¬ ((D 4 j = 1 ∨ prP T D (srvQ D Q j) n o y (srvI T D n o y Q j) j = 0) ∧ wtP T D (srvQ D Q j) n o y (srvI T D n o y Q j) j ≤ (srvQ D Q j) 2 j) := fun z => z.1.elim c_63 c_143; rw [if_neg hq2] at hA hok2; exact ih (j + 1) _ _ _ _ (by omega) hok2 (KR_upd 2 j _ (by decide) hr3) hA))
                          | (have hq : ¬ payQ (prP T D (srvQ D Q j) n o y (srvI T D n o y Q j) j) (wtP T D (srvQ D Q j) n o y (srvI T D n o y Q j) j) ((srvQ D Q j) 1 j) (D 4 j) (D 5 j) ((srvQ D Q j) 2 j) := fun z => (hpq.mpr z).2.2.elim (fun z1 => z1 c_63) (fun z1 => absurd c_118 (not_lt_I.mpr z1)); rw [if_neg hq] at hA hok2
                             first
                               | (have hq2 : (D 4 j = 1 ∨ prP T D (srvQ D Q j) n o y (srvI T D n o y Q j) j = 0) ∧ wtP T D (srvQ D Q j) n o y (srvI T D n o y Q j) j ≤ (srvQ D Q j) 2 j := ⟨Or.inl c_63, not_lt_I.mp c_156⟩; rw [if_pos hq2] at hA hok2; exact ih (j + 1) _ _ _ _ (by omega) hok2 hr161 hA)
                               | (have hq2 : ¬ ((D 4 j = 1 ∨ prP T D (srvQ D Q j) n o y (srvI T D n o y Q j) j = 0) ∧ wtP T D (srvQ D Q j) n o y (srvI T D n o y Q j) j ≤ (srvQ D Q j) 2 j) := fun z => absurd c_156 (not_lt_I.mpr z.2); rw [if_neg hq2] at hA hok2; exact ih (j + 1) _ _ _ _ (by omega) hok2 (KR_upd 2 j _ (by decide) hr3) hA))
                · refine g_aload_n (nx := 122) 0 F dX12_passes_121 rfl rfl rfl ?_
                  refine g_iload_n (nx := 123) 2 F dX12_passes_122 rfl rfl rfl ?_
                  refine g_iload_n (nx := 124) 1 F dX12_passes_123 rfl rfl rfl ?_
                  refine g_callV (nx := 127) 2 3 [.int (nI (srvI T D n o y Q j)), .int (nI j)] F dX12_passes_124 rfl ml_RX12_343 mo_X12_pays rfl rfl rfl rfl (Nat.le_of_ble_eq_true rfl) (by first | decide | omega) (k_pays T D (srvQ D Q j) σ0 n f s e a o y j (srvI T D n o y Q j) (prP T D (srvQ D Q j) n o y (srvI T D n o y Q j) j) _ he hr3 ⟨hnf, hf40, hf, hy, hthq⟩ ho hjn ha2 hZ1 hsi hp3) (fun r_124 τ_124 q_124 => ?_)
                  obtain ⟨rfl, hr124⟩ := q_124
                  dsimp only [Option.toList, List.append, List.cons_append, List.nil_append]
                  have he124 := KR_env hr124 he
                  refine g_aload_n (nx := 128) 0 F dX12_passes_127 rfl rfl rfl ?_
                  refine g_iload_n (nx := 129) 1 F dX12_passes_128 rfl rfl rfl ?_
                  refine g_callV (nx := 132) 1 0 [.int (nI j)] F dX12_passes_129 rfl ml_RX12_346 mo_X12_goesOn rfl rfl rfl rfl (Nat.le_of_ble_eq_true rfl) (by first | decide | omega) (k_goesOn (giveP (srvQ D Q j) (srvI T D n o y Q j) j (prP T D (srvQ D Q j) n o y (srvI T D n o y Q j) j) (lwP T D (srvQ D Q j) n o y (srvI T D n o y Q j) j (prP T D (srvQ D Q j) n o y (srvI T D n o y Q j) j) 103) (lwP T D (srvQ D Q j) n o y (srvI T D n o y Q j) j (prP T D (srvQ D Q j) n o y (srvI T D n o y Q j) j) 107) (lwP T D (srvQ D Q j) n o y (srvI T D n o y Q j) j (prP T D (srvQ D Q j) n o y (srvI T D n o y Q j) j) 98)) σ0 s a y j _ hr124 hy (by omega) (by rw [giveP_0]; exact hZ1) he124.2.2.2.2.2.2.1) (fun r_129 τ_129 q_129 => ?_)
                  obtain ⟨rfl, hr129⟩ := q_129
                  dsimp only [Option.toList, List.append, List.cons_append, List.nil_append]
                  refine g_goto 181 F dX12_passes_132 (by decide) ?_
                  refine g_iinc (nx := 184) (1) F dX12_passes_181 rfl rfl (by decide) (by decide) ?_
                  try dsimp only [List.set]
                  refine g_goto 12 F dX12_passes_184 (by decide) ?_
                  rw [nI_1]
                  first
                    | exact absurd rfl c_93
                    | exact absurd (show (1 : Int32) = 0 from c_93) (by decide)
                    | exact absurd rfl c_136
                    | exact absurd (show (1 : Int32) = 0 from c_136) (by decide)
                    | (have hq := hpq.mp ⟨not_le_I.mp c_76, not_lt_I.mp c_89, Or.inl c_63⟩; rw [if_pos hq] at hA hok2; exact ih (j + 1) _ _ _ _ (by omega) hok2 hr129 hA)
                    | (have hq := hpq.mp ⟨not_le_I.mp c_76, not_lt_I.mp c_89, Or.inr (not_lt_I.mp c_118)⟩; rw [if_pos hq] at hA hok2; exact ih (j + 1) _ _ _ _ (by omega) hok2 hr129 hA)
                    | (have hq : ¬ payQ (prP T D (srvQ D Q j) n o y (srvI T D n o y Q j) j) (wtP T D (srvQ D Q j) n o y (srvI T D n o y Q j) j) ((srvQ D Q j) 1 j) (D 4 j) (D 5 j) ((srvQ D Q j) 2 j) := fun z => absurd (hpq.mpr z).1 (not_lt_I.mpr c_76); rw [if_neg hq] at hA hok2
                       first
                         | (have hq2 : (D 4 j = 1 ∨ prP T D (srvQ D Q j) n o y (srvI T D n o y Q j) j = 0) ∧ wtP T D (srvQ D Q j) n o y (srvI T D n o y Q j) j ≤ (srvQ D Q j) 2 j := ⟨Or.inl c_63, not_lt_I.mp c_156⟩; rw [if_pos hq2] at hA hok2; exact ih (j + 1) _ _ _ _ (by omega) hok2 hr161 hA)
                         | (have hq2 : (D 4 j = 1 ∨ prP T D (srvQ D Q j) n o y (srvI T D n o y Q j) j = 0) ∧ wtP T D (srvQ D Q j) n o y (srvI T D n o y Q j) j ≤ (srvQ D Q j) 2 j := ⟨Or.inr c_143, not_lt_I.mp c_156⟩; rw [if_pos hq2] at hA hok2; exact ih (j + 1) _ _ _ _ (by omega) hok2 hr161 hA)
                         | (have hq2 : ¬ ((D 4 j = 1 ∨ prP T D (srvQ D Q j) n o y (srvI T D n o y Q j) j = 0) ∧ wtP T D (srvQ D Q j) n o y (srvI T D n o y Q j) j ≤ (srvQ D Q j) 2 j) := fun z => absurd c_156 (not_lt_I.mpr z.2); rw [if_neg hq2] at hA hok2; exact ih (j + 1) _ _ _ _ (by omega) hok2 (KR_upd 2 j _ (by decide) hr3) hA)
                         | (have hq2 : ¬ ((D 4 j = 1 ∨ prP T D (srvQ D Q j) n o y (srvI T D n o y Q j) j = 0) ∧ wtP T D (srvQ D Q j) n o y (srvI T D n o y Q j) j ≤ (srvQ D Q j) 2 j) := fun z => z.1.elim c_63 c_143; rw [if_neg hq2] at hA hok2; exact ih (j + 1) _ _ _ _ (by omega) hok2 (KR_upd 2 j _ (by decide) hr3) hA))
                    | (have hq : ¬ payQ (prP T D (srvQ D Q j) n o y (srvI T D n o y Q j) j) (wtP T D (srvQ D Q j) n o y (srvI T D n o y Q j) j) ((srvQ D Q j) 1 j) (D 4 j) (D 5 j) ((srvQ D Q j) 2 j) := fun z => absurd c_89 (not_lt_I.mpr (hpq.mpr z).2.1); rw [if_neg hq] at hA hok2
                       first
                         | (have hq2 : (D 4 j = 1 ∨ prP T D (srvQ D Q j) n o y (srvI T D n o y Q j) j = 0) ∧ wtP T D (srvQ D Q j) n o y (srvI T D n o y Q j) j ≤ (srvQ D Q j) 2 j := ⟨Or.inl c_63, not_lt_I.mp c_156⟩; rw [if_pos hq2] at hA hok2; exact ih (j + 1) _ _ _ _ (by omega) hok2 hr161 hA)
                         | (have hq2 : (D 4 j = 1 ∨ prP T D (srvQ D Q j) n o y (srvI T D n o y Q j) j = 0) ∧ wtP T D (srvQ D Q j) n o y (srvI T D n o y Q j) j ≤ (srvQ D Q j) 2 j := ⟨Or.inr c_143, not_lt_I.mp c_156⟩; rw [if_pos hq2] at hA hok2; exact ih (j + 1) _ _ _ _ (by omega) hok2 hr161 hA)
                         | (have hq2 : ¬ ((D 4 j = 1 ∨ prP T D (srvQ D Q j) n o y (srvI T D n o y Q j) j = 0) ∧ wtP T D (srvQ D Q j) n o y (srvI T D n o y Q j) j ≤ (srvQ D Q j) 2 j) := fun z => absurd c_156 (not_lt_I.mpr z.2); rw [if_neg hq2] at hA hok2; exact ih (j + 1) _ _ _ _ (by omega) hok2 (KR_upd 2 j _ (by decide) hr3) hA)
                         | (have hq2 : ¬ ((D 4 j = 1 ∨ prP T D (srvQ D Q j) n o y (srvI T D n o y Q j) j = 0) ∧ wtP T D (srvQ D Q j) n o y (srvI T D n o y Q j) j ≤ (srvQ D Q j) 2 j) := fun z => z.1.elim c_63 c_143; rw [if_neg hq2] at hA hok2; exact ih (j + 1) _ _ _ _ (by omega) hok2 (KR_upd 2 j _ (by decide) hr3) hA))
                    | (have hq : ¬ payQ (prP T D (srvQ D Q j) n o y (srvI T D n o y Q j) j) (wtP T D (srvQ D Q j) n o y (srvI T D n o y Q j) j) ((srvQ D Q j) 1 j) (D 4 j) (D 5 j) ((srvQ D Q j) 2 j) := fun z => (hpq.mpr z).2.2.elim (fun z1 => z1 c_63) (fun z1 => absurd c_118 (not_lt_I.mpr z1)); rw [if_neg hq] at hA hok2
                       first
                         | (have hq2 : (D 4 j = 1 ∨ prP T D (srvQ D Q j) n o y (srvI T D n o y Q j) j = 0) ∧ wtP T D (srvQ D Q j) n o y (srvI T D n o y Q j) j ≤ (srvQ D Q j) 2 j := ⟨Or.inl c_63, not_lt_I.mp c_156⟩; rw [if_pos hq2] at hA hok2; exact ih (j + 1) _ _ _ _ (by omega) hok2 hr161 hA)
                         | (have hq2 : ¬ ((D 4 j = 1 ∨ prP T D (srvQ D Q j) n o y (srvI T D n o y Q j) j = 0) ∧ wtP T D (srvQ D Q j) n o y (srvI T D n o y Q j) j ≤ (srvQ D Q j) 2 j) := fun z => absurd c_156 (not_lt_I.mpr z.2); rw [if_neg hq2] at hA hok2; exact ih (j + 1) _ _ _ _ (by omega) hok2 (KR_upd 2 j _ (by decide) hr3) hA))
  refine g_aload_n (nx := 1) 0 F dX12_passes_0 rfl rfl rfl ?_
  refine g_iconst (nx := 2) (0) F dX12_passes_1 rfl rfl ?_
  refine g_putI (nx := 5) F dX12_passes_2 rfl fl_RX12_334 fi_11_49 rfl (by decide) (by decide) rfl rfl ?_
  refine g_aload_n (nx := 6) 0 F dX12_passes_5 rfl rfl rfl ?_
  refine g_iconst (nx := 7) (0) F dX12_passes_6 rfl rfl ?_
  refine g_putI (nx := 10) F dX12_passes_7 rfl fl_RX12_337 fi_11_50 rfl (by decide) (by decide) rfl rfl ?_
  refine g_iconst (nx := 11) (0) F dX12_passes_10 rfl rfl ?_
  refine g_istore_n (nx := 12) 1 F dX12_passes_11 rfl rfl (by decide) ?_
  try dsimp only [List.set]
  exact L2 n 0 (zu (zu P 8 2 0) 8 1 0) _ _ _ (by omega) hok (KR_fld 50 1 _ (by decide) (KR_fld 49 2 _ (by decide) hr)) rfl
