set_option maxHeartbeats 4000000 in
set_option maxRecDepth 100000 in
theorem k_month2 (T : Nat → TXT) (D P : zSt) (n s mm e y : Nat) (o : Int32) (σ : zSt) (he : EnvK σ D T s e) (hr : KR σ σ P) (hth : thK σ n n (nI y)) (ho : σ 145 6 = o) (hD : okD D s e) (hok : okP s n mm 0 (zu P 8 1 0)) (hmm : mm ≤ 900) (hokf : okF D n) (hy2 : y ≤ 239) : Con mX12_month 6 [.ref 145] σ (fun r τ => (y < 239 ∧ ∃ τ1, KR σ τ1 (monP T D s n o (nI y) n 0 (zu (zu P 8 2 0) 8 1 0)) ∧ τ = zu (zu τ1 145 6 (nI (bcN ((monP T D s n o (nI y) n 0 (zu (zu P 8 2 0) 8 1 0)) 8 1).toInt.toNat))) 145 0 (nI (y + 1)) ∧ r = some (.int ((monP T D s n o (nI y) n 0 (zu (zu P 8 2 0) 8 1 0)) 8 2))) ∨ (¬ y < 239 ∧ r = some (.int (-1)) ∧ τ = σ)) := by
  refine Con.of (lv := [.ref 145]) mk_X12_month rfl (Nat.le_of_ble_eq_true rfl) rfl (fun X F E => ?_)
  by_cases hA : y < 239
  · refine g_aload_n (nx := 1) 0 F dX12_month_0 rfl rfl rfl ?_
    refine g_getV (nx := 4) (nI y) F dX12_month_1 rfl fl_RX12_183 rfl (by decide) (by decide) rfl rfl (hth.2.2.2.1) ?_
    refine g_sipush (nx := 7) (239) F dX12_month_4 rfl (by decide) ?_
    refine g_icmp_ne (nx := 10) 12 F dX12_month_7 rfl (by decide) (fun c_7 => ?_) (fun c_7 => absurd c_7 (by exact fun zq => absurd ((nI_eq (a := y) (b := 239) (by omega) (by omega)).mp zq) (by omega)))
    refine g_aload_n (nx := 13) 0 F dX12_month_12 rfl rfl rfl ?_
    refine g_callV (nx := 16) 0 5 [] F dX12_month_13 rfl ml_RX12_349 mo_X12_passes rfl rfl rfl rfl (Nat.le_of_ble_eq_true rfl) (by first | decide | omega) (k_passes T D P σ n n s mm e o (nI y) σ he hr hth ho hD ⟨hok.1, hok.2.1, 0, by decide, rfl⟩ hmm hokf) (fun r_13 τ_13 q_13 => ?_)
    obtain ⟨τ1, h1, h2, rfl⟩ := q_13
    dsimp only [Option.toList, List.append, List.cons_append, List.nil_append]
    subst h2
    refine g_aload_n (nx := 17) 0 F dX12_month_16 rfl rfl rfl ?_
    refine g_getV (nx := 20) (monP T D s n o (nI y) n 0 (zu (zu P 8 2 0) 8 1 0) 8 2) F dX12_month_17 rfl fl_RX12_334 rfl (by decide) (by decide) rfl rfl (h1.2.2.2.2.1) ?_
    refine g_iret F E dX12_month_20 ?_
    exact Or.inl ⟨hA, τ1, h1, by rw [nI_1], rfl⟩
  · refine g_aload_n (nx := 1) 0 F dX12_month_0 rfl rfl rfl ?_
    refine g_getV (nx := 4) (nI y) F dX12_month_1 rfl fl_RX12_183 rfl (by decide) (by decide) rfl rfl (hth.2.2.2.1) ?_
    refine g_sipush (nx := 7) (239) F dX12_month_4 rfl (by decide) ?_
    refine g_icmp_ne (nx := 10) 12 F dX12_month_7 rfl (by decide) (fun c_7 => absurd c_7 (by exact fun zq => zq ((nI_eq (a := y) (b := 239) (by omega) (by omega)).mpr (by omega)))) (fun c_7 => ?_)
    refine g_iconst (nx := 11) (-1) F dX12_month_10 rfl rfl ?_
    refine g_iret F E dX12_month_11 ?_
    exact Or.inr ⟨hA, rfl, rfl⟩
set_option maxHeartbeats 4000000 in
set_option maxRecDepth 100000 in
theorem k_asks2 (T : Nat → TXT) (D P : zSt) (n s mm e : Nat) (o y i j w : Int32) (σ : zSt) (he : EnvK σ D T s e) (hr : KR σ σ P) (hth : thK σ n n y) (ho : σ 145 6 = o) (hn : n ≤ 40) (hok : okP s n mm 0 (zu P 8 1 0)) (he10 : e ≤ 10) : Con mX12_asks 4 [.ref 145, .int i, .int j, .int w] σ (fun r τ => (asC D P s e n i j w ∧ r = some (.int (if w = 0 then prP T D P n o y i.toInt.toNat j.toInt.toNat else wtP T D P n o y i.toInt.toNat j.toInt.toNat)) ∧ KR σ τ P) ∨ (¬ asC D P s e n i j w ∧ r = some (.int (-1)) ∧ τ = σ)) := by
  have hs8 := he.2.2.2.2.2.2.2.1
  refine Con.of (lv := [.ref 145, .int i, .int j, .int w]) mk_X12_asks rfl (Nat.le_of_ble_eq_true rfl) rfl (fun X F E => ?_)
  rcases (Classical.em (0 ≤ i.toInt ∧ i.toInt < e)).symm with hA0 | hA0
  · refine g_aload_n (nx := 1) 0 F dX12_asks_0 rfl rfl rfl ?_
    refine g_iload_n (nx := 2) 1 F dX12_asks_1 rfl rfl rfl ?_
    refine g_callV (nx := 5) 1 0 [.int i] F dX12_asks_2 rfl ml_RX12_291 mo_X12_isClerk rfl rfl rfl rfl (Nat.le_of_ble_eq_true rfl) (by first | decide | omega) (k_isClerk i _) (fun r_2 τ_2 q_2 => ?_)
    obtain ⟨rfl, et_2⟩ := q_2
    have et_2 := et_2.symm
    subst et_2
    dsimp only [Option.toList, List.append, List.cons_append, List.nil_append]
    rw [he.2.2.2.2.2.2.2.2.1, nI_toInt (n := e) (by omega)]
    refine g_if_eq (nx := 8) 43 F dX12_asks_5 rfl (by decide) (fun c_5 => ?_) (fun c_5 => absurd c_5 (by exact fun zq => zq (bI_f hA0)))
    refine g_iconst (nx := 44) (-1) F dX12_asks_43 rfl rfl ?_
    refine g_iret F E dX12_asks_44 ?_
    exact Or.inr ⟨fun z => hA0 z.1, rfl, rfl⟩
  rcases (Classical.em (0 ≤ j.toInt ∧ j.toInt < n ∧ P 0 j.toInt.toNat < nI s)).symm with hA1 | hA1
  · refine g_aload_n (nx := 1) 0 F dX12_asks_0 rfl rfl rfl ?_
    refine g_iload_n (nx := 2) 1 F dX12_asks_1 rfl rfl rfl ?_
    refine g_callV (nx := 5) 1 0 [.int i] F dX12_asks_2 rfl ml_RX12_291 mo_X12_isClerk rfl rfl rfl rfl (Nat.le_of_ble_eq_true rfl) (by first | decide | omega) (k_isClerk i _) (fun r_2 τ_2 q_2 => ?_)
    obtain ⟨rfl, et_2⟩ := q_2
    have et_2 := et_2.symm
    subst et_2
    dsimp only [Option.toList, List.append, List.cons_append, List.nil_append]
    rw [he.2.2.2.2.2.2.2.2.1, nI_toInt (n := e) (by omega)]
    refine g_if_eq (nx := 8) 43 F dX12_asks_5 rfl (by decide) (fun c_5 => absurd c_5 (by exact bI_n0.mpr hA0)) (fun c_5 => ?_)
    refine g_aload_n (nx := 9) 0 F dX12_asks_8 rfl rfl rfl ?_
    refine g_iload_n (nx := 10) 2 F dX12_asks_9 rfl rfl rfl ?_
    refine g_callV (nx := 13) 1 1 [.int j] F dX12_asks_10 rfl ml_RX12_356 mo_X12_isWaiting rfl rfl rfl rfl (Nat.le_of_ble_eq_true rfl) (by first | decide | omega) (k_isWaiting s n j _ hth.2.2.1 hn he.2.2.2.2.2.2.1) (fun r_10 τ_10 q_10 => ?_)
    obtain ⟨rfl, et_10⟩ := q_10
    have et_10 := et_10.symm
    subst et_10
    dsimp only [Option.toList, List.append, List.cons_append, List.nil_append]
    rw [show σ 156 = P 0 from hr.2.2.2.2.2 0 (by decide)]
    refine g_if_eq (nx := 16) 43 F dX12_asks_13 rfl (by decide) (fun c_13 => ?_) (fun c_13 => absurd c_13 (by exact fun zq => zq (bI_f hA1)))
    refine g_iconst (nx := 44) (-1) F dX12_asks_43 rfl rfl ?_
    refine g_iret F E dX12_asks_44 ?_
    exact Or.inr ⟨fun z => hA1 z.2.1, rfl, rfl⟩
  obtain ⟨J, hJ, rfl⟩ := nI_ofr ⟨hA1.1, hA1.2.1⟩
  have eJ : (nI J).toInt.toNat = J := nI_tn (by omega)
  obtain ⟨I, hI, rfl⟩ := nI_ofr hA0
  have hA1' := hA1.2.2
  rw [eJ] at hA1'
  obtain ⟨⟨a, ha, hPa⟩, _⟩ := hok.1 J hJ
  have hPa : P 0 J = nI a := hPa
  rw [hPa, nI_ltI (by omega) (by omega)] at hA1'
  have hst : stN P J = a := by unfold stN; rw [hPa, nI_tn (by omega)]
  rcases (Classical.em (isin w 1)).symm with hA2 | hA2
  · refine g_aload_n (nx := 1) 0 F dX12_asks_0 rfl rfl rfl ?_
    refine g_iload_n (nx := 2) 1 F dX12_asks_1 rfl rfl rfl ?_
    refine g_callV (nx := 5) 1 0 [.int (nI I)] F dX12_asks_2 rfl ml_RX12_291 mo_X12_isClerk rfl rfl rfl rfl (Nat.le_of_ble_eq_true rfl) (by first | decide | omega) (k_isClerk (nI I) _) (fun r_2 τ_2 q_2 => ?_)
    obtain ⟨rfl, et_2⟩ := q_2
    have et_2 := et_2.symm
    subst et_2
    dsimp only [Option.toList, List.append, List.cons_append, List.nil_append]
    rw [he.2.2.2.2.2.2.2.2.1, nI_toInt (n := e) (by omega)]
    refine g_if_eq (nx := 8) 43 F dX12_asks_5 rfl (by decide) (fun c_5 => absurd c_5 (by exact bI_n0.mpr hA0)) (fun c_5 => ?_)
    refine g_aload_n (nx := 9) 0 F dX12_asks_8 rfl rfl rfl ?_
    refine g_iload_n (nx := 10) 2 F dX12_asks_9 rfl rfl rfl ?_
    refine g_callV (nx := 13) 1 1 [.int (nI J)] F dX12_asks_10 rfl ml_RX12_356 mo_X12_isWaiting rfl rfl rfl rfl (Nat.le_of_ble_eq_true rfl) (by first | decide | omega) (k_isWaiting s n (nI J) _ hth.2.2.1 hn he.2.2.2.2.2.2.1) (fun r_10 τ_10 q_10 => ?_)
    obtain ⟨rfl, et_10⟩ := q_10
    have et_10 := et_10.symm
    subst et_10
    dsimp only [Option.toList, List.append, List.cons_append, List.nil_append]
    rw [show σ 156 = P 0 from hr.2.2.2.2.2 0 (by decide)]
    refine g_if_eq (nx := 16) 43 F dX12_asks_13 rfl (by decide) (fun c_13 => absurd c_13 (by exact bI_n0.mpr hA1)) (fun c_13 => ?_)
    refine g_iload_n (nx := 17) 3 F dX12_asks_16 rfl rfl rfl ?_
    refine g_iconst (nx := 18) (0) F dX12_asks_17 rfl rfl ?_
    refine g_iconst (nx := 19) (1) F dX12_asks_18 rfl rfl ?_
    refine g_callS (nx := 22) 3 0 [.int w, .int 0, .int 1] F dX12_asks_19 rfl ml_RX12_174 mo_X12_in rfl rfl (Nat.le_of_ble_eq_true rfl) (by first | decide | omega) (k_in w 0 1 _) (fun r_19 τ_19 q_19 => ?_)
    obtain ⟨rfl, et_19⟩ := q_19
    have et_19 := et_19.symm
    subst et_19
    dsimp only [Option.toList, List.append, List.cons_append, List.nil_append]
    refine g_if_eq (nx := 25) 43 F dX12_asks_22 rfl (by decide) (fun c_22 => ?_) (fun c_22 => absurd c_22 (by exact fun zq => zq (bI_f (by unfold isin at hA2; simp only [Int32.reduceToInt, Int32.toInt_zero]; omega))))
    refine g_iconst (nx := 44) (-1) F dX12_asks_43 rfl rfl ?_
    refine g_iret F E dX12_asks_44 ?_
    exact Or.inr ⟨fun z => hA2 z.2.2.1, rfl, rfl⟩
  rcases (Classical.em (¬ (D 2 (stN P (nI J).toInt.toNat) >>> (nI I &&& 31)) &&& 1 = 0)).symm with hA3 | hA3
  · refine g_aload_n (nx := 1) 0 F dX12_asks_0 rfl rfl rfl ?_
    refine g_iload_n (nx := 2) 1 F dX12_asks_1 rfl rfl rfl ?_
    refine g_callV (nx := 5) 1 0 [.int (nI I)] F dX12_asks_2 rfl ml_RX12_291 mo_X12_isClerk rfl rfl rfl rfl (Nat.le_of_ble_eq_true rfl) (by first | decide | omega) (k_isClerk (nI I) _) (fun r_2 τ_2 q_2 => ?_)
    obtain ⟨rfl, et_2⟩ := q_2
    have et_2 := et_2.symm
    subst et_2
    dsimp only [Option.toList, List.append, List.cons_append, List.nil_append]
    rw [he.2.2.2.2.2.2.2.2.1, nI_toInt (n := e) (by omega)]
    refine g_if_eq (nx := 8) 43 F dX12_asks_5 rfl (by decide) (fun c_5 => absurd c_5 (by exact bI_n0.mpr hA0)) (fun c_5 => ?_)
    refine g_aload_n (nx := 9) 0 F dX12_asks_8 rfl rfl rfl ?_
    refine g_iload_n (nx := 10) 2 F dX12_asks_9 rfl rfl rfl ?_
    refine g_callV (nx := 13) 1 1 [.int (nI J)] F dX12_asks_10 rfl ml_RX12_356 mo_X12_isWaiting rfl rfl rfl rfl (Nat.le_of_ble_eq_true rfl) (by first | decide | omega) (k_isWaiting s n (nI J) _ hth.2.2.1 hn he.2.2.2.2.2.2.1) (fun r_10 τ_10 q_10 => ?_)
    obtain ⟨rfl, et_10⟩ := q_10
    have et_10 := et_10.symm
    subst et_10
    dsimp only [Option.toList, List.append, List.cons_append, List.nil_append]
    rw [show σ 156 = P 0 from hr.2.2.2.2.2 0 (by decide)]
    refine g_if_eq (nx := 16) 43 F dX12_asks_13 rfl (by decide) (fun c_13 => absurd c_13 (by exact bI_n0.mpr hA1)) (fun c_13 => ?_)
    refine g_iload_n (nx := 17) 3 F dX12_asks_16 rfl rfl rfl ?_
    refine g_iconst (nx := 18) (0) F dX12_asks_17 rfl rfl ?_
    refine g_iconst (nx := 19) (1) F dX12_asks_18 rfl rfl ?_
    refine g_callS (nx := 22) 3 0 [.int w, .int 0, .int 1] F dX12_asks_19 rfl ml_RX12_174 mo_X12_in rfl rfl (Nat.le_of_ble_eq_true rfl) (by first | decide | omega) (k_in w 0 1 _) (fun r_19 τ_19 q_19 => ?_)
    obtain ⟨rfl, et_19⟩ := q_19
    have et_19 := et_19.symm
    subst et_19
    dsimp only [Option.toList, List.append, List.cons_append, List.nil_append]
    refine g_if_eq (nx := 25) 43 F dX12_asks_22 rfl (by decide) (fun c_22 => absurd c_22 (by exact bI_n0.mpr (by unfold isin at hA2; simp only [Int32.reduceToInt, Int32.toInt_zero]; omega))) (fun c_22 => ?_)
    refine g_aload_n (nx := 26) 0 F dX12_asks_25 rfl rfl rfl ?_
    refine g_getR (nx := 29) F dX12_asks_26 rfl fl_RX12_22 rfl (by decide) (by decide) rfl ?_
    refine g_aload_n (nx := 30) 0 F dX12_asks_29 rfl rfl rfl ?_
    refine g_getR (nx := 33) F dX12_asks_30 rfl fl_RX12_40 rfl (by decide) (by decide) rfl ?_
    refine g_iload_n (nx := 34) 2 F dX12_asks_33 rfl rfl rfl ?_
    refine g_ialdN (nx := 35) (J) (nI a) F dX12_asks_34 rfl rfl (by omega) ((congrFun (hr.2.2.2.2.2 0 (by decide)) J).trans hPa) ?_
    refine g_ialdN (nx := 36) (a) (D 2 a) F dX12_asks_35 rfl rfl (by omega) (congrFun he.2.2.1 a) ?_
    refine g_iload_n (nx := 37) 1 F dX12_asks_36 rfl rfl rfl ?_
    refine g_ishr (nx := 38) F dX12_asks_37 rfl ?_
    refine g_iconst (nx := 39) (1) F dX12_asks_38 rfl rfl ?_
    refine g_iand (nx := 40) F dX12_asks_39 rfl ?_
    refine g_if_ne (nx := 43) 45 F dX12_asks_40 rfl (by decide) (fun c_40 => absurd c_40 (by exact fun zq => zq (by have := Classical.byContradiction hA3; rw [eJ, hst] at this; exact this))) (fun c_40 => ?_)
    refine g_iconst (nx := 44) (-1) F dX12_asks_43 rfl rfl ?_
    refine g_iret F E dX12_asks_44 ?_
    exact Or.inr ⟨fun z => hA3 z.2.2.2, rfl, rfl⟩
  refine g_aload_n (nx := 1) 0 F dX12_asks_0 rfl rfl rfl ?_
  refine g_iload_n (nx := 2) 1 F dX12_asks_1 rfl rfl rfl ?_
  refine g_callV (nx := 5) 1 0 [.int (nI I)] F dX12_asks_2 rfl ml_RX12_291 mo_X12_isClerk rfl rfl rfl rfl (Nat.le_of_ble_eq_true rfl) (by first | decide | omega) (k_isClerk (nI I) _) (fun r_2 τ_2 q_2 => ?_)
  obtain ⟨rfl, et_2⟩ := q_2
  have et_2 := et_2.symm
  subst et_2
  dsimp only [Option.toList, List.append, List.cons_append, List.nil_append]
  rw [he.2.2.2.2.2.2.2.2.1, nI_toInt (n := e) (by omega)]
  refine g_if_eq (nx := 8) 43 F dX12_asks_5 rfl (by decide) (fun c_5 => absurd c_5 (by exact bI_n0.mpr hA0)) (fun c_5 => ?_)
  refine g_aload_n (nx := 9) 0 F dX12_asks_8 rfl rfl rfl ?_
  refine g_iload_n (nx := 10) 2 F dX12_asks_9 rfl rfl rfl ?_
  refine g_callV (nx := 13) 1 1 [.int (nI J)] F dX12_asks_10 rfl ml_RX12_356 mo_X12_isWaiting rfl rfl rfl rfl (Nat.le_of_ble_eq_true rfl) (by first | decide | omega) (k_isWaiting s n (nI J) _ hth.2.2.1 hn he.2.2.2.2.2.2.1) (fun r_10 τ_10 q_10 => ?_)
  obtain ⟨rfl, et_10⟩ := q_10
  have et_10 := et_10.symm
  subst et_10
  dsimp only [Option.toList, List.append, List.cons_append, List.nil_append]
  rw [show σ 156 = P 0 from hr.2.2.2.2.2 0 (by decide)]
  refine g_if_eq (nx := 16) 43 F dX12_asks_13 rfl (by decide) (fun c_13 => absurd c_13 (by exact bI_n0.mpr hA1)) (fun c_13 => ?_)
  refine g_iload_n (nx := 17) 3 F dX12_asks_16 rfl rfl rfl ?_
  refine g_iconst (nx := 18) (0) F dX12_asks_17 rfl rfl ?_
  refine g_iconst (nx := 19) (1) F dX12_asks_18 rfl rfl ?_
  refine g_callS (nx := 22) 3 0 [.int w, .int 0, .int 1] F dX12_asks_19 rfl ml_RX12_174 mo_X12_in rfl rfl (Nat.le_of_ble_eq_true rfl) (by first | decide | omega) (k_in w 0 1 _) (fun r_19 τ_19 q_19 => ?_)
  obtain ⟨rfl, et_19⟩ := q_19
  have et_19 := et_19.symm
  subst et_19
  dsimp only [Option.toList, List.append, List.cons_append, List.nil_append]
  refine g_if_eq (nx := 25) 43 F dX12_asks_22 rfl (by decide) (fun c_22 => absurd c_22 (by exact bI_n0.mpr (by unfold isin at hA2; simp only [Int32.reduceToInt, Int32.toInt_zero]; omega))) (fun c_22 => ?_)
  refine g_aload_n (nx := 26) 0 F dX12_asks_25 rfl rfl rfl ?_
  refine g_getR (nx := 29) F dX12_asks_26 rfl fl_RX12_22 rfl (by decide) (by decide) rfl ?_
  refine g_aload_n (nx := 30) 0 F dX12_asks_29 rfl rfl rfl ?_
  refine g_getR (nx := 33) F dX12_asks_30 rfl fl_RX12_40 rfl (by decide) (by decide) rfl ?_
  refine g_iload_n (nx := 34) 2 F dX12_asks_33 rfl rfl rfl ?_
  refine g_ialdN (nx := 35) (J) (nI a) F dX12_asks_34 rfl rfl (by omega) ((congrFun (hr.2.2.2.2.2 0 (by decide)) J).trans hPa) ?_
  refine g_ialdN (nx := 36) (a) (D 2 a) F dX12_asks_35 rfl rfl (by omega) (congrFun he.2.2.1 a) ?_
  refine g_iload_n (nx := 37) 1 F dX12_asks_36 rfl rfl rfl ?_
  refine g_ishr (nx := 38) F dX12_asks_37 rfl ?_
  refine g_iconst (nx := 39) (1) F dX12_asks_38 rfl rfl ?_
  refine g_iand (nx := 40) F dX12_asks_39 rfl ?_
  refine g_if_ne (nx := 43) 45 F dX12_asks_40 rfl (by decide) (fun c_40 => ?_) (fun c_40 => absurd c_40 (by exact fun zq => hA3 (by rw [eJ, hst]; exact zq)))
  refine g_aload_n (nx := 46) 0 F dX12_asks_45 rfl rfl rfl ?_
  refine g_iload_n (nx := 47) 1 F dX12_asks_46 rfl rfl rfl ?_
  refine g_iload_n (nx := 48) 2 F dX12_asks_47 rfl rfl rfl ?_
  refine g_callV (nx := 51) 2 3 [.int (nI I), .int (nI J)] F dX12_asks_48 rfl ml_RX12_331 mo_X12_asksOf rfl rfl rfl rfl (Nat.le_of_ble_eq_true rfl) (by first | decide | omega) (k_asksOf T D P σ n n s e a o y I J σ he hr hth ho (by omega) hJ (by omega) hPa) (fun r_48 τ_48 q_48 => ?_)
  obtain ⟨rfl, hr3, hp3, hw3⟩ := q_48
  dsimp only [Option.toList, List.append, List.cons_append, List.nil_append]
  refine g_iload_n (nx := 52) 3 F dX12_asks_51 rfl rfl rfl ?_
  refine g_if_ne (nx := 55) 62 F dX12_asks_52 rfl (by decide) (fun c_52 => ?_) (fun c_52 => ?_)
  · refine g_aload_n (nx := 63) 0 F dX12_asks_62 rfl rfl rfl ?_
    refine g_getV (nx := 66) (wtP T D P n o y I J) F dX12_asks_63 rfl fl_RX12_321 rfl (by decide) (by decide) rfl rfl (hw3) ?_
    refine g_iret F E dX12_asks_66 ?_
    refine Or.inl ⟨⟨hA0, hA1, hA2, hA3⟩, ?_, hr3⟩
    rw [eJ, nI_tn (by omega)]
    first | rw [if_pos c_52] | rw [if_neg c_52]
  · refine g_aload_n (nx := 56) 0 F dX12_asks_55 rfl rfl rfl ?_
    refine g_getV (nx := 59) (prP T D P n o y I J) F dX12_asks_56 rfl fl_RX12_318 rfl (by decide) (by decide) rfl rfl (hp3) ?_
    refine g_goto 66 F dX12_asks_59 (by decide) ?_
    refine g_iret F E dX12_asks_66 ?_
    refine Or.inl ⟨⟨hA0, hA1, hA2, hA3⟩, ?_, hr3⟩
    rw [eJ, nI_tn (by omega)]
    first | rw [if_pos c_52] | rw [if_neg c_52]
set_option maxHeartbeats 4000000 in
set_option maxRecDepth 100000 in
theorem k_told2 (T : Nat → TXT) (D P : zSt) (n s mm e : Nat) (o y i j x w : Int32) (σ : zSt) (he : EnvK σ D T s e) (hr : KR σ σ P) (hth : thK σ n n y) (ho : σ 145 6 = o) (hn : n ≤ 40) (hok : okP s n mm 0 (zu P 8 1 0)) (he10 : e ≤ 10) : Con mX12_told 4 [.ref 145, .int i, .int j, .int x, .int w] σ (fun r τ => (tdC P s e n i j x w ∧ r = some (.int (lwP T D P n o y i.toInt.toNat j.toInt.toNat x (hdW w))) ∧ KR σ τ P) ∨ (¬ tdC P s e n i j x w ∧ r = some (.int (-1)) ∧ τ = σ)) := by
  have hs8 := he.2.2.2.2.2.2.2.1
  refine Con.of (lv := [.ref 145, .int i, .int j, .int x, .int w]) mk_X12_told rfl (Nat.le_of_ble_eq_true rfl) rfl (fun X F E => ?_)
  rcases (Classical.em (0 ≤ i.toInt ∧ i.toInt < e)).symm with hA0 | hA0
  · refine g_aload_n (nx := 1) 0 F dX12_told_0 rfl rfl rfl ?_
    refine g_iload_n (nx := 2) 1 F dX12_told_1 rfl rfl rfl ?_
    refine g_callV (nx := 5) 1 0 [.int i] F dX12_told_2 rfl ml_RX12_291 mo_X12_isClerk rfl rfl rfl rfl (Nat.le_of_ble_eq_true rfl) (by first | decide | omega) (k_isClerk i _) (fun r_2 τ_2 q_2 => ?_)
    obtain ⟨rfl, et_2⟩ := q_2
    have et_2 := et_2.symm
    subst et_2
    dsimp only [Option.toList, List.append, List.cons_append, List.nil_append]
    rw [he.2.2.2.2.2.2.2.2.1, nI_toInt (n := e) (by omega)]
    refine g_if_eq (nx := 8) 37 F dX12_told_5 rfl (by decide) (fun c_5 => ?_) (fun c_5 => absurd c_5 (by exact fun zq => zq (bI_f hA0)))
    refine g_iconst (nx := 38) (-1) F dX12_told_37 rfl rfl ?_
    refine g_iret F E dX12_told_38 ?_
    exact Or.inr ⟨fun z => hA0 z.1, rfl, rfl⟩
  rcases (Classical.em (0 ≤ j.toInt ∧ j.toInt < n ∧ P 0 j.toInt.toNat < nI s)).symm with hA1 | hA1
  · refine g_aload_n (nx := 1) 0 F dX12_told_0 rfl rfl rfl ?_
    refine g_iload_n (nx := 2) 1 F dX12_told_1 rfl rfl rfl ?_
    refine g_callV (nx := 5) 1 0 [.int i] F dX12_told_2 rfl ml_RX12_291 mo_X12_isClerk rfl rfl rfl rfl (Nat.le_of_ble_eq_true rfl) (by first | decide | omega) (k_isClerk i _) (fun r_2 τ_2 q_2 => ?_)
    obtain ⟨rfl, et_2⟩ := q_2
    have et_2 := et_2.symm
    subst et_2
    dsimp only [Option.toList, List.append, List.cons_append, List.nil_append]
    rw [he.2.2.2.2.2.2.2.2.1, nI_toInt (n := e) (by omega)]
    refine g_if_eq (nx := 8) 37 F dX12_told_5 rfl (by decide) (fun c_5 => absurd c_5 (by exact bI_n0.mpr hA0)) (fun c_5 => ?_)
    refine g_aload_n (nx := 9) 0 F dX12_told_8 rfl rfl rfl ?_
    refine g_iload_n (nx := 10) 2 F dX12_told_9 rfl rfl rfl ?_
    refine g_callV (nx := 13) 1 1 [.int j] F dX12_told_10 rfl ml_RX12_356 mo_X12_isWaiting rfl rfl rfl rfl (Nat.le_of_ble_eq_true rfl) (by first | decide | omega) (k_isWaiting s n j _ hth.2.2.1 hn he.2.2.2.2.2.2.1) (fun r_10 τ_10 q_10 => ?_)
    obtain ⟨rfl, et_10⟩ := q_10
    have et_10 := et_10.symm
    subst et_10
    dsimp only [Option.toList, List.append, List.cons_append, List.nil_append]
    rw [show σ 156 = P 0 from hr.2.2.2.2.2 0 (by decide)]
    refine g_if_eq (nx := 16) 37 F dX12_told_13 rfl (by decide) (fun c_13 => ?_) (fun c_13 => absurd c_13 (by exact fun zq => zq (bI_f hA1)))
    refine g_iconst (nx := 38) (-1) F dX12_told_37 rfl rfl ?_
    refine g_iret F E dX12_told_38 ?_
    exact Or.inr ⟨fun z => hA1 z.2.1, rfl, rfl⟩
  obtain ⟨J, hJ, rfl⟩ := nI_ofr ⟨hA1.1, hA1.2.1⟩
  have eJ : (nI J).toInt.toNat = J := nI_tn (by omega)
  obtain ⟨I, hI, rfl⟩ := nI_ofr hA0
  have hA1' := hA1.2.2
  rw [eJ] at hA1'
  obtain ⟨⟨a, ha, hPa⟩, _⟩ := hok.1 J hJ
  have hPa : P 0 J = nI a := hPa
  rw [hPa, nI_ltI (by omega) (by omega)] at hA1'
  have hst : stN P J = a := by unfold stN; rw [hPa, nI_tn (by omega)]
  rcases (Classical.em (isin x 10000)).symm with hA2 | hA2
  · refine g_aload_n (nx := 1) 0 F dX12_told_0 rfl rfl rfl ?_
    refine g_iload_n (nx := 2) 1 F dX12_told_1 rfl rfl rfl ?_
    refine g_callV (nx := 5) 1 0 [.int (nI I)] F dX12_told_2 rfl ml_RX12_291 mo_X12_isClerk rfl rfl rfl rfl (Nat.le_of_ble_eq_true rfl) (by first | decide | omega) (k_isClerk (nI I) _) (fun r_2 τ_2 q_2 => ?_)
    obtain ⟨rfl, et_2⟩ := q_2
    have et_2 := et_2.symm
    subst et_2
    dsimp only [Option.toList, List.append, List.cons_append, List.nil_append]
    rw [he.2.2.2.2.2.2.2.2.1, nI_toInt (n := e) (by omega)]
    refine g_if_eq (nx := 8) 37 F dX12_told_5 rfl (by decide) (fun c_5 => absurd c_5 (by exact bI_n0.mpr hA0)) (fun c_5 => ?_)
    refine g_aload_n (nx := 9) 0 F dX12_told_8 rfl rfl rfl ?_
    refine g_iload_n (nx := 10) 2 F dX12_told_9 rfl rfl rfl ?_
    refine g_callV (nx := 13) 1 1 [.int (nI J)] F dX12_told_10 rfl ml_RX12_356 mo_X12_isWaiting rfl rfl rfl rfl (Nat.le_of_ble_eq_true rfl) (by first | decide | omega) (k_isWaiting s n (nI J) _ hth.2.2.1 hn he.2.2.2.2.2.2.1) (fun r_10 τ_10 q_10 => ?_)
    obtain ⟨rfl, et_10⟩ := q_10
    have et_10 := et_10.symm
    subst et_10
    dsimp only [Option.toList, List.append, List.cons_append, List.nil_append]
    rw [show σ 156 = P 0 from hr.2.2.2.2.2 0 (by decide)]
    refine g_if_eq (nx := 16) 37 F dX12_told_13 rfl (by decide) (fun c_13 => absurd c_13 (by exact bI_n0.mpr hA1)) (fun c_13 => ?_)
    refine g_iload_n (nx := 17) 3 F dX12_told_16 rfl rfl rfl ?_
    refine g_iconst (nx := 18) (0) F dX12_told_17 rfl rfl ?_
    refine g_sipush (nx := 21) (10000) F dX12_told_18 rfl (by decide) ?_
    refine g_callS (nx := 24) 3 0 [.int x, .int 0, .int 10000] F dX12_told_21 rfl ml_RX12_174 mo_X12_in rfl rfl (Nat.le_of_ble_eq_true rfl) (by first | decide | omega) (k_in x 0 10000 _) (fun r_21 τ_21 q_21 => ?_)
    obtain ⟨rfl, et_21⟩ := q_21
    have et_21 := et_21.symm
    subst et_21
    dsimp only [Option.toList, List.append, List.cons_append, List.nil_append]
    refine g_if_eq (nx := 27) 37 F dX12_told_24 rfl (by decide) (fun c_24 => ?_) (fun c_24 => absurd c_24 (by exact fun zq => zq (bI_f (by unfold isin at hA2; simp only [Int32.reduceToInt, Int32.toInt_zero]; omega))))
    refine g_iconst (nx := 38) (-1) F dX12_told_37 rfl rfl ?_
    refine g_iret F E dX12_told_38 ?_
    exact Or.inr ⟨fun z => hA2 z.2.2.1, rfl, rfl⟩
  rcases (Classical.em (isin w 2)).symm with hA3 | hA3
  · refine g_aload_n (nx := 1) 0 F dX12_told_0 rfl rfl rfl ?_
    refine g_iload_n (nx := 2) 1 F dX12_told_1 rfl rfl rfl ?_
    refine g_callV (nx := 5) 1 0 [.int (nI I)] F dX12_told_2 rfl ml_RX12_291 mo_X12_isClerk rfl rfl rfl rfl (Nat.le_of_ble_eq_true rfl) (by first | decide | omega) (k_isClerk (nI I) _) (fun r_2 τ_2 q_2 => ?_)
    obtain ⟨rfl, et_2⟩ := q_2
    have et_2 := et_2.symm
    subst et_2
    dsimp only [Option.toList, List.append, List.cons_append, List.nil_append]
    rw [he.2.2.2.2.2.2.2.2.1, nI_toInt (n := e) (by omega)]
    refine g_if_eq (nx := 8) 37 F dX12_told_5 rfl (by decide) (fun c_5 => absurd c_5 (by exact bI_n0.mpr hA0)) (fun c_5 => ?_)
    refine g_aload_n (nx := 9) 0 F dX12_told_8 rfl rfl rfl ?_
    refine g_iload_n (nx := 10) 2 F dX12_told_9 rfl rfl rfl ?_
    refine g_callV (nx := 13) 1 1 [.int (nI J)] F dX12_told_10 rfl ml_RX12_356 mo_X12_isWaiting rfl rfl rfl rfl (Nat.le_of_ble_eq_true rfl) (by first | decide | omega) (k_isWaiting s n (nI J) _ hth.2.2.1 hn he.2.2.2.2.2.2.1) (fun r_10 τ_10 q_10 => ?_)
    obtain ⟨rfl, et_10⟩ := q_10
    have et_10 := et_10.symm
    subst et_10
    dsimp only [Option.toList, List.append, List.cons_append, List.nil_append]
    rw [show σ 156 = P 0 from hr.2.2.2.2.2 0 (by decide)]
    refine g_if_eq (nx := 16) 37 F dX12_told_13 rfl (by decide) (fun c_13 => absurd c_13 (by exact bI_n0.mpr hA1)) (fun c_13 => ?_)
    refine g_iload_n (nx := 17) 3 F dX12_told_16 rfl rfl rfl ?_
    refine g_iconst (nx := 18) (0) F dX12_told_17 rfl rfl ?_
    refine g_sipush (nx := 21) (10000) F dX12_told_18 rfl (by decide) ?_
    refine g_callS (nx := 24) 3 0 [.int x, .int 0, .int 10000] F dX12_told_21 rfl ml_RX12_174 mo_X12_in rfl rfl (Nat.le_of_ble_eq_true rfl) (by first | decide | omega) (k_in x 0 10000 _) (fun r_21 τ_21 q_21 => ?_)
    obtain ⟨rfl, et_21⟩ := q_21
    have et_21 := et_21.symm
    subst et_21
    dsimp only [Option.toList, List.append, List.cons_append, List.nil_append]
    refine g_if_eq (nx := 27) 37 F dX12_told_24 rfl (by decide) (fun c_24 => absurd c_24 (by exact bI_n0.mpr (by unfold isin at hA2; simp only [Int32.reduceToInt, Int32.toInt_zero]; omega))) (fun c_24 => ?_)
    refine g_iload (nx := 29) F dX12_told_27 rfl rfl ?_
    refine g_iconst (nx := 30) (0) F dX12_told_29 rfl rfl ?_
    refine g_iconst (nx := 31) (2) F dX12_told_30 rfl rfl ?_
    refine g_callS (nx := 34) 3 0 [.int w, .int 0, .int 2] F dX12_told_31 rfl ml_RX12_174 mo_X12_in rfl rfl (Nat.le_of_ble_eq_true rfl) (by first | decide | omega) (k_in w 0 2 _) (fun r_31 τ_31 q_31 => ?_)
    obtain ⟨rfl, et_31⟩ := q_31
    have et_31 := et_31.symm
    subst et_31
    dsimp only [Option.toList, List.append, List.cons_append, List.nil_append]
    refine g_if_ne (nx := 37) 39 F dX12_told_34 rfl (by decide) (fun c_34 => absurd c_34 (by exact fun zq => zq (bI_f (by unfold isin at hA3; simp only [Int32.reduceToInt, Int32.toInt_zero]; omega)))) (fun c_34 => ?_)
    refine g_iconst (nx := 38) (-1) F dX12_told_37 rfl rfl ?_
    refine g_iret F E dX12_told_38 ?_
    exact Or.inr ⟨fun z => hA3 z.2.2.2, rfl, rfl⟩
  refine g_aload_n (nx := 1) 0 F dX12_told_0 rfl rfl rfl ?_
  refine g_iload_n (nx := 2) 1 F dX12_told_1 rfl rfl rfl ?_
  refine g_callV (nx := 5) 1 0 [.int (nI I)] F dX12_told_2 rfl ml_RX12_291 mo_X12_isClerk rfl rfl rfl rfl (Nat.le_of_ble_eq_true rfl) (by first | decide | omega) (k_isClerk (nI I) _) (fun r_2 τ_2 q_2 => ?_)
  obtain ⟨rfl, et_2⟩ := q_2
  have et_2 := et_2.symm
  subst et_2
  dsimp only [Option.toList, List.append, List.cons_append, List.nil_append]
  rw [he.2.2.2.2.2.2.2.2.1, nI_toInt (n := e) (by omega)]
  refine g_if_eq (nx := 8) 37 F dX12_told_5 rfl (by decide) (fun c_5 => absurd c_5 (by exact bI_n0.mpr hA0)) (fun c_5 => ?_)
  refine g_aload_n (nx := 9) 0 F dX12_told_8 rfl rfl rfl ?_
  refine g_iload_n (nx := 10) 2 F dX12_told_9 rfl rfl rfl ?_
  refine g_callV (nx := 13) 1 1 [.int (nI J)] F dX12_told_10 rfl ml_RX12_356 mo_X12_isWaiting rfl rfl rfl rfl (Nat.le_of_ble_eq_true rfl) (by first | decide | omega) (k_isWaiting s n (nI J) _ hth.2.2.1 hn he.2.2.2.2.2.2.1) (fun r_10 τ_10 q_10 => ?_)
  obtain ⟨rfl, et_10⟩ := q_10
  have et_10 := et_10.symm
  subst et_10
  dsimp only [Option.toList, List.append, List.cons_append, List.nil_append]
  rw [show σ 156 = P 0 from hr.2.2.2.2.2 0 (by decide)]
  refine g_if_eq (nx := 16) 37 F dX12_told_13 rfl (by decide) (fun c_13 => absurd c_13 (by exact bI_n0.mpr hA1)) (fun c_13 => ?_)
  refine g_iload_n (nx := 17) 3 F dX12_told_16 rfl rfl rfl ?_
  refine g_iconst (nx := 18) (0) F dX12_told_17 rfl rfl ?_
  refine g_sipush (nx := 21) (10000) F dX12_told_18 rfl (by decide) ?_
  refine g_callS (nx := 24) 3 0 [.int x, .int 0, .int 10000] F dX12_told_21 rfl ml_RX12_174 mo_X12_in rfl rfl (Nat.le_of_ble_eq_true rfl) (by first | decide | omega) (k_in x 0 10000 _) (fun r_21 τ_21 q_21 => ?_)
  obtain ⟨rfl, et_21⟩ := q_21
  have et_21 := et_21.symm
  subst et_21
  dsimp only [Option.toList, List.append, List.cons_append, List.nil_append]
  refine g_if_eq (nx := 27) 37 F dX12_told_24 rfl (by decide) (fun c_24 => absurd c_24 (by exact bI_n0.mpr (by unfold isin at hA2; simp only [Int32.reduceToInt, Int32.toInt_zero]; omega))) (fun c_24 => ?_)
  refine g_iload (nx := 29) F dX12_told_27 rfl rfl ?_
  refine g_iconst (nx := 30) (0) F dX12_told_29 rfl rfl ?_
  refine g_iconst (nx := 31) (2) F dX12_told_30 rfl rfl ?_
  refine g_callS (nx := 34) 3 0 [.int w, .int 0, .int 2] F dX12_told_31 rfl ml_RX12_174 mo_X12_in rfl rfl (Nat.le_of_ble_eq_true rfl) (by first | decide | omega) (k_in w 0 2 _) (fun r_31 τ_31 q_31 => ?_)
  obtain ⟨rfl, et_31⟩ := q_31
  have et_31 := et_31.symm
  subst et_31
  dsimp only [Option.toList, List.append, List.cons_append, List.nil_append]
  refine g_if_ne (nx := 37) 39 F dX12_told_34 rfl (by decide) (fun c_34 => ?_) (fun c_34 => absurd c_34 (by exact bI_n0.mpr (by unfold isin at hA3; simp only [Int32.reduceToInt, Int32.toInt_zero]; omega)))
  refine g_aload_n (nx := 40) 0 F dX12_told_39 rfl rfl rfl ?_
  refine g_iload_n (nx := 41) 1 F dX12_told_40 rfl rfl rfl ?_
  refine g_iload_n (nx := 42) 2 F dX12_told_41 rfl rfl rfl ?_
  refine g_iload_n (nx := 43) 3 F dX12_told_42 rfl rfl rfl ?_
  refine g_callV (nx := 46) 3 1 [.int (nI I), .int (nI J), .int x] F dX12_told_43 rfl ml_RX12_311 mo_X12_feels rfl rfl rfl rfl (Nat.le_of_ble_eq_true rfl) (by first | decide | omega) (k_feels I J a n n x y _ (by omega) (by omega) ((congrFun (hr.2.2.2.2.2 0 (by decide)) J).trans hPa) hth) (fun r_43 τ_43 q_43 => ?_)
  obtain ⟨rfl, g_4, et_4, hg_4⟩ := q_43
  subst et_4
  dsimp only [Option.toList, List.append, List.cons_append, List.nil_append]
  refine g_aload_n (nx := 47) 0 F dX12_told_46 rfl rfl rfl ?_
  refine g_bipush (nx := 49) (10) F dX12_told_47 rfl (by decide) ?_
  refine g_iload (nx := 51) F dX12_told_49 rfl rfl ?_
  refine g_if_ne (nx := 54) 59 F dX12_told_51 rfl (by decide) (fun c_51 => ?_) (fun c_51 => ?_)
  · refine g_iload (nx := 61) F dX12_told_59 rfl rfl ?_
    refine g_iconst (nx := 62) (1) F dX12_told_61 rfl rfl ?_
    refine g_icmp_ne (nx := 65) 70 F dX12_told_62 rfl (by decide) (fun c_62 => ?_) (fun c_62 => ?_)
    · refine g_bipush (nx := 72) (98) F dX12_told_70 rfl (by decide) ?_
      refine g_sipush (nx := 75) (10000) F dX12_told_72 rfl (by decide) ?_
      refine g_callV (nx := 78) 3 2 [.int (nI 10), .int (nI 98), .int 10000] F dX12_told_75 rfl ml_RX12_315 mo_X12_byText rfl rfl rfl rfl (Nat.le_of_ble_eq_true rfl) (by first | decide | omega) (k_byTextT 10 98 (T 10) 10000 _ (by omega) (he.2.2.2.2.2.2.2.2.2.2 10 (by omega)) (txK_congr (fun b b1 b2 => zs_ne _ (by omega) _) (he.2.2.2.2.2.2.2.2.2.1 10 (by omega))) (by decide)) (fun r_75 τ_75 q_75 => ?_)
      obtain ⟨⟨g_75, et_75⟩, rfl⟩ := q_75
      subst et_75
      dsimp only [Option.toList, List.append, List.cons_append, List.nil_append]
      refine g_iret F E dX12_told_78 ?_
      refine Or.inl ⟨⟨hA0, hA1, hA2, hA3⟩, ?_, KR_free hr (fun b b1 b2 b3 => by rw [zs_ne _ b2, zs_ne _ b3]) (fun k k1 k2 => by rw [zs_ne _ (by decide), zs_ne _ (by decide)])⟩
      rw [eJ, nI_tn (by omega), show hdW w = 98 by unfold hdW; first | rw [if_pos c_51] | rw [if_neg c_51, if_pos c_62] | rw [if_neg c_51, if_neg c_62]]
      exact congrArg (fun z => some (Value.int z)) (pkF_congr (he.2.2.2.2.2.2.2.2.2.2 10 (by omega)).1 (fun k hk => (hg_4 k hk).trans (congrFun (fcK he hr hth ho hPa) k)))
    · refine g_bipush (nx := 67) (107) F dX12_told_65 rfl (by decide) ?_
      refine g_goto 72 F dX12_told_67 (by decide) ?_
      refine g_sipush (nx := 75) (10000) F dX12_told_72 rfl (by decide) ?_
      refine g_callV (nx := 78) 3 2 [.int (nI 10), .int (nI 107), .int 10000] F dX12_told_75 rfl ml_RX12_315 mo_X12_byText rfl rfl rfl rfl (Nat.le_of_ble_eq_true rfl) (by first | decide | omega) (k_byTextT 10 107 (T 10) 10000 _ (by omega) (he.2.2.2.2.2.2.2.2.2.2 10 (by omega)) (txK_congr (fun b b1 b2 => zs_ne _ (by omega) _) (he.2.2.2.2.2.2.2.2.2.1 10 (by omega))) (by decide)) (fun r_75 τ_75 q_75 => ?_)
      obtain ⟨⟨g_75, et_75⟩, rfl⟩ := q_75
      subst et_75
      dsimp only [Option.toList, List.append, List.cons_append, List.nil_append]
      refine g_iret F E dX12_told_78 ?_
      refine Or.inl ⟨⟨hA0, hA1, hA2, hA3⟩, ?_, KR_free hr (fun b b1 b2 b3 => by rw [zs_ne _ b2, zs_ne _ b3]) (fun k k1 k2 => by rw [zs_ne _ (by decide), zs_ne _ (by decide)])⟩
      rw [eJ, nI_tn (by omega), show hdW w = 107 by unfold hdW; first | rw [if_pos c_51] | rw [if_neg c_51, if_pos c_62] | rw [if_neg c_51, if_neg c_62]]
      exact congrArg (fun z => some (Value.int z)) (pkF_congr (he.2.2.2.2.2.2.2.2.2.2 10 (by omega)).1 (fun k hk => (hg_4 k hk).trans (congrFun (fcK he hr hth ho hPa) k)))
  · refine g_bipush (nx := 56) (103) F dX12_told_54 rfl (by decide) ?_
    refine g_goto 72 F dX12_told_56 (by decide) ?_
    refine g_sipush (nx := 75) (10000) F dX12_told_72 rfl (by decide) ?_
    refine g_callV (nx := 78) 3 2 [.int (nI 10), .int (nI 103), .int 10000] F dX12_told_75 rfl ml_RX12_315 mo_X12_byText rfl rfl rfl rfl (Nat.le_of_ble_eq_true rfl) (by first | decide | omega) (k_byTextT 10 103 (T 10) 10000 _ (by omega) (he.2.2.2.2.2.2.2.2.2.2 10 (by omega)) (txK_congr (fun b b1 b2 => zs_ne _ (by omega) _) (he.2.2.2.2.2.2.2.2.2.1 10 (by omega))) (by decide)) (fun r_75 τ_75 q_75 => ?_)
    obtain ⟨⟨g_75, et_75⟩, rfl⟩ := q_75
    subst et_75
    dsimp only [Option.toList, List.append, List.cons_append, List.nil_append]
    refine g_iret F E dX12_told_78 ?_
    refine Or.inl ⟨⟨hA0, hA1, hA2, hA3⟩, ?_, KR_free hr (fun b b1 b2 b3 => by rw [zs_ne _ b2, zs_ne _ b3]) (fun k k1 k2 => by rw [zs_ne _ (by decide), zs_ne _ (by decide)])⟩
    rw [eJ, nI_tn (by omega), show hdW w = 103 by unfold hdW; first | rw [if_pos c_51] | rw [if_neg c_51, if_pos c_62] | rw [if_neg c_51, if_neg c_62]]
    exact congrArg (fun z => some (Value.int z)) (pkF_congr (he.2.2.2.2.2.2.2.2.2.2 10 (by omega)).1 (fun k hk => (hg_4 k hk).trans (congrFun (fcK he hr hth ho hPa) k)))
