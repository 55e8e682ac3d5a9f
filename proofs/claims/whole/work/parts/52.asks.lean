theorem zu8 (P : zSt) (a b : Int32) : zu (zu P 8 1 a) 8 2 b = zu (zu P 8 2 b) 8 1 a := by
  funext c
  unfold zu
  by_cases h : c = 8
  · rw [if_pos h, if_pos h, if_pos rfl, if_pos rfl, fa_upd_swap _ (by decide)]
  · rw [if_neg h, if_neg h, if_neg h, if_neg h]
set_option maxHeartbeats 4000000 in
set_option maxRecDepth 100000 in
theorem c_month (T : Nat → TXT) (D P : zSt) (n s mm e y : Nat) (o : Int32) (σ : zSt) (he : EnvC σ D T s) (hr : RC 17 n s σ σ P) (hy : σ 17 12 = nI y) (ho : σ 17 14 = o) (hn0 : σ 17 8 = nI n) (hn : n ≤ 40) (hD : okD D s e) (hok : okP s n mm 0 P) (hy2 : y ≤ 239) : Con mX11_month 7 [.ref 0] σ (fun r τ => (y < 239 ∧ ∃ τ1, RC 17 n s σ τ1 (monP T D s n o (nI y) n 0 (zu (zu P 8 1 0) 8 2 0)) ∧ τ = zu (zu τ1 17 14 (nI (bcN ((monP T D s n o (nI y) n 0 (zu (zu P 8 1 0) 8 2 0)) 8 1).toInt.toNat))) 17 12 (nI (y + 1)) ∧ r = some (.int ((monP T D s n o (nI y) n 0 (zu (zu P 8 1 0) 8 2 0)) 8 2))) ∨ (¬ y < 239 ∧ r = some (.int (-1)) ∧ τ = σ)) := by
  refine Con.of (lv := [.ref 0]) mk_X11_month rfl (Nat.le_of_ble_eq_true rfl) rfl (fun X F E => ?_)
  by_cases hA : y < 239
  · refine g_aload_n (nx := 1) 0 F dX11_month_0 rfl rfl rfl ?_
    refine g_getR (nx := 4) F dX11_month_1 rfl fl_RX11_44 rfl (by decide) (by decide) rfl ?_
    refine g_getV (nx := 7) (nI y) F dX11_month_4 rfl fl_RX11_108 rfl (by decide) (by decide) rfl rfl (hy) ?_
    refine g_sipush (nx := 10) (239) F dX11_month_7 rfl (by decide) ?_
    refine g_icmp_lt (nx := 13) 15 F dX11_month_10 rfl (by decide) (fun c_10 => ?_) (fun c_10 => absurd c_10 (by exact fun zq => zq (nI_lt (a := y) (b := 239) (by omega) (by omega))))
    refine g_aload_n (nx := 16) 0 F dX11_month_15 rfl rfl rfl ?_
    refine g_getR (nx := 19) F dX11_month_16 rfl fl_RX11_44 rfl (by decide) (by decide) rfl ?_
    refine g_callV (nx := 22) 0 6 [] F dX11_month_19 rfl ml_RX11_162 mo_X6_goBy rfl rfl rfl rfl (Nat.le_of_ble_eq_true rfl) (by first | decide | omega) (c_goBy_17 T D P σ n s mm e o (nI y) σ he hr hy ho hn0 hn hD ⟨hok.1, hok.2.1, 0, by decide, rfl⟩) (fun r_19 τ_19 q_19 => ?_)
    obtain ⟨τ1, h1, h2, rfl⟩ := q_19
    dsimp only [Option.toList, List.append, List.cons_append, List.nil_append]
    refine g_iret F E dX11_month_22 ?_
    exact Or.inl ⟨hA, τ1, h1, by rw [h2, nI_1], rfl⟩
  · refine g_aload_n (nx := 1) 0 F dX11_month_0 rfl rfl rfl ?_
    refine g_getR (nx := 4) F dX11_month_1 rfl fl_RX11_44 rfl (by decide) (by decide) rfl ?_
    refine g_getV (nx := 7) (nI y) F dX11_month_4 rfl fl_RX11_108 rfl (by decide) (by decide) rfl rfl (hy) ?_
    refine g_sipush (nx := 10) (239) F dX11_month_7 rfl (by decide) ?_
    refine g_icmp_lt (nx := 13) 15 F dX11_month_10 rfl (by decide) (fun c_10 => absurd c_10 (by exact nI_nlt (a := y) (b := 239) (by omega) (by omega))) (fun c_10 => ?_)
    refine g_iconst (nx := 14) (-1) F dX11_month_13 rfl rfl ?_
    refine g_iret F E dX11_month_14 ?_
    exact Or.inr ⟨hA, rfl, rfl⟩
set_option maxHeartbeats 4000000 in
set_option maxRecDepth 100000 in
theorem k_month (T : Nat → TXT) (D P : zSt) (n s mm e y : Nat) (o : Int32) (σ : zSt) (he : EnvK σ D T s e) (hr : KR σ σ P) (hth : thK σ n n (nI y)) (ho : σ 145 6 = o) (hD : okD D s e) (hok : okP s n mm 0 P) (hmm : mm ≤ 900) (hokf : okF D n) (hy2 : y ≤ 239) : Con mX12_month 6 [.ref 145] σ (fun r τ => (y < 239 ∧ ∃ τ1, KR σ τ1 (monP T D s n o (nI y) n 0 (zu (zu P 8 2 0) 8 1 0)) ∧ τ = zu (zu τ1 145 6 (nI (bcN ((monP T D s n o (nI y) n 0 (zu (zu P 8 2 0) 8 1 0)) 8 1).toInt.toNat))) 145 0 (nI (y + 1)) ∧ r = some (.int ((monP T D s n o (nI y) n 0 (zu (zu P 8 2 0) 8 1 0)) 8 2))) ∨ (¬ y < 239 ∧ r = some (.int (-1)) ∧ τ = σ)) := by
  refine Con.of (lv := [.ref 145]) mk_X12_month rfl (Nat.le_of_ble_eq_true rfl) rfl (fun X F E => ?_)
  by_cases hA : y < 239
  · refine g_aload_n (nx := 1) 0 F dX12_month_0 rfl rfl rfl ?_
    refine g_getV (nx := 4) (nI y) F dX12_month_1 rfl fl_RX12_183 rfl (by decide) (by decide) rfl rfl (hth.2.2.2.1) ?_
    refine g_sipush (nx := 7) (239) F dX12_month_4 rfl (by decide) ?_
    refine g_icmp_ne (nx := 10) 12 F dX12_month_7 rfl (by decide) (fun c_7 => ?_) (fun c_7 => absurd c_7 (by exact fun zq => absurd ((nI_eq (a := y) (b := 239) (by omega) (by omega)).mp zq) (by omega)))
    refine g_aload_n (nx := 13) 0 F dX12_month_12 rfl rfl rfl ?_
    refine g_callV (nx := 16) 0 5 [] F dX12_month_13 rfl ml_RX12_349 mo_X12_passes rfl rfl rfl rfl (Nat.le_of_ble_eq_true rfl) (by first | decide | omega) (k_passes T D P σ n n s mm e o (nI y) σ he hr hth ho hD ⟨hok.1, hok.2.1, 0, by decide, rfl⟩ hmm hokf) (fun r_13 τ_13 q_13 => ?_)
    obtain ⟨τ1, h1, h2, rfl⟩ := q_13
    dsimp only [Option.toList, List.append, List.cons_append, List.nil_append]
    subst h2
    refine g_aload_n (nx := 17) 0 F dX12_month_16 rfl rfl rfl ?_
    refine g_getV (nx := 20) (monP T D s n o (nI y) n 0 (zu (zu P 8 2 0) 8 1 0) 8 2) F dX12_month_17 rfl fl_RX12_334 rfl (by decide) (by decide) rfl rfl (h1.2.2.2.2.1) ?_
    refine g_iret F E dX12_month_20 ?_
    exact Or.inl ⟨hA, τ1, h1, by rw [nI_1], rfl⟩
  · refine g_aload_n (nx := 1) 0 F dX12_month_0 rfl rfl rfl ?_
    refine g_getV (nx := 4) (nI y) F dX12_month_1 rfl fl_RX12_183 rfl (by decide) (by decide) rfl rfl (hth.2.2.2.1) ?_
    refine g_sipush (nx := 7) (239) F dX12_month_4 rfl (by decide) ?_
    refine g_icmp_ne (nx := 10) 12 F dX12_month_7 rfl (by decide) (fun c_7 => absurd c_7 (by exact fun zq => zq ((nI_eq (a := y) (b := 239) (by omega) (by omega)).mpr (by omega)))) (fun c_7 => ?_)
    refine g_iconst (nx := 11) (-1) F dX12_month_10 rfl rfl ?_
    refine g_iret F E dX12_month_11 ?_
    exact Or.inr ⟨hA, rfl, rfl⟩
def asC (D P : zSt) (s e n : Nat) (i j w : Int32) : Prop := (0 ≤ i.toInt ∧ i.toInt < e) ∧ (0 ≤ j.toInt ∧ j.toInt < n ∧ P 0 j.toInt.toNat < nI s) ∧ isin w 1 ∧ ¬ (D 2 (stN P j.toInt.toNat) >>> (i &&& 31)) &&& 1 = 0
def tdC (P : zSt) (s e n : Nat) (i j x w : Int32) : Prop := (0 ≤ i.toInt ∧ i.toInt < e) ∧ (0 ≤ j.toInt ∧ j.toInt < n ∧ P 0 j.toInt.toNat < nI s) ∧ isin x 10000 ∧ isin w 2
theorem nI_ofr {i : Int32} {e : Nat} (h : 0 ≤ i.toInt ∧ i.toInt < e) : ∃ I : Nat, I < e ∧ i = nI I := ⟨i.toInt.toNat, by omega, by rw [fa_eq, nI_toInt (by have := i.toInt_lt; omega)]; omega⟩
set_option maxHeartbeats 4000000 in
set_option maxRecDepth 100000 in
theorem c_asks (T : Nat → TXT) (D P : zSt) (n s mm e : Nat) (o y i j w : Int32) (σ : zSt) (he : EnvC σ D T s) (hr : RC 17 n s σ σ P) (hy : σ 17 12 = y) (ho : σ 17 14 = o) (hn0 : σ 17 8 = nI n) (hn : n ≤ 40) (hok : okP s n mm 0 P) (hc : σ 3 3 = nI e) (he10 : e ≤ 10) : Con mX11_asks 4 [.ref 0, .int i, .int j, .int w] σ (fun r τ => (asC D P s e n i j w ∧ r = some (.int (if w = 0 then prP T D P n o y i.toInt.toNat j.toInt.toNat else wtP T D P n o y i.toInt.toNat j.toInt.toNat)) ∧ RC 17 n s σ τ P) ∨ (¬ asC D P s e n i j w ∧ r = some (.int (-1)) ∧ τ = σ)) := by
  have hs8 := he.2.2.2.2.2.2.2.1
  refine Con.of (lv := [.ref 0, .int i, .int j, .int w]) mk_X11_asks rfl (Nat.le_of_ble_eq_true rfl) rfl (fun X F E => ?_)
  rcases (Classical.em (0 ≤ i.toInt ∧ i.toInt < e)).symm with hA0 | hA0
  · refine g_aload_n (nx := 1) 0 F dX11_asks_0 rfl rfl rfl ?_
    refine g_getR (nx := 4) F dX11_asks_1 rfl fl_RX11_19 rfl (by decide) (by decide) rfl ?_
    refine g_iload_n (nx := 5) 1 F dX11_asks_4 rfl rfl rfl ?_
    refine g_callV (nx := 8) 1 0 [.int i] F dX11_asks_5 rfl ml_RX11_125 mo_X2_isClerk rfl rfl rfl rfl (Nat.le_of_ble_eq_true rfl) (by first | decide | omega) (c_isClerk i _) (fun r_5 τ_5 q_5 => ?_)
    obtain ⟨rfl, et_5⟩ := q_5
    have et_5 := et_5.symm
    subst et_5
    dsimp only [Option.toList, List.append, List.cons_append, List.nil_append]
    rw [hc, nI_toInt (n := e) (by omega)]
    refine g_if_eq (nx := 11) 30 F dX11_asks_8 rfl (by decide) (fun c_8 => ?_) (fun c_8 => absurd c_8 (by exact fun zq => zq (bI_f hA0)))
    refine g_iconst (nx := 31) (-1) F dX11_asks_30 rfl rfl ?_
    refine g_iret F E dX11_asks_31 ?_
    exact Or.inr ⟨fun z => hA0 z.1, rfl, rfl⟩
  rcases (Classical.em (0 ≤ j.toInt ∧ j.toInt < n ∧ P 0 j.toInt.toNat < nI s)).symm with hA1 | hA1
  · refine g_aload_n (nx := 1) 0 F dX11_asks_0 rfl rfl rfl ?_
    refine g_getR (nx := 4) F dX11_asks_1 rfl fl_RX11_19 rfl (by decide) (by decide) rfl ?_
    refine g_iload_n (nx := 5) 1 F dX11_asks_4 rfl rfl rfl ?_
    refine g_callV (nx := 8) 1 0 [.int i] F dX11_asks_5 rfl ml_RX11_125 mo_X2_isClerk rfl rfl rfl rfl (Nat.le_of_ble_eq_true rfl) (by first | decide | omega) (c_isClerk i _) (fun r_5 τ_5 q_5 => ?_)
    obtain ⟨rfl, et_5⟩ := q_5
    have et_5 := et_5.symm
    subst et_5
    dsimp only [Option.toList, List.append, List.cons_append, List.nil_append]
    rw [hc, nI_toInt (n := e) (by omega)]
    refine g_if_eq (nx := 11) 30 F dX11_asks_8 rfl (by decide) (fun c_8 => absurd c_8 (by exact bI_n0.mpr hA0)) (fun c_8 => ?_)
    refine g_aload_n (nx := 12) 0 F dX11_asks_11 rfl rfl rfl ?_
    refine g_getR (nx := 15) F dX11_asks_12 rfl fl_RX11_44 rfl (by decide) (by decide) rfl ?_
    refine g_iload_n (nx := 16) 2 F dX11_asks_15 rfl rfl rfl ?_
    refine g_callV (nx := 19) 1 0 [.int j] F dX11_asks_16 rfl ml_RX11_204 mo_X6_isUnderWay rfl rfl rfl rfl (Nat.le_of_ble_eq_true rfl) (by first | decide | omega) (c_isUnderWay_17 n j _ hn0 hn) (fun r_16 τ_16 q_16 => ?_)
    obtain ⟨rfl, et_16⟩ := q_16
    have et_16 := et_16.symm
    subst et_16
    dsimp only [Option.toList, List.append, List.cons_append, List.nil_append]
    rw [show σ 18 = P 0 from hr.2.2.2.2.1 0 (by decide), he.2.2.2.2.2.2.1]
    refine g_if_eq (nx := 22) 30 F dX11_asks_19 rfl (by decide) (fun c_19 => ?_) (fun c_19 => absurd c_19 (by exact fun zq => zq (bI_f hA1)))
    refine g_iconst (nx := 31) (-1) F dX11_asks_30 rfl rfl ?_
    refine g_iret F E dX11_asks_31 ?_
    exact Or.inr ⟨fun z => hA1 z.2.1, rfl, rfl⟩
  obtain ⟨J, hJ, rfl⟩ := nI_ofr ⟨hA1.1, hA1.2.1⟩
  have eJ : (nI J).toInt.toNat = J := nI_tn (by omega)
  obtain ⟨I, hI, rfl⟩ := nI_ofr hA0
  have hA1' := hA1.2.2
  rw [eJ] at hA1'
  obtain ⟨⟨a, ha, hPa⟩, _⟩ := hok.1 J hJ
  rw [hPa, nI_ltI (by omega) (by omega)] at hA1'
  have hst : stN P J = a := by unfold stN; rw [hPa, nI_tn (by omega)]
  rcases (Classical.em (isin w 1)).symm with hA2 | hA2
  · refine g_aload_n (nx := 1) 0 F dX11_asks_0 rfl rfl rfl ?_
    refine g_getR (nx := 4) F dX11_asks_1 rfl fl_RX11_19 rfl (by decide) (by decide) rfl ?_
    refine g_iload_n (nx := 5) 1 F dX11_asks_4 rfl rfl rfl ?_
    refine g_callV (nx := 8) 1 0 [.int (nI I)] F dX11_asks_5 rfl ml_RX11_125 mo_X2_isClerk rfl rfl rfl rfl (Nat.le_of_ble_eq_true rfl) (by first | decide | omega) (c_isClerk (nI I) _) (fun r_5 τ_5 q_5 => ?_)
    obtain ⟨rfl, et_5⟩ := q_5
    have et_5 := et_5.symm
    subst et_5
    dsimp only [Option.toList, List.append, List.cons_append, List.nil_append]
    rw [hc, nI_toInt (n := e) (by omega)]
    refine g_if_eq (nx := 11) 30 F dX11_asks_8 rfl (by decide) (fun c_8 => absurd c_8 (by exact bI_n0.mpr hA0)) (fun c_8 => ?_)
    refine g_aload_n (nx := 12) 0 F dX11_asks_11 rfl rfl rfl ?_
    refine g_getR (nx := 15) F dX11_asks_12 rfl fl_RX11_44 rfl (by decide) (by decide) rfl ?_
    refine g_iload_n (nx := 16) 2 F dX11_asks_15 rfl rfl rfl ?_
    refine g_callV (nx := 19) 1 0 [.int (nI J)] F dX11_asks_16 rfl ml_RX11_204 mo_X6_isUnderWay rfl rfl rfl rfl (Nat.le_of_ble_eq_true rfl) (by first | decide | omega) (c_isUnderWay_17 n (nI J) _ hn0 hn) (fun r_16 τ_16 q_16 => ?_)
    obtain ⟨rfl, et_16⟩ := q_16
    have et_16 := et_16.symm
    subst et_16
    dsimp only [Option.toList, List.append, List.cons_append, List.nil_append]
    rw [show σ 18 = P 0 from hr.2.2.2.2.1 0 (by decide), he.2.2.2.2.2.2.1]
    refine g_if_eq (nx := 22) 30 F dX11_asks_19 rfl (by decide) (fun c_19 => absurd c_19 (by exact bI_n0.mpr hA1)) (fun c_19 => ?_)
    refine g_iload_n (nx := 23) 3 F dX11_asks_22 rfl rfl rfl ?_
    refine g_iconst (nx := 24) (1) F dX11_asks_23 rfl rfl ?_
    refine g_callS (nx := 27) 2 0 [.int w, .int 1] F dX11_asks_24 rfl ml_RX11_79 mo_X11_isOutside rfl rfl (Nat.le_of_ble_eq_true rfl) (by first | decide | omega) (c_isOutside w 1 _) (fun r_24 τ_24 q_24 => ?_)
    obtain ⟨rfl, et_24⟩ := q_24
    have et_24 := et_24.symm
    subst et_24
    dsimp only [Option.toList, List.append, List.cons_append, List.nil_append]
    refine g_if_eq (nx := 30) 32 F dX11_asks_27 rfl (by decide) (fun c_27 => absurd c_27 (by exact bI_n0.mpr (by unfold isin at hA2; simp only [Int32.reduceToInt]; omega))) (fun c_27 => ?_)
    refine g_iconst (nx := 31) (-1) F dX11_asks_30 rfl rfl ?_
    refine g_iret F E dX11_asks_31 ?_
    exact Or.inr ⟨fun z => hA2 z.2.2.1, rfl, rfl⟩
  rcases (Classical.em (¬ (D 2 (stN P (nI J).toInt.toNat) >>> (nI I &&& 31)) &&& 1 = 0)).symm with hA3 | hA3
  · refine g_aload_n (nx := 1) 0 F dX11_asks_0 rfl rfl rfl ?_
    refine g_getR (nx := 4) F dX11_asks_1 rfl fl_RX11_19 rfl (by decide) (by decide) rfl ?_
    refine g_iload_n (nx := 5) 1 F dX11_asks_4 rfl rfl rfl ?_
    refine g_callV (nx := 8) 1 0 [.int (nI I)] F dX11_asks_5 rfl ml_RX11_125 mo_X2_isClerk rfl rfl rfl rfl (Nat.le_of_ble_eq_true rfl) (by first | decide | omega) (c_isClerk (nI I) _) (fun r_5 τ_5 q_5 => ?_)
    obtain ⟨rfl, et_5⟩ := q_5
    have et_5 := et_5.symm
    subst et_5
    dsimp only [Option.toList, List.append, List.cons_append, List.nil_append]
    rw [hc, nI_toInt (n := e) (by omega)]
    refine g_if_eq (nx := 11) 30 F dX11_asks_8 rfl (by decide) (fun c_8 => absurd c_8 (by exact bI_n0.mpr hA0)) (fun c_8 => ?_)
    refine g_aload_n (nx := 12) 0 F dX11_asks_11 rfl rfl rfl ?_
    refine g_getR (nx := 15) F dX11_asks_12 rfl fl_RX11_44 rfl (by decide) (by decide) rfl ?_
    refine g_iload_n (nx := 16) 2 F dX11_asks_15 rfl rfl rfl ?_
    refine g_callV (nx := 19) 1 0 [.int (nI J)] F dX11_asks_16 rfl ml_RX11_204 mo_X6_isUnderWay rfl rfl rfl rfl (Nat.le_of_ble_eq_true rfl) (by first | decide | omega) (c_isUnderWay_17 n (nI J) _ hn0 hn) (fun r_16 τ_16 q_16 => ?_)
    obtain ⟨rfl, et_16⟩ := q_16
    have et_16 := et_16.symm
    subst et_16
    dsimp only [Option.toList, List.append, List.cons_append, List.nil_append]
    rw [show σ 18 = P 0 from hr.2.2.2.2.1 0 (by decide), he.2.2.2.2.2.2.1]
    refine g_if_eq (nx := 22) 30 F dX11_asks_19 rfl (by decide) (fun c_19 => absurd c_19 (by exact bI_n0.mpr hA1)) (fun c_19 => ?_)
    refine g_iload_n (nx := 23) 3 F dX11_asks_22 rfl rfl rfl ?_
    refine g_iconst (nx := 24) (1) F dX11_asks_23 rfl rfl ?_
    refine g_callS (nx := 27) 2 0 [.int w, .int 1] F dX11_asks_24 rfl ml_RX11_79 mo_X11_isOutside rfl rfl (Nat.le_of_ble_eq_true rfl) (by first | decide | omega) (c_isOutside w 1 _) (fun r_24 τ_24 q_24 => ?_)
    obtain ⟨rfl, et_24⟩ := q_24
    have et_24 := et_24.symm
    subst et_24
    dsimp only [Option.toList, List.append, List.cons_append, List.nil_append]
    refine g_if_eq (nx := 30) 32 F dX11_asks_27 rfl (by decide) (fun c_27 => ?_) (fun c_27 => absurd c_27 (by exact fun zq => zq (bI_f (by unfold isin at hA2; simp only [Int32.reduceToInt]; omega))))
    refine g_aload_n (nx := 33) 0 F dX11_asks_32 rfl rfl rfl ?_
    refine g_getR (nx := 36) F dX11_asks_33 rfl fl_RX11_19 rfl (by decide) (by decide) rfl ?_
    refine g_getR (nx := 39) F dX11_asks_36 rfl fl_RX11_207 rfl (by decide) (by decide) rfl ?_
    refine g_aload_n (nx := 40) 0 F dX11_asks_39 rfl rfl rfl ?_
    refine g_getR (nx := 43) F dX11_asks_40 rfl fl_RX11_44 rfl (by decide) (by decide) rfl ?_
    refine g_getR (nx := 46) F dX11_asks_43 rfl fl_RX11_169 rfl (by decide) (by decide) rfl ?_
    refine g_iload_n (nx := 47) 2 F dX11_asks_46 rfl rfl rfl ?_
    refine g_ialdN (nx := 48) (J) (nI a) F dX11_asks_47 rfl rfl (by omega) ((congrFun (hr.2.2.2.2.1 0 (by decide)) J).trans hPa) ?_
    refine g_ialdN (nx := 49) (a) (D 2 a) F dX11_asks_48 rfl rfl (by omega) (congrFun he.2.2.1 a) ?_
    refine g_iload_n (nx := 50) 1 F dX11_asks_49 rfl rfl rfl ?_
    refine g_ishr (nx := 51) F dX11_asks_50 rfl ?_
    refine g_iconst (nx := 52) (1) F dX11_asks_51 rfl rfl ?_
    refine g_iand (nx := 53) F dX11_asks_52 rfl ?_
    refine g_if_ne (nx := 56) 58 F dX11_asks_53 rfl (by decide) (fun c_53 => absurd c_53 (by exact fun zq => zq (by have := Classical.byContradiction hA3; rw [eJ, hst] at this; exact this))) (fun c_53 => ?_)
    refine g_iconst (nx := 57) (-1) F dX11_asks_56 rfl rfl ?_
    refine g_iret F E dX11_asks_57 ?_
    exact Or.inr ⟨fun z => hA3 z.2.2.2, rfl, rfl⟩
  refine g_aload_n (nx := 1) 0 F dX11_asks_0 rfl rfl rfl ?_
  refine g_getR (nx := 4) F dX11_asks_1 rfl fl_RX11_19 rfl (by decide) (by decide) rfl ?_
  refine g_iload_n (nx := 5) 1 F dX11_asks_4 rfl rfl rfl ?_
  refine g_callV (nx := 8) 1 0 [.int (nI I)] F dX11_asks_5 rfl ml_RX11_125 mo_X2_isClerk rfl rfl rfl rfl (Nat.le_of_ble_eq_true rfl) (by first | decide | omega) (c_isClerk (nI I) _) (fun r_5 τ_5 q_5 => ?_)
  obtain ⟨rfl, et_5⟩ := q_5
  have et_5 := et_5.symm
  subst et_5
  dsimp only [Option.toList, List.append, List.cons_append, List.nil_append]
  rw [hc, nI_toInt (n := e) (by omega)]
  refine g_if_eq (nx := 11) 30 F dX11_asks_8 rfl (by decide) (fun c_8 => absurd c_8 (by exact bI_n0.mpr hA0)) (fun c_8 => ?_)
  refine g_aload_n (nx := 12) 0 F dX11_asks_11 rfl rfl rfl ?_
  refine g_getR (nx := 15) F dX11_asks_12 rfl fl_RX11_44 rfl (by decide) (by decide) rfl ?_
  refine g_iload_n (nx := 16) 2 F dX11_asks_15 rfl rfl rfl ?_
  refine g_callV (nx := 19) 1 0 [.int (nI J)] F dX11_asks_16 rfl ml_RX11_204 mo_X6_isUnderWay rfl rfl rfl rfl (Nat.le_of_ble_eq_true rfl) (by first | decide | omega) (c_isUnderWay_17 n (nI J) _ hn0 hn) (fun r_16 τ_16 q_16 => ?_)
  obtain ⟨rfl, et_16⟩ := q_16
  have et_16 := et_16.symm
  subst et_16
  dsimp only [Option.toList, List.append, List.cons_append, List.nil_append]
  rw [show σ 18 = P 0 from hr.2.2.2.2.1 0 (by decide), he.2.2.2.2.2.2.1]
  refine g_if_eq (nx := 22) 30 F dX11_asks_19 rfl (by decide) (fun c_19 => absurd c_19 (by exact bI_n0.mpr hA1)) (fun c_19 => ?_)
  refine g_iload_n (nx := 23) 3 F dX11_asks_22 rfl rfl rfl ?_
  refine g_iconst (nx := 24) (1) F dX11_asks_23 rfl rfl ?_
  refine g_callS (nx := 27) 2 0 [.int w, .int 1] F dX11_asks_24 rfl ml_RX11_79 mo_X11_isOutside rfl rfl (Nat.le_of_ble_eq_true rfl) (by first | decide | omega) (c_isOutside w 1 _) (fun r_24 τ_24 q_24 => ?_)
  obtain ⟨rfl, et_24⟩ := q_24
  have et_24 := et_24.symm
  subst et_24
  dsimp only [Option.toList, List.append, List.cons_append, List.nil_append]
  refine g_if_eq (nx := 30) 32 F dX11_asks_27 rfl (by decide) (fun c_27 => ?_) (fun c_27 => absurd c_27 (by exact fun zq => zq (bI_f (by unfold isin at hA2; simp only [Int32.reduceToInt]; omega))))
  refine g_aload_n (nx := 33) 0 F dX11_asks_32 rfl rfl rfl ?_
  refine g_getR (nx := 36) F dX11_asks_33 rfl fl_RX11_19 rfl (by decide) (by decide) rfl ?_
  refine g_getR (nx := 39) F dX11_asks_36 rfl fl_RX11_207 rfl (by decide) (by decide) rfl ?_
  refine g_aload_n (nx := 40) 0 F dX11_asks_39 rfl rfl rfl ?_
  refine g_getR (nx := 43) F dX11_asks_40 rfl fl_RX11_44 rfl (by decide) (by decide) rfl ?_
  refine g_getR (nx := 46) F dX11_asks_43 rfl fl_RX11_169 rfl (by decide) (by decide) rfl ?_
  refine g_iload_n (nx := 47) 2 F dX11_asks_46 rfl rfl rfl ?_
  refine g_ialdN (nx := 48) (J) (nI a) F dX11_asks_47 rfl rfl (by omega) ((congrFun (hr.2.2.2.2.1 0 (by decide)) J).trans hPa) ?_
  refine g_ialdN (nx := 49) (a) (D 2 a) F dX11_asks_48 rfl rfl (by omega) (congrFun he.2.2.1 a) ?_
  refine g_iload_n (nx := 50) 1 F dX11_asks_49 rfl rfl rfl ?_
  refine g_ishr (nx := 51) F dX11_asks_50 rfl ?_
  refine g_iconst (nx := 52) (1) F dX11_asks_51 rfl rfl ?_
  refine g_iand (nx := 53) F dX11_asks_52 rfl ?_
  refine g_if_ne (nx := 56) 58 F dX11_asks_53 rfl (by decide) (fun c_53 => ?_) (fun c_53 => absurd c_53 (by exact fun zq => hA3 (by rw [eJ, hst]; exact zq)))
  refine g_aload_n (nx := 59) 0 F dX11_asks_58 rfl rfl rfl ?_
  refine g_getR (nx := 62) F dX11_asks_59 rfl fl_RX11_44 rfl (by decide) (by decide) rfl ?_
  refine g_iload_n (nx := 63) 1 F dX11_asks_62 rfl rfl rfl ?_
  refine g_iload_n (nx := 64) 2 F dX11_asks_63 rfl rfl rfl ?_
  refine g_callV (nx := 67) 2 3 [.int (nI I), .int (nI J)] F dX11_asks_64 rfl ml_RX11_210 mo_X6_meet rfl rfl rfl rfl (Nat.le_of_ble_eq_true rfl) (by first | decide | omega) (c_meet_17 T D P σ n s a o y I J σ he hr hy ho (by omega) hJ hn (by omega) hPa) (fun r_64 τ_64 q_64 => ?_)
  obtain ⟨rfl, hr3, hp3, hw3⟩ := q_64
  dsimp only [Option.toList, List.append, List.cons_append, List.nil_append]
  refine g_iload_n (nx := 68) 3 F dX11_asks_67 rfl rfl rfl ?_
  refine g_if_ne (nx := 71) 81 F dX11_asks_68 rfl (by decide) (fun c_68 => ?_) (fun c_68 => ?_)
  · refine g_aload_n (nx := 82) 0 F dX11_asks_81 rfl rfl rfl ?_
    refine g_getR (nx := 85) F dX11_asks_82 rfl fl_RX11_44 rfl (by decide) (by decide) rfl ?_
    refine g_getV (nx := 88) (wtP T D P n o y I J) F dX11_asks_85 rfl fl_RX11_217 rfl (by decide) (by decide) rfl rfl (hw3) ?_
    refine g_iret F E dX11_asks_88 ?_
    refine Or.inl ⟨⟨hA0, hA1, hA2, hA3⟩, ?_, hr3⟩
    rw [eJ, nI_tn (by omega)]
    first | rw [if_pos c_68] | rw [if_neg c_68]
  · refine g_aload_n (nx := 72) 0 F dX11_asks_71 rfl rfl rfl ?_
    refine g_getR (nx := 75) F dX11_asks_72 rfl fl_RX11_44 rfl (by decide) (by decide) rfl ?_
    refine g_getV (nx := 78) (prP T D P n o y I J) F dX11_asks_75 rfl fl_RX11_214 rfl (by decide) (by decide) rfl rfl (hp3) ?_
    refine g_goto 88 F dX11_asks_78 (by decide) ?_
    refine g_iret F E dX11_asks_88 ?_
    refine Or.inl ⟨⟨hA0, hA1, hA2, hA3⟩, ?_, hr3⟩
    rw [eJ, nI_tn (by omega)]
    first | rw [if_pos c_68] | rw [if_neg c_68]
set_option maxHeartbeats 4000000 in
set_option maxRecDepth 100000 in
theorem k_isWaiting (s n : Nat) (j : Int32) (σ : zSt) (hf : σ 145 3 = nI n) (hn : n ≤ 40) (hs : σ 145 2 = nI s) : Con mX12_isWaiting 1 [.ref 145, .int j] σ (fun r τ => r = some (.int (bI (0 ≤ j.toInt ∧ j.toInt < n ∧ σ 156 j.toInt.toNat < nI s))) ∧ τ = σ) := by
  refine Con.of (lv := [.ref 145, .int j]) mk_X12_isWaiting rfl (Nat.le_of_ble_eq_true rfl) rfl (fun X F E => ?_)
  by_cases hA : 0 ≤ j.toInt ∧ j.toInt < n
  · obtain ⟨J, hJ, rfl⟩ := nI_ofr hA
    have eJ : (nI J).toInt.toNat = J := nI_tn (by omega)
    refine g_aload_n (nx := 1) 0 F dX12_isWaiting_0 rfl rfl rfl ?_
    refine g_iload_n (nx := 2) 1 F dX12_isWaiting_1 rfl rfl rfl ?_
    refine g_callV (nx := 5) 1 0 [.int (nI J)] F dX12_isWaiting_2 rfl ml_RX12_352 mo_X12_isFile rfl rfl rfl rfl (Nat.le_of_ble_eq_true rfl) (by first | decide | omega) (k_isFile (nI J) _) (fun r_2 τ_2 q_2 => ?_)
    obtain ⟨rfl, et_2⟩ := q_2
    have et_2 := et_2.symm
    subst et_2
    dsimp only [Option.toList, List.append, List.cons_append, List.nil_append]
    rw [hf, nI_toInt (n := n) (by omega)]
    refine g_if_eq (nx := 8) 25 F dX12_isWaiting_5 rfl (by decide) (fun c_5 => absurd c_5 (by exact bI_n0.mpr hA)) (fun c_5 => ?_)
    refine g_aload_n (nx := 9) 0 F dX12_isWaiting_8 rfl rfl rfl ?_
    refine g_getR (nx := 12) F dX12_isWaiting_9 rfl fl_RX12_40 rfl (by decide) (by decide) rfl ?_
    refine g_iload_n (nx := 13) 1 F dX12_isWaiting_12 rfl rfl rfl ?_
    refine g_ialdN (nx := 14) (J) (_) F dX12_isWaiting_13 rfl rfl (by omega) (rfl) ?_
    refine g_aload_n (nx := 15) 0 F dX12_isWaiting_14 rfl rfl rfl ?_
    refine g_getV (nx := 18) (nI s) F dX12_isWaiting_15 rfl fl_RX12_168 rfl (by decide) (by decide) rfl rfl (hs) ?_
    refine g_icmp_ge (nx := 21) 25 F dX12_isWaiting_18 rfl (by decide) (fun c_18 => ?_) (fun c_18 => ?_)
    · refine g_iconst (nx := 26) (0) F dX12_isWaiting_25 rfl rfl ?_
      refine g_zret F E dX12_isWaiting_26 (by first | rfl | assumption) ?_
      refine ⟨congrArg (fun z => some (Value.int z)) (Eq.symm ?_), rfl⟩
      rw [eJ]
      first | exact bI_f (fun z => absurd c_18 (not_le_I.mpr z.2.2)) | exact bI_t ⟨hA.1, hA.2, not_le_I.mp c_18⟩
    · refine g_iconst (nx := 22) (1) F dX12_isWaiting_21 rfl rfl ?_
      refine g_goto 26 F dX12_isWaiting_22 (by decide) ?_
      refine g_zret F E dX12_isWaiting_26 (by first | rfl | assumption) ?_
      refine ⟨congrArg (fun z => some (Value.int z)) (Eq.symm ?_), rfl⟩
      rw [eJ]
      first | exact bI_f (fun z => absurd c_18 (not_le_I.mpr z.2.2)) | exact bI_t ⟨hA.1, hA.2, not_le_I.mp c_18⟩
  · refine g_aload_n (nx := 1) 0 F dX12_isWaiting_0 rfl rfl rfl ?_
    refine g_iload_n (nx := 2) 1 F dX12_isWaiting_1 rfl rfl rfl ?_
    refine g_callV (nx := 5) 1 0 [.int j] F dX12_isWaiting_2 rfl ml_RX12_352 mo_X12_isFile rfl rfl rfl rfl (Nat.le_of_ble_eq_true rfl) (by first | decide | omega) (k_isFile j _) (fun r_2 τ_2 q_2 => ?_)
    obtain ⟨rfl, et_2⟩ := q_2
    have et_2 := et_2.symm
    subst et_2
    dsimp only [Option.toList, List.append, List.cons_append, List.nil_append]
    rw [hf, nI_toInt (n := n) (by omega)]
    refine g_if_eq (nx := 8) 25 F dX12_isWaiting_5 rfl (by decide) (fun c_5 => ?_) (fun c_5 => absurd c_5 (by exact fun zq => zq (bI_f hA)))
    refine g_iconst (nx := 26) (0) F dX12_isWaiting_25 rfl rfl ?_
    refine g_zret F E dX12_isWaiting_26 (by first | rfl | assumption) ?_
    exact ⟨congrArg (fun z => some (Value.int z)) (bI_f (fun z => hA ⟨z.1, z.2.1⟩)).symm, rfl⟩
set_option maxHeartbeats 4000000 in
set_option maxRecDepth 100000 in
theorem k_asks (T : Nat → TXT) (D P : zSt) (n s mm e : Nat) (o y i j w : Int32) (σ : zSt) (he : EnvK σ D T s e) (hr : KR σ σ P) (hth : thK σ n n y) (ho : σ 145 6 = o) (hn : n ≤ 40) (hok : okP s n mm 0 P) (he10 : e ≤ 10) : Con mX12_asks 4 [.ref 145, .int i, .int j, .int w] σ (fun r τ => (asC D P s e n i j w ∧ r = some (.int (if w = 0 then prP T D P n o y i.toInt.toNat j.toInt.toNat else wtP T D P n o y i.toInt.toNat j.toInt.toNat)) ∧ KR σ τ P) ∨ (¬ asC D P s e n i j w ∧ r = some (.int (-1)) ∧ τ = σ)) := by
  have hs8 := he.2.2.2.2.2.2.2.1
  refine Con.of (lv := [.ref 145, .int i, .int j, .int w]) mk_X12_asks rfl (Nat.le_of_ble_eq_true rfl) rfl (fun X F E => ?_)
  rcases (Classical.em (0 ≤ i.toInt ∧ i.toInt < e)).symm with hA0 | hA0
  · refine g_aload_n (nx := 1) 0 F dX12_asks_0 rfl rfl rfl ?_
    refine g_iload_n (nx := 2) 1 F dX12_asks_1 rfl rfl rfl ?_
    refine g_callV (nx := 5) 1 0 [.int i] F dX12_asks_2 rfl ml_RX12_291 mo_X12_isClerk rfl rfl rfl rfl (Nat.le_of_ble_eq_true rfl) (by first | decide | omega) (k_isClerk i _) (fun r_2 τ_2 q_2 => ?_)
    obtain ⟨rfl, et_2⟩ := q_2
    have et_2 := et_2.symm
    subst et_2
    dsimp only [Option.toList, List.append, List.cons_append, List.nil_append]
    rw [he.2.2.2.2.2.2.2.2.1, nI_toInt (n := e) (by omega)]
    refine g_if_eq (nx := 8) 43 F dX12_asks_5 rfl (by decide) (fun c_5 => ?_) (fun c_5 => absurd c_5 (by exact fun zq => zq (bI_f hA0)))
    refine g_iconst (nx := 44) (-1) F dX12_asks_43 rfl rfl ?_
    refine g_iret F E dX12_asks_44 ?_
    exact Or.inr ⟨fun z => hA0 z.1, rfl, rfl⟩
  rcases (Classical.em (0 ≤ j.toInt ∧ j.toInt < n ∧ P 0 j.toInt.toNat < nI s)).symm with hA1 | hA1
  · refine g_aload_n (nx := 1) 0 F dX12_asks_0 rfl rfl rfl ?_
    refine g_iload_n (nx := 2) 1 F dX12_asks_1 rfl rfl rfl ?_
    refine g_callV (nx := 5) 1 0 [.int i] F dX12_asks_2 rfl ml_RX12_291 mo_X12_isClerk rfl rfl rfl rfl (Nat.le_of_ble_eq_true rfl) (by first | decide | omega) (k_isClerk i _) (fun r_2 τ_2 q_2 => ?_)
    obtain ⟨rfl, et_2⟩ := q_2
    have et_2 := et_2.symm
    subst et_2
    dsimp only [Option.toList, List.append, List.cons_append, List.nil_append]
    rw [he.2.2.2.2.2.2.2.2.1, nI_toInt (n := e) (by omega)]
    refine g_if_eq (nx := 8) 43 F dX12_asks_5 rfl (by decide) (fun c_5 => absurd c_5 (by exact bI_n0.mpr hA0)) (fun c_5 => ?_)
    refine g_aload_n (nx := 9) 0 F dX12_asks_8 rfl rfl rfl ?_
    refine g_iload_n (nx := 10) 2 F dX12_asks_9 rfl rfl rfl ?_
    refine g_callV (nx := 13) 1 1 [.int j] F dX12_asks_10 rfl ml_RX12_356 mo_X12_isWaiting rfl rfl rfl rfl (Nat.le_of_ble_eq_true rfl) (by first | decide | omega) (k_isWaiting s n j _ hth.2.2.1 hn he.2.2.2.2.2.2.1) (fun r_10 τ_10 q_10 => ?_)
    obtain ⟨rfl, et_10⟩ := q_10
    have et_10 := et_10.symm
    subst et_10
    dsimp only [Option.toList, List.append, List.cons_append, List.nil_append]
    rw [show σ 156 = P 0 from hr.2.2.2.2.2 0 (by decide)]
    refine g_if_eq (nx := 16) 43 F dX12_asks_13 rfl (by decide) (fun c_13 => ?_) (fun c_13 => absurd c_13 (by exact fun zq => zq (bI_f hA1)))
    refine g_iconst (nx := 44) (-1) F dX12_asks_43 rfl rfl ?_
    refine g_iret F E dX12_asks_44 ?_
    exact Or.inr ⟨fun z => hA1 z.2.1, rfl, rfl⟩
  obtain ⟨J, hJ, rfl⟩ := nI_ofr ⟨hA1.1, hA1.2.1⟩
  have eJ : (nI J).toInt.toNat = J := nI_tn (by omega)
  obtain ⟨I, hI, rfl⟩ := nI_ofr hA0
  have hA1' := hA1.2.2
  rw [eJ] at hA1'
  obtain ⟨⟨a, ha, hPa⟩, _⟩ := hok.1 J hJ
  rw [hPa, nI_ltI (by omega) (by omega)] at hA1'
  have hst : stN P J = a := by unfold stN; rw [hPa, nI_tn (by omega)]
  rcases (Classical.em (isin w 1)).symm with hA2 | hA2
  · refine g_aload_n (nx := 1) 0 F dX12_asks_0 rfl rfl rfl ?_
    refine g_iload_n (nx := 2) 1 F dX12_asks_1 rfl rfl rfl ?_
    refine g_callV (nx := 5) 1 0 [.int (nI I)] F dX12_asks_2 rfl ml_RX12_291 mo_X12_isClerk rfl rfl rfl rfl (Nat.le_of_ble_eq_true rfl) (by first | decide | omega) (k_isClerk (nI I) _) (fun r_2 τ_2 q_2 => ?_)
    obtain ⟨rfl, et_2⟩ := q_2
    have et_2 := et_2.symm
    subst et_2
    dsimp only [Option.toList, List.append, List.cons_append, List.nil_append]
    rw [he.2.2.2.2.2.2.2.2.1, nI_toInt (n := e) (by omega)]
    refine g_if_eq (nx := 8) 43 F dX12_asks_5 rfl (by decide) (fun c_5 => absurd c_5 (by exact bI_n0.mpr hA0)) (fun c_5 => ?_)
    refine g_aload_n (nx := 9) 0 F dX12_asks_8 rfl rfl rfl ?_
    refine g_iload_n (nx := 10) 2 F dX12_asks_9 rfl rfl rfl ?_
    refine g_callV (nx := 13) 1 1 [.int (nI J)] F dX12_asks_10 rfl ml_RX12_356 mo_X12_isWaiting rfl rfl rfl rfl (Nat.le_of_ble_eq_true rfl) (by first | decide | omega) (k_isWaiting s n (nI J) _ hth.2.2.1 hn he.2.2.2.2.2.2.1) (fun r_10 τ_10 q_10 => ?_)
    obtain ⟨rfl, et_10⟩ := q_10
    have et_10 := et_10.symm
    subst et_10
    dsimp only [Option.toList, List.append, List.cons_append, List.nil_append]
    rw [show σ 156 = P 0 from hr.2.2.2.2.2 0 (by decide)]
    refine g_if_eq (nx := 16) 43 F dX12_asks_13 rfl (by decide) (fun c_13 => absurd c_13 (by exact bI_n0.mpr hA1)) (fun c_13 => ?_)
    refine g_iload_n (nx := 17) 3 F dX12_asks_16 rfl rfl rfl ?_
    refine g_iconst (nx := 18) (0) F dX12_asks_17 rfl rfl ?_
    refine g_iconst (nx := 19) (1) F dX12_asks_18 rfl rfl ?_
    refine g_callS (nx := 22) 3 0 [.int w, .int 0, .int 1] F dX12_asks_19 rfl ml_RX12_174 mo_X12_in rfl rfl (Nat.le_of_ble_eq_true rfl) (by first | decide | omega) (k_in w 0 1 _) (fun r_19 τ_19 q_19 => ?_)
    obtain ⟨rfl, et_19⟩ := q_19
    have et_19 := et_19.symm
    subst et_19
    dsimp only [Option.toList, List.append, List.cons_append, List.nil_append]
    refine g_if_eq (nx := 25) 43 F dX12_asks_22 rfl (by decide) (fun c_22 => ?_) (fun c_22 => absurd c_22 (by exact fun zq => zq (bI_f (by unfold isin at hA2; simp only [Int32.reduceToInt, Int32.toInt_zero]; omega))))
    refine g_iconst (nx := 44) (-1) F dX12_asks_43 rfl rfl ?_
    refine g_iret F E dX12_asks_44 ?_
    exact Or.inr ⟨fun z => hA2 z.2.2.1, rfl, rfl⟩
  rcases (Classical.em (¬ (D 2 (stN P (nI J).toInt.toNat) >>> (nI I &&& 31)) &&& 1 = 0)).symm with hA3 | hA3
  · refine g_aload_n (nx := 1) 0 F dX12_asks_0 rfl rfl rfl ?_
    refine g_iload_n (nx := 2) 1 F dX12_asks_1 rfl rfl rfl ?_
    refine g_callV (nx := 5) 1 0 [.int (nI I)] F dX12_asks_2 rfl ml_RX12_291 mo_X12_isClerk rfl rfl rfl rfl (Nat.le_of_ble_eq_true rfl) (by first | decide | omega) (k_isClerk (nI I) _) (fun r_2 τ_2 q_2 => ?_)
    obtain ⟨rfl, et_2⟩ := q_2
    have et_2 := et_2.symm
    subst et_2
    dsimp only [Option.toList, List.append, List.cons_append, List.nil_append]
    rw [he.2.2.2.2.2.2.2.2.1, nI_toInt (n := e) (by omega)]
    refine g_if_eq (nx := 8) 43 F dX12_asks_5 rfl (by decide) (fun c_5 => absurd c_5 (by exact bI_n0.mpr hA0)) (fun c_5 => ?_)
    refine g_aload_n (nx := 9) 0 F dX12_asks_8 rfl rfl rfl ?_
    refine g_iload_n (nx := 10) 2 F dX12_asks_9 rfl rfl rfl ?_
    refine g_callV (nx := 13) 1 1 [.int (nI J)] F dX12_asks_10 rfl ml_RX12_356 mo_X12_isWaiting rfl rfl rfl rfl (Nat.le_of_ble_eq_true rfl) (by first | decide | omega) (k_isWaiting s n (nI J) _ hth.2.2.1 hn he.2.2.2.2.2.2.1) (fun r_10 τ_10 q_10 => ?_)
    obtain ⟨rfl, et_10⟩ := q_10
    have et_10 := et_10.symm
    subst et_10
    dsimp only [Option.toList, List.append, List.cons_append, List.nil_append]
    rw [show σ 156 = P 0 from hr.2.2.2.2.2 0 (by decide)]
    refine g_if_eq (nx := 16) 43 F dX12_asks_13 rfl (by decide) (fun c_13 => absurd c_13 (by exact bI_n0.mpr hA1)) (fun c_13 => ?_)
    refine g_iload_n (nx := 17) 3 F dX12_asks_16 rfl rfl rfl ?_
    refine g_iconst (nx := 18) (0) F dX12_asks_17 rfl rfl ?_
    refine g_iconst (nx := 19) (1) F dX12_asks_18 rfl rfl ?_
    refine g_callS (nx := 22) 3 0 [.int w, .int 0, .int 1] F dX12_asks_19 rfl ml_RX12_174 mo_X12_in rfl rfl (Nat.le_of_ble_eq_true rfl) (by first | decide | omega) (k_in w 0 1 _) (fun r_19 τ_19 q_19 => ?_)
    obtain ⟨rfl, et_19⟩ := q_19
    have et_19 := et_19.symm
    subst et_19
    dsimp only [Option.toList, List.append, List.cons_append, List.nil_append]
    refine g_if_eq (nx := 25) 43 F dX12_asks_22 rfl (by decide) (fun c_22 => absurd c_22 (by exact bI_n0.mpr (by unfold isin at hA2; simp only [Int32.reduceToInt, Int32.toInt_zero]; omega))) (fun c_22 => ?_)
    refine g_aload_n (nx := 26) 0 F dX12_asks_25 rfl rfl rfl ?_
    refine g_getR (nx := 29) F dX12_asks_26 rfl fl_RX12_22 rfl (by decide) (by decide) rfl ?_
    refine g_aload_n (nx := 30) 0 F dX12_asks_29 rfl rfl rfl ?_
    refine g_getR (nx := 33) F dX12_asks_30 rfl fl_RX12_40 rfl (by decide) (by decide) rfl ?_
    refine g_iload_n (nx := 34) 2 F dX12_asks_33 rfl rfl rfl ?_
    refine g_ialdN (nx := 35) (J) (nI a) F dX12_asks_34 rfl rfl (by omega) ((congrFun (hr.2.2.2.2.2 0 (by decide)) J).trans hPa) ?_
    refine g_ialdN (nx := 36) (a) (D 2 a) F dX12_asks_35 rfl rfl (by omega) (congrFun he.2.2.1 a) ?_
    refine g_iload_n (nx := 37) 1 F dX12_asks_36 rfl rfl rfl ?_
    refine g_ishr (nx := 38) F dX12_asks_37 rfl ?_
    refine g_iconst (nx := 39) (1) F dX12_asks_38 rfl rfl ?_
    refine g_iand (nx := 40) F dX12_asks_39 rfl ?_
    refine g_if_ne (nx := 43) 45 F dX12_asks_40 rfl (by decide) (fun c_40 => absurd c_40 (by exact fun zq => zq (by have := Classical.byContradiction hA3; rw [eJ, hst] at this; exact this))) (fun c_40 => ?_)
    refine g_iconst (nx := 44) (-1) F dX12_asks_43 rfl rfl ?_
    refine g_iret F E dX12_asks_44 ?_
    exact Or.inr ⟨fun z => hA3 z.2.2.2, rfl, rfl⟩
  refine g_aload_n (nx := 1) 0 F dX12_asks_0 rfl rfl rfl ?_
  refine g_iload_n (nx := 2) 1 F dX12_asks_1 rfl rfl rfl ?_
  refine g_callV (nx := 5) 1 0 [.int (nI I)] F dX12_asks_2 rfl ml_RX12_291 mo_X12_isClerk rfl rfl rfl rfl (Nat.le_of_ble_eq_true rfl) (by first | decide | omega) (k_isClerk (nI I) _) (fun r_2 τ_2 q_2 => ?_)
  obtain ⟨rfl, et_2⟩ := q_2
  have et_2 := et_2.symm
  subst et_2
  dsimp only [Option.toList, List.append, List.cons_append, List.nil_append]
  rw [he.2.2.2.2.2.2.2.2.1, nI_toInt (n := e) (by omega)]
  refine g_if_eq (nx := 8) 43 F dX12_asks_5 rfl (by decide) (fun c_5 => absurd c_5 (by exact bI_n0.mpr hA0)) (fun c_5 => ?_)
  refine g_aload_n (nx := 9) 0 F dX12_asks_8 rfl rfl rfl ?_
  refine g_iload_n (nx := 10) 2 F dX12_asks_9 rfl rfl rfl ?_
  refine g_callV (nx := 13) 1 1 [.int (nI J)] F dX12_asks_10 rfl ml_RX12_356 mo_X12_isWaiting rfl rfl rfl rfl (Nat.le_of_ble_eq_true rfl) (by first | decide | omega) (k_isWaiting s n (nI J) _ hth.2.2.1 hn he.2.2.2.2.2.2.1) (fun r_10 τ_10 q_10 => ?_)
  obtain ⟨rfl, et_10⟩ := q_10
  have et_10 := et_10.symm
  subst et_10
  dsimp only [Option.toList, List.append, List.cons_append, List.nil_append]
  rw [show σ 156 = P 0 from hr.2.2.2.2.2 0 (by decide)]
  refine g_if_eq (nx := 16) 43 F dX12_asks_13 rfl (by decide) (fun c_13 => absurd c_13 (by exact bI_n0.mpr hA1)) (fun c_13 => ?_)
  refine g_iload_n (nx := 17) 3 F dX12_asks_16 rfl rfl rfl ?_
  refine g_iconst (nx := 18) (0) F dX12_asks_17 rfl rfl ?_
  refine g_iconst (nx := 19) (1) F dX12_asks_18 rfl rfl ?_
  refine g_callS (nx := 22) 3 0 [.int w, .int 0, .int 1] F dX12_asks_19 rfl ml_RX12_174 mo_X12_in rfl rfl (Nat.le_of_ble_eq_true rfl) (by first | decide | omega) (k_in w 0 1 _) (fun r_19 τ_19 q_19 => ?_)
  obtain ⟨rfl, et_19⟩ := q_19
  have et_19 := et_19.symm
  subst et_19
  dsimp only [Option.toList, List.append, List.cons_append, List.nil_append]
  refine g_if_eq (nx := 25) 43 F dX12_asks_22 rfl (by decide) (fun c_22 => absurd c_22 (by exact bI_n0.mpr (by unfold isin at hA2; simp only [Int32.reduceToInt, Int32.toInt_zero]; omega))) (fun c_22 => ?_)
  refine g_aload_n (nx := 26) 0 F dX12_asks_25 rfl rfl rfl ?_
  refine g_getR (nx := 29) F dX12_asks_26 rfl fl_RX12_22 rfl (by decide) (by decide) rfl ?_
  refine g_aload_n (nx := 30) 0 F dX12_asks_29 rfl rfl rfl ?_
  refine g_getR (nx := 33) F dX12_asks_30 rfl fl_RX12_40 rfl (by decide) (by decide) rfl ?_
  refine g_iload_n (nx := 34) 2 F dX12_asks_33 rfl rfl rfl ?_
  refine g_ialdN (nx := 35) (J) (nI a) F dX12_asks_34 rfl rfl (by omega) ((congrFun (hr.2.2.2.2.2 0 (by decide)) J).trans hPa) ?_
  refine g_ialdN (nx := 36) (a) (D 2 a) F dX12_asks_35 rfl rfl (by omega) (congrFun he.2.2.1 a) ?_
  refine g_iload_n (nx := 37) 1 F dX12_asks_36 rfl rfl rfl ?_
  refine g_ishr (nx := 38) F dX12_asks_37 rfl ?_
  refine g_iconst (nx := 39) (1) F dX12_asks_38 rfl rfl ?_
  refine g_iand (nx := 40) F dX12_asks_39 rfl ?_
  refine g_if_ne (nx := 43) 45 F dX12_asks_40 rfl (by decide) (fun c_40 => ?_) (fun c_40 => absurd c_40 (by exact fun zq => hA3 (by rw [eJ, hst]; exact zq)))
  refine g_aload_n (nx := 46) 0 F dX12_asks_45 rfl rfl rfl ?_
  refine g_iload_n (nx := 47) 1 F dX12_asks_46 rfl rfl rfl ?_
  refine g_iload_n (nx := 48) 2 F dX12_asks_47 rfl rfl rfl ?_
  refine g_callV (nx := 51) 2 3 [.int (nI I), .int (nI J)] F dX12_asks_48 rfl ml_RX12_331 mo_X12_asksOf rfl rfl rfl rfl (Nat.le_of_ble_eq_true rfl) (by first | decide | omega) (k_asksOf T D P σ n n s e a o y I J σ he hr hth ho (by omega) hJ (by omega) hPa) (fun r_48 τ_48 q_48 => ?_)
  obtain ⟨rfl, hr3, hp3, hw3⟩ := q_48
  dsimp only [Option.toList, List.append, List.cons_append, List.nil_append]
  refine g_iload_n (nx := 52) 3 F dX12_asks_51 rfl rfl rfl ?_
  refine g_if_ne (nx := 55) 62 F dX12_asks_52 rfl (by decide) (fun c_52 => ?_) (fun c_52 => ?_)
  · refine g_aload_n (nx := 63) 0 F dX12_asks_62 rfl rfl rfl ?_
    refine g_getV (nx := 66) (wtP T D P n o y I J) F dX12_asks_63 rfl fl_RX12_321 rfl (by decide) (by decide) rfl rfl (hw3) ?_
    refine g_iret F E dX12_asks_66 ?_
    refine Or.inl ⟨⟨hA0, hA1, hA2, hA3⟩, ?_, hr3⟩
    rw [eJ, nI_tn (by omega)]
    first | rw [if_pos c_52] | rw [if_neg c_52]
  · refine g_aload_n (nx := 56) 0 F dX12_asks_55 rfl rfl rfl ?_
    refine g_getV (nx := 59) (prP T D P n o y I J) F dX12_asks_56 rfl fl_RX12_318 rfl (by decide) (by decide) rfl rfl (hp3) ?_
    refine g_goto 66 F dX12_asks_59 (by decide) ?_
    refine g_iret F E dX12_asks_66 ?_
    refine Or.inl ⟨⟨hA0, hA1, hA2, hA3⟩, ?_, hr3⟩
    rw [eJ, nI_tn (by omega)]
    first | rw [if_pos c_52] | rw [if_neg c_52]
def hdW (w : Int32) : Nat := if w = 0 then 103 else if w = 1 then 107 else 98
theorem hdW_ok : ∀ w, w < 3 → chS 1 w = nI (hdW (nI w)) ∧ hdW (nI w) < 1000 := by decide +kernel
set_option maxHeartbeats 4000000 in
set_option maxRecDepth 100000 in
theorem c_told (T : Nat → TXT) (D P : zSt) (n s mm e : Nat) (o y i j x w : Int32) (σ : zSt) (he : EnvC σ D T s) (hr : RC 17 n s σ σ P) (hy : σ 17 12 = y) (ho : σ 17 14 = o) (hn0 : σ 17 8 = nI n) (hn : n ≤ 40) (hok : okP s n mm 0 P) (hc : σ 3 3 = nI e) (he10 : e ≤ 10) : Con mX11_told 4 [.ref 0, .int i, .int j, .int x, .int w] σ (fun r τ => (tdC P s e n i j x w ∧ r = some (.int (lwP T D P n o y i.toInt.toNat j.toInt.toNat x (hdW w))) ∧ RC 17 n s σ τ P) ∨ (¬ tdC P s e n i j x w ∧ r = some (.int (-1)) ∧ τ = σ)) := by
  have hs8 := he.2.2.2.2.2.2.2.1
  refine Con.of (lv := [.ref 0, .int i, .int j, .int x, .int w]) mk_X11_told rfl (Nat.le_of_ble_eq_true rfl) rfl (fun X F E => ?_)
  rcases (Classical.em (0 ≤ i.toInt ∧ i.toInt < e)).symm with hA0 | hA0
  · refine g_aload_n (nx := 1) 0 F dX11_told_0 rfl rfl rfl ?_
    refine g_getR (nx := 4) F dX11_told_1 rfl fl_RX11_19 rfl (by decide) (by decide) rfl ?_
    refine g_iload_n (nx := 5) 1 F dX11_told_4 rfl rfl rfl ?_
    refine g_callV (nx := 8) 1 0 [.int i] F dX11_told_5 rfl ml_RX11_125 mo_X2_isClerk rfl rfl rfl rfl (Nat.le_of_ble_eq_true rfl) (by first | decide | omega) (c_isClerk i _) (fun r_5 τ_5 q_5 => ?_)
    obtain ⟨rfl, et_5⟩ := q_5
    have et_5 := et_5.symm
    subst et_5
    dsimp only [Option.toList, List.append, List.cons_append, List.nil_append]
    rw [hc, nI_toInt (n := e) (by omega)]
    refine g_if_eq (nx := 11) 41 F dX11_told_8 rfl (by decide) (fun c_8 => ?_) (fun c_8 => absurd c_8 (by exact fun zq => zq (bI_f hA0)))
    refine g_iconst (nx := 42) (-1) F dX11_told_41 rfl rfl ?_
    refine g_iret F E dX11_told_42 ?_
    exact Or.inr ⟨fun z => hA0 z.1, rfl, rfl⟩
  rcases (Classical.em (0 ≤ j.toInt ∧ j.toInt < n ∧ P 0 j.toInt.toNat < nI s)).symm with hA1 | hA1
  · refine g_aload_n (nx := 1) 0 F dX11_told_0 rfl rfl rfl ?_
    refine g_getR (nx := 4) F dX11_told_1 rfl fl_RX11_19 rfl (by decide) (by decide) rfl ?_
    refine g_iload_n (nx := 5) 1 F dX11_told_4 rfl rfl rfl ?_
    refine g_callV (nx := 8) 1 0 [.int i] F dX11_told_5 rfl ml_RX11_125 mo_X2_isClerk rfl rfl rfl rfl (Nat.le_of_ble_eq_true rfl) (by first | decide | omega) (c_isClerk i _) (fun r_5 τ_5 q_5 => ?_)
    obtain ⟨rfl, et_5⟩ := q_5
    have et_5 := et_5.symm
    subst et_5
    dsimp only [Option.toList, List.append, List.cons_append, List.nil_append]
    rw [hc, nI_toInt (n := e) (by omega)]
    refine g_if_eq (nx := 11) 41 F dX11_told_8 rfl (by decide) (fun c_8 => absurd c_8 (by exact bI_n0.mpr hA0)) (fun c_8 => ?_)
    refine g_aload_n (nx := 12) 0 F dX11_told_11 rfl rfl rfl ?_
    refine g_getR (nx := 15) F dX11_told_12 rfl fl_RX11_44 rfl (by decide) (by decide) rfl ?_
    refine g_iload_n (nx := 16) 2 F dX11_told_15 rfl rfl rfl ?_
    refine g_callV (nx := 19) 1 0 [.int j] F dX11_told_16 rfl ml_RX11_204 mo_X6_isUnderWay rfl rfl rfl rfl (Nat.le_of_ble_eq_true rfl) (by first | decide | omega) (c_isUnderWay_17 n j _ hn0 hn) (fun r_16 τ_16 q_16 => ?_)
    obtain ⟨rfl, et_16⟩ := q_16
    have et_16 := et_16.symm
    subst et_16
    dsimp only [Option.toList, List.append, List.cons_append, List.nil_append]
    rw [show σ 18 = P 0 from hr.2.2.2.2.1 0 (by decide), he.2.2.2.2.2.2.1]
    refine g_if_eq (nx := 22) 41 F dX11_told_19 rfl (by decide) (fun c_19 => ?_) (fun c_19 => absurd c_19 (by exact fun zq => zq (bI_f hA1)))
    refine g_iconst (nx := 42) (-1) F dX11_told_41 rfl rfl ?_
    refine g_iret F E dX11_told_42 ?_
    exact Or.inr ⟨fun z => hA1 z.2.1, rfl, rfl⟩
  obtain ⟨J, hJ, rfl⟩ := nI_ofr ⟨hA1.1, hA1.2.1⟩
  have eJ : (nI J).toInt.toNat = J := nI_tn (by omega)
  obtain ⟨I, hI, rfl⟩ := nI_ofr hA0
  have hA1' := hA1.2.2
  rw [eJ] at hA1'
  obtain ⟨⟨a, ha, hPa⟩, _⟩ := hok.1 J hJ
  rw [hPa, nI_ltI (by omega) (by omega)] at hA1'
  have hst : stN P J = a := by unfold stN; rw [hPa, nI_tn (by omega)]
  rcases (Classical.em (isin x 10000)).symm with hA2 | hA2
  · refine g_aload_n (nx := 1) 0 F dX11_told_0 rfl rfl rfl ?_
    refine g_getR (nx := 4) F dX11_told_1 rfl fl_RX11_19 rfl (by decide) (by decide) rfl ?_
    refine g_iload_n (nx := 5) 1 F dX11_told_4 rfl rfl rfl ?_
    refine g_callV (nx := 8) 1 0 [.int (nI I)] F dX11_told_5 rfl ml_RX11_125 mo_X2_isClerk rfl rfl rfl rfl (Nat.le_of_ble_eq_true rfl) (by first | decide | omega) (c_isClerk (nI I) _) (fun r_5 τ_5 q_5 => ?_)
    obtain ⟨rfl, et_5⟩ := q_5
    have et_5 := et_5.symm
    subst et_5
    dsimp only [Option.toList, List.append, List.cons_append, List.nil_append]
    rw [hc, nI_toInt (n := e) (by omega)]
    refine g_if_eq (nx := 11) 41 F dX11_told_8 rfl (by decide) (fun c_8 => absurd c_8 (by exact bI_n0.mpr hA0)) (fun c_8 => ?_)
    refine g_aload_n (nx := 12) 0 F dX11_told_11 rfl rfl rfl ?_
    refine g_getR (nx := 15) F dX11_told_12 rfl fl_RX11_44 rfl (by decide) (by decide) rfl ?_
    refine g_iload_n (nx := 16) 2 F dX11_told_15 rfl rfl rfl ?_
    refine g_callV (nx := 19) 1 0 [.int (nI J)] F dX11_told_16 rfl ml_RX11_204 mo_X6_isUnderWay rfl rfl rfl rfl (Nat.le_of_ble_eq_true rfl) (by first | decide | omega) (c_isUnderWay_17 n (nI J) _ hn0 hn) (fun r_16 τ_16 q_16 => ?_)
    obtain ⟨rfl, et_16⟩ := q_16
    have et_16 := et_16.symm
    subst et_16
    dsimp only [Option.toList, List.append, List.cons_append, List.nil_append]
    rw [show σ 18 = P 0 from hr.2.2.2.2.1 0 (by decide), he.2.2.2.2.2.2.1]
    refine g_if_eq (nx := 22) 41 F dX11_told_19 rfl (by decide) (fun c_19 => absurd c_19 (by exact bI_n0.mpr hA1)) (fun c_19 => ?_)
    refine g_iload_n (nx := 23) 3 F dX11_told_22 rfl rfl rfl ?_
    refine g_sipush (nx := 26) (10000) F dX11_told_23 rfl (by decide) ?_
    refine g_callS (nx := 29) 2 0 [.int x, .int 10000] F dX11_told_26 rfl ml_RX11_79 mo_X11_isOutside rfl rfl (Nat.le_of_ble_eq_true rfl) (by first | decide | omega) (c_isOutside x 10000 _) (fun r_26 τ_26 q_26 => ?_)
    obtain ⟨rfl, et_26⟩ := q_26
    have et_26 := et_26.symm
    subst et_26
    dsimp only [Option.toList, List.append, List.cons_append, List.nil_append]
    refine g_if_ne (nx := 32) 41 F dX11_told_29 rfl (by decide) (fun c_29 => ?_) (fun c_29 => absurd c_29 (by exact bI_n0.mpr (by unfold isin at hA2; simp only [Int32.reduceToInt]; omega)))
    refine g_iconst (nx := 42) (-1) F dX11_told_41 rfl rfl ?_
    refine g_iret F E dX11_told_42 ?_
    exact Or.inr ⟨fun z => hA2 z.2.2.1, rfl, rfl⟩
  rcases (Classical.em (isin w 2)).symm with hA3 | hA3
  · refine g_aload_n (nx := 1) 0 F dX11_told_0 rfl rfl rfl ?_
    refine g_getR (nx := 4) F dX11_told_1 rfl fl_RX11_19 rfl (by decide) (by decide) rfl ?_
    refine g_iload_n (nx := 5) 1 F dX11_told_4 rfl rfl rfl ?_
    refine g_callV (nx := 8) 1 0 [.int (nI I)] F dX11_told_5 rfl ml_RX11_125 mo_X2_isClerk rfl rfl rfl rfl (Nat.le_of_ble_eq_true rfl) (by first | decide | omega) (c_isClerk (nI I) _) (fun r_5 τ_5 q_5 => ?_)
    obtain ⟨rfl, et_5⟩ := q_5
    have et_5 := et_5.symm
    subst et_5
    dsimp only [Option.toList, List.append, List.cons_append, List.nil_append]
    rw [hc, nI_toInt (n := e) (by omega)]
    refine g_if_eq (nx := 11) 41 F dX11_told_8 rfl (by decide) (fun c_8 => absurd c_8 (by exact bI_n0.mpr hA0)) (fun c_8 => ?_)
    refine g_aload_n (nx := 12) 0 F dX11_told_11 rfl rfl rfl ?_
    refine g_getR (nx := 15) F dX11_told_12 rfl fl_RX11_44 rfl (by decide) (by decide) rfl ?_
    refine g_iload_n (nx := 16) 2 F dX11_told_15 rfl rfl rfl ?_
    refine g_callV (nx := 19) 1 0 [.int (nI J)] F dX11_told_16 rfl ml_RX11_204 mo_X6_isUnderWay rfl rfl rfl rfl (Nat.le_of_ble_eq_true rfl) (by first | decide | omega) (c_isUnderWay_17 n (nI J) _ hn0 hn) (fun r_16 τ_16 q_16 => ?_)
    obtain ⟨rfl, et_16⟩ := q_16
    have et_16 := et_16.symm
    subst et_16
    dsimp only [Option.toList, List.append, List.cons_append, List.nil_append]
    rw [show σ 18 = P 0 from hr.2.2.2.2.1 0 (by decide), he.2.2.2.2.2.2.1]
    refine g_if_eq (nx := 22) 41 F dX11_told_19 rfl (by decide) (fun c_19 => absurd c_19 (by exact bI_n0.mpr hA1)) (fun c_19 => ?_)
    refine g_iload_n (nx := 23) 3 F dX11_told_22 rfl rfl rfl ?_
    refine g_sipush (nx := 26) (10000) F dX11_told_23 rfl (by decide) ?_
    refine g_callS (nx := 29) 2 0 [.int x, .int 10000] F dX11_told_26 rfl ml_RX11_79 mo_X11_isOutside rfl rfl (Nat.le_of_ble_eq_true rfl) (by first | decide | omega) (c_isOutside x 10000 _) (fun r_26 τ_26 q_26 => ?_)
    obtain ⟨rfl, et_26⟩ := q_26
    have et_26 := et_26.symm
    subst et_26
    dsimp only [Option.toList, List.append, List.cons_append, List.nil_append]
    refine g_if_ne (nx := 32) 41 F dX11_told_29 rfl (by decide) (fun c_29 => absurd c_29 (by exact fun zq => zq (bI_f (by unfold isin at hA2; simp only [Int32.reduceToInt]; omega)))) (fun c_29 => ?_)
    refine g_iload (nx := 34) F dX11_told_32 rfl rfl ?_
    refine g_iconst (nx := 35) (2) F dX11_told_34 rfl rfl ?_
    refine g_callS (nx := 38) 2 0 [.int w, .int 2] F dX11_told_35 rfl ml_RX11_79 mo_X11_isOutside rfl rfl (Nat.le_of_ble_eq_true rfl) (by first | decide | omega) (c_isOutside w 2 _) (fun r_35 τ_35 q_35 => ?_)
    obtain ⟨rfl, et_35⟩ := q_35
    have et_35 := et_35.symm
    subst et_35
    dsimp only [Option.toList, List.append, List.cons_append, List.nil_append]
    refine g_if_eq (nx := 41) 43 F dX11_told_38 rfl (by decide) (fun c_38 => absurd c_38 (by exact bI_n0.mpr (by unfold isin at hA3; simp only [Int32.reduceToInt]; omega))) (fun c_38 => ?_)
    refine g_iconst (nx := 42) (-1) F dX11_told_41 rfl rfl ?_
    refine g_iret F E dX11_told_42 ?_
    exact Or.inr ⟨fun z => hA3 z.2.2.2, rfl, rfl⟩
  obtain ⟨wN, hwN, rfl⟩ := nI_ofr (e := 3) (show 0 ≤ w.toInt ∧ w.toInt < (3 : Nat) by unfold isin at hA3; omega)
  have hTr := tx_rng he.2.2.2.2.2.2.2.2.2.1.1
  refine g_aload_n (nx := 1) 0 F dX11_told_0 rfl rfl rfl ?_
  refine g_getR (nx := 4) F dX11_told_1 rfl fl_RX11_19 rfl (by decide) (by decide) rfl ?_
  refine g_iload_n (nx := 5) 1 F dX11_told_4 rfl rfl rfl ?_
  refine g_callV (nx := 8) 1 0 [.int (nI I)] F dX11_told_5 rfl ml_RX11_125 mo_X2_isClerk rfl rfl rfl rfl (Nat.le_of_ble_eq_true rfl) (by first | decide | omega) (c_isClerk (nI I) _) (fun r_5 τ_5 q_5 => ?_)
  obtain ⟨rfl, et_5⟩ := q_5
  have et_5 := et_5.symm
  subst et_5
  dsimp only [Option.toList, List.append, List.cons_append, List.nil_append]
  rw [hc, nI_toInt (n := e) (by omega)]
  refine g_if_eq (nx := 11) 41 F dX11_told_8 rfl (by decide) (fun c_8 => absurd c_8 (by exact bI_n0.mpr hA0)) (fun c_8 => ?_)
  refine g_aload_n (nx := 12) 0 F dX11_told_11 rfl rfl rfl ?_
  refine g_getR (nx := 15) F dX11_told_12 rfl fl_RX11_44 rfl (by decide) (by decide) rfl ?_
  refine g_iload_n (nx := 16) 2 F dX11_told_15 rfl rfl rfl ?_
  refine g_callV (nx := 19) 1 0 [.int (nI J)] F dX11_told_16 rfl ml_RX11_204 mo_X6_isUnderWay rfl rfl rfl rfl (Nat.le_of_ble_eq_true rfl) (by first | decide | omega) (c_isUnderWay_17 n (nI J) _ hn0 hn) (fun r_16 τ_16 q_16 => ?_)
  obtain ⟨rfl, et_16⟩ := q_16
  have et_16 := et_16.symm
  subst et_16
  dsimp only [Option.toList, List.append, List.cons_append, List.nil_append]
  rw [show σ 18 = P 0 from hr.2.2.2.2.1 0 (by decide), he.2.2.2.2.2.2.1]
  refine g_if_eq (nx := 22) 41 F dX11_told_19 rfl (by decide) (fun c_19 => absurd c_19 (by exact bI_n0.mpr hA1)) (fun c_19 => ?_)
  refine g_iload_n (nx := 23) 3 F dX11_told_22 rfl rfl rfl ?_
  refine g_sipush (nx := 26) (10000) F dX11_told_23 rfl (by decide) ?_
  refine g_callS (nx := 29) 2 0 [.int x, .int 10000] F dX11_told_26 rfl ml_RX11_79 mo_X11_isOutside rfl rfl (Nat.le_of_ble_eq_true rfl) (by first | decide | omega) (c_isOutside x 10000 _) (fun r_26 τ_26 q_26 => ?_)
  obtain ⟨rfl, et_26⟩ := q_26
  have et_26 := et_26.symm
  subst et_26
  dsimp only [Option.toList, List.append, List.cons_append, List.nil_append]
  refine g_if_ne (nx := 32) 41 F dX11_told_29 rfl (by decide) (fun c_29 => absurd c_29 (by exact fun zq => zq (bI_f (by unfold isin at hA2; simp only [Int32.reduceToInt]; omega)))) (fun c_29 => ?_)
  refine g_iload (nx := 34) F dX11_told_32 rfl rfl ?_
  refine g_iconst (nx := 35) (2) F dX11_told_34 rfl rfl ?_
  refine g_callS (nx := 38) 2 0 [.int (nI wN), .int 2] F dX11_told_35 rfl ml_RX11_79 mo_X11_isOutside rfl rfl (Nat.le_of_ble_eq_true rfl) (by first | decide | omega) (c_isOutside (nI wN) 2 _) (fun r_35 τ_35 q_35 => ?_)
  obtain ⟨rfl, et_35⟩ := q_35
  have et_35 := et_35.symm
  subst et_35
  dsimp only [Option.toList, List.append, List.cons_append, List.nil_append]
  refine g_if_eq (nx := 41) 43 F dX11_told_38 rfl (by decide) (fun c_38 => ?_) (fun c_38 => absurd c_38 (by exact fun zq => zq (bI_f (by unfold isin at hA3; simp only [Int32.reduceToInt]; omega))))
  refine g_aload_n (nx := 44) 0 F dX11_told_43 rfl rfl rfl ?_
  refine g_getR (nx := 47) F dX11_told_44 rfl fl_RX11_44 rfl (by decide) (by decide) rfl ?_
  refine g_iload_n (nx := 48) 1 F dX11_told_47 rfl rfl rfl ?_
  refine g_iload_n (nx := 49) 2 F dX11_told_48 rfl rfl rfl ?_
  refine g_iload_n (nx := 50) 3 F dX11_told_49 rfl rfl rfl ?_
  refine g_callV (nx := 53) 3 0 [.int (nI I), .int (nI J), .int x] F dX11_told_50 rfl ml_RX11_220 mo_X6_face rfl rfl rfl rfl (Nat.le_of_ble_eq_true rfl) (by first | decide | omega) (c_face_17 I J a x _ (by omega) (by omega) (by omega) ((congrFun (hr.2.2.2.2.1 0 (by decide)) J).trans hPa)) (fun r_50 τ_50 q_50 => ?_)
  obtain ⟨rfl, g_4, et_4, hg_4⟩ := q_50
  subst et_4
  dsimp only [Option.toList, List.append, List.cons_append, List.nil_append]
  refine g_aload_n (nx := 54) 0 F dX11_told_53 rfl rfl rfl ?_
  refine g_getR (nx := 57) F dX11_told_54 rfl fl_RX11_26 rfl (by decide) (by decide) rfl ?_
  refine g_aload_n (nx := 58) 0 F dX11_told_57 rfl rfl rfl ?_
  refine g_getR (nx := 61) F dX11_told_58 rfl fl_RX11_19 rfl (by decide) (by decide) rfl ?_
  refine g_getD (nx := 64) F dX11_told_61 rfl fl_RX11_147 rfl (by decide) (by decide) rfl rfl ?_
  refine g_ldcS (nx := 66) 1 F dX11_told_64 rfl (by decide) rfl ?_
  refine g_iload (nx := 68) F dX11_told_66 rfl rfl ?_
  refine g_callSt (nx := 71) 1 3 [.int (nI wN)] F dX11_told_68 rfl ml_RX11_224 mo_J0_charAt_5068e (k := 1) (by decide) rfl rfl rfl (Nat.le_of_ble_eq_true rfl) (by omega) (j_charAt 1 wN _ (by decide) (show wN < 3 by omega)) (fun r_68 τ_68 q_68 => ?_)
  obtain ⟨rfl, et_68⟩ := q_68
  have et_68 := et_68.symm
  subst et_68
  dsimp only [Option.toList, List.append, List.cons_append, List.nil_append]
  refine g_top _ (hdW_ok wN (by omega)).1 ?_
  refine g_sipush (nx := 74) (10000) F dX11_told_71 rfl (by decide) ?_
  refine g_callV (nx := 77) 3 2 [.ref (σ 3 12).toNatClampNeg, .int (nI (hdW (nI wN))), .int 10000] F dX11_told_74 rfl ml_RX11_230 mo_X7_pick rfl rfl rfl rfl (Nat.le_of_ble_eq_true rfl) (by first | decide | omega) (c_pickT (σ 3 12).toNatClampNeg (hdW (nI wN)) (T 10) 10000 _ he.2.2.2.2.2.2.2.2.2.1.1 (he.2.2.2.2.2.2.2.2.2.2 10 (by omega)) (txC_congr (fun b hb _ => zs_ne _ (by omega) _) he.2.2.2.2.2.2.2.2.2.1.2) (hdW_ok wN (by omega)).2 (by decide)) (fun r_74 τ_74 q_74 => ?_)
  obtain ⟨⟨g_74, et_74⟩, rfl⟩ := q_74
  subst et_74
  dsimp only [Option.toList, List.append, List.cons_append, List.nil_append]
  refine g_iret F E dX11_told_77 ?_
  refine Or.inl ⟨⟨hA0, hA1, hA2, hA3⟩, ?_, RC_meet (by decide) hr (fun b b1 b2 b3 => by rw [zs_ne _ b2, zs_ne _ b1]) (fun k k1 k2 => by rw [zs_ne _ (by decide), zs_ne _ (by decide)])⟩
  rw [eJ, nI_tn (by omega)]
  exact congrArg (fun z => some (Value.int z)) (pkF_congr (he.2.2.2.2.2.2.2.2.2.2 10 (by omega)).1 (fun k hk => (hg_4 k hk).trans (congrFun (fcC_17 he hr hy ho (by omega) hPa) k)))
set_option maxHeartbeats 4000000 in
set_option maxRecDepth 100000 in
theorem k_told (T : Nat → TXT) (D P : zSt) (n s mm e : Nat) (o y i j x w : Int32) (σ : zSt) (he : EnvK σ D T s e) (hr : KR σ σ P) (hth : thK σ n n y) (ho : σ 145 6 = o) (hn : n ≤ 40) (hok : okP s n mm 0 P) (he10 : e ≤ 10) : Con mX12_told 4 [.ref 145, .int i, .int j, .int x, .int w] σ (fun r τ => (tdC P s e n i j x w ∧ r = some (.int (lwP T D P n o y i.toInt.toNat j.toInt.toNat x (hdW w))) ∧ KR σ τ P) ∨ (¬ tdC P s e n i j x w ∧ r = some (.int (-1)) ∧ τ = σ)) := by
  have hs8 := he.2.2.2.2.2.2.2.1
  refine Con.of (lv := [.ref 145, .int i, .int j, .int x, .int w]) mk_X12_told rfl (Nat.le_of_ble_eq_true rfl) rfl (fun X F E => ?_)
  rcases (Classical.em (0 ≤ i.toInt ∧ i.toInt < e)).symm with hA0 | hA0
  · refine g_aload_n (nx := 1) 0 F dX12_told_0 rfl rfl rfl ?_
    refine g_iload_n (nx := 2) 1 F dX12_told_1 rfl rfl rfl ?_
    refine g_callV (nx := 5) 1 0 [.int i] F dX12_told_2 rfl ml_RX12_291 mo_X12_isClerk rfl rfl rfl rfl (Nat.le_of_ble_eq_true rfl) (by first | decide | omega) (k_isClerk i _) (fun r_2 τ_2 q_2 => ?_)
    obtain ⟨rfl, et_2⟩ := q_2
    have et_2 := et_2.symm
    subst et_2
    dsimp only [Option.toList, List.append, List.cons_append, List.nil_append]
    rw [he.2.2.2.2.2.2.2.2.1, nI_toInt (n := e) (by omega)]
    refine g_if_eq (nx := 8) 37 F dX12_told_5 rfl (by decide) (fun c_5 => ?_) (fun c_5 => absurd c_5 (by exact fun zq => zq (bI_f hA0)))
    refine g_iconst (nx := 38) (-1) F dX12_told_37 rfl rfl ?_
    refine g_iret F E dX12_told_38 ?_
    exact Or.inr ⟨fun z => hA0 z.1, rfl, rfl⟩
  rcases (Classical.em (0 ≤ j.toInt ∧ j.toInt < n ∧ P 0 j.toInt.toNat < nI s)).symm with hA1 | hA1
  · refine g_aload_n (nx := 1) 0 F dX12_told_0 rfl rfl rfl ?_
    refine g_iload_n (nx := 2) 1 F dX12_told_1 rfl rfl rfl ?_
    refine g_callV (nx := 5) 1 0 [.int i] F dX12_told_2 rfl ml_RX12_291 mo_X12_isClerk rfl rfl rfl rfl (Nat.le_of_ble_eq_true rfl) (by first | decide | omega) (k_isClerk i _) (fun r_2 τ_2 q_2 => ?_)
    obtain ⟨rfl, et_2⟩ := q_2
    have et_2 := et_2.symm
    subst et_2
    dsimp only [Option.toList, List.append, List.cons_append, List.nil_append]
    rw [he.2.2.2.2.2.2.2.2.1, nI_toInt (n := e) (by omega)]
    refine g_if_eq (nx := 8) 37 F dX12_told_5 rfl (by decide) (fun c_5 => absurd c_5 (by exact bI_n0.mpr hA0)) (fun c_5 => ?_)
    refine g_aload_n (nx := 9) 0 F dX12_told_8 rfl rfl rfl ?_
    refine g_iload_n (nx := 10) 2 F dX12_told_9 rfl rfl rfl ?_
    refine g_callV (nx := 13) 1 1 [.int j] F dX12_told_10 rfl ml_RX12_356 mo_X12_isWaiting rfl rfl rfl rfl (Nat.le_of_ble_eq_true rfl) (by first | decide | omega) (k_isWaiting s n j _ hth.2.2.1 hn he.2.2.2.2.2.2.1) (fun r_10 τ_10 q_10 => ?_)
    obtain ⟨rfl, et_10⟩ := q_10
    have et_10 := et_10.symm
    subst et_10
    dsimp only [Option.toList, List.append, List.cons_append, List.nil_append]
    rw [show σ 156 = P 0 from hr.2.2.2.2.2 0 (by decide)]
    refine g_if_eq (nx := 16) 37 F dX12_told_13 rfl (by decide) (fun c_13 => ?_) (fun c_13 => absurd c_13 (by exact fun zq => zq (bI_f hA1)))
    refine g_iconst (nx := 38) (-1) F dX12_told_37 rfl rfl ?_
    refine g_iret F E dX12_told_38 ?_
    exact Or.inr ⟨fun z => hA1 z.2.1, rfl, rfl⟩
  obtain ⟨J, hJ, rfl⟩ := nI_ofr ⟨hA1.1, hA1.2.1⟩
  have eJ : (nI J).toInt.toNat = J := nI_tn (by omega)
  obtain ⟨I, hI, rfl⟩ := nI_ofr hA0
  have hA1' := hA1.2.2
  rw [eJ] at hA1'
  obtain ⟨⟨a, ha, hPa⟩, _⟩ := hok.1 J hJ
  rw [hPa, nI_ltI (by omega) (by omega)] at hA1'
  have hst : stN P J = a := by unfold stN; rw [hPa, nI_tn (by omega)]
  rcases (Classical.em (isin x 10000)).symm with hA2 | hA2
  · refine g_aload_n (nx := 1) 0 F dX12_told_0 rfl rfl rfl ?_
    refine g_iload_n (nx := 2) 1 F dX12_told_1 rfl rfl rfl ?_
    refine g_callV (nx := 5) 1 0 [.int (nI I)] F dX12_told_2 rfl ml_RX12_291 mo_X12_isClerk rfl rfl rfl rfl (Nat.le_of_ble_eq_true rfl) (by first | decide | omega) (k_isClerk (nI I) _) (fun r_2 τ_2 q_2 => ?_)
    obtain ⟨rfl, et_2⟩ := q_2
    have et_2 := et_2.symm
    subst et_2
    dsimp only [Option.toList, List.append, List.cons_append, List.nil_append]
    rw [he.2.2.2.2.2.2.2.2.1, nI_toInt (n := e) (by omega)]
    refine g_if_eq (nx := 8) 37 F dX12_told_5 rfl (by decide) (fun c_5 => absurd c_5 (by exact bI_n0.mpr hA0)) (fun c_5 => ?_)
    refine g_aload_n (nx := 9) 0 F dX12_told_8 rfl rfl rfl ?_
    refine g_iload_n (nx := 10) 2 F dX12_told_9 rfl rfl rfl ?_
    refine g_callV (nx := 13) 1 1 [.int (nI J)] F dX12_told_10 rfl ml_RX12_356 mo_X12_isWaiting rfl rfl rfl rfl (Nat.le_of_ble_eq_true rfl) (by first | decide | omega) (k_isWaiting s n (nI J) _ hth.2.2.1 hn he.2.2.2.2.2.2.1) (fun r_10 τ_10 q_10 => ?_)
    obtain ⟨rfl, et_10⟩ := q_10
    have et_10 := et_10.symm
    subst et_10
    dsimp only [Option.toList, List.append, List.cons_append, List.nil_append]
    rw [show σ 156 = P 0 from hr.2.2.2.2.2 0 (by decide)]
    refine g_if_eq (nx := 16) 37 F dX12_told_13 rfl (by decide) (fun c_13 => absurd c_13 (by exact bI_n0.mpr hA1)) (fun c_13 => ?_)
    refine g_iload_n (nx := 17) 3 F dX12_told_16 rfl rfl rfl ?_
    refine g_iconst (nx := 18) (0) F dX12_told_17 rfl rfl ?_
    refine g_sipush (nx := 21) (10000) F dX12_told_18 rfl (by decide) ?_
    refine g_callS (nx := 24) 3 0 [.int x, .int 0, .int 10000] F dX12_told_21 rfl ml_RX12_174 mo_X12_in rfl rfl (Nat.le_of_ble_eq_true rfl) (by first | decide | omega) (k_in x 0 10000 _) (fun r_21 τ_21 q_21 => ?_)
    obtain ⟨rfl, et_21⟩ := q_21
    have et_21 := et_21.symm
    subst et_21
    dsimp only [Option.toList, List.append, List.cons_append, List.nil_append]
    refine g_if_eq (nx := 27) 37 F dX12_told_24 rfl (by decide) (fun c_24 => ?_) (fun c_24 => absurd c_24 (by exact fun zq => zq (bI_f (by unfold isin at hA2; simp only [Int32.reduceToInt, Int32.toInt_zero]; omega))))
    refine g_iconst (nx := 38) (-1) F dX12_told_37 rfl rfl ?_
    refine g_iret F E dX12_told_38 ?_
    exact Or.inr ⟨fun z => hA2 z.2.2.1, rfl, rfl⟩
  rcases (Classical.em (isin w 2)).symm with hA3 | hA3
  · refine g_aload_n (nx := 1) 0 F dX12_told_0 rfl rfl rfl ?_
    refine g_iload_n (nx := 2) 1 F dX12_told_1 rfl rfl rfl ?_
    refine g_callV (nx := 5) 1 0 [.int (nI I)] F dX12_told_2 rfl ml_RX12_291 mo_X12_isClerk rfl rfl rfl rfl (Nat.le_of_ble_eq_true rfl) (by first | decide | omega) (k_isClerk (nI I) _) (fun r_2 τ_2 q_2 => ?_)
    obtain ⟨rfl, et_2⟩ := q_2
    have et_2 := et_2.symm
    subst et_2
    dsimp only [Option.toList, List.append, List.cons_append, List.nil_append]
    rw [he.2.2.2.2.2.2.2.2.1, nI_toInt (n := e) (by omega)]
    refine g_if_eq (nx := 8) 37 F dX12_told_5 rfl (by decide) (fun c_5 => absurd c_5 (by exact bI_n0.mpr hA0)) (fun c_5 => ?_)
    refine g_aload_n (nx := 9) 0 F dX12_told_8 rfl rfl rfl ?_
    refine g_iload_n (nx := 10) 2 F dX12_told_9 rfl rfl rfl ?_
    refine g_callV (nx := 13) 1 1 [.int (nI J)] F dX12_told_10 rfl ml_RX12_356 mo_X12_isWaiting rfl rfl rfl rfl (Nat.le_of_ble_eq_true rfl) (by first | decide | omega) (k_isWaiting s n (nI J) _ hth.2.2.1 hn he.2.2.2.2.2.2.1) (fun r_10 τ_10 q_10 => ?_)
    obtain ⟨rfl, et_10⟩ := q_10
    have et_10 := et_10.symm
    subst et_10
    dsimp only [Option.toList, List.append, List.cons_append, List.nil_append]
    rw [show σ 156 = P 0 from hr.2.2.2.2.2 0 (by decide)]
    refine g_if_eq (nx := 16) 37 F dX12_told_13 rfl (by decide) (fun c_13 => absurd c_13 (by exact bI_n0.mpr hA1)) (fun c_13 => ?_)
    refine g_iload_n (nx := 17) 3 F dX12_told_16 rfl rfl rfl ?_
    refine g_iconst (nx := 18) (0) F dX12_told_17 rfl rfl ?_
    refine g_sipush (nx := 21) (10000) F dX12_told_18 rfl (by decide) ?_
    refine g_callS (nx := 24) 3 0 [.int x, .int 0, .int 10000] F dX12_told_21 rfl ml_RX12_174 mo_X12_in rfl rfl (Nat.le_of_ble_eq_true rfl) (by first | decide | omega) (k_in x 0 10000 _) (fun r_21 τ_21 q_21 => ?_)
    obtain ⟨rfl, et_21⟩ := q_21
    have et_21 := et_21.symm
    subst et_21
    dsimp only [Option.toList, List.append, List.cons_append, List.nil_append]
    refine g_if_eq (nx := 27) 37 F dX12_told_24 rfl (by decide) (fun c_24 => absurd c_24 (by exact bI_n0.mpr (by unfold isin at hA2; simp only [Int32.reduceToInt, Int32.toInt_zero]; omega))) (fun c_24 => ?_)
    refine g_iload (nx := 29) F dX12_told_27 rfl rfl ?_
    refine g_iconst (nx := 30) (0) F dX12_told_29 rfl rfl ?_
    refine g_iconst (nx := 31) (2) F dX12_told_30 rfl rfl ?_
    refine g_callS (nx := 34) 3 0 [.int w, .int 0, .int 2] F dX12_told_31 rfl ml_RX12_174 mo_X12_in rfl rfl (Nat.le_of_ble_eq_true rfl) (by first | decide | omega) (k_in w 0 2 _) (fun r_31 τ_31 q_31 => ?_)
    obtain ⟨rfl, et_31⟩ := q_31
    have et_31 := et_31.symm
    subst et_31
    dsimp only [Option.toList, List.append, List.cons_append, List.nil_append]
    refine g_if_ne (nx := 37) 39 F dX12_told_34 rfl (by decide) (fun c_34 => absurd c_34 (by exact fun zq => zq (bI_f (by unfold isin at hA3; simp only [Int32.reduceToInt, Int32.toInt_zero]; omega)))) (fun c_34 => ?_)
    refine g_iconst (nx := 38) (-1) F dX12_told_37 rfl rfl ?_
    refine g_iret F E dX12_told_38 ?_
    exact Or.inr ⟨fun z => hA3 z.2.2.2, rfl, rfl⟩
  refine g_aload_n (nx := 1) 0 F dX12_told_0 rfl rfl rfl ?_
  refine g_iload_n (nx := 2) 1 F dX12_told_1 rfl rfl rfl ?_
  refine g_callV (nx := 5) 1 0 [.int (nI I)] F dX12_told_2 rfl ml_RX12_291 mo_X12_isClerk rfl rfl rfl rfl (Nat.le_of_ble_eq_true rfl) (by first | decide | omega) (k_isClerk (nI I) _) (fun r_2 τ_2 q_2 => ?_)
  obtain ⟨rfl, et_2⟩ := q_2
  have et_2 := et_2.symm
  subst et_2
  dsimp only [Option.toList, List.append, List.cons_append, List.nil_append]
  rw [he.2.2.2.2.2.2.2.2.1, nI_toInt (n := e) (by omega)]
  refine g_if_eq (nx := 8) 37 F dX12_told_5 rfl (by decide) (fun c_5 => absurd c_5 (by exact bI_n0.mpr hA0)) (fun c_5 => ?_)
  refine g_aload_n (nx := 9) 0 F dX12_told_8 rfl rfl rfl ?_
  refine g_iload_n (nx := 10) 2 F dX12_told_9 rfl rfl rfl ?_
  refine g_callV (nx := 13) 1 1 [.int (nI J)] F dX12_told_10 rfl ml_RX12_356 mo_X12_isWaiting rfl rfl rfl rfl (Nat.le_of_ble_eq_true rfl) (by first | decide | omega) (k_isWaiting s n (nI J) _ hth.2.2.1 hn he.2.2.2.2.2.2.1) (fun r_10 τ_10 q_10 => ?_)
  obtain ⟨rfl, et_10⟩ := q_10
  have et_10 := et_10.symm
  subst et_10
  dsimp only [Option.toList, List.append, List.cons_append, List.nil_append]
  rw [show σ 156 = P 0 from hr.2.2.2.2.2 0 (by decide)]
  refine g_if_eq (nx := 16) 37 F dX12_told_13 rfl (by decide) (fun c_13 => absurd c_13 (by exact bI_n0.mpr hA1)) (fun c_13 => ?_)
  refine g_iload_n (nx := 17) 3 F dX12_told_16 rfl rfl rfl ?_
  refine g_iconst (nx := 18) (0) F dX12_told_17 rfl rfl ?_
  refine g_sipush (nx := 21) (10000) F dX12_told_18 rfl (by decide) ?_
  refine g_callS (nx := 24) 3 0 [.int x, .int 0, .int 10000] F dX12_told_21 rfl ml_RX12_174 mo_X12_in rfl rfl (Nat.le_of_ble_eq_true rfl) (by first | decide | omega) (k_in x 0 10000 _) (fun r_21 τ_21 q_21 => ?_)
  obtain ⟨rfl, et_21⟩ := q_21
  have et_21 := et_21.symm
  subst et_21
  dsimp only [Option.toList, List.append, List.cons_append, List.nil_append]
  refine g_if_eq (nx := 27) 37 F dX12_told_24 rfl (by decide) (fun c_24 => absurd c_24 (by exact bI_n0.mpr (by unfold isin at hA2; simp only [Int32.reduceToInt, Int32.toInt_zero]; omega))) (fun c_24 => ?_)
  refine g_iload (nx := 29) F dX12_told_27 rfl rfl ?_
  refine g_iconst (nx := 30) (0) F dX12_told_29 rfl rfl ?_
  refine g_iconst (nx := 31) (2) F dX12_told_30 rfl rfl ?_
  refine g_callS (nx := 34) 3 0 [.int w, .int 0, .int 2] F dX12_told_31 rfl ml_RX12_174 mo_X12_in rfl rfl (Nat.le_of_ble_eq_true rfl) (by first | decide | omega) (k_in w 0 2 _) (fun r_31 τ_31 q_31 => ?_)
  obtain ⟨rfl, et_31⟩ := q_31
  have et_31 := et_31.symm
  subst et_31
  dsimp only [Option.toList, List.append, List.cons_append, List.nil_append]
  refine g_if_ne (nx := 37) 39 F dX12_told_34 rfl (by decide) (fun c_34 => ?_) (fun c_34 => absurd c_34 (by exact bI_n0.mpr (by unfold isin at hA3; simp only [Int32.reduceToInt, Int32.toInt_zero]; omega)))
  refine g_aload_n (nx := 40) 0 F dX12_told_39 rfl rfl rfl ?_
  refine g_iload_n (nx := 41) 1 F dX12_told_40 rfl rfl rfl ?_
  refine g_iload_n (nx := 42) 2 F dX12_told_41 rfl rfl rfl ?_
  refine g_iload_n (nx := 43) 3 F dX12_told_42 rfl rfl rfl ?_
  refine g_callV (nx := 46) 3 1 [.int (nI I), .int (nI J), .int x] F dX12_told_43 rfl ml_RX12_311 mo_X12_feels rfl rfl rfl rfl (Nat.le_of_ble_eq_true rfl) (by first | decide | omega) (k_feels I J a n n x y _ (by omega) (by omega) ((congrFun (hr.2.2.2.2.2 0 (by decide)) J).trans hPa) hth) (fun r_43 τ_43 q_43 => ?_)
  obtain ⟨rfl, g_4, et_4, hg_4⟩ := q_43
  subst et_4
  dsimp only [Option.toList, List.append, List.cons_append, List.nil_append]
  refine g_aload_n (nx := 47) 0 F dX12_told_46 rfl rfl rfl ?_
  refine g_bipush (nx := 49) (10) F dX12_told_47 rfl (by decide) ?_
  refine g_iload (nx := 51) F dX12_told_49 rfl rfl ?_
  refine g_if_ne (nx := 54) 59 F dX12_told_51 rfl (by decide) (fun c_51 => ?_) (fun c_51 => ?_)
  · refine g_iload (nx := 61) F dX12_told_59 rfl rfl ?_
    refine g_iconst (nx := 62) (1) F dX12_told_61 rfl rfl ?_
    refine g_icmp_ne (nx := 65) 70 F dX12_told_62 rfl (by decide) (fun c_62 => ?_) (fun c_62 => ?_)
    · refine g_bipush (nx := 72) (98) F dX12_told_70 rfl (by decide) ?_
      refine g_sipush (nx := 75) (10000) F dX12_told_72 rfl (by decide) ?_
      refine g_callV (nx := 78) 3 2 [.int (nI 10), .int (nI 98), .int 10000] F dX12_told_75 rfl ml_RX12_315 mo_X12_byText rfl rfl rfl rfl (Nat.le_of_ble_eq_true rfl) (by first | decide | omega) (k_byTextT 10 98 (T 10) 10000 _ (by omega) (he.2.2.2.2.2.2.2.2.2.2 10 (by omega)) (txK_congr (fun b b1 b2 => zs_ne _ (by omega) _) (he.2.2.2.2.2.2.2.2.2.1 10 (by omega))) (by decide)) (fun r_75 τ_75 q_75 => ?_)
      obtain ⟨⟨g_75, et_75⟩, rfl⟩ := q_75
      subst et_75
      dsimp only [Option.toList, List.append, List.cons_append, List.nil_append]
      refine g_iret F E dX12_told_78 ?_
      refine Or.inl ⟨⟨hA0, hA1, hA2, hA3⟩, ?_, KR_free hr (fun b b1 b2 b3 => by rw [zs_ne _ b2, zs_ne _ b3]) (fun k k1 k2 => by rw [zs_ne _ (by decide), zs_ne _ (by decide)])⟩
      rw [eJ, nI_tn (by omega), show hdW w = 98 by unfold hdW; first | rw [if_pos c_51] | rw [if_neg c_51, if_pos c_62] | rw [if_neg c_51, if_neg c_62]]
      exact congrArg (fun z => some (Value.int z)) (pkF_congr (he.2.2.2.2.2.2.2.2.2.2 10 (by omega)).1 (fun k hk => (hg_4 k hk).trans (congrFun (fcK he hr hth ho hPa) k)))
    · refine g_bipush (nx := 67) (107) F dX12_told_65 rfl (by decide) ?_
      refine g_goto 72 F dX12_told_67 (by decide) ?_
      refine g_sipush (nx := 75) (10000) F dX12_told_72 rfl (by decide) ?_
      refine g_callV (nx := 78) 3 2 [.int (nI 10), .int (nI 107), .int 10000] F dX12_told_75 rfl ml_RX12_315 mo_X12_byText rfl rfl rfl rfl (Nat.le_of_ble_eq_true rfl) (by first | decide | omega) (k_byTextT 10 107 (T 10) 10000 _ (by omega) (he.2.2.2.2.2.2.2.2.2.2 10 (by omega)) (txK_congr (fun b b1 b2 => zs_ne _ (by omega) _) (he.2.2.2.2.2.2.2.2.2.1 10 (by omega))) (by decide)) (fun r_75 τ_75 q_75 => ?_)
      obtain ⟨⟨g_75, et_75⟩, rfl⟩ := q_75
      subst et_75
      dsimp only [Option.toList, List.append, List.cons_append, List.nil_append]
      refine g_iret F E dX12_told_78 ?_
      refine Or.inl ⟨⟨hA0, hA1, hA2, hA3⟩, ?_, KR_free hr (fun b b1 b2 b3 => by rw [zs_ne _ b2, zs_ne _ b3]) (fun k k1 k2 => by rw [zs_ne _ (by decide), zs_ne _ (by decide)])⟩
      rw [eJ, nI_tn (by omega), show hdW w = 107 by unfold hdW; first | rw [if_pos c_51] | rw [if_neg c_51, if_pos c_62] | rw [if_neg c_51, if_neg c_62]]
      exact congrArg (fun z => some (Value.int z)) (pkF_congr (he.2.2.2.2.2.2.2.2.2.2 10 (by omega)).1 (fun k hk => (hg_4 k hk).trans (congrFun (fcK he hr hth ho hPa) k)))
  · refine g_bipush (nx := 56) (103) F dX12_told_54 rfl (by decide) ?_
    refine g_goto 72 F dX12_told_56 (by decide) ?_
    refine g_sipush (nx := 75) (10000) F dX12_told_72 rfl (by decide) ?_
    refine g_callV (nx := 78) 3 2 [.int (nI 10), .int (nI 103), .int 10000] F dX12_told_75 rfl ml_RX12_315 mo_X12_byText rfl rfl rfl rfl (Nat.le_of_ble_eq_true rfl) (by first | decide | omega) (k_byTextT 10 103 (T 10) 10000 _ (by omega) (he.2.2.2.2.2.2.2.2.2.2 10 (by omega)) (txK_congr (fun b b1 b2 => zs_ne _ (by omega) _) (he.2.2.2.2.2.2.2.2.2.1 10 (by omega))) (by decide)) (fun r_75 τ_75 q_75 => ?_)
    obtain ⟨⟨g_75, et_75⟩, rfl⟩ := q_75
    subst et_75
    dsimp only [Option.toList, List.append, List.cons_append, List.nil_append]
    refine g_iret F E dX12_told_78 ?_
    refine Or.inl ⟨⟨hA0, hA1, hA2, hA3⟩, ?_, KR_free hr (fun b b1 b2 b3 => by rw [zs_ne _ b2, zs_ne _ b3]) (fun k k1 k2 => by rw [zs_ne _ (by decide), zs_ne _ (by decide)])⟩
    rw [eJ, nI_tn (by omega), show hdW w = 103 by unfold hdW; first | rw [if_pos c_51] | rw [if_neg c_51, if_pos c_62] | rw [if_neg c_51, if_neg c_62]]
    exact congrArg (fun z => some (Value.int z)) (pkF_congr (he.2.2.2.2.2.2.2.2.2.2 10 (by omega)).1 (fun k hk => (hg_4 k hk).trans (congrFun (fcK he hr hth ho hPa) k)))
