theorem iss_of {x : Int32} {e : Nat} (he : e ≤ 10) : isset x (nI e) ↔ (0 ≤ x.toInt ∧ x.toInt < (2 ^ e : Nat)) := by
  have := pow_e he
  unfold isset
  rw [shl_e e he, nI_toInt (by omega)]
theorem rsP_neg {wo : Nat → Nat → Bool} {e : Nat} {w : Int32} (hw : w.toInt < 0) : ∀ (q x : Nat), x + q ≤ 2000 → rsP wo e w q x = -1
  | 0, _, _ => rfl
  | q + 1, x, h => by
    rw [rsP, if_neg (fun z => ?_)]
    · exact rsP_neg hw q (x + 1) (by omega)
    · have := rsN_le wo e x
      have h2 := z.2
      rw [h2, nI_toInt (by omega)] at hw
      omega
theorem rsP_eq {wo : Nat → Nat → Bool} {e : Nat} {w : Int32} : ∀ (q x : Nat), x + q ≤ 2000 → w = -1 → rsP wo e w q x = -1 := fun q x h hw => rsP_neg (by rw [hw]; decide) q x h
/-- behind learnWants, and what goes on from there: the cells that were learnt -/
def gL (σ τ : zSt) (e : Nat) (gv : Nat → Nat → Int32) : Prop := fL σ τ ∧ τ 37 6 = nI e ∧ lrS τ e gv
theorem gL_fA {σ τ ρ : zSt} {e : Nat} {gv : Nat → Nat → Int32} (he : e ≤ 10) (h : gL σ τ e gv) (g : fA τ ρ) (ha : afS ρ e gv) : gL σ ρ e gv := ⟨fL_fA h.1 g, by rw [g 37 (by decide)]; exact h.2.1, fun i hi o ho => by rw [g (39 + i) (by omega)]; exact h.2.2.1 i hi o ho, ha⟩
def rsV (wo : Nat → Nat → Bool) (e : Nat) (w : Int32) : Int32 := if w = -1 then nI (rsN wo e (2 ^ e)) else rsP wo e w (2 ^ e) 0
set_option maxHeartbeats 4000000 in
set_option maxRecDepth 100000 in
theorem k_hasGain (G : Bool) (σ : zSt) (hG : σ 170 11 = bI (G = true)) : Con mX12_hasGain 0 [.ref 145] σ (fun r τ => r = some (.int (bI (G = true))) ∧ τ = σ) := by
  refine Con.of (lv := [.ref 145]) mk_X12_hasGain rfl (Nat.le_of_ble_eq_true rfl) rfl (fun X F E => ?_)
  cases G
  · refine g_aload_n (nx := 1) 0 F dX12_hasGain_0 rfl rfl rfl ?_
    refine g_getR (nx := 4) F dX12_hasGain_1 rfl fl_RX12_83 rfl (by decide) (by decide) rfl ?_
    refine g_bipush (nx := 6) (11) F dX12_hasGain_4 rfl (by decide) ?_
    show Gs X 6 _ (.int (nI 11) :: .ref 170 :: []) _
    refine g_ialdN (nx := 7) (11) (0) F dX12_hasGain_6 rfl rfl (by decide) (hG) ?_
    refine g_if_le (nx := 10) 14 F dX12_hasGain_7 rfl (by decide) (fun c_7 => ?_) (fun c_7 => absurd c_7 (by decide))
    refine g_iconst (nx := 15) (0) F dX12_hasGain_14 rfl rfl ?_
    refine g_zret F E dX12_hasGain_15 (by first | rfl | assumption) ?_
    exact ⟨rfl, rfl⟩
  · refine g_aload_n (nx := 1) 0 F dX12_hasGain_0 rfl rfl rfl ?_
    refine g_getR (nx := 4) F dX12_hasGain_1 rfl fl_RX12_83 rfl (by decide) (by decide) rfl ?_
    refine g_bipush (nx := 6) (11) F dX12_hasGain_4 rfl (by decide) ?_
    show Gs X 6 _ (.int (nI 11) :: .ref 170 :: []) _
    refine g_ialdN (nx := 7) (11) (1) F dX12_hasGain_6 rfl rfl (by decide) (hG) ?_
    refine g_if_le (nx := 10) 14 F dX12_hasGain_7 rfl (by decide) (fun c_7 => absurd c_7 (by decide)) (fun c_7 => ?_)
    refine g_iconst (nx := 11) (1) F dX12_hasGain_10 rfl rfl ?_
    refine g_goto 15 F dX12_hasGain_11 (by decide) ?_
    refine g_zret F E dX12_hasGain_15 (by first | rfl | assumption) ?_
    exact ⟨rfl, rfl⟩
set_option maxHeartbeats 4000000 in
set_option maxRecDepth 100000 in
theorem c_rest (x : Int32) (op vl : Nat → Nat) (len e : Nat) (fe pa : Nat → Int32) (G : Bool) (σ : zSt) (hc : σ 3 3 = nI e) (he10 : e ≤ 10) (hG : σ 37 3 = bI (G = true)) (hgn : G = true → gnC σ op vl len e fe pa) (hch : σ 37 6 = nI e → lrS σ e (gvF op vl len fe pa e)) : Con mX11_rest 3 [.ref 0, .int x] σ (fun r τ => ((isset x (nI e) ∧ G = true) ∧ r = some (.int (bI (∀ i, i < e → woB (gvF op vl len fe pa e) x.toInt.toNat i = false))) ∧ gL σ τ e (gvF op vl len fe pa e)) ∨ (¬ (isset x (nI e) ∧ G = true) ∧ r = some (.int (-1)) ∧ τ = σ)) := by
  refine Con.of (lv := [.ref 0, .int x]) mk_X11_rest rfl (Nat.le_of_ble_eq_true rfl) rfl (fun X F E => ?_)
  rcases (Classical.em (isset x (nI e))).symm with hA0 | hA0
  · refine g_aload_n (nx := 1) 0 F dX11_rest_0 rfl rfl rfl ?_
    refine g_getR (nx := 4) F dX11_rest_1 rfl fl_RX11_19 rfl (by decide) (by decide) rfl ?_
    refine g_iload_n (nx := 5) 1 F dX11_rest_4 rfl rfl rfl ?_
    refine g_callV (nx := 8) 1 0 [.int x] F dX11_rest_5 rfl ml_RX11_234 mo_X2_isSet rfl rfl rfl rfl (Nat.le_of_ble_eq_true rfl) (by first | decide | omega) (c_isSet x _) (fun r_5 τ_5 q_5 => ?_)
    obtain ⟨rfl, et_5⟩ := q_5
    have et_5 := et_5.symm
    subst et_5
    dsimp only [Option.toList, List.append, List.cons_append, List.nil_append]
    rw [hc]
    refine g_if_eq (nx := 11) 21 F dX11_rest_8 rfl (by decide) (fun c_8 => ?_) (fun c_8 => absurd c_8 (by exact fun zq => zq (bI_f hA0)))
    refine g_iconst (nx := 22) (-1) F dX11_rest_21 rfl rfl ?_
    refine g_iret F E dX11_rest_22 ?_
    exact Or.inr ⟨fun z => hA0 z.1, rfl, rfl⟩
  obtain ⟨N, hN, rfl⟩ := nI_ofr ((iss_of he10).mp hA0)
  have hN10 := pow_e he10
  have eN : (nI N).toInt.toNat = N := nI_tn (by omega)
  rcases (Classical.em (G = true)).symm with hA1 | hA1
  · refine g_aload_n (nx := 1) 0 F dX11_rest_0 rfl rfl rfl ?_
    refine g_getR (nx := 4) F dX11_rest_1 rfl fl_RX11_19 rfl (by decide) (by decide) rfl ?_
    refine g_iload_n (nx := 5) 1 F dX11_rest_4 rfl rfl rfl ?_
    refine g_callV (nx := 8) 1 0 [.int (nI N)] F dX11_rest_5 rfl ml_RX11_234 mo_X2_isSet rfl rfl rfl rfl (Nat.le_of_ble_eq_true rfl) (by first | decide | omega) (c_isSet (nI N) _) (fun r_5 τ_5 q_5 => ?_)
    obtain ⟨rfl, et_5⟩ := q_5
    have et_5 := et_5.symm
    subst et_5
    dsimp only [Option.toList, List.append, List.cons_append, List.nil_append]
    rw [hc]
    refine g_if_eq (nx := 11) 21 F dX11_rest_8 rfl (by decide) (fun c_8 => absurd c_8 (by exact bI_n0.mpr hA0)) (fun c_8 => ?_)
    refine g_aload_n (nx := 12) 0 F dX11_rest_11 rfl rfl rfl ?_
    refine g_getR (nx := 15) F dX11_rest_12 rfl fl_RX11_54 rfl (by decide) (by decide) rfl ?_
    refine g_getV (nx := 18) (bI (G = true)) F dX11_rest_15 rfl fl_RX11_237 rfl (by decide) (by decide) rfl rfl (hG) ?_
    refine g_if_ne (nx := 21) 23 F dX11_rest_18 rfl (by decide) (fun c_18 => absurd c_18 (by exact fun zq => zq (bI_f hA1))) (fun c_18 => ?_)
    refine g_iconst (nx := 22) (-1) F dX11_rest_21 rfl rfl ?_
    refine g_iret F E dX11_rest_22 ?_
    exact Or.inr ⟨fun z => hA1 z.2, rfl, rfl⟩
  refine g_aload_n (nx := 1) 0 F dX11_rest_0 rfl rfl rfl ?_
  refine g_getR (nx := 4) F dX11_rest_1 rfl fl_RX11_19 rfl (by decide) (by decide) rfl ?_
  refine g_iload_n (nx := 5) 1 F dX11_rest_4 rfl rfl rfl ?_
  refine g_callV (nx := 8) 1 0 [.int (nI N)] F dX11_rest_5 rfl ml_RX11_234 mo_X2_isSet rfl rfl rfl rfl (Nat.le_of_ble_eq_true rfl) (by first | decide | omega) (c_isSet (nI N) _) (fun r_5 τ_5 q_5 => ?_)
  obtain ⟨rfl, et_5⟩ := q_5
  have et_5 := et_5.symm
  subst et_5
  dsimp only [Option.toList, List.append, List.cons_append, List.nil_append]
  rw [hc]
  refine g_if_eq (nx := 11) 21 F dX11_rest_8 rfl (by decide) (fun c_8 => absurd c_8 (by exact bI_n0.mpr hA0)) (fun c_8 => ?_)
  refine g_aload_n (nx := 12) 0 F dX11_rest_11 rfl rfl rfl ?_
  refine g_getR (nx := 15) F dX11_rest_12 rfl fl_RX11_54 rfl (by decide) (by decide) rfl ?_
  refine g_getV (nx := 18) (bI (G = true)) F dX11_rest_15 rfl fl_RX11_237 rfl (by decide) (by decide) rfl rfl (hG) ?_
  refine g_if_ne (nx := 21) 23 F dX11_rest_18 rfl (by decide) (fun c_18 => ?_) (fun c_18 => absurd c_18 (by exact bI_n0.mpr hA1))
  refine g_aload_n (nx := 24) 0 F dX11_rest_23 rfl rfl rfl ?_
  refine g_getR (nx := 27) F dX11_rest_24 rfl fl_RX11_54 rfl (by decide) (by decide) rfl ?_
  refine g_callV (nx := 30) 0 2 [] F dX11_rest_27 rfl ml_RX11_241 mo_X8_learnWants rfl rfl rfl rfl (Nat.le_of_ble_eq_true rfl) (by first | decide | omega) (c_learnWants op vl len e fe pa _ (hgn hA1) hch) (fun r_27 τ_27 q_27 => ?_)
  obtain ⟨rfl, hfl, hls, haf, h6⟩ := q_27
  have hfl : gL σ _ e (gvF op vl len fe pa e) := ⟨hfl, h6, hls.2.2, haf⟩
  dsimp only [Option.toList, List.append, List.cons_append, List.nil_append]
  refine g_aload_n (nx := 31) 0 F dX11_rest_30 rfl rfl rfl ?_
  refine g_getR (nx := 34) F dX11_rest_31 rfl fl_RX11_54 rfl (by decide) (by decide) rfl ?_
  refine g_iload_n (nx := 35) 1 F dX11_rest_34 rfl rfl rfl ?_
  refine g_callV (nx := 38) 1 2 [.int (nI N)] F dX11_rest_35 rfl ml_RX11_244 mo_X8_isResting rfl rfl rfl rfl (Nat.le_of_ble_eq_true rfl) (by first | decide | omega) (c_isResting e N (gvF op vl len fe pa e) _ hls hN) (fun r_35 τ_35 q_35 => ?_)
  obtain ⟨rfl, et_35⟩ := q_35
  have et_35 := et_35.symm
  subst et_35
  dsimp only [Option.toList, List.append, List.cons_append, List.nil_append]
  refine g_if_eq (nx := 41) 45 F dX11_rest_38 rfl (by decide) (fun c_38 => ?_) (fun c_38 => ?_)
  · refine g_iconst (nx := 46) (0) F dX11_rest_45 rfl rfl ?_
    refine g_iret F E dX11_rest_46 ?_
    refine Or.inl ⟨⟨hA0, hA1⟩, ?_, hfl⟩
    rw [eN]
    first
      | exact congrArg (fun z => some (Value.int z)) c_38.symm
      | exact congrArg (fun z => some (Value.int z)) (bI_t (bI_n0.mp c_38)).symm
  · refine g_iconst (nx := 42) (1) F dX11_rest_41 rfl rfl ?_
    refine g_goto 46 F dX11_rest_42 (by decide) ?_
    refine g_iret F E dX11_rest_46 ?_
    refine Or.inl ⟨⟨hA0, hA1⟩, ?_, hfl⟩
    rw [eN]
    first
      | exact congrArg (fun z => some (Value.int z)) c_38.symm
      | exact congrArg (fun z => some (Value.int z)) (bI_t (bI_n0.mp c_38)).symm
set_option maxHeartbeats 4000000 in
set_option maxRecDepth 100000 in
theorem k_rest (x : Int32) (op vl : Nat → Nat) (len e : Nat) (fe pa : Nat → Int32) (G : Bool) (σ : zSt) (hc : σ 145 1 = nI e) (he10 : e ≤ 10) (hG : σ 170 11 = bI (G = true)) (hgn : G = true → gnK σ op vl len e fe pa) : Con mX12_rest 5 [.ref 145, .int x] σ (fun r τ => ((isset x (nI e) ∧ G = true) ∧ r = some (.int (bI (∀ i, i < e → woB (gvF op vl len fe pa e) x.toInt.toNat i = false))) ∧ fK σ τ) ∨ (¬ (isset x (nI e) ∧ G = true) ∧ r = some (.int (-1)) ∧ τ = σ)) := by
  refine Con.of (lv := [.ref 145, .int x]) mk_X12_rest rfl (Nat.le_of_ble_eq_true rfl) rfl (fun X F E => ?_)
  rcases (Classical.em (isset x (nI e))).symm with hA0 | hA0
  · refine g_aload_n (nx := 1) 0 F dX12_rest_0 rfl rfl rfl ?_
    refine g_iload_n (nx := 2) 1 F dX12_rest_1 rfl rfl rfl ?_
    refine g_callV (nx := 5) 1 0 [.int x] F dX12_rest_2 rfl ml_RX12_178 mo_X12_isSet rfl rfl rfl rfl (Nat.le_of_ble_eq_true rfl) (by first | decide | omega) (k_isSet x _) (fun r_2 τ_2 q_2 => ?_)
    obtain ⟨rfl, et_2⟩ := q_2
    have et_2 := et_2.symm
    subst et_2
    dsimp only [Option.toList, List.append, List.cons_append, List.nil_append]
    rw [hc]
    refine g_if_eq (nx := 8) 15 F dX12_rest_5 rfl (by decide) (fun c_5 => ?_) (fun c_5 => absurd c_5 (by exact fun zq => zq (bI_f hA0)))
    refine g_iconst (nx := 16) (-1) F dX12_rest_15 rfl rfl ?_
    refine g_goto 32 F dX12_rest_16 (by decide) ?_
    refine g_iret F E dX12_rest_32 ?_
    exact Or.inr ⟨fun z => hA0 z.1, rfl, rfl⟩
  obtain ⟨N, hN, rfl⟩ := nI_ofr ((iss_of he10).mp hA0)
  have hN10 := pow_e he10
  have eN : (nI N).toInt.toNat = N := nI_tn (by omega)
  rcases (Classical.em (G = true)).symm with hA1 | hA1
  · refine g_aload_n (nx := 1) 0 F dX12_rest_0 rfl rfl rfl ?_
    refine g_iload_n (nx := 2) 1 F dX12_rest_1 rfl rfl rfl ?_
    refine g_callV (nx := 5) 1 0 [.int (nI N)] F dX12_rest_2 rfl ml_RX12_178 mo_X12_isSet rfl rfl rfl rfl (Nat.le_of_ble_eq_true rfl) (by first | decide | omega) (k_isSet (nI N) _) (fun r_2 τ_2 q_2 => ?_)
    obtain ⟨rfl, et_2⟩ := q_2
    have et_2 := et_2.symm
    subst et_2
    dsimp only [Option.toList, List.append, List.cons_append, List.nil_append]
    rw [hc]
    refine g_if_eq (nx := 8) 15 F dX12_rest_5 rfl (by decide) (fun c_5 => absurd c_5 (by exact bI_n0.mpr hA0)) (fun c_5 => ?_)
    refine g_aload_n (nx := 9) 0 F dX12_rest_8 rfl rfl rfl ?_
    refine g_callV (nx := 12) 0 0 [] F dX12_rest_9 rfl ml_RX12_365 mo_X12_hasGain rfl rfl rfl rfl (Nat.le_of_ble_eq_true rfl) (by first | decide | omega) (k_hasGain G _ hG) (fun r_9 τ_9 q_9 => ?_)
    obtain ⟨rfl, et_9⟩ := q_9
    have et_9 := et_9.symm
    subst et_9
    dsimp only [Option.toList, List.append, List.cons_append, List.nil_append]
    refine g_if_ne (nx := 15) 19 F dX12_rest_12 rfl (by decide) (fun c_12 => absurd c_12 (by exact fun zq => zq (bI_f hA1))) (fun c_12 => ?_)
    refine g_iconst (nx := 16) (-1) F dX12_rest_15 rfl rfl ?_
    refine g_goto 32 F dX12_rest_16 (by decide) ?_
    refine g_iret F E dX12_rest_32 ?_
    exact Or.inr ⟨fun z => hA1 z.2, rfl, rfl⟩
  refine g_aload_n (nx := 1) 0 F dX12_rest_0 rfl rfl rfl ?_
  refine g_iload_n (nx := 2) 1 F dX12_rest_1 rfl rfl rfl ?_
  refine g_callV (nx := 5) 1 0 [.int (nI N)] F dX12_rest_2 rfl ml_RX12_178 mo_X12_isSet rfl rfl rfl rfl (Nat.le_of_ble_eq_true rfl) (by first | decide | omega) (k_isSet (nI N) _) (fun r_2 τ_2 q_2 => ?_)
  obtain ⟨rfl, et_2⟩ := q_2
  have et_2 := et_2.symm
  subst et_2
  dsimp only [Option.toList, List.append, List.cons_append, List.nil_append]
  rw [hc]
  refine g_if_eq (nx := 8) 15 F dX12_rest_5 rfl (by decide) (fun c_5 => absurd c_5 (by exact bI_n0.mpr hA0)) (fun c_5 => ?_)
  refine g_aload_n (nx := 9) 0 F dX12_rest_8 rfl rfl rfl ?_
  refine g_callV (nx := 12) 0 0 [] F dX12_rest_9 rfl ml_RX12_365 mo_X12_hasGain rfl rfl rfl rfl (Nat.le_of_ble_eq_true rfl) (by first | decide | omega) (k_hasGain G _ hG) (fun r_9 τ_9 q_9 => ?_)
  obtain ⟨rfl, et_9⟩ := q_9
  have et_9 := et_9.symm
  subst et_9
  dsimp only [Option.toList, List.append, List.cons_append, List.nil_append]
  refine g_if_ne (nx := 15) 19 F dX12_rest_12 rfl (by decide) (fun c_12 => ?_) (fun c_12 => absurd c_12 (by exact bI_n0.mpr hA1))
  refine g_aload_n (nx := 20) 0 F dX12_rest_19 rfl rfl rfl ?_
  refine g_iload_n (nx := 21) 1 F dX12_rest_20 rfl rfl rfl ?_
  refine g_callV (nx := 24) 1 4 [.int (nI N)] F dX12_rest_21 rfl ml_RX12_368 mo_X12_isRest rfl rfl rfl rfl (Nat.le_of_ble_eq_true rfl) (by first | decide | omega) (k_isRest op vl len e N fe pa _ (hgn hA1) (by omega)) (fun r_21 τ_21 q_21 => ?_)
  obtain ⟨rfl, hfr⟩ := q_21
  dsimp only [Option.toList, List.append, List.cons_append, List.nil_append]
  refine g_if_eq (nx := 27) 31 F dX12_rest_24 rfl (by decide) (fun c_24 => ?_) (fun c_24 => ?_)
  · refine g_iconst (nx := 32) (0) F dX12_rest_31 rfl rfl ?_
    refine g_iret F E dX12_rest_32 ?_
    refine Or.inl ⟨⟨hA0, hA1⟩, ?_, hfr⟩
    rw [eN]
    first
      | exact congrArg (fun z => some (Value.int z)) c_24.symm
      | exact congrArg (fun z => some (Value.int z)) (bI_t (bI_n0.mp c_24)).symm
  · refine g_iconst (nx := 28) (1) F dX12_rest_27 rfl rfl ?_
    refine g_goto 32 F dX12_rest_28 (by decide) ?_
    refine g_iret F E dX12_rest_32 ?_
    refine Or.inl ⟨⟨hA0, hA1⟩, ?_, hfr⟩
    rw [eN]
    first
      | exact congrArg (fun z => some (Value.int z)) c_24.symm
      | exact congrArg (fun z => some (Value.int z)) (bI_t (bI_n0.mp c_24)).symm
set_option maxHeartbeats 4000000 in
set_option maxRecDepth 100000 in
theorem c_goesTo (x : Int32) (op vl : Nat → Nat) (len e : Nat) (fe pa : Nat → Int32) (G : Bool) (σ : zSt) (hc : σ 3 3 = nI e) (he10 : e ≤ 10) (hG : σ 37 3 = bI (G = true)) (hgn : G = true → gnC σ op vl len e fe pa) (hch : σ 37 6 = nI e → lrS σ e (gvF op vl len fe pa e)) : Con mX11_goesTo 4 [.ref 0, .int x] σ (fun r τ => ((isset x (nI e) ∧ G = true) ∧ r = some (.int (stF (woB (gvF op vl len fe pa e)) e 100 x.toInt.toNat)) ∧ gL σ τ e (gvF op vl len fe pa e)) ∨ (¬ (isset x (nI e) ∧ G = true) ∧ r = some (.int (-1)) ∧ τ = σ)) := by
  refine Con.of (lv := [.ref 0, .int x]) mk_X11_goesTo rfl (Nat.le_of_ble_eq_true rfl) rfl (fun X F E => ?_)
  rcases (Classical.em (isset x (nI e))).symm with hA0 | hA0
  · refine g_aload_n (nx := 1) 0 F dX11_goesTo_0 rfl rfl rfl ?_
    refine g_getR (nx := 4) F dX11_goesTo_1 rfl fl_RX11_19 rfl (by decide) (by decide) rfl ?_
    refine g_iload_n (nx := 5) 1 F dX11_goesTo_4 rfl rfl rfl ?_
    refine g_callV (nx := 8) 1 0 [.int x] F dX11_goesTo_5 rfl ml_RX11_234 mo_X2_isSet rfl rfl rfl rfl (Nat.le_of_ble_eq_true rfl) (by first | decide | omega) (c_isSet x _) (fun r_5 τ_5 q_5 => ?_)
    obtain ⟨rfl, et_5⟩ := q_5
    have et_5 := et_5.symm
    subst et_5
    dsimp only [Option.toList, List.append, List.cons_append, List.nil_append]
    rw [hc]
    refine g_if_eq (nx := 11) 21 F dX11_goesTo_8 rfl (by decide) (fun c_8 => ?_) (fun c_8 => absurd c_8 (by exact fun zq => zq (bI_f hA0)))
    refine g_iconst (nx := 22) (-1) F dX11_goesTo_21 rfl rfl ?_
    refine g_iret F E dX11_goesTo_22 ?_
    exact Or.inr ⟨fun z => hA0 z.1, rfl, rfl⟩
  obtain ⟨N, hN, rfl⟩ := nI_ofr ((iss_of he10).mp hA0)
  have hN10 := pow_e he10
  have eN : (nI N).toInt.toNat = N := nI_tn (by omega)
  rcases (Classical.em (G = true)).symm with hA1 | hA1
  · refine g_aload_n (nx := 1) 0 F dX11_goesTo_0 rfl rfl rfl ?_
    refine g_getR (nx := 4) F dX11_goesTo_1 rfl fl_RX11_19 rfl (by decide) (by decide) rfl ?_
    refine g_iload_n (nx := 5) 1 F dX11_goesTo_4 rfl rfl rfl ?_
    refine g_callV (nx := 8) 1 0 [.int (nI N)] F dX11_goesTo_5 rfl ml_RX11_234 mo_X2_isSet rfl rfl rfl rfl (Nat.le_of_ble_eq_true rfl) (by first | decide | omega) (c_isSet (nI N) _) (fun r_5 τ_5 q_5 => ?_)
    obtain ⟨rfl, et_5⟩ := q_5
    have et_5 := et_5.symm
    subst et_5
    dsimp only [Option.toList, List.append, List.cons_append, List.nil_append]
    rw [hc]
    refine g_if_eq (nx := 11) 21 F dX11_goesTo_8 rfl (by decide) (fun c_8 => absurd c_8 (by exact bI_n0.mpr hA0)) (fun c_8 => ?_)
    refine g_aload_n (nx := 12) 0 F dX11_goesTo_11 rfl rfl rfl ?_
    refine g_getR (nx := 15) F dX11_goesTo_12 rfl fl_RX11_54 rfl (by decide) (by decide) rfl ?_
    refine g_getV (nx := 18) (bI (G = true)) F dX11_goesTo_15 rfl fl_RX11_237 rfl (by decide) (by decide) rfl rfl (hG) ?_
    refine g_if_ne (nx := 21) 23 F dX11_goesTo_18 rfl (by decide) (fun c_18 => absurd c_18 (by exact fun zq => zq (bI_f hA1))) (fun c_18 => ?_)
    refine g_iconst (nx := 22) (-1) F dX11_goesTo_21 rfl rfl ?_
    refine g_iret F E dX11_goesTo_22 ?_
    exact Or.inr ⟨fun z => hA1 z.2, rfl, rfl⟩
  refine g_aload_n (nx := 1) 0 F dX11_goesTo_0 rfl rfl rfl ?_
  refine g_getR (nx := 4) F dX11_goesTo_1 rfl fl_RX11_19 rfl (by decide) (by decide) rfl ?_
  refine g_iload_n (nx := 5) 1 F dX11_goesTo_4 rfl rfl rfl ?_
  refine g_callV (nx := 8) 1 0 [.int (nI N)] F dX11_goesTo_5 rfl ml_RX11_234 mo_X2_isSet rfl rfl rfl rfl (Nat.le_of_ble_eq_true rfl) (by first | decide | omega) (c_isSet (nI N) _) (fun r_5 τ_5 q_5 => ?_)
  obtain ⟨rfl, et_5⟩ := q_5
  have et_5 := et_5.symm
  subst et_5
  dsimp only [Option.toList, List.append, List.cons_append, List.nil_append]
  rw [hc]
  refine g_if_eq (nx := 11) 21 F dX11_goesTo_8 rfl (by decide) (fun c_8 => absurd c_8 (by exact bI_n0.mpr hA0)) (fun c_8 => ?_)
  refine g_aload_n (nx := 12) 0 F dX11_goesTo_11 rfl rfl rfl ?_
  refine g_getR (nx := 15) F dX11_goesTo_12 rfl fl_RX11_54 rfl (by decide) (by decide) rfl ?_
  refine g_getV (nx := 18) (bI (G = true)) F dX11_goesTo_15 rfl fl_RX11_237 rfl (by decide) (by decide) rfl rfl (hG) ?_
  refine g_if_ne (nx := 21) 23 F dX11_goesTo_18 rfl (by decide) (fun c_18 => ?_) (fun c_18 => absurd c_18 (by exact bI_n0.mpr hA1))
  refine g_aload_n (nx := 24) 0 F dX11_goesTo_23 rfl rfl rfl ?_
  refine g_getR (nx := 27) F dX11_goesTo_24 rfl fl_RX11_54 rfl (by decide) (by decide) rfl ?_
  refine g_callV (nx := 30) 0 2 [] F dX11_goesTo_27 rfl ml_RX11_241 mo_X8_learnWants rfl rfl rfl rfl (Nat.le_of_ble_eq_true rfl) (by first | decide | omega) (c_learnWants op vl len e fe pa _ (hgn hA1) hch) (fun r_27 τ_27 q_27 => ?_)
  obtain ⟨rfl, hfl, hls, haf, h6⟩ := q_27
  have hfl : gL σ _ e (gvF op vl len fe pa e) := ⟨hfl, h6, hls.2.2, haf⟩
  dsimp only [Option.toList, List.append, List.cons_append, List.nil_append]
  refine g_aload_n (nx := 31) 0 F dX11_goesTo_30 rfl rfl rfl ?_
  refine g_getR (nx := 34) F dX11_goesTo_31 rfl fl_RX11_54 rfl (by decide) (by decide) rfl ?_
  refine g_iload_n (nx := 35) 1 F dX11_goesTo_34 rfl rfl rfl ?_
  refine g_callV (nx := 38) 1 3 [.int (nI N)] F dX11_goesTo_35 rfl ml_RX11_253 mo_X8_settle rfl rfl rfl rfl (Nat.le_of_ble_eq_true rfl) (by first | decide | omega) (c_settleR e N (gvF op vl len fe pa e) _ hls haf hN) (fun r_35 τ_35 q_35 => ?_)
  obtain ⟨rfl, hf_35, ha_35⟩ := q_35
  dsimp only [Option.toList, List.append, List.cons_append, List.nil_append]
  refine g_iret F E dX11_goesTo_38 ?_
  refine Or.inl ⟨⟨hA0, hA1⟩, ?_, gL_fA he10 hfl hf_35 ha_35⟩
  rw [eN]
set_option maxHeartbeats 4000000 in
set_option maxRecDepth 100000 in
theorem k_goesTo (x : Int32) (op vl : Nat → Nat) (len e : Nat) (fe pa : Nat → Int32) (G : Bool) (σ : zSt) (hc : σ 145 1 = nI e) (he10 : e ≤ 10) (hG : σ 170 11 = bI (G = true)) (hgn : G = true → gnK σ op vl len e fe pa) : Con mX12_goesTo 5 [.ref 145, .int x] σ (fun r τ => ((isset x (nI e) ∧ G = true) ∧ r = some (.int (stF (woB (gvF op vl len fe pa e)) e 100 x.toInt.toNat)) ∧ fK σ τ) ∨ (¬ (isset x (nI e) ∧ G = true) ∧ r = some (.int (-1)) ∧ τ = σ)) := by
  refine Con.of (lv := [.ref 145, .int x]) mk_X12_goesTo rfl (Nat.le_of_ble_eq_true rfl) rfl (fun X F E => ?_)
  rcases (Classical.em (isset x (nI e))).symm with hA0 | hA0
  · refine g_aload_n (nx := 1) 0 F dX12_goesTo_0 rfl rfl rfl ?_
    refine g_iload_n (nx := 2) 1 F dX12_goesTo_1 rfl rfl rfl ?_
    refine g_callV (nx := 5) 1 0 [.int x] F dX12_goesTo_2 rfl ml_RX12_178 mo_X12_isSet rfl rfl rfl rfl (Nat.le_of_ble_eq_true rfl) (by first | decide | omega) (k_isSet x _) (fun r_2 τ_2 q_2 => ?_)
    obtain ⟨rfl, et_2⟩ := q_2
    have et_2 := et_2.symm
    subst et_2
    dsimp only [Option.toList, List.append, List.cons_append, List.nil_append]
    rw [hc]
    refine g_if_eq (nx := 8) 15 F dX12_goesTo_5 rfl (by decide) (fun c_5 => ?_) (fun c_5 => absurd c_5 (by exact fun zq => zq (bI_f hA0)))
    refine g_iconst (nx := 16) (-1) F dX12_goesTo_15 rfl rfl ?_
    refine g_goto 24 F dX12_goesTo_16 (by decide) ?_
    refine g_iret F E dX12_goesTo_24 ?_
    exact Or.inr ⟨fun z => hA0 z.1, rfl, rfl⟩
  obtain ⟨N, hN, rfl⟩ := nI_ofr ((iss_of he10).mp hA0)
  have hN10 := pow_e he10
  have eN : (nI N).toInt.toNat = N := nI_tn (by omega)
  rcases (Classical.em (G = true)).symm with hA1 | hA1
  · refine g_aload_n (nx := 1) 0 F dX12_goesTo_0 rfl rfl rfl ?_
    refine g_iload_n (nx := 2) 1 F dX12_goesTo_1 rfl rfl rfl ?_
    refine g_callV (nx := 5) 1 0 [.int (nI N)] F dX12_goesTo_2 rfl ml_RX12_178 mo_X12_isSet rfl rfl rfl rfl (Nat.le_of_ble_eq_true rfl) (by first | decide | omega) (k_isSet (nI N) _) (fun r_2 τ_2 q_2 => ?_)
    obtain ⟨rfl, et_2⟩ := q_2
    have et_2 := et_2.symm
    subst et_2
    dsimp only [Option.toList, List.append, List.cons_append, List.nil_append]
    rw [hc]
    refine g_if_eq (nx := 8) 15 F dX12_goesTo_5 rfl (by decide) (fun c_5 => absurd c_5 (by exact bI_n0.mpr hA0)) (fun c_5 => ?_)
    refine g_aload_n (nx := 9) 0 F dX12_goesTo_8 rfl rfl rfl ?_
    refine g_callV (nx := 12) 0 0 [] F dX12_goesTo_9 rfl ml_RX12_365 mo_X12_hasGain rfl rfl rfl rfl (Nat.le_of_ble_eq_true rfl) (by first | decide | omega) (k_hasGain G _ hG) (fun r_9 τ_9 q_9 => ?_)
    obtain ⟨rfl, et_9⟩ := q_9
    have et_9 := et_9.symm
    subst et_9
    dsimp only [Option.toList, List.append, List.cons_append, List.nil_append]
    refine g_if_ne (nx := 15) 19 F dX12_goesTo_12 rfl (by decide) (fun c_12 => absurd c_12 (by exact fun zq => zq (bI_f hA1))) (fun c_12 => ?_)
    refine g_iconst (nx := 16) (-1) F dX12_goesTo_15 rfl rfl ?_
    refine g_goto 24 F dX12_goesTo_16 (by decide) ?_
    refine g_iret F E dX12_goesTo_24 ?_
    exact Or.inr ⟨fun z => hA1 z.2, rfl, rfl⟩
  refine g_aload_n (nx := 1) 0 F dX12_goesTo_0 rfl rfl rfl ?_
  refine g_iload_n (nx := 2) 1 F dX12_goesTo_1 rfl rfl rfl ?_
  refine g_callV (nx := 5) 1 0 [.int (nI N)] F dX12_goesTo_2 rfl ml_RX12_178 mo_X12_isSet rfl rfl rfl rfl (Nat.le_of_ble_eq_true rfl) (by first | decide | omega) (k_isSet (nI N) _) (fun r_2 τ_2 q_2 => ?_)
  obtain ⟨rfl, et_2⟩ := q_2
  have et_2 := et_2.symm
  subst et_2
  dsimp only [Option.toList, List.append, List.cons_append, List.nil_append]
  rw [hc]
  refine g_if_eq (nx := 8) 15 F dX12_goesTo_5 rfl (by decide) (fun c_5 => absurd c_5 (by exact bI_n0.mpr hA0)) (fun c_5 => ?_)
  refine g_aload_n (nx := 9) 0 F dX12_goesTo_8 rfl rfl rfl ?_
  refine g_callV (nx := 12) 0 0 [] F dX12_goesTo_9 rfl ml_RX12_365 mo_X12_hasGain rfl rfl rfl rfl (Nat.le_of_ble_eq_true rfl) (by first | decide | omega) (k_hasGain G _ hG) (fun r_9 τ_9 q_9 => ?_)
  obtain ⟨rfl, et_9⟩ := q_9
  have et_9 := et_9.symm
  subst et_9
  dsimp only [Option.toList, List.append, List.cons_append, List.nil_append]
  refine g_if_ne (nx := 15) 19 F dX12_goesTo_12 rfl (by decide) (fun c_12 => ?_) (fun c_12 => absurd c_12 (by exact bI_n0.mpr hA1))
  refine g_aload_n (nx := 20) 0 F dX12_goesTo_19 rfl rfl rfl ?_
  refine g_iload_n (nx := 21) 1 F dX12_goesTo_20 rfl rfl rfl ?_
  refine g_callV (nx := 24) 1 4 [.int (nI N)] F dX12_goesTo_21 rfl ml_RX12_371 mo_X12_end rfl rfl rfl rfl (Nat.le_of_ble_eq_true rfl) (by first | decide | omega) (k_end op vl len e N fe pa _ (hgn hA1) hN) (fun r_21 τ_21 q_21 => ?_)
  obtain ⟨rfl, hfr⟩ := q_21
  dsimp only [Option.toList, List.append, List.cons_append, List.nil_append]
  refine g_iret F E dX12_goesTo_24 ?_
  refine Or.inl ⟨⟨hA0, hA1⟩, ?_, hfr⟩
  rw [eN]
set_option maxHeartbeats 4000000 in
set_option maxRecDepth 100000 in
theorem c_rests (w : Int32) (op vl : Nat → Nat) (len e : Nat) (fe pa : Nat → Int32) (G : Bool) (σ : zSt) (hc : σ 3 3 = nI e) (he10 : e ≤ 10) (hG : σ 37 3 = bI (G = true)) (hgn : G = true → gnC σ op vl len e fe pa) (hch : σ 37 6 = nI e → lrS σ e (gvF op vl len fe pa e)) : Con mX11_rests 4 [.ref 0, .int w] σ (fun r τ => ((G = true) ∧ r = some (.int (rsV (woB (gvF op vl len fe pa e)) e w)) ∧ gL σ τ e (gvF op vl len fe pa e)) ∨ (¬ (G = true) ∧ r = some (.int (-1)) ∧ τ = σ)) := by
  refine Con.of (lv := [.ref 0, .int w]) mk_X11_rests rfl (Nat.le_of_ble_eq_true rfl) rfl (fun X F E => ?_)
  rcases (Classical.em (G = true)).symm with hA0 | hA0
  · refine g_aload_n (nx := 1) 0 F dX11_rests_0 rfl rfl rfl ?_
    refine g_getR (nx := 4) F dX11_rests_1 rfl fl_RX11_54 rfl (by decide) (by decide) rfl ?_
    refine g_getV (nx := 7) (bI (G = true)) F dX11_rests_4 rfl fl_RX11_237 rfl (by decide) (by decide) rfl rfl (hG) ?_
    refine g_if_ne (nx := 10) 12 F dX11_rests_7 rfl (by decide) (fun c_7 => absurd c_7 (by exact fun zq => zq (bI_f hA0))) (fun c_7 => ?_)
    refine g_iconst (nx := 11) (-1) F dX11_rests_10 rfl rfl ?_
    refine g_iret F E dX11_rests_11 ?_
    exact Or.inr ⟨fun z => hA0 z, rfl, rfl⟩
  refine g_aload_n (nx := 1) 0 F dX11_rests_0 rfl rfl rfl ?_
  refine g_getR (nx := 4) F dX11_rests_1 rfl fl_RX11_54 rfl (by decide) (by decide) rfl ?_
  refine g_getV (nx := 7) (bI (G = true)) F dX11_rests_4 rfl fl_RX11_237 rfl (by decide) (by decide) rfl rfl (hG) ?_
  refine g_if_ne (nx := 10) 12 F dX11_rests_7 rfl (by decide) (fun c_7 => ?_) (fun c_7 => absurd c_7 (by exact bI_n0.mpr hA0))
  refine g_aload_n (nx := 13) 0 F dX11_rests_12 rfl rfl rfl ?_
  refine g_getR (nx := 16) F dX11_rests_13 rfl fl_RX11_54 rfl (by decide) (by decide) rfl ?_
  refine g_callV (nx := 19) 0 2 [] F dX11_rests_16 rfl ml_RX11_241 mo_X8_learnWants rfl rfl rfl rfl (Nat.le_of_ble_eq_true rfl) (by first | decide | omega) (c_learnWants op vl len e fe pa _ (hgn hA0) hch) (fun r_16 τ_16 q_16 => ?_)
  obtain ⟨rfl, hfl, hls, haf, h6⟩ := q_16
  have hfl : gL σ _ e (gvF op vl len fe pa e) := ⟨hfl, h6, hls.2.2, haf⟩
  dsimp only [Option.toList, List.append, List.cons_append, List.nil_append]
  refine g_iload_n (nx := 20) 1 F dX11_rests_19 rfl rfl rfl ?_
  refine g_iconst (nx := 21) (-1) F dX11_rests_20 rfl rfl ?_
  refine g_icmp_ne (nx := 24) 34 F dX11_rests_21 rfl (by decide) (fun c_21 => ?_) (fun c_21 => ?_)
  · refine g_aload_n (nx := 35) 0 F dX11_rests_34 rfl rfl rfl ?_
    refine g_getR (nx := 38) F dX11_rests_35 rfl fl_RX11_54 rfl (by decide) (by decide) rfl ?_
    refine g_iload_n (nx := 39) 1 F dX11_rests_38 rfl rfl rfl ?_
    refine g_callV (nx := 42) 1 3 [.int w] F dX11_rests_39 rfl ml_RX11_250 mo_X8_atPlace rfl rfl rfl rfl (Nat.le_of_ble_eq_true rfl) (by first | decide | omega) (c_atPlaceR e w (gvF op vl len fe pa e) _ hls) (fun r_39 τ_39 q_39 => ?_)
    obtain ⟨rfl, et_39⟩ := q_39
    have et_39 := et_39.symm
    subst et_39
    dsimp only [Option.toList, List.append, List.cons_append, List.nil_append]
    refine g_iret F E dX11_rests_42 ?_
    refine Or.inl ⟨hA0, ?_, hfl⟩
    unfold rsV
    first | rw [if_pos c_21] | rw [if_neg c_21]
  · refine g_aload_n (nx := 25) 0 F dX11_rests_24 rfl rfl rfl ?_
    refine g_getR (nx := 28) F dX11_rests_25 rfl fl_RX11_54 rfl (by decide) (by decide) rfl ?_
    refine g_callV (nx := 31) 0 3 [] F dX11_rests_28 rfl ml_RX11_247 mo_X8_howMany rfl rfl rfl rfl (Nat.le_of_ble_eq_true rfl) (by first | decide | omega) (c_howMany e (gvF op vl len fe pa e) _ hls) (fun r_28 τ_28 q_28 => ?_)
    obtain ⟨rfl, et_28⟩ := q_28
    have et_28 := et_28.symm
    subst et_28
    dsimp only [Option.toList, List.append, List.cons_append, List.nil_append]
    refine g_goto 42 F dX11_rests_31 (by decide) ?_
    refine g_iret F E dX11_rests_42 ?_
    refine Or.inl ⟨hA0, ?_, hfl⟩
    unfold rsV
    first | rw [if_pos c_21] | rw [if_neg c_21]
set_option maxHeartbeats 4000000 in
set_option maxRecDepth 100000 in
theorem k_rests (w : Int32) (op vl : Nat → Nat) (len e : Nat) (fe pa : Nat → Int32) (G : Bool) (σ : zSt) (hc : σ 145 1 = nI e) (he10 : e ≤ 10) (hG : σ 170 11 = bI (G = true)) (hgn : G = true → gnK σ op vl len e fe pa) : Con mX12_rests 5 [.ref 145, .int w] σ (fun r τ => ((G = true) ∧ r = some (.int (rsV (woB (gvF op vl len fe pa e)) e w)) ∧ fK σ τ) ∨ (¬ (G = true) ∧ r = some (.int (-1)) ∧ τ = σ)) := by
  refine Con.of (lv := [.ref 145, .int w, .long 0, .long 0]) mk_X12_rests rfl (Nat.le_of_ble_eq_true rfl) rfl (fun X F E => ?_)
  rcases (Classical.em (G = true)).symm with hA0 | hA0
  · refine g_aload_n (nx := 1) 0 F dX12_rests_0 rfl rfl rfl ?_
    refine g_callV (nx := 4) 0 0 [] F dX12_rests_1 rfl ml_RX12_365 mo_X12_hasGain rfl rfl rfl rfl (Nat.le_of_ble_eq_true rfl) (by first | decide | omega) (k_hasGain G _ hG) (fun r_1 τ_1 q_1 => ?_)
    obtain ⟨rfl, et_1⟩ := q_1
    have et_1 := et_1.symm
    subst et_1
    dsimp only [Option.toList, List.append, List.cons_append, List.nil_append]
    refine g_if_eq (nx := 7) 12 F dX12_rests_4 rfl (by decide) (fun c_4 => ?_) (fun c_4 => absurd c_4 (by exact fun zq => zq (bI_f hA0)))
    refine g_iconst (nx := 13) (-1) F dX12_rests_12 rfl rfl ?_
    refine g_iret F E dX12_rests_13 ?_
    exact Or.inr ⟨fun z => hA0 z, rfl, rfl⟩
  have hp10 := pow_e he10
  have hgk := hgn hA0
  have L : ∀ (q x : Nat) (τ : zSt), x + q = 2 ^ e → fK σ τ → (¬ w = -1 → rsP (woB (gvF op vl len fe pa e)) e w q x = rsP (woB (gvF op vl len fe pa e)) e w (2 ^ e) 0) → Gs X 18 [.ref 145, .int w, .int (nI (rsN (woB (gvF op vl len fe pa e)) e x)), .int (nI x)] [] τ := by
    intro q
    induction q with
    | zero =>
      intro x τ hx hfr hA
      have hx : x = 2 ^ e := hx
      refine g_iload_n (nx := 19) 3 F dX12_rests_18 rfl rfl rfl ?_
      refine g_iconst (nx := 20) (1) F dX12_rests_19 rfl rfl ?_
      refine g_aload_n (nx := 21) 0 F dX12_rests_20 rfl rfl rfl ?_
      refine g_getV (nx := 24) (nI e) F dX12_rests_21 rfl fl_RX12_165 rfl (by decide) (by decide) rfl rfl ((congrFun (hfr 145 (by decide) (by decide)) 1).trans hc) ?_
      refine g_ishl (nx := 25) F dX12_rests_24 rfl ?_
      refine g_top (nI (2 ^ e)) (shl_e e he10) ?_
      refine g_icmp_ge (nx := 28) 56 F dX12_rests_25 rfl (by decide) (fun c_25 => ?_) (fun c_25 => absurd c_25 (by exact fun zq => zq (nI_le (by omega) (by omega))))
      refine g_iload_n (nx := 57) 1 F dX12_rests_56 rfl rfl rfl ?_
      refine g_iconst (nx := 58) (-1) F dX12_rests_57 rfl rfl ?_
      refine g_icmp_ne (nx := 61) 65 F dX12_rests_58 rfl (by decide) (fun c_58 => ?_) (fun c_58 => ?_)
      · refine g_iconst (nx := 66) (-1) F dX12_rests_65 rfl rfl ?_
        refine g_iret F E dX12_rests_66 ?_
        refine Or.inl ⟨hA0, ?_, hfr⟩
        unfold rsV
        first
          | (rw [if_pos c_58, hx])
          | (rw [if_neg c_58, ← hA c_58]; rfl)
      · refine g_iload_n (nx := 62) 2 F dX12_rests_61 rfl rfl rfl ?_
        refine g_goto 66 F dX12_rests_62 (by decide) ?_
        refine g_iret F E dX12_rests_66 ?_
        refine Or.inl ⟨hA0, ?_, hfr⟩
        unfold rsV
        first
          | (rw [if_pos c_58, hx])
          | (rw [if_neg c_58, ← hA c_58]; rfl)
    | succ q ih =>
      intro x τ hx hfr hA
      have hle := rsN_le (woB (gvF op vl len fe pa e)) e x
      have ih := ih (x + 1)
      rw [rsP] at hA
      rw [rsN] at ih
      refine g_iload_n (nx := 19) 3 F dX12_rests_18 rfl rfl rfl ?_
      refine g_iconst (nx := 20) (1) F dX12_rests_19 rfl rfl ?_
      refine g_aload_n (nx := 21) 0 F dX12_rests_20 rfl rfl rfl ?_
      refine g_getV (nx := 24) (nI e) F dX12_rests_21 rfl fl_RX12_165 rfl (by decide) (by decide) rfl rfl ((congrFun (hfr 145 (by decide) (by decide)) 1).trans hc) ?_
      refine g_ishl (nx := 25) F dX12_rests_24 rfl ?_
      refine g_top (nI (2 ^ e)) (shl_e e he10) ?_
      refine g_icmp_ge (nx := 28) 56 F dX12_rests_25 rfl (by decide) (fun c_25 => absurd c_25 (by exact nI_ge (by omega) (by omega))) (fun c_25 => ?_)
      refine g_aload_n (nx := 29) 0 F dX12_rests_28 rfl rfl rfl ?_
      refine g_iload_n (nx := 30) 3 F dX12_rests_29 rfl rfl rfl ?_
      refine g_callV (nx := 33) 1 4 [.int (nI x)] F dX12_rests_30 rfl ml_RX12_368 mo_X12_isRest rfl rfl rfl rfl (Nat.le_of_ble_eq_true rfl) (by first | decide | omega) (k_isRest op vl len e x fe pa _ (gnK_fr hfr hgk) (by omega)) (fun r_30 τ_30 q_30 => ?_)
      obtain ⟨rfl, hf_30⟩ := q_30
      have hfr := fK_tr hfr hf_30
      dsimp only [Option.toList, List.append, List.cons_append, List.nil_append]
      refine g_if_ne (nx := 36) 39 F dX12_rests_33 rfl (by decide) (fun c_33 => ?_) (fun c_33 => ?_)
      · refine g_iload_n (nx := 40) 2 F dX12_rests_39 rfl rfl rfl ?_
        refine g_iload_n (nx := 41) 1 F dX12_rests_40 rfl rfl rfl ?_
        refine g_icmp_ne (nx := 44) 46 F dX12_rests_41 rfl (by decide) (fun c_41 => ?_) (fun c_41 => ?_)
        · refine g_iload_n (nx := 47) 2 F dX12_rests_46 rfl rfl rfl ?_
          refine g_iconst (nx := 48) (1) F dX12_rests_47 rfl rfl ?_
          refine g_iadd (nx := 49) F dX12_rests_48 rfl ?_
          refine g_istore_n (nx := 50) 2 F dX12_rests_49 rfl rfl (by decide) ?_
          try dsimp only [List.set]
          refine g_iinc (nx := 53) (1) F dX12_rests_50 rfl rfl (by decide) (by decide) ?_
          try dsimp only [List.set]
          refine g_goto 18 F dX12_rests_53 (by decide) ?_
          rw [nI_1]
          first
            | (have hq0 := bI_n0.mp c_33; rw [if_pos hq0] at ih; rw [nI_1]; refine ih _ (by omega) hfr (fun z => ?_); have hA := hA z; rw [if_neg (fun z2 => c_41 z2.2.symm)] at hA; exact hA)
            | (have hq0 := bI_0.mp c_33; rw [if_neg hq0] at ih; refine ih _ (by omega) hfr (fun z => ?_); have hA := hA z; rw [if_neg (fun z2 => hq0 z2.1)] at hA; exact hA)
        · refine g_iload_n (nx := 45) 3 F dX12_rests_44 rfl rfl rfl ?_
          refine g_iret F E dX12_rests_45 ?_
          have hq : (∀ i, i < e → woB (gvF op vl len fe pa e) x i = false) ∧ w = nI (rsN (woB (gvF op vl len fe pa e)) e x) := ⟨bI_n0.mp c_33, c_41.symm⟩
          have hw1 : ¬ w = -1 := fun z => by
            have h1 := hq.2
            rw [z] at h1
            have h2 := congrArg Int32.toInt h1
            rw [nI_toInt (by omega)] at h2
            exact absurd h2 (by simp only [Int32.reduceToInt]; omega)
          have hA := hA hw1
          rw [if_pos hq] at hA
          refine Or.inl ⟨hA0, ?_, hfr⟩
          unfold rsV
          rw [if_neg hw1, ← hA]
      · refine g_goto 50 F dX12_rests_36 (by decide) ?_
        refine g_iinc (nx := 53) (1) F dX12_rests_50 rfl rfl (by decide) (by decide) ?_
        try dsimp only [List.set]
        refine g_goto 18 F dX12_rests_53 (by decide) ?_
        rw [nI_1]
        first
          | (have hq0 := bI_n0.mp c_33; rw [if_pos hq0] at ih; rw [nI_1]; refine ih _ (by omega) hfr (fun z => ?_); have hA := hA z; rw [if_neg (fun z2 => c_41 z2.2.symm)] at hA; exact hA)
          | (have hq0 := bI_0.mp c_33; rw [if_neg hq0] at ih; refine ih _ (by omega) hfr (fun z => ?_); have hA := hA z; rw [if_neg (fun z2 => hq0 z2.1)] at hA; exact hA)
  refine g_aload_n (nx := 1) 0 F dX12_rests_0 rfl rfl rfl ?_
  refine g_callV (nx := 4) 0 0 [] F dX12_rests_1 rfl ml_RX12_365 mo_X12_hasGain rfl rfl rfl rfl (Nat.le_of_ble_eq_true rfl) (by first | decide | omega) (k_hasGain G _ hG) (fun r_1 τ_1 q_1 => ?_)
  obtain ⟨rfl, et_1⟩ := q_1
  have et_1 := et_1.symm
  subst et_1
  dsimp only [Option.toList, List.append, List.cons_append, List.nil_append]
  refine g_if_eq (nx := 7) 12 F dX12_rests_4 rfl (by decide) (fun c_4 => absurd c_4 (by exact bI_n0.mpr hA0)) (fun c_4 => ?_)
  refine g_iload_n (nx := 8) 1 F dX12_rests_7 rfl rfl rfl ?_
  refine g_iconst (nx := 9) (-1) F dX12_rests_8 rfl rfl ?_
  refine g_icmp_ge (nx := 12) 14 F dX12_rests_9 rfl (by decide) (fun c_9 => ?_) (fun c_9 => ?_)
  · refine g_iconst (nx := 15) (0) F dX12_rests_14 rfl rfl ?_
    refine g_istore_n (nx := 16) 2 F dX12_rests_15 rfl rfl (by decide) ?_
    try dsimp only [List.set]
    refine g_iconst (nx := 17) (0) F dX12_rests_16 rfl rfl ?_
    refine g_istore_n (nx := 18) 3 F dX12_rests_17 rfl rfl (by decide) ?_
    try dsimp only [List.set]
    exact L (2 ^ e) 0 σ (by omega) (fK_rf σ) (fun _ => rfl)
  · refine g_iconst (nx := 13) (-1) F dX12_rests_12 rfl rfl ?_
    refine g_iret F E dX12_rests_13 ?_
    refine Or.inl ⟨hA0, ?_, fK_rf σ⟩
    have hw : w.toInt < -1 := by have h := not_le_I.mp c_9; rw [fa_lt] at h; exact h
    unfold rsV
    rw [if_neg (fun z => by rw [z] at hw; exact absurd hw (by decide)), rsP_neg (by omega) _ _ (by omega)]
set_option maxHeartbeats 4000000 in
set_option maxRecDepth 100000 in
theorem c_turned (x y : Int32) (op vl : Nat → Nat) (len e : Nat) (fe pa : Nat → Int32) (G : Bool) (σ : zSt) (hc : σ 3 3 = nI e) (he10 : e ≤ 10) (hG : σ 37 3 = bI (G = true)) (hgn : G = true → gnC σ op vl len e fe pa) (hch : σ 37 6 = nI e → lrS σ e (gvF op vl len fe pa e)) : Con mX11_turned 5 [.ref 0, .int x, .int y] σ (fun r τ => ((isset x (nI e) ∧ isset y (nI e) ∧ G = true ∧ ∀ i, i < e → woB (gvF op vl len fe pa e) y.toInt.toNat i = false) ∧ (∃ d, r = some (.int (nI d)) ∧ isMn (fun c => stF (woB (gvF op vl len fe pa e)) e 100 (x.toInt.toNat ^^^ c) = nI y.toInt.toNat) (2 ^ e) d) ∧ gL σ τ e (gvF op vl len fe pa e)) ∨ (¬ (isset x (nI e) ∧ isset y (nI e) ∧ G = true ∧ ∀ i, i < e → woB (gvF op vl len fe pa e) y.toInt.toNat i = false) ∧ r = some (.int (-1)) ∧ (τ = σ ∨ gL σ τ e (gvF op vl len fe pa e)))) := by
  refine Con.of (lv := [.ref 0, .int x, .int y]) mk_X11_turned rfl (Nat.le_of_ble_eq_true rfl) rfl (fun X F E => ?_)
  rcases (Classical.em (isset x (nI e))).symm with hA0 | hA0
  · refine g_aload_n (nx := 1) 0 F dX11_turned_0 rfl rfl rfl ?_
    refine g_getR (nx := 4) F dX11_turned_1 rfl fl_RX11_19 rfl (by decide) (by decide) rfl ?_
    refine g_iload_n (nx := 5) 1 F dX11_turned_4 rfl rfl rfl ?_
    refine g_callV (nx := 8) 1 0 [.int x] F dX11_turned_5 rfl ml_RX11_234 mo_X2_isSet rfl rfl rfl rfl (Nat.le_of_ble_eq_true rfl) (by first | decide | omega) (c_isSet x _) (fun r_5 τ_5 q_5 => ?_)
    obtain ⟨rfl, et_5⟩ := q_5
    have et_5 := et_5.symm
    subst et_5
    dsimp only [Option.toList, List.append, List.cons_append, List.nil_append]
    rw [hc]
    refine g_if_eq (nx := 11) 32 F dX11_turned_8 rfl (by decide) (fun c_8 => ?_) (fun c_8 => absurd c_8 (by exact fun zq => zq (bI_f hA0)))
    refine g_iconst (nx := 33) (-1) F dX11_turned_32 rfl rfl ?_
    refine g_iret F E dX11_turned_33 ?_
    exact Or.inr ⟨fun z => hA0 z.1, rfl, Or.inl rfl⟩
  obtain ⟨N, hN, rfl⟩ := nI_ofr ((iss_of he10).mp hA0)
  have hN10 := pow_e he10
  have eN : (nI N).toInt.toNat = N := nI_tn (by omega)
  rcases (Classical.em (isset y (nI e))).symm with hA1 | hA1
  · refine g_aload_n (nx := 1) 0 F dX11_turned_0 rfl rfl rfl ?_
    refine g_getR (nx := 4) F dX11_turned_1 rfl fl_RX11_19 rfl (by decide) (by decide) rfl ?_
    refine g_iload_n (nx := 5) 1 F dX11_turned_4 rfl rfl rfl ?_
    refine g_callV (nx := 8) 1 0 [.int (nI N)] F dX11_turned_5 rfl ml_RX11_234 mo_X2_isSet rfl rfl rfl rfl (Nat.le_of_ble_eq_true rfl) (by first | decide | omega) (c_isSet (nI N) _) (fun r_5 τ_5 q_5 => ?_)
    obtain ⟨rfl, et_5⟩ := q_5
    have et_5 := et_5.symm
    subst et_5
    dsimp only [Option.toList, List.append, List.cons_append, List.nil_append]
    rw [hc]
    refine g_if_eq (nx := 11) 32 F dX11_turned_8 rfl (by decide) (fun c_8 => absurd c_8 (by exact bI_n0.mpr hA0)) (fun c_8 => ?_)
    refine g_aload_n (nx := 12) 0 F dX11_turned_11 rfl rfl rfl ?_
    refine g_getR (nx := 15) F dX11_turned_12 rfl fl_RX11_19 rfl (by decide) (by decide) rfl ?_
    refine g_iload_n (nx := 16) 2 F dX11_turned_15 rfl rfl rfl ?_
    refine g_callV (nx := 19) 1 0 [.int y] F dX11_turned_16 rfl ml_RX11_234 mo_X2_isSet rfl rfl rfl rfl (Nat.le_of_ble_eq_true rfl) (by first | decide | omega) (c_isSet y _) (fun r_16 τ_16 q_16 => ?_)
    obtain ⟨rfl, et_16⟩ := q_16
    have et_16 := et_16.symm
    subst et_16
    dsimp only [Option.toList, List.append, List.cons_append, List.nil_append]
    rw [hc]
    refine g_if_eq (nx := 22) 32 F dX11_turned_19 rfl (by decide) (fun c_19 => ?_) (fun c_19 => absurd c_19 (by exact fun zq => zq (bI_f hA1)))
    refine g_iconst (nx := 33) (-1) F dX11_turned_32 rfl rfl ?_
    refine g_iret F E dX11_turned_33 ?_
    exact Or.inr ⟨fun z => hA1 z.2.1, rfl, Or.inl rfl⟩
  obtain ⟨M, hM, rfl⟩ := nI_ofr ((iss_of he10).mp hA1)
  have eM : (nI M).toInt.toNat = M := nI_tn (by omega)
  rcases (Classical.em (G = true)).symm with hA2 | hA2
  · refine g_aload_n (nx := 1) 0 F dX11_turned_0 rfl rfl rfl ?_
    refine g_getR (nx := 4) F dX11_turned_1 rfl fl_RX11_19 rfl (by decide) (by decide) rfl ?_
    refine g_iload_n (nx := 5) 1 F dX11_turned_4 rfl rfl rfl ?_
    refine g_callV (nx := 8) 1 0 [.int (nI N)] F dX11_turned_5 rfl ml_RX11_234 mo_X2_isSet rfl rfl rfl rfl (Nat.le_of_ble_eq_true rfl) (by first | decide | omega) (c_isSet (nI N) _) (fun r_5 τ_5 q_5 => ?_)
    obtain ⟨rfl, et_5⟩ := q_5
    have et_5 := et_5.symm
    subst et_5
    dsimp only [Option.toList, List.append, List.cons_append, List.nil_append]
    rw [hc]
    refine g_if_eq (nx := 11) 32 F dX11_turned_8 rfl (by decide) (fun c_8 => absurd c_8 (by exact bI_n0.mpr hA0)) (fun c_8 => ?_)
    refine g_aload_n (nx := 12) 0 F dX11_turned_11 rfl rfl rfl ?_
    refine g_getR (nx := 15) F dX11_turned_12 rfl fl_RX11_19 rfl (by decide) (by decide) rfl ?_
    refine g_iload_n (nx := 16) 2 F dX11_turned_15 rfl rfl rfl ?_
    refine g_callV (nx := 19) 1 0 [.int (nI M)] F dX11_turned_16 rfl ml_RX11_234 mo_X2_isSet rfl rfl rfl rfl (Nat.le_of_ble_eq_true rfl) (by first | decide | omega) (c_isSet (nI M) _) (fun r_16 τ_16 q_16 => ?_)
    obtain ⟨rfl, et_16⟩ := q_16
    have et_16 := et_16.symm
    subst et_16
    dsimp only [Option.toList, List.append, List.cons_append, List.nil_append]
    rw [hc]
    refine g_if_eq (nx := 22) 32 F dX11_turned_19 rfl (by decide) (fun c_19 => absurd c_19 (by exact bI_n0.mpr hA1)) (fun c_19 => ?_)
    refine g_aload_n (nx := 23) 0 F dX11_turned_22 rfl rfl rfl ?_
    refine g_getR (nx := 26) F dX11_turned_23 rfl fl_RX11_54 rfl (by decide) (by decide) rfl ?_
    refine g_getV (nx := 29) (bI (G = true)) F dX11_turned_26 rfl fl_RX11_237 rfl (by decide) (by decide) rfl rfl (hG) ?_
    refine g_if_ne (nx := 32) 34 F dX11_turned_29 rfl (by decide) (fun c_29 => absurd c_29 (by exact fun zq => zq (bI_f hA2))) (fun c_29 => ?_)
    refine g_iconst (nx := 33) (-1) F dX11_turned_32 rfl rfl ?_
    refine g_iret F E dX11_turned_33 ?_
    exact Or.inr ⟨fun z => hA2 z.2.2.1, rfl, Or.inl rfl⟩
  rcases (Classical.em (∀ i, i < e → woB (gvF op vl len fe pa e) (nI M).toInt.toNat i = false)).symm with hA3 | hA3
  · refine g_aload_n (nx := 1) 0 F dX11_turned_0 rfl rfl rfl ?_
    refine g_getR (nx := 4) F dX11_turned_1 rfl fl_RX11_19 rfl (by decide) (by decide) rfl ?_
    refine g_iload_n (nx := 5) 1 F dX11_turned_4 rfl rfl rfl ?_
    refine g_callV (nx := 8) 1 0 [.int (nI N)] F dX11_turned_5 rfl ml_RX11_234 mo_X2_isSet rfl rfl rfl rfl (Nat.le_of_ble_eq_true rfl) (by first | decide | omega) (c_isSet (nI N) _) (fun r_5 τ_5 q_5 => ?_)
    obtain ⟨rfl, et_5⟩ := q_5
    have et_5 := et_5.symm
    subst et_5
    dsimp only [Option.toList, List.append, List.cons_append, List.nil_append]
    rw [hc]
    refine g_if_eq (nx := 11) 32 F dX11_turned_8 rfl (by decide) (fun c_8 => absurd c_8 (by exact bI_n0.mpr hA0)) (fun c_8 => ?_)
    refine g_aload_n (nx := 12) 0 F dX11_turned_11 rfl rfl rfl ?_
    refine g_getR (nx := 15) F dX11_turned_12 rfl fl_RX11_19 rfl (by decide) (by decide) rfl ?_
    refine g_iload_n (nx := 16) 2 F dX11_turned_15 rfl rfl rfl ?_
    refine g_callV (nx := 19) 1 0 [.int (nI M)] F dX11_turned_16 rfl ml_RX11_234 mo_X2_isSet rfl rfl rfl rfl (Nat.le_of_ble_eq_true rfl) (by first | decide | omega) (c_isSet (nI M) _) (fun r_16 τ_16 q_16 => ?_)
    obtain ⟨rfl, et_16⟩ := q_16
    have et_16 := et_16.symm
    subst et_16
    dsimp only [Option.toList, List.append, List.cons_append, List.nil_append]
    rw [hc]
    refine g_if_eq (nx := 22) 32 F dX11_turned_19 rfl (by decide) (fun c_19 => absurd c_19 (by exact bI_n0.mpr hA1)) (fun c_19 => ?_)
    refine g_aload_n (nx := 23) 0 F dX11_turned_22 rfl rfl rfl ?_
    refine g_getR (nx := 26) F dX11_turned_23 rfl fl_RX11_54 rfl (by decide) (by decide) rfl ?_
    refine g_getV (nx := 29) (bI (G = true)) F dX11_turned_26 rfl fl_RX11_237 rfl (by decide) (by decide) rfl rfl (hG) ?_
    refine g_if_ne (nx := 32) 34 F dX11_turned_29 rfl (by decide) (fun c_29 => ?_) (fun c_29 => absurd c_29 (by exact bI_n0.mpr hA2))
    refine g_aload_n (nx := 35) 0 F dX11_turned_34 rfl rfl rfl ?_
    refine g_getR (nx := 38) F dX11_turned_35 rfl fl_RX11_54 rfl (by decide) (by decide) rfl ?_
    refine g_callV (nx := 41) 0 2 [] F dX11_turned_38 rfl ml_RX11_241 mo_X8_learnWants rfl rfl rfl rfl (Nat.le_of_ble_eq_true rfl) (by first | decide | omega) (c_learnWants op vl len e fe pa _ (hgn hA2) hch) (fun r_38 τ_38 q_38 => ?_)
    obtain ⟨rfl, hfl, hls, haf, h6⟩ := q_38
    have hfl : gL σ _ e (gvF op vl len fe pa e) := ⟨hfl, h6, hls.2.2, haf⟩
    dsimp only [Option.toList, List.append, List.cons_append, List.nil_append]
    refine g_aload_n (nx := 42) 0 F dX11_turned_41 rfl rfl rfl ?_
    refine g_getR (nx := 45) F dX11_turned_42 rfl fl_RX11_54 rfl (by decide) (by decide) rfl ?_
    refine g_iload_n (nx := 46) 2 F dX11_turned_45 rfl rfl rfl ?_
    refine g_callV (nx := 49) 1 2 [.int (nI M)] F dX11_turned_46 rfl ml_RX11_244 mo_X8_isResting rfl rfl rfl rfl (Nat.le_of_ble_eq_true rfl) (by first | decide | omega) (c_isResting e M (gvF op vl len fe pa e) _ hls hM) (fun r_46 τ_46 q_46 => ?_)
    obtain ⟨rfl, et_46⟩ := q_46
    have et_46 := et_46.symm
    subst et_46
    dsimp only [Option.toList, List.append, List.cons_append, List.nil_append]
    refine g_if_eq (nx := 52) 64 F dX11_turned_49 rfl (by decide) (fun c_49 => ?_) (fun c_49 => absurd c_49 (by exact fun zq => zq (bI_f (fun z => hA3 (by rw [eM]; exact z)))))
    refine g_iconst (nx := 65) (-1) F dX11_turned_64 rfl rfl ?_
    refine g_iret F E dX11_turned_65 ?_
    exact Or.inr ⟨fun z => hA3 z.2.2.2, rfl, Or.inr hfl⟩
  refine g_aload_n (nx := 1) 0 F dX11_turned_0 rfl rfl rfl ?_
  refine g_getR (nx := 4) F dX11_turned_1 rfl fl_RX11_19 rfl (by decide) (by decide) rfl ?_
  refine g_iload_n (nx := 5) 1 F dX11_turned_4 rfl rfl rfl ?_
  refine g_callV (nx := 8) 1 0 [.int (nI N)] F dX11_turned_5 rfl ml_RX11_234 mo_X2_isSet rfl rfl rfl rfl (Nat.le_of_ble_eq_true rfl) (by first | decide | omega) (c_isSet (nI N) _) (fun r_5 τ_5 q_5 => ?_)
  obtain ⟨rfl, et_5⟩ := q_5
  have et_5 := et_5.symm
  subst et_5
  dsimp only [Option.toList, List.append, List.cons_append, List.nil_append]
  rw [hc]
  refine g_if_eq (nx := 11) 32 F dX11_turned_8 rfl (by decide) (fun c_8 => absurd c_8 (by exact bI_n0.mpr hA0)) (fun c_8 => ?_)
  refine g_aload_n (nx := 12) 0 F dX11_turned_11 rfl rfl rfl ?_
  refine g_getR (nx := 15) F dX11_turned_12 rfl fl_RX11_19 rfl (by decide) (by decide) rfl ?_
  refine g_iload_n (nx := 16) 2 F dX11_turned_15 rfl rfl rfl ?_
  refine g_callV (nx := 19) 1 0 [.int (nI M)] F dX11_turned_16 rfl ml_RX11_234 mo_X2_isSet rfl rfl rfl rfl (Nat.le_of_ble_eq_true rfl) (by first | decide | omega) (c_isSet (nI M) _) (fun r_16 τ_16 q_16 => ?_)
  obtain ⟨rfl, et_16⟩ := q_16
  have et_16 := et_16.symm
  subst et_16
  dsimp only [Option.toList, List.append, List.cons_append, List.nil_append]
  rw [hc]
  refine g_if_eq (nx := 22) 32 F dX11_turned_19 rfl (by decide) (fun c_19 => absurd c_19 (by exact bI_n0.mpr hA1)) (fun c_19 => ?_)
  refine g_aload_n (nx := 23) 0 F dX11_turned_22 rfl rfl rfl ?_
  refine g_getR (nx := 26) F dX11_turned_23 rfl fl_RX11_54 rfl (by decide) (by decide) rfl ?_
  refine g_getV (nx := 29) (bI (G = true)) F dX11_turned_26 rfl fl_RX11_237 rfl (by decide) (by decide) rfl rfl (hG) ?_
  refine g_if_ne (nx := 32) 34 F dX11_turned_29 rfl (by decide) (fun c_29 => ?_) (fun c_29 => absurd c_29 (by exact bI_n0.mpr hA2))
  refine g_aload_n (nx := 35) 0 F dX11_turned_34 rfl rfl rfl ?_
  refine g_getR (nx := 38) F dX11_turned_35 rfl fl_RX11_54 rfl (by decide) (by decide) rfl ?_
  refine g_callV (nx := 41) 0 2 [] F dX11_turned_38 rfl ml_RX11_241 mo_X8_learnWants rfl rfl rfl rfl (Nat.le_of_ble_eq_true rfl) (by first | decide | omega) (c_learnWants op vl len e fe pa _ (hgn hA2) hch) (fun r_38 τ_38 q_38 => ?_)
  obtain ⟨rfl, hfl, hls, haf, h6⟩ := q_38
  have hfl : gL σ _ e (gvF op vl len fe pa e) := ⟨hfl, h6, hls.2.2, haf⟩
  dsimp only [Option.toList, List.append, List.cons_append, List.nil_append]
  refine g_aload_n (nx := 42) 0 F dX11_turned_41 rfl rfl rfl ?_
  refine g_getR (nx := 45) F dX11_turned_42 rfl fl_RX11_54 rfl (by decide) (by decide) rfl ?_
  refine g_iload_n (nx := 46) 2 F dX11_turned_45 rfl rfl rfl ?_
  refine g_callV (nx := 49) 1 2 [.int (nI M)] F dX11_turned_46 rfl ml_RX11_244 mo_X8_isResting rfl rfl rfl rfl (Nat.le_of_ble_eq_true rfl) (by first | decide | omega) (c_isResting e M (gvF op vl len fe pa e) _ hls hM) (fun r_46 τ_46 q_46 => ?_)
  obtain ⟨rfl, et_46⟩ := q_46
  have et_46 := et_46.symm
  subst et_46
  dsimp only [Option.toList, List.append, List.cons_append, List.nil_append]
  refine g_if_eq (nx := 52) 64 F dX11_turned_49 rfl (by decide) (fun c_49 => absurd c_49 (by exact bI_n0.mpr (by rw [eM] at hA3; exact hA3))) (fun c_49 => ?_)
  refine g_aload_n (nx := 53) 0 F dX11_turned_52 rfl rfl rfl ?_
  refine g_getR (nx := 56) F dX11_turned_53 rfl fl_RX11_54 rfl (by decide) (by decide) rfl ?_
  refine g_iload_n (nx := 57) 1 F dX11_turned_56 rfl rfl rfl ?_
  refine g_iload_n (nx := 58) 2 F dX11_turned_57 rfl rfl rfl ?_
  refine g_callV (nx := 61) 2 4 [.int (nI N), .int (nI M)] F dX11_turned_58 rfl ml_RX11_256 mo_X8_fewestToChange rfl rfl rfl rfl (Nat.le_of_ble_eq_true rfl) (by first | decide | omega) (c_fewest e N M (gvF op vl len fe pa e) _ hls haf hN hM (by rw [eM] at hA3; exact hA3)) (fun r_58 τ_58 q_58 => ?_)
  obtain ⟨⟨dd, rfl, hmn⟩, hf_58, ha_58⟩ := q_58
  dsimp only [Option.toList, List.append, List.cons_append, List.nil_append]
  refine g_goto 65 F dX11_turned_61 (by decide) ?_
  refine g_iret F E dX11_turned_65 ?_
  refine Or.inl ⟨⟨hA0, hA1, hA2, hA3⟩, ⟨dd, rfl, ?_⟩, gL_fA he10 hfl hf_58 ha_58⟩
  rw [eN, eM]
  exact hmn
set_option maxHeartbeats 4000000 in
set_option maxRecDepth 100000 in
theorem k_turned (x y : Int32) (op vl : Nat → Nat) (len e : Nat) (fe pa : Nat → Int32) (G : Bool) (σ : zSt) (hc : σ 145 1 = nI e) (he10 : e ≤ 10) (hG : σ 170 11 = bI (G = true)) (hgn : G = true → gnK σ op vl len e fe pa) : Con mX12_turned 5 [.ref 145, .int x, .int y] σ (fun r τ => ((isset x (nI e) ∧ isset y (nI e) ∧ G = true ∧ ∀ i, i < e → woB (gvF op vl len fe pa e) y.toInt.toNat i = false) ∧ (∃ d, r = some (.int (nI d)) ∧ isMn (fun c => stF (woB (gvF op vl len fe pa e)) e 100 (x.toInt.toNat ^^^ c) = nI y.toInt.toNat) (2 ^ e) d) ∧ fK σ τ) ∨ (¬ (isset x (nI e) ∧ isset y (nI e) ∧ G = true ∧ ∀ i, i < e → woB (gvF op vl len fe pa e) y.toInt.toNat i = false) ∧ r = some (.int (-1)) ∧ fK σ τ)) := by
  refine Con.of (lv := [.ref 145, .int x, .int y, .long 0, .long 0]) mk_X12_turned rfl (Nat.le_of_ble_eq_true rfl) rfl (fun X F E => ?_)
  rcases (Classical.em (isset x (nI e))).symm with hA0 | hA0
  · refine g_aload_n (nx := 1) 0 F dX12_turned_0 rfl rfl rfl ?_
    refine g_iload_n (nx := 2) 1 F dX12_turned_1 rfl rfl rfl ?_
    refine g_callV (nx := 5) 1 0 [.int x] F dX12_turned_2 rfl ml_RX12_178 mo_X12_isSet rfl rfl rfl rfl (Nat.le_of_ble_eq_true rfl) (by first | decide | omega) (k_isSet x _) (fun r_2 τ_2 q_2 => ?_)
    obtain ⟨rfl, et_2⟩ := q_2
    have et_2 := et_2.symm
    subst et_2
    dsimp only [Option.toList, List.append, List.cons_append, List.nil_append]
    rw [hc]
    refine g_if_eq (nx := 8) 31 F dX12_turned_5 rfl (by decide) (fun c_5 => ?_) (fun c_5 => absurd c_5 (by exact fun zq => zq (bI_f hA0)))
    refine g_iconst (nx := 32) (-1) F dX12_turned_31 rfl rfl ?_
    refine g_iret F E dX12_turned_32 ?_
    exact Or.inr ⟨fun z => hA0 z.1, rfl, fK_rf σ⟩
  obtain ⟨N, hN, rfl⟩ := nI_ofr ((iss_of he10).mp hA0)
  have hN10 := pow_e he10
  have eN : (nI N).toInt.toNat = N := nI_tn (by omega)
  rcases (Classical.em (isset y (nI e))).symm with hA1 | hA1
  · refine g_aload_n (nx := 1) 0 F dX12_turned_0 rfl rfl rfl ?_
    refine g_iload_n (nx := 2) 1 F dX12_turned_1 rfl rfl rfl ?_
    refine g_callV (nx := 5) 1 0 [.int (nI N)] F dX12_turned_2 rfl ml_RX12_178 mo_X12_isSet rfl rfl rfl rfl (Nat.le_of_ble_eq_true rfl) (by first | decide | omega) (k_isSet (nI N) _) (fun r_2 τ_2 q_2 => ?_)
    obtain ⟨rfl, et_2⟩ := q_2
    have et_2 := et_2.symm
    subst et_2
    dsimp only [Option.toList, List.append, List.cons_append, List.nil_append]
    rw [hc]
    refine g_if_eq (nx := 8) 31 F dX12_turned_5 rfl (by decide) (fun c_5 => absurd c_5 (by exact bI_n0.mpr hA0)) (fun c_5 => ?_)
    refine g_aload_n (nx := 9) 0 F dX12_turned_8 rfl rfl rfl ?_
    refine g_iload_n (nx := 10) 2 F dX12_turned_9 rfl rfl rfl ?_
    refine g_callV (nx := 13) 1 0 [.int y] F dX12_turned_10 rfl ml_RX12_178 mo_X12_isSet rfl rfl rfl rfl (Nat.le_of_ble_eq_true rfl) (by first | decide | omega) (k_isSet y _) (fun r_10 τ_10 q_10 => ?_)
    obtain ⟨rfl, et_10⟩ := q_10
    have et_10 := et_10.symm
    subst et_10
    dsimp only [Option.toList, List.append, List.cons_append, List.nil_append]
    rw [hc]
    refine g_if_eq (nx := 16) 31 F dX12_turned_13 rfl (by decide) (fun c_13 => ?_) (fun c_13 => absurd c_13 (by exact fun zq => zq (bI_f hA1)))
    refine g_iconst (nx := 32) (-1) F dX12_turned_31 rfl rfl ?_
    refine g_iret F E dX12_turned_32 ?_
    exact Or.inr ⟨fun z => hA1 z.2.1, rfl, fK_rf σ⟩
  obtain ⟨M, hM, rfl⟩ := nI_ofr ((iss_of he10).mp hA1)
  have eM : (nI M).toInt.toNat = M := nI_tn (by omega)
  rcases (Classical.em (G = true)).symm with hA2 | hA2
  · refine g_aload_n (nx := 1) 0 F dX12_turned_0 rfl rfl rfl ?_
    refine g_iload_n (nx := 2) 1 F dX12_turned_1 rfl rfl rfl ?_
    refine g_callV (nx := 5) 1 0 [.int (nI N)] F dX12_turned_2 rfl ml_RX12_178 mo_X12_isSet rfl rfl rfl rfl (Nat.le_of_ble_eq_true rfl) (by first | decide | omega) (k_isSet (nI N) _) (fun r_2 τ_2 q_2 => ?_)
    obtain ⟨rfl, et_2⟩ := q_2
    have et_2 := et_2.symm
    subst et_2
    dsimp only [Option.toList, List.append, List.cons_append, List.nil_append]
    rw [hc]
    refine g_if_eq (nx := 8) 31 F dX12_turned_5 rfl (by decide) (fun c_5 => absurd c_5 (by exact bI_n0.mpr hA0)) (fun c_5 => ?_)
    refine g_aload_n (nx := 9) 0 F dX12_turned_8 rfl rfl rfl ?_
    refine g_iload_n (nx := 10) 2 F dX12_turned_9 rfl rfl rfl ?_
    refine g_callV (nx := 13) 1 0 [.int (nI M)] F dX12_turned_10 rfl ml_RX12_178 mo_X12_isSet rfl rfl rfl rfl (Nat.le_of_ble_eq_true rfl) (by first | decide | omega) (k_isSet (nI M) _) (fun r_10 τ_10 q_10 => ?_)
    obtain ⟨rfl, et_10⟩ := q_10
    have et_10 := et_10.symm
    subst et_10
    dsimp only [Option.toList, List.append, List.cons_append, List.nil_append]
    rw [hc]
    refine g_if_eq (nx := 16) 31 F dX12_turned_13 rfl (by decide) (fun c_13 => absurd c_13 (by exact bI_n0.mpr hA1)) (fun c_13 => ?_)
    refine g_aload_n (nx := 17) 0 F dX12_turned_16 rfl rfl rfl ?_
    refine g_callV (nx := 20) 0 0 [] F dX12_turned_17 rfl ml_RX12_365 mo_X12_hasGain rfl rfl rfl rfl (Nat.le_of_ble_eq_true rfl) (by first | decide | omega) (k_hasGain G _ hG) (fun r_17 τ_17 q_17 => ?_)
    obtain ⟨rfl, et_17⟩ := q_17
    have et_17 := et_17.symm
    subst et_17
    dsimp only [Option.toList, List.append, List.cons_append, List.nil_append]
    refine g_if_eq (nx := 23) 31 F dX12_turned_20 rfl (by decide) (fun c_20 => ?_) (fun c_20 => absurd c_20 (by exact fun zq => zq (bI_f hA2)))
    refine g_iconst (nx := 32) (-1) F dX12_turned_31 rfl rfl ?_
    refine g_iret F E dX12_turned_32 ?_
    exact Or.inr ⟨fun z => hA2 z.2.2.1, rfl, fK_rf σ⟩
  rcases (Classical.em (∀ i, i < e → woB (gvF op vl len fe pa e) (nI M).toInt.toNat i = false)).symm with hA3 | hA3
  · refine g_aload_n (nx := 1) 0 F dX12_turned_0 rfl rfl rfl ?_
    refine g_iload_n (nx := 2) 1 F dX12_turned_1 rfl rfl rfl ?_
    refine g_callV (nx := 5) 1 0 [.int (nI N)] F dX12_turned_2 rfl ml_RX12_178 mo_X12_isSet rfl rfl rfl rfl (Nat.le_of_ble_eq_true rfl) (by first | decide | omega) (k_isSet (nI N) _) (fun r_2 τ_2 q_2 => ?_)
    obtain ⟨rfl, et_2⟩ := q_2
    have et_2 := et_2.symm
    subst et_2
    dsimp only [Option.toList, List.append, List.cons_append, List.nil_append]
    rw [hc]
    refine g_if_eq (nx := 8) 31 F dX12_turned_5 rfl (by decide) (fun c_5 => absurd c_5 (by exact bI_n0.mpr hA0)) (fun c_5 => ?_)
    refine g_aload_n (nx := 9) 0 F dX12_turned_8 rfl rfl rfl ?_
    refine g_iload_n (nx := 10) 2 F dX12_turned_9 rfl rfl rfl ?_
    refine g_callV (nx := 13) 1 0 [.int (nI M)] F dX12_turned_10 rfl ml_RX12_178 mo_X12_isSet rfl rfl rfl rfl (Nat.le_of_ble_eq_true rfl) (by first | decide | omega) (k_isSet (nI M) _) (fun r_10 τ_10 q_10 => ?_)
    obtain ⟨rfl, et_10⟩ := q_10
    have et_10 := et_10.symm
    subst et_10
    dsimp only [Option.toList, List.append, List.cons_append, List.nil_append]
    rw [hc]
    refine g_if_eq (nx := 16) 31 F dX12_turned_13 rfl (by decide) (fun c_13 => absurd c_13 (by exact bI_n0.mpr hA1)) (fun c_13 => ?_)
    refine g_aload_n (nx := 17) 0 F dX12_turned_16 rfl rfl rfl ?_
    refine g_callV (nx := 20) 0 0 [] F dX12_turned_17 rfl ml_RX12_365 mo_X12_hasGain rfl rfl rfl rfl (Nat.le_of_ble_eq_true rfl) (by first | decide | omega) (k_hasGain G _ hG) (fun r_17 τ_17 q_17 => ?_)
    obtain ⟨rfl, et_17⟩ := q_17
    have et_17 := et_17.symm
    subst et_17
    dsimp only [Option.toList, List.append, List.cons_append, List.nil_append]
    refine g_if_eq (nx := 23) 31 F dX12_turned_20 rfl (by decide) (fun c_20 => absurd c_20 (by exact bI_n0.mpr hA2)) (fun c_20 => ?_)
    refine g_aload_n (nx := 24) 0 F dX12_turned_23 rfl rfl rfl ?_
    refine g_iload_n (nx := 25) 2 F dX12_turned_24 rfl rfl rfl ?_
    refine g_callV (nx := 28) 1 4 [.int (nI M)] F dX12_turned_25 rfl ml_RX12_368 mo_X12_isRest rfl rfl rfl rfl (Nat.le_of_ble_eq_true rfl) (by first | decide | omega) (k_isRest op vl len e M fe pa _ (hgn hA2) (by omega)) (fun r_25 τ_25 q_25 => ?_)
    obtain ⟨rfl, hf_25⟩ := q_25
    dsimp only [Option.toList, List.append, List.cons_append, List.nil_append]
    refine g_if_ne (nx := 31) 33 F dX12_turned_28 rfl (by decide) (fun c_28 => absurd c_28 (by exact fun zq => zq (bI_f (fun z => hA3 (by rw [eM]; exact z))))) (fun c_28 => ?_)
    refine g_iconst (nx := 32) (-1) F dX12_turned_31 rfl rfl ?_
    refine g_iret F E dX12_turned_32 ?_
    exact Or.inr ⟨fun z => hA3 z.2.2.2, rfl, hf_25⟩
  have hrest : ∀ i, i < e → woB (gvF op vl len fe pa e) M i = false := by rw [eM] at hA3; exact hA3
  have hex : (fun c => stF (woB (gvF op vl len fe pa e)) e 100 (N ^^^ c) = nI M) (N ^^^ M) := by
    show stF (woB (gvF op vl len fe pa e)) e 100 (N ^^^ (N ^^^ M)) = nI M
    rw [← Nat.xor_assoc, Nat.xor_self, Nat.zero_xor]
    exact st_rest hrest 99
  have hxl : N ^^^ M < 2 ^ e := Nat.xor_lt_two_pow hN hM
  have fin : ∀ b, isMn (fun c => stF (woB (gvF op vl len fe pa e)) e 100 (N ^^^ c) = nI M) (2 ^ e) b → isMn (fun c => stF (woB (gvF op vl len fe pa e)) e 100 ((nI N).toInt.toNat ^^^ c) = nI (nI M).toInt.toNat) (2 ^ e) b := fun b hb => by rw [eN, eM]; exact hb
  have L : ∀ (q c : Nat) (best : Int32) (τ : zSt), c + q = 2 ^ e → fK σ τ → ((best = -2 ∧ ∀ d, d < c → ¬ (fun c => stF (woB (gvF op vl len fe pa e)) e 100 (N ^^^ c) = nI M) d) ∨ ∃ b, best = nI b ∧ b < c ∧ (fun c => stF (woB (gvF op vl len fe pa e)) e 100 (N ^^^ c) = nI M) b ∧ ∀ d, d < c → (fun c => stF (woB (gvF op vl len fe pa e)) e 100 (N ^^^ c) = nI M) d → bcN b < bcN d ∨ (bcN b = bcN d ∧ b ≤ d)) → Gs X 39 [.ref 145, .int (nI N), .int (nI M), .int best, .int (nI c)] [] τ := by
    intro q
    induction q with
    | zero =>
      intro c best τ hc1 hfr hb
      have hc1 : c = 2 ^ e := hc1
      refine g_iload (nx := 41) F dX12_turned_39 rfl rfl ?_
      refine g_iconst (nx := 42) (1) F dX12_turned_41 rfl rfl ?_
      refine g_aload_n (nx := 43) 0 F dX12_turned_42 rfl rfl rfl ?_
      refine g_getV (nx := 46) (nI e) F dX12_turned_43 rfl fl_RX12_165 rfl (by decide) (by decide) rfl rfl ((congrFun (hfr 145 (by decide) (by decide)) 1).trans hc) ?_
      refine g_ishl (nx := 47) F dX12_turned_46 rfl ?_
      refine g_top (nI (2 ^ e)) (shl_e e he10) ?_
      refine g_icmp_ge (nx := 50) 92 F dX12_turned_47 rfl (by decide) (fun c_47 => ?_) (fun c_47 => absurd c_47 (by exact fun zq => zq (nI_le (by omega) (by omega))))
      refine g_iload_n (nx := 93) 3 F dX12_turned_92 rfl rfl rfl ?_
      refine g_iret F E dX12_turned_93 ?_
      refine Or.inl ⟨⟨hA0, hA1, hA2, hA3⟩, ?_, hfr⟩
      rcases hb with ⟨_, hn⟩ | ⟨b, rfl, h1, h2, h3⟩
      · exact absurd hex (hn _ (by omega))
      · exact ⟨b, rfl, fin b ⟨by omega, h2, fun d hd => h3 d (by omega)⟩⟩
    | succ q ih =>
      intro c best τ hc1 hfr hb
      have hc2 : c < 2 ^ e := by omega
      have hbc := bcN_le c (by omega)
      rcases hb with ⟨rfl, hn⟩ | ⟨b, rfl, h1, h2, h3⟩
      · refine g_iload (nx := 41) F dX12_turned_39 rfl rfl ?_
        refine g_iconst (nx := 42) (1) F dX12_turned_41 rfl rfl ?_
        refine g_aload_n (nx := 43) 0 F dX12_turned_42 rfl rfl rfl ?_
        refine g_getV (nx := 46) (nI e) F dX12_turned_43 rfl fl_RX12_165 rfl (by decide) (by decide) rfl rfl ((congrFun (hfr 145 (by decide) (by decide)) 1).trans hc) ?_
        refine g_ishl (nx := 47) F dX12_turned_46 rfl ?_
        refine g_top (nI (2 ^ e)) (shl_e e he10) ?_
        refine g_icmp_ge (nx := 50) 92 F dX12_turned_47 rfl (by decide) (fun c_47 => absurd c_47 (by exact nI_ge (by omega) (by omega))) (fun c_47 => ?_)
        refine g_iload_n (nx := 51) 3 F dX12_turned_50 rfl rfl rfl ?_
        refine g_bipush (nx := 53) (-2) F dX12_turned_51 rfl (by decide) ?_
        refine g_icmp_eq (nx := 56) 71 F dX12_turned_53 rfl (by decide) (fun c_53 => ?_) (fun c_53 => absurd c_53 (by exact fun zq => zq rfl))
        refine g_aload_n (nx := 72) 0 F dX12_turned_71 rfl rfl rfl ?_
        refine g_iload_n (nx := 73) 1 F dX12_turned_72 rfl rfl rfl ?_
        refine g_iload (nx := 75) F dX12_turned_73 rfl rfl ?_
        refine g_ixor (nx := 76) F dX12_turned_75 rfl ?_
        rw [nI_xor]
        refine g_callV (nx := 79) 1 4 [.int (nI (N ^^^ c))] F dX12_turned_76 rfl ml_RX12_371 mo_X12_end rfl rfl rfl rfl (Nat.le_of_ble_eq_true rfl) (by first | decide | omega) (k_end op vl len e (N ^^^ c) fe pa _ (gnK_fr hfr (hgn hA2)) (Nat.xor_lt_two_pow hN (by omega))) (fun r_76 τ_76 q_76 => ?_)
        obtain ⟨rfl, hf_76⟩ := q_76
        have hfr := fK_tr hfr hf_76
        dsimp only [Option.toList, List.append, List.cons_append, List.nil_append]
        refine g_iload_n (nx := 80) 2 F dX12_turned_79 rfl rfl rfl ?_
        refine g_icmp_ne (nx := 83) 86 F dX12_turned_80 rfl (by decide) (fun c_80 => ?_) (fun c_80 => ?_)
        · refine g_iinc (nx := 89) (1) F dX12_turned_86 rfl rfl (by decide) (by decide) ?_
          try dsimp only [List.set]
          refine g_goto 39 F dX12_turned_89 (by decide) ?_
          rw [nI_1]
          first
            | exact ih (c + 1) _ _ (by omega) hfr (Or.inr ⟨c, rfl, by omega, c_80, fun d hd hSd => Classical.byCases (fun ez : d = c => by subst ez; exact Or.inr ⟨rfl, Nat.le_refl _⟩) (fun ez => absurd hSd (hn d (by omega)))⟩)
            | exact ih (c + 1) _ _ (by omega) hfr (Or.inl ⟨rfl, fun d hd hSd => Classical.byCases (fun ez : d = c => by subst ez; exact c_80 hSd) (fun ez => hn d (by omega) hSd)⟩)
        · refine g_iload (nx := 85) F dX12_turned_83 rfl rfl ?_
          refine g_istore_n (nx := 86) 3 F dX12_turned_85 rfl rfl (by decide) ?_
          try dsimp only [List.set]
          refine g_iinc (nx := 89) (1) F dX12_turned_86 rfl rfl (by decide) (by decide) ?_
          try dsimp only [List.set]
          refine g_goto 39 F dX12_turned_89 (by decide) ?_
          rw [nI_1]
          first
            | exact ih (c + 1) _ _ (by omega) hfr (Or.inr ⟨c, rfl, by omega, c_80, fun d hd hSd => Classical.byCases (fun ez : d = c => by subst ez; exact Or.inr ⟨rfl, Nat.le_refl _⟩) (fun ez => absurd hSd (hn d (by omega)))⟩)
            | exact ih (c + 1) _ _ (by omega) hfr (Or.inl ⟨rfl, fun d hd hSd => Classical.byCases (fun ez : d = c => by subst ez; exact c_80 hSd) (fun ez => hn d (by omega) hSd)⟩)
      · have hbb := bcN_le b (by omega)
        refine g_iload (nx := 41) F dX12_turned_39 rfl rfl ?_
        refine g_iconst (nx := 42) (1) F dX12_turned_41 rfl rfl ?_
        refine g_aload_n (nx := 43) 0 F dX12_turned_42 rfl rfl rfl ?_
        refine g_getV (nx := 46) (nI e) F dX12_turned_43 rfl fl_RX12_165 rfl (by decide) (by decide) rfl rfl ((congrFun (hfr 145 (by decide) (by decide)) 1).trans hc) ?_
        refine g_ishl (nx := 47) F dX12_turned_46 rfl ?_
        refine g_top (nI (2 ^ e)) (shl_e e he10) ?_
        refine g_icmp_ge (nx := 50) 92 F dX12_turned_47 rfl (by decide) (fun c_47 => absurd c_47 (by exact nI_ge (by omega) (by omega))) (fun c_47 => ?_)
        refine g_iload_n (nx := 51) 3 F dX12_turned_50 rfl rfl rfl ?_
        refine g_bipush (nx := 53) (-2) F dX12_turned_51 rfl (by decide) ?_
        refine g_icmp_eq (nx := 56) 71 F dX12_turned_53 rfl (by decide) (fun c_53 => absurd c_53 (by exact nI_m2 (by omega))) (fun c_53 => ?_)
        refine g_iload (nx := 58) F dX12_turned_56 rfl rfl ?_
        refine g_callS (nx := 61) 1 0 [.int (nI c)] F dX12_turned_58 rfl ml_RX12_328 mo_X12_bits rfl rfl (Nat.le_of_ble_eq_true rfl) (by first | decide | omega) (k_bits c _ (by omega)) (fun r_58 τ_58 q_58 => ?_)
        obtain ⟨rfl, et_58⟩ := q_58
        have et_58 := et_58.symm
        subst et_58
        dsimp only [Option.toList, List.append, List.cons_append, List.nil_append]
        refine g_iload_n (nx := 62) 3 F dX12_turned_61 rfl rfl rfl ?_
        refine g_callS (nx := 65) 1 0 [.int (nI b)] F dX12_turned_62 rfl ml_RX12_328 mo_X12_bits rfl rfl (Nat.le_of_ble_eq_true rfl) (by first | decide | omega) (k_bits b _ (by omega)) (fun r_62 τ_62 q_62 => ?_)
        obtain ⟨rfl, et_62⟩ := q_62
        have et_62 := et_62.symm
        subst et_62
        dsimp only [Option.toList, List.append, List.cons_append, List.nil_append]
        refine g_icmp_lt (nx := 68) 71 F dX12_turned_65 rfl (by decide) (fun c_65 => ?_) (fun c_65 => ?_)
        · refine g_aload_n (nx := 72) 0 F dX12_turned_71 rfl rfl rfl ?_
          refine g_iload_n (nx := 73) 1 F dX12_turned_72 rfl rfl rfl ?_
          refine g_iload (nx := 75) F dX12_turned_73 rfl rfl ?_
          refine g_ixor (nx := 76) F dX12_turned_75 rfl ?_
          rw [nI_xor]
          refine g_callV (nx := 79) 1 4 [.int (nI (N ^^^ c))] F dX12_turned_76 rfl ml_RX12_371 mo_X12_end rfl rfl rfl rfl (Nat.le_of_ble_eq_true rfl) (by first | decide | omega) (k_end op vl len e (N ^^^ c) fe pa _ (gnK_fr hfr (hgn hA2)) (Nat.xor_lt_two_pow hN (by omega))) (fun r_76 τ_76 q_76 => ?_)
          obtain ⟨rfl, hf_76⟩ := q_76
          have hfr := fK_tr hfr hf_76
          dsimp only [Option.toList, List.append, List.cons_append, List.nil_append]
          refine g_iload_n (nx := 80) 2 F dX12_turned_79 rfl rfl rfl ?_
          refine g_icmp_ne (nx := 83) 86 F dX12_turned_80 rfl (by decide) (fun c_80 => ?_) (fun c_80 => ?_)
          · refine g_iinc (nx := 89) (1) F dX12_turned_86 rfl rfl (by decide) (by decide) ?_
            try dsimp only [List.set]
            refine g_goto 39 F dX12_turned_89 (by decide) ?_
            rw [nI_1]
            first
              | (have hlt := (nI_ltI (by omega) (by omega)).mp c_65; first | exact ih (c + 1) _ _ (by omega) hfr (Or.inr ⟨c, rfl, by omega, c_80, fun d hd hSd => Classical.byCases (fun ez : d = c => by subst ez; exact Or.inr ⟨rfl, Nat.le_refl _⟩) (fun ez => by have := h3 d (by omega) hSd; omega)⟩) | exact ih (c + 1) _ _ (by omega) hfr (Or.inr ⟨b, rfl, by omega, h2, fun d hd hSd => Classical.byCases (fun ez : d = c => by subst ez; exact absurd hSd c_80) (fun ez => h3 d (by omega) hSd)⟩))
              | (have hnl : ¬ bcN c < bcN b := fun z => c_65 ((nI_ltI (by omega) (by omega)).mpr z); exact ih (c + 1) _ _ (by omega) hfr (Or.inr ⟨b, rfl, by omega, h2, fun d hd hSd => Classical.byCases (fun ez : d = c => by subst ez; omega) (fun ez => h3 d (by omega) hSd)⟩))
          · refine g_iload (nx := 85) F dX12_turned_83 rfl rfl ?_
            refine g_istore_n (nx := 86) 3 F dX12_turned_85 rfl rfl (by decide) ?_
            try dsimp only [List.set]
            refine g_iinc (nx := 89) (1) F dX12_turned_86 rfl rfl (by decide) (by decide) ?_
            try dsimp only [List.set]
            refine g_goto 39 F dX12_turned_89 (by decide) ?_
            rw [nI_1]
            first
              | (have hlt := (nI_ltI (by omega) (by omega)).mp c_65; first | exact ih (c + 1) _ _ (by omega) hfr (Or.inr ⟨c, rfl, by omega, c_80, fun d hd hSd => Classical.byCases (fun ez : d = c => by subst ez; exact Or.inr ⟨rfl, Nat.le_refl _⟩) (fun ez => by have := h3 d (by omega) hSd; omega)⟩) | exact ih (c + 1) _ _ (by omega) hfr (Or.inr ⟨b, rfl, by omega, h2, fun d hd hSd => Classical.byCases (fun ez : d = c => by subst ez; exact absurd hSd c_80) (fun ez => h3 d (by omega) hSd)⟩))
              | (have hnl : ¬ bcN c < bcN b := fun z => c_65 ((nI_ltI (by omega) (by omega)).mpr z); exact ih (c + 1) _ _ (by omega) hfr (Or.inr ⟨b, rfl, by omega, h2, fun d hd hSd => Classical.byCases (fun ez : d = c => by subst ez; omega) (fun ez => h3 d (by omega) hSd)⟩))
        · refine g_goto 86 F dX12_turned_68 (by decide) ?_
          refine g_iinc (nx := 89) (1) F dX12_turned_86 rfl rfl (by decide) (by decide) ?_
          try dsimp only [List.set]
          refine g_goto 39 F dX12_turned_89 (by decide) ?_
          rw [nI_1]
          first
            | (have hlt := (nI_ltI (by omega) (by omega)).mp c_65; first | exact ih (c + 1) _ _ (by omega) hfr (Or.inr ⟨c, rfl, by omega, c_80, fun d hd hSd => Classical.byCases (fun ez : d = c => by subst ez; exact Or.inr ⟨rfl, Nat.le_refl _⟩) (fun ez => by have := h3 d (by omega) hSd; omega)⟩) | exact ih (c + 1) _ _ (by omega) hfr (Or.inr ⟨b, rfl, by omega, h2, fun d hd hSd => Classical.byCases (fun ez : d = c => by subst ez; exact absurd hSd c_80) (fun ez => h3 d (by omega) hSd)⟩))
            | (have hnl : ¬ bcN c < bcN b := fun z => c_65 ((nI_ltI (by omega) (by omega)).mpr z); exact ih (c + 1) _ _ (by omega) hfr (Or.inr ⟨b, rfl, by omega, h2, fun d hd hSd => Classical.byCases (fun ez : d = c => by subst ez; omega) (fun ez => h3 d (by omega) hSd)⟩))
  refine g_aload_n (nx := 1) 0 F dX12_turned_0 rfl rfl rfl ?_
  refine g_iload_n (nx := 2) 1 F dX12_turned_1 rfl rfl rfl ?_
  refine g_callV (nx := 5) 1 0 [.int (nI N)] F dX12_turned_2 rfl ml_RX12_178 mo_X12_isSet rfl rfl rfl rfl (Nat.le_of_ble_eq_true rfl) (by first | decide | omega) (k_isSet (nI N) _) (fun r_2 τ_2 q_2 => ?_)
  obtain ⟨rfl, et_2⟩ := q_2
  have et_2 := et_2.symm
  subst et_2
  dsimp only [Option.toList, List.append, List.cons_append, List.nil_append]
  rw [hc]
  refine g_if_eq (nx := 8) 31 F dX12_turned_5 rfl (by decide) (fun c_5 => absurd c_5 (by exact bI_n0.mpr hA0)) (fun c_5 => ?_)
  refine g_aload_n (nx := 9) 0 F dX12_turned_8 rfl rfl rfl ?_
  refine g_iload_n (nx := 10) 2 F dX12_turned_9 rfl rfl rfl ?_
  refine g_callV (nx := 13) 1 0 [.int (nI M)] F dX12_turned_10 rfl ml_RX12_178 mo_X12_isSet rfl rfl rfl rfl (Nat.le_of_ble_eq_true rfl) (by first | decide | omega) (k_isSet (nI M) _) (fun r_10 τ_10 q_10 => ?_)
  obtain ⟨rfl, et_10⟩ := q_10
  have et_10 := et_10.symm
  subst et_10
  dsimp only [Option.toList, List.append, List.cons_append, List.nil_append]
  rw [hc]
  refine g_if_eq (nx := 16) 31 F dX12_turned_13 rfl (by decide) (fun c_13 => absurd c_13 (by exact bI_n0.mpr hA1)) (fun c_13 => ?_)
  refine g_aload_n (nx := 17) 0 F dX12_turned_16 rfl rfl rfl ?_
  refine g_callV (nx := 20) 0 0 [] F dX12_turned_17 rfl ml_RX12_365 mo_X12_hasGain rfl rfl rfl rfl (Nat.le_of_ble_eq_true rfl) (by first | decide | omega) (k_hasGain G _ hG) (fun r_17 τ_17 q_17 => ?_)
  obtain ⟨rfl, et_17⟩ := q_17
  have et_17 := et_17.symm
  subst et_17
  dsimp only [Option.toList, List.append, List.cons_append, List.nil_append]
  refine g_if_eq (nx := 23) 31 F dX12_turned_20 rfl (by decide) (fun c_20 => absurd c_20 (by exact bI_n0.mpr hA2)) (fun c_20 => ?_)
  refine g_aload_n (nx := 24) 0 F dX12_turned_23 rfl rfl rfl ?_
  refine g_iload_n (nx := 25) 2 F dX12_turned_24 rfl rfl rfl ?_
  refine g_callV (nx := 28) 1 4 [.int (nI M)] F dX12_turned_25 rfl ml_RX12_368 mo_X12_isRest rfl rfl rfl rfl (Nat.le_of_ble_eq_true rfl) (by first | decide | omega) (k_isRest op vl len e M fe pa _ (hgn hA2) (by omega)) (fun r_25 τ_25 q_25 => ?_)
  obtain ⟨rfl, hf_25⟩ := q_25
  dsimp only [Option.toList, List.append, List.cons_append, List.nil_append]
  refine g_if_ne (nx := 31) 33 F dX12_turned_28 rfl (by decide) (fun c_28 => ?_) (fun c_28 => absurd c_28 (by exact bI_n0.mpr (by rw [eM] at hA3; exact hA3)))
  refine g_bipush (nx := 35) (-2) F dX12_turned_33 rfl (by decide) ?_
  refine g_istore_n (nx := 36) 3 F dX12_turned_35 rfl rfl (by decide) ?_
  try dsimp only [List.set]
  refine g_iconst (nx := 37) (0) F dX12_turned_36 rfl rfl ?_
  refine g_istore (nx := 39) F dX12_turned_37 rfl (by decide) ?_
  try dsimp only [List.set]
  exact L (2 ^ e) 0 (-2) _ (by omega) hf_25 (Or.inl ⟨rfl, fun d hd => absurd hd (Nat.not_lt_zero d)⟩)
