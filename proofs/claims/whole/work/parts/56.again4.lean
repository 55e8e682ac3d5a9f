def rsS (σ : zSt) (k : Nat) : zSt := fun a => if a = 156 ∨ a = 158 ∨ a = 159 then fa_fill (fun _ => 0) (σ a) k else if a = 157 then fa_fill (σ 153) (σ 157) k else σ a
theorem rsS_0 (σ : zSt) : rsS σ 0 = σ := by
  funext a
  unfold rsS
  split
  · exact fa_fill_0 _ _
  · split
    · rename_i h; subst h; exact fa_fill_0 _ _
    · rfl
theorem rsS_step (σ : zSt) (k : Nat) : zu (zu (zu (zu (rsS σ k) 156 k 0) 157 k (σ 153 k)) 158 k 0) 159 k 0 = rsS σ (k + 1) := by
  funext a
  by_cases h1 : a = 156
  · subst h1
    exact fa_fill_succ (fun _ => 0) (σ 156) k
  · by_cases h2 : a = 157
    · subst h2
      exact fa_fill_succ (σ 153) (σ 157) k
    · by_cases h3 : a = 158
      · subst h3
        exact fa_fill_succ (fun _ => 0) (σ 158) k
      · by_cases h4 : a = 159
        · subst h4
          exact fa_fill_succ (fun _ => 0) (σ 159) k
        · rw [zu_ne _ h4, zu_ne _ h3, zu_ne _ h2, zu_ne _ h1]
          unfold rsS
          rw [if_neg (by omega), if_neg h2, if_neg (by omega), if_neg h2]
theorem EnvK_congr2 {σ τ D : zSt} {T : Nat → TXT} {s e : Nat} (h : ∀ a, 146 ≤ a → a ≤ 174 → a ≠ 148 → a ≠ 149 → (a < 156 ∨ 161 < a) → τ a = σ a) (h1 : τ 145 1 = σ 145 1) (h2 : τ 145 2 = σ 145 2) (he : EnvK σ D T s e) : EnvK τ D T s e := by
  obtain ⟨a1, a2, a3, a4, a5, a6, a7, a8, a9, a10, a11⟩ := he
  unfold EnvK
  rw [h 146 (by omega) (by omega) (by omega) (by omega) (by omega), h 147 (by omega) (by omega) (by omega) (by omega) (by omega), h 150 (by omega) (by omega) (by omega) (by omega) (by omega), h 151 (by omega) (by omega) (by omega) (by omega) (by omega), h 152 (by omega) (by omega) (by omega) (by omega) (by omega), h 154 (by omega) (by omega) (by omega) (by omega) (by omega), h1, h2]
  exact ⟨a1, a2, a3, a4, a5, a6, a7, a8, a9, fun i hi => txK_congr (fun b b1 b2 => h b (by omega) (by omega) (by omega) (by omega) (by omega)) (a10 i hi), a11⟩
def pvK (τ : zSt) : zSt := fun i => if i < 8 then τ (kA i) else fun k => if k = 0 then τ 145 5 else if k = 1 then τ 145 50 else τ 145 49
theorem KR_self (τ : zSt) : KR τ τ (pvK τ) := ⟨fun _ _ _ _ _ _ _ => rfl, fun _ _ _ => rfl, rfl, rfl, rfl, fun i hi => (if_pos hi).symm⟩
/-- what again leaves -/
def fr145 (σ τ : zSt) : Prop := (∀ a, a ≠ 145 → a ≠ 175 → a ≠ 176 → (a < 187 ∨ 194 < a) → τ a = σ a) ∧ ∀ k, (k < 47 ∨ 50 < k) → τ 145 k = σ 145 k
/-- while it goes on -/
def agR (T : Nat → TXT) (D : zSt) (s e f : Nat) (nn : Nat → Nat) (sd : Int32) (σ σ1 τ : zSt) (y : Nat) : Prop :=
  (∀ a, a ≠ 145 → a ≠ 148 → a ≠ 149 → (a < 156 ∨ 161 < a) → a ≠ 175 → a ≠ 176 → τ a = σ1 a) ∧ (∀ k, k ≠ 0 → k ≠ 5 → k ≠ 6 → (k < 47 ∨ 50 < k) → τ 145 k = σ 145 k) ∧ (∀ i, i < 3 → ∀ j, j < f → τ (156 + i) j = (agS T D s nn sd y).1 i j) ∧ τ 145 5 = (agS T D s nn sd y).1 8 0 ∧ τ 145 6 = (agS T D s nn sd y).2.1 ∧ τ 145 0 = nI y ∧ (∀ i, i < 6 → ∀ j, f ≤ j → τ (156 + i) j = σ (156 + i) j) ∧ ∀ k, e ≤ k → τ 148 k = σ 148 k ∧ τ 149 k = σ 149 k
theorem agR_step {T : Nat → TXT} {D : zSt} {s e f y : Nat} {cm nn : Nat → Nat} {sd : Int32} {σ σ1 τ τ1 : zSt} (hD : okD D s e) (hs : s ≤ 8) (hsd : ∃ x, x < 65536 ∧ sd = nI x) (hnn : nnOK cm nn f) (h : agR T D s e f nn sd σ σ1 τ y) (hk : KR τ τ1 (monP T D s (nn y) (agS T D s nn sd y).2.1 (nI y) (nn y) 0 (zu (zu (pvK τ) 8 2 0) 8 1 0))) :
    agR T D s e f nn sd σ σ1 (zu (zu τ1 145 6 (nI (bcN ((monP T D s (nn y) (agS T D s nn sd y).2.1 (nI y) (nn y) 0 (zu (zu (pvK τ) 8 2 0) 8 1 0)) 8 1).toInt.toNat))) 145 0 (nI (y + 1))) (y + 1) ∧ (monP T D s (nn y) (agS T D s nn sd y).2.1 (nI y) (nn y) 0 (zu (zu (pvK τ) 8 2 0) 8 1 0)) 8 2 = (monP T D s (nn y) (agS T D s nn sd y).2.1 (nI y) (nn y) 0 (rst (agS T D s nn sd y).1)) 8 2 := by
  obtain ⟨a1, a2, a3, a4, a5, a6, a7, a8⟩ := h
  have hle := (hnn y).1
  have hag := agS_ok (T := T) hD hs hsd (nn_mo hnn) y
  rw [← zu8, show zu (zu (pvK τ) 8 1 0) 8 2 0 = rst (pvK τ) from rfl] at hk ⊢
  have hce := coE_rst (n := nn y) (P := pvK τ) (Q := (agS T D s nn sd y).1) (fun i hi j hj => by
    have := a3 i hi j (by omega)
    match i, hi with
    | 0, _ => exact this
    | 1, _ => exact this
    | 2, _ => exact this) a4
  have hok0 := okP_coE hce (okP_rst (hag.1 (nn y)))
  have hcm := coE_mon (T := T) (s := s) (D := D) (o := (agS T D s nn sd y).2.1) (y := nI y) (nn y) 0 _ _ (by omega) hce
  have hu := unt_mon (T := T) (o := (agS T D s nn sd y).2.1) (y := nI y) (P := pvK τ) hD hs (nn y) 0 (rst (pvK τ)) (by omega) hok0 ⟨fun i hi j _ => by unfold rst; rw [zu_ne _ (by omega), zu_ne _ (by omega)], fun i hi k _ => by unfold rst; rw [zu_ne _ (by omega), zu_ne _ (by omega)]⟩
  have hu2 := unt_mon (T := T) (o := (agS T D s nn sd y).2.1) (y := nI y) (P := (agS T D s nn sd y).1) hD hs (nn y) 0 (rst (agS T D s nn sd y).1) (by omega) (okP_rst (hag.1 (nn y))) ⟨fun i hi j _ => by unfold rst; rw [zu_ne _ (by omega), zu_ne _ (by omega)], fun i hi k _ => by unfold rst; rw [zu_ne _ (by omega), zu_ne _ (by omega)]⟩
  obtain ⟨k1, k2, k3, k4, k5, k6⟩ := hk
  have hkA : ∀ i, i < 6 → τ1 (156 + i) = monP T D s (nn y) (agS T D s nn sd y).2.1 (nI y) (nn y) 0 (rst (pvK τ)) i := fun i hi => by
    have := k6 i (by omega)
    unfold kA at this
    rw [if_pos hi] at this
    exact this
  have hpv : ∀ i, i < 6 → pvK τ i = τ (156 + i) := fun i hi => by unfold pvK kA; rw [if_pos (by omega), if_pos hi]
  refine ⟨⟨fun a b1 b2 b3 b4 b5 b6 => ?_, fun k b1 b2 b3 b4 => ?_, fun i hi j hj => ?_, ?_, ?_, ?_, fun i hi j hj => ?_, fun k hk => ⟨?_, ?_⟩⟩, hcm.2 2 (by decide)⟩
  · rw [zu_ne _ b1, zu_ne _ b1, k1 a b1 b2 b3 b4 b5 b6]
    exact a1 a b1 b2 b3 b4 b5 b6
  · rw [zu_off _ _ _ _ _ b1, zu_off _ _ _ _ _ b3, k2 k b2 b4]
    exact a2 k b1 b2 b3 b4
  · rw [zu_ne _ (by omega), zu_ne _ (by omega), hkA i (by omega)]
    rcases Nat.lt_or_ge j (nn y) with z | z
    · exact hcm.1 i hi j z
    · rw [show _ = _ from hu.1 i (by omega) j z, hpv i (by omega), a3 i hi j hj]
      exact (hu2.1 i (by omega) j z).symm
  · rw [zu_off _ _ _ _ _ (by decide), zu_off _ _ _ _ _ (by decide), k3]
    exact hcm.2 0 (by decide)
  · rw [zu_off _ _ _ _ _ (by decide), zu_same]
    exact congrArg (fun z : Int32 => nI (bcN z.toInt.toNat)) (hcm.2 1 (by decide))
  · rw [zu_same]
  · rw [zu_ne _ (by omega), zu_ne _ (by omega), hkA i hi, show _ = _ from hu.1 i hi j (by omega), hpv i hi]
    exact a7 i hi j hj
  · rw [zu_ne _ (by decide), zu_ne _ (by decide), show τ1 148 = _ from k6 6 (by decide), show _ = _ from hu.2 6 (Or.inl rfl) k hk]
    exact (a8 k hk).1
  · rw [zu_ne _ (by decide), zu_ne _ (by decide), show τ1 149 = _ from k6 7 (by decide), show _ = _ from hu.2 7 (Or.inr rfl) k hk]
    exact (a8 k hk).2
set_option maxHeartbeats 4000000 in
set_option maxRecDepth 100000 in
theorem k_again (T : Nat → TXT) (D : zSt) (s e f Y : Nat) (cm nn : Nat → Nat) (sd w : Int32) (σ : zSt) (he : EnvK σ D T s e) (hD : okD D s e) (hsd0 : σ 145 4 = sd) (hsd : ∃ x, x < 65536 ∧ sd = nI x) (hnn : nnOK cm nn f) (hf : σ 145 3 = nI f) (hf40 : f ≤ 40) (hcm : ∀ j, j < f → σ 155 j = nI (cm j) ∧ cm j ≤ 239) (hD6 : σ 153 = D 6) (hY : σ 145 0 = nI Y) (hY2 : Y ≤ 239) (hokf : okF D f) : Con mX12_again 6 [.ref 145, .int w] σ (fun r τ => (isin w 2 ∧ r = some (.int (agA T D s f nn sd Y (σ 156) w)) ∧ fr145 σ τ) ∨ (¬ isin w 2 ∧ r = some (.int (-1)) ∧ τ = σ)) := by
  refine Con.of (lv := [.ref 145, .int w, .long 0, .long 0, .long 0, .long 0, .long 0, .long 0, .long 0]) mk_X12_again rfl (Nat.le_of_ble_eq_true rfl) rfl (fun X F E => ?_)
  have hs8 := he.2.2.2.2.2.2.2.1
  have he10 := hD.1
  have L3 : isin w 2 → ∀ (q j : Nat) (τ : zSt) (sm : Int32), j + q = f → agR T D s e f nn sd σ (cpM cm2 (cpM cm1 σ f) e) τ Y → sm = bI (∀ k, k < j → (agS T D s nn sd Y).1 0 k = σ 156 k) → Gs X 141 [.ref 145, .int w, .int (nI Y), .int (σ 145 5), .int (σ 145 6), .int (agS T D s nn sd Y).2.2, .int (nI (dnF ((agS T D s nn sd Y).1 0) s j)), .int sm, .int (nI j)] [] τ := by
    intro hA q
    induction q with
    | zero =>
      intro j τ sm hj hag hsm
      have hj : j = f := hj
      subst hj
      have hfin : fr145 σ (zu (zu (cpM cm4 (cpM cm3 τ j) e) 145 5 (σ 145 5)) 145 6 (σ 145 6)) := by
        refine ⟨fun a b1 b2 b3 b4 => ?_, fun k hk => ?_⟩
        · rw [zu_ne _ b1, zu_ne _ b1]
          by_cases e1 : a = 148
          · subst e1
            show fa_fill (τ 193) (τ 148) e = σ 148
            funext k
            rcases Nat.lt_or_ge k e with z | z
            · rw [fa_fill_in z, hag.1 193 (by decide) (by decide) (by decide) (by decide) (by decide) (by decide)]
              show fa_fill (σ 148) (σ 193) e k = _
              rw [fa_fill_in z]
            · rw [fa_fill_out z]
              exact (hag.2.2.2.2.2.2.2 k z).1
          · by_cases e2 : a = 149
            · subst e2
              show fa_fill (τ 194) (τ 149) e = σ 149
              funext k
              rcases Nat.lt_or_ge k e with z | z
              · rw [fa_fill_in z, hag.1 194 (by decide) (by decide) (by decide) (by decide) (by decide) (by decide)]
                show fa_fill (σ 149) (σ 194) e k = _
                rw [fa_fill_in z]
              · rw [fa_fill_out z]
                exact (hag.2.2.2.2.2.2.2 k z).2
            · have e4 : cpM cm4 (cpM cm3 τ j) e a = cpM cm3 τ j a := by
                show (match cm4 a with | some b => fa_fill (cpM cm3 τ j b) (cpM cm3 τ j a) e | none => cpM cm3 τ j a) = _
                unfold cm4
                rw [if_neg e1, if_neg e2]
              rw [e4]
              by_cases e5 : 156 ≤ a ∧ a ≤ 161
              · have e6 : cpM cm3 τ j a = fa_fill (τ (a + 31)) (τ a) j := by
                  show (match cm3 a with | some b => fa_fill (τ b) (τ a) j | none => τ a) = _
                  unfold cm3
                  rw [if_pos e5]
                rw [e6]
                funext k
                rcases Nat.lt_or_ge k j with z | z
                · rw [fa_fill_in z, hag.1 (a + 31) (by omega) (by omega) (by omega) (by omega) (by omega) (by omega)]
                  have e7 : (cpM cm2 (cpM cm1 σ j) e) (a + 31) = fa_fill (σ a) (σ (a + 31)) j := by
                    show (match cm2 (a + 31) with | some b => fa_fill (cpM cm1 σ j b) (cpM cm1 σ j (a + 31)) e | none => cpM cm1 σ j (a + 31)) = _
                    unfold cm2
                    rw [if_neg (by omega), if_neg (by omega)]
                    show (match cm1 (a + 31) with | some b => fa_fill (σ b) (σ (a + 31)) j | none => σ (a + 31)) = _
                    unfold cm1
                    rw [if_pos (by omega)]
                    rfl
                  rw [e7, fa_fill_in z]
                · rw [fa_fill_out z]
                  have := hag.2.2.2.2.2.2.1 (a - 156) (by omega) k z
                  rw [show 156 + (a - 156) = a by omega] at this
                  exact this
              · have e6 : cpM cm3 τ j a = τ a := by
                  show (match cm3 a with | some b => fa_fill (τ b) (τ a) j | none => τ a) = _
                  unfold cm3
                  rw [if_neg e5]
                rw [e6, hag.1 a b1 e1 e2 (by omega) b2 b3]
                show (match cm2 a with | some b => fa_fill (cpM cm1 σ j b) (cpM cm1 σ j a) e | none => cpM cm1 σ j a) = _
                unfold cm2
                rw [if_neg (by omega), if_neg (by omega)]
                show (match cm1 a with | some b => fa_fill (σ b) (σ a) j | none => σ a) = _
                unfold cm1
                rw [if_neg (by omega)]
        · by_cases e6 : k = 6
          · subst e6
            rw [zu_same]
          · rw [zu_off _ _ _ _ _ e6]
            by_cases e5 : k = 5
            · subst e5
              rw [zu_same]
            · rw [zu_off _ _ _ _ _ e5]
              show τ 145 k = σ 145 k
              by_cases e0 : k = 0
              · subst e0
                rw [hag.2.2.2.2.2.1, hY]
              · exact hag.2.1 k e0 e5 e6 hk
      refine g_iload (nx := 143) F dX12_again_141 rfl rfl ?_
      refine g_aload_n (nx := 144) 0 F dX12_again_143 rfl rfl rfl ?_
      refine g_getV (nx := 147) (nI j) F dX12_again_144 rfl fl_RX12_171 rfl (by decide) (by decide) rfl rfl ((hag.2.1 3 (by decide) (by decide) (by decide) (by decide)).trans hf) ?_
      refine g_icmp_ge (nx := 150) 205 F dX12_again_147 rfl (by decide) (fun c_147 => ?_) (fun c_147 => absurd c_147 (by exact fun zq => zq (nI_le (Nat.le_refl j) (by omega))))
      refine g_aload_n (nx := 206) 0 F dX12_again_205 rfl rfl rfl ?_
      refine g_callV (nx := 209) 0 0 [] F dX12_again_206 rfl ml_RX12_416 mo_X12_takesUp rfl rfl rfl rfl (Nat.le_of_ble_eq_true rfl) (by first | decide | omega) (k_takesUp j e _ ((hag.2.1 3 (by decide) (by decide) (by decide) (by decide)).trans hf) hf40 ((hag.2.1 1 (by decide) (by decide) (by decide) (by decide)).trans he.2.2.2.2.2.2.2.2.1) he10) (fun r_206 τ_206 q_206 => ?_)
      obtain ⟨rfl, et_206⟩ := q_206
      have et_206 := et_206.symm
      subst et_206
      dsimp only [Option.toList, List.append, List.cons_append, List.nil_append]
      refine g_aload_n (nx := 210) 0 F dX12_again_209 rfl rfl rfl ?_
      refine g_iload_n (nx := 211) 3 F dX12_again_210 rfl rfl rfl ?_
      refine g_putI (nx := 214) F dX12_again_211 rfl fl_RX12_162 fi_11_5 rfl (by decide) (by decide) rfl rfl ?_
      refine g_aload_n (nx := 215) 0 F dX12_again_214 rfl rfl rfl ?_
      refine g_iload (nx := 217) F dX12_again_215 rfl rfl ?_
      refine g_putI (nx := 220) F dX12_again_217 rfl fl_RX12_308 fi_11_6 rfl (by decide) (by decide) rfl rfl ?_
      refine g_iload_n (nx := 221) 1 F dX12_again_220 rfl rfl rfl ?_
      refine g_if_ne (nx := 224) 229 F dX12_again_221 rfl (by decide) (fun c_221 => ?_) (fun c_221 => ?_)
      · refine g_iload_n (nx := 230) 1 F dX12_again_229 rfl rfl rfl ?_
        refine g_iconst (nx := 231) (1) F dX12_again_230 rfl rfl ?_
        refine g_icmp_ne (nx := 234) 239 F dX12_again_231 rfl (by decide) (fun c_231 => ?_) (fun c_231 => ?_)
        · refine g_iload (nx := 241) F dX12_again_239 rfl rfl ?_
          refine g_iret F E dX12_again_241 ?_
          refine Or.inl ⟨hA, ?_, hfin⟩
          unfold agA
          first
            | (rw [if_neg (by rw [c_221]; decide), if_pos c_221])
            | (rw [if_pos c_231])
            | (rw [if_neg c_231, if_neg c_221, hsm])
        · refine g_iload (nx := 236) F dX12_again_234 rfl rfl ?_
          refine g_goto 241 F dX12_again_236 (by decide) ?_
          refine g_iret F E dX12_again_241 ?_
          refine Or.inl ⟨hA, ?_, hfin⟩
          unfold agA
          first
            | (rw [if_neg (by rw [c_221]; decide), if_pos c_221])
            | (rw [if_pos c_231])
            | (rw [if_neg c_231, if_neg c_221, hsm])
      · refine g_iload (nx := 226) F dX12_again_224 rfl rfl ?_
        refine g_goto 241 F dX12_again_226 (by decide) ?_
        refine g_iret F E dX12_again_241 ?_
        refine Or.inl ⟨hA, ?_, hfin⟩
        unfold agA
        first
          | (rw [if_neg (by rw [c_221]; decide), if_pos c_221])
          | (rw [if_pos c_231])
          | (rw [if_neg c_231, if_neg c_221, hsm])
    | succ q ih =>
      intro j τ sm hj hag hsm
      have ih := fun sm z => ih (j + 1) τ sm (by omega) hag z
      obtain ⟨⟨a, ha, hPa⟩, _⟩ := ((agS_ok (T := T) hD hs8 hsd (nn_mo hnn) Y).1 (j + 1)).1 j (by omega)
      have e156 : τ 156 j = (agS T D s nn sd Y).1 0 j := hag.2.2.1 0 (by decide) j (by omega)
      have e187 : τ 187 j = σ 156 j := by
        rw [hag.1 187 (by decide) (by decide) (by decide) (by decide) (by decide) (by decide)]
        show fa_fill (σ 156) (σ 187) f j = _
        exact fa_fill_in (by omega)
      have hlt : ((agS T D s nn sd Y).1 0 j < nI s) ↔ ¬ (agS T D s nn sd Y).1 0 j = nI s := by
        rw [hPa, nI_ltI (by omega) (by omega), nI_eq (by omega) (by omega)]
        omega
      have hbi : ∀ sm2 : Int32, ((agS T D s nn sd Y).1 0 j = σ 156 j → sm2 = sm) → (¬ (agS T D s nn sd Y).1 0 j = σ 156 j → sm2 = 0) → sm2 = bI (∀ k, k < j + 1 → (agS T D s nn sd Y).1 0 k = σ 156 k) := by
        intro sm2 z1 z2
        by_cases ez : (agS T D s nn sd Y).1 0 j = σ 156 j
        · rw [z1 ez, hsm]
          exact bI_c ⟨fun z k hk => Classical.byCases (fun e : k = j => by subst e; exact ez) (fun e => z k (by omega)), fun z k hk => z k (by omega)⟩
        · rw [z2 ez]
          exact (bI_f (fun z => ez (z j (by omega)))).symm
      rw [dnF] at ih
      refine g_iload (nx := 143) F dX12_again_141 rfl rfl ?_
      refine g_aload_n (nx := 144) 0 F dX12_again_143 rfl rfl rfl ?_
      refine g_getV (nx := 147) (nI f) F dX12_again_144 rfl fl_RX12_171 rfl (by decide) (by decide) rfl rfl ((hag.2.1 3 (by decide) (by decide) (by decide) (by decide)).trans hf) ?_
      refine g_icmp_ge (nx := 150) 205 F dX12_again_147 rfl (by decide) (fun c_147 => absurd c_147 (by exact nI_ge (by omega) (by omega))) (fun c_147 => ?_)
      refine g_iload (nx := 152) F dX12_again_150 rfl rfl ?_
      refine g_aload_n (nx := 153) 0 F dX12_again_152 rfl rfl rfl ?_
      refine g_getR (nx := 156) F dX12_again_153 rfl fl_RX12_40 rfl (by decide) (by decide) rfl ?_
      refine g_iload (nx := 158) F dX12_again_156 rfl rfl ?_
      refine g_ialdN (nx := 159) (j) ((agS T D s nn sd Y).1 0 j) F dX12_again_158 rfl rfl (by omega) (e156) ?_
      refine g_aload_n (nx := 160) 0 F dX12_again_159 rfl rfl rfl ?_
      refine g_getV (nx := 163) (nI s) F dX12_again_160 rfl fl_RX12_168 rfl (by decide) (by decide) rfl rfl ((hag.2.1 2 (by decide) (by decide) (by decide) (by decide)).trans he.2.2.2.2.2.2.1) ?_
      refine g_icmp_ne (nx := 166) 170 F dX12_again_163 rfl (by decide) (fun c_163 => ?_) (fun c_163 => ?_)
      · refine g_iconst (nx := 171) (0) F dX12_again_170 rfl rfl ?_
        refine g_iadd (nx := 172) F dX12_again_171 rfl ?_
        refine g_istore (nx := 174) F dX12_again_172 rfl (by decide) ?_
        try dsimp only [List.set]
        refine g_aload_n (nx := 175) 0 F dX12_again_174 rfl rfl rfl ?_
        refine g_getR (nx := 178) F dX12_again_175 rfl fl_RX12_40 rfl (by decide) (by decide) rfl ?_
        refine g_iload (nx := 180) F dX12_again_178 rfl rfl ?_
        refine g_ialdN (nx := 181) (j) ((agS T D s nn sd Y).1 0 j) F dX12_again_180 rfl rfl (by omega) (e156) ?_
        refine g_aload_n (nx := 182) 0 F dX12_again_181 rfl rfl rfl ?_
        refine g_getR (nx := 185) F dX12_again_182 rfl fl_RX12_134 rfl (by decide) (by decide) rfl ?_
        refine g_iload (nx := 187) F dX12_again_185 rfl rfl ?_
        refine g_ialdN (nx := 188) (j) (σ 156 j) F dX12_again_187 rfl rfl (by omega) (e187) ?_
        refine g_icmp_ne (nx := 191) 196 F dX12_again_188 rfl (by decide) (fun c_188 => ?_) (fun c_188 => ?_)
        · refine g_iconst (nx := 197) (0) F dX12_again_196 rfl rfl ?_
          refine g_istore (nx := 199) F dX12_again_197 rfl (by decide) ?_
          try dsimp only [List.set]
          refine g_iinc (nx := 202) (1) F dX12_again_199 rfl rfl (by decide) (by decide) ?_
          try dsimp only [List.set]
          refine g_goto 141 F dX12_again_202 (by decide) ?_
          rw [nI_1 j]
          first
            | (have hq : ¬ (agS T D s nn sd Y).1 0 j < nI s := fun z => hlt.mp z c_163; rw [if_neg hq] at ih; rw [nI_1]; first | exact ih _ (hbi _ (fun _ => rfl) (fun z => absurd c_188 z)) | exact ih _ (hbi _ (fun z => absurd z c_188) (fun _ => rfl)))
            | (have hq : (agS T D s nn sd Y).1 0 j < nI s := hlt.mpr c_163; rw [if_pos hq] at ih; rw [Int32.add_zero]; first | exact ih _ (hbi _ (fun _ => rfl) (fun z => absurd c_188 z)) | exact ih _ (hbi _ (fun z => absurd z c_188) (fun _ => rfl)))
        · refine g_iload (nx := 193) F dX12_again_191 rfl rfl ?_
          refine g_goto 197 F dX12_again_193 (by decide) ?_
          refine g_istore (nx := 199) F dX12_again_197 rfl (by decide) ?_
          try dsimp only [List.set]
          refine g_iinc (nx := 202) (1) F dX12_again_199 rfl rfl (by decide) (by decide) ?_
          try dsimp only [List.set]
          refine g_goto 141 F dX12_again_202 (by decide) ?_
          rw [nI_1 j]
          first
            | (have hq : ¬ (agS T D s nn sd Y).1 0 j < nI s := fun z => hlt.mp z c_163; rw [if_neg hq] at ih; rw [nI_1]; first | exact ih _ (hbi _ (fun _ => rfl) (fun z => absurd c_188 z)) | exact ih _ (hbi _ (fun z => absurd z c_188) (fun _ => rfl)))
            | (have hq : (agS T D s nn sd Y).1 0 j < nI s := hlt.mpr c_163; rw [if_pos hq] at ih; rw [Int32.add_zero]; first | exact ih _ (hbi _ (fun _ => rfl) (fun z => absurd c_188 z)) | exact ih _ (hbi _ (fun z => absurd z c_188) (fun _ => rfl)))
      · refine g_iconst (nx := 167) (1) F dX12_again_166 rfl rfl ?_
        refine g_goto 171 F dX12_again_167 (by decide) ?_
        refine g_iadd (nx := 172) F dX12_again_171 rfl ?_
        refine g_istore (nx := 174) F dX12_again_172 rfl (by decide) ?_
        try dsimp only [List.set]
        refine g_aload_n (nx := 175) 0 F dX12_again_174 rfl rfl rfl ?_
        refine g_getR (nx := 178) F dX12_again_175 rfl fl_RX12_40 rfl (by decide) (by decide) rfl ?_
        refine g_iload (nx := 180) F dX12_again_178 rfl rfl ?_
        refine g_ialdN (nx := 181) (j) ((agS T D s nn sd Y).1 0 j) F dX12_again_180 rfl rfl (by omega) (e156) ?_
        refine g_aload_n (nx := 182) 0 F dX12_again_181 rfl rfl rfl ?_
        refine g_getR (nx := 185) F dX12_again_182 rfl fl_RX12_134 rfl (by decide) (by decide) rfl ?_
        refine g_iload (nx := 187) F dX12_again_185 rfl rfl ?_
        refine g_ialdN (nx := 188) (j) (σ 156 j) F dX12_again_187 rfl rfl (by omega) (e187) ?_
        refine g_icmp_ne (nx := 191) 196 F dX12_again_188 rfl (by decide) (fun c_188 => ?_) (fun c_188 => ?_)
        · refine g_iconst (nx := 197) (0) F dX12_again_196 rfl rfl ?_
          refine g_istore (nx := 199) F dX12_again_197 rfl (by decide) ?_
          try dsimp only [List.set]
          refine g_iinc (nx := 202) (1) F dX12_again_199 rfl rfl (by decide) (by decide) ?_
          try dsimp only [List.set]
          refine g_goto 141 F dX12_again_202 (by decide) ?_
          rw [nI_1 j]
          first
            | (have hq : ¬ (agS T D s nn sd Y).1 0 j < nI s := fun z => hlt.mp z c_163; rw [if_neg hq] at ih; rw [nI_1]; first | exact ih _ (hbi _ (fun _ => rfl) (fun z => absurd c_188 z)) | exact ih _ (hbi _ (fun z => absurd z c_188) (fun _ => rfl)))
            | (have hq : (agS T D s nn sd Y).1 0 j < nI s := hlt.mpr c_163; rw [if_pos hq] at ih; rw [Int32.add_zero]; first | exact ih _ (hbi _ (fun _ => rfl) (fun z => absurd c_188 z)) | exact ih _ (hbi _ (fun z => absurd z c_188) (fun _ => rfl)))
        · refine g_iload (nx := 193) F dX12_again_191 rfl rfl ?_
          refine g_goto 197 F dX12_again_193 (by decide) ?_
          refine g_istore (nx := 199) F dX12_again_197 rfl (by decide) ?_
          try dsimp only [List.set]
          refine g_iinc (nx := 202) (1) F dX12_again_199 rfl rfl (by decide) (by decide) ?_
          try dsimp only [List.set]
          refine g_goto 141 F dX12_again_202 (by decide) ?_
          rw [nI_1 j]
          first
            | (have hq : ¬ (agS T D s nn sd Y).1 0 j < nI s := fun z => hlt.mp z c_163; rw [if_neg hq] at ih; rw [nI_1]; first | exact ih _ (hbi _ (fun _ => rfl) (fun z => absurd c_188 z)) | exact ih _ (hbi _ (fun z => absurd z c_188) (fun _ => rfl)))
            | (have hq : (agS T D s nn sd Y).1 0 j < nI s := hlt.mpr c_163; rw [if_pos hq] at ih; rw [Int32.add_zero]; first | exact ih _ (hbi _ (fun _ => rfl) (fun z => absurd c_188 z)) | exact ih _ (hbi _ (fun z => absurd z c_188) (fun _ => rfl)))
  have L2 : isin w 2 → ∀ (q y : Nat) (τ : zSt) (z6 z7 z8 : Value), y + q = Y → agR T D s e f nn sd σ (cpM cm2 (cpM cm1 σ f) e) τ y → Gs X 108 [.ref 145, .int w, .int (nI Y), .int (σ 145 5), .int (σ 145 6), .int (agS T D s nn sd y).2.2, z6, z7, z8] [] τ := by
    intro hA q
    induction q with
    | zero =>
      intro y τ z6 z7 z8 hq hag
      have hq : y = Y := hq
      subst hq
      refine g_aload_n (nx := 109) 0 F dX12_again_108 rfl rfl rfl ?_
      refine g_getV (nx := 112) (nI y) F dX12_again_109 rfl fl_RX12_183 rfl (by decide) (by decide) rfl rfl (hag.2.2.2.2.2.1) ?_
      refine g_iload_n (nx := 113) 2 F dX12_again_112 rfl rfl rfl ?_
      refine g_icmp_ge (nx := 116) 132 F dX12_again_113 rfl (by decide) (fun c_113 => ?_) (fun c_113 => absurd c_113 (by exact fun zq => zq (nI_le (Nat.le_refl y) (by omega))))
      refine g_iconst (nx := 133) (0) F dX12_again_132 rfl rfl ?_
      refine g_istore (nx := 135) F dX12_again_133 rfl (by decide) ?_
      try dsimp only [List.set]
      refine g_iconst (nx := 136) (1) F dX12_again_135 rfl rfl ?_
      refine g_istore (nx := 138) F dX12_again_136 rfl (by decide) ?_
      try dsimp only [List.set]
      refine g_iconst (nx := 139) (0) F dX12_again_138 rfl rfl ?_
      refine g_istore (nx := 141) F dX12_again_139 rfl (by decide) ?_
      try dsimp only [List.set]
      exact L3 hA f 0 τ 1 (by omega) hag (bI_t (fun k hk => absurd hk (Nat.not_lt_zero k))).symm
    | succ q ih =>
      intro y τ z6 z7 z8 hq hag
      have hle := (hnn y).1
      have henv : EnvK τ D T s e := EnvK_congr2 (fun a b1 b2 b3 b4 b5 => (hag.1 a (by omega) b3 b4 b5 (by omega) (by omega)).trans (by
        show (match cm2 a with | some b => fa_fill (cpM cm1 σ f b) (cpM cm1 σ f a) e | none => cpM cm1 σ f a) = _
        unfold cm2
        rw [if_neg (by omega), if_neg (by omega)]
        show (match cm1 a with | some b => fa_fill (σ b) (σ a) f | none => σ a) = _
        unfold cm1
        rw [if_neg (by omega)])) (hag.2.1 1 (by decide) (by decide) (by decide) (by decide)) (hag.2.1 2 (by decide) (by decide) (by decide) (by decide)) he
      have hth : thK τ (nn y) f (nI y) := ⟨hle, hf40, (hag.2.1 3 (by decide) (by decide) (by decide) (by decide)).trans hf, hag.2.2.2.2.2.1, fun j hj => by
        rw [hag.1 155 (by decide) (by decide) (by decide) (by decide) (by decide) (by decide), show (cpM cm2 (cpM cm1 σ f) e) 155 j = nI (cm j) from (hcm j hj).1, fa_le, nI_toInt (by have := (hcm j hj).2; omega), nI_toInt (by omega), ← (hnn y).2 j hj]
        omega⟩
      have hok := okP_coE (coE_rst (n := nn y) (P := pvK τ) (Q := (agS T D s nn sd y).1) (fun i hi j hj => by
        have := hag.2.2.1 i hi j (by omega)
        match i, hi with
        | 0, _ => exact this
        | 1, _ => exact this
        | 2, _ => exact this) hag.2.2.2.1) (okP_rst ((agS_ok (T := T) hD hs8 hsd (nn_mo hnn) y).1 (nn y)))
      refine g_aload_n (nx := 109) 0 F dX12_again_108 rfl rfl rfl ?_
      refine g_getV (nx := 112) (nI y) F dX12_again_109 rfl fl_RX12_183 rfl (by decide) (by decide) rfl rfl (hag.2.2.2.2.2.1) ?_
      refine g_iload_n (nx := 113) 2 F dX12_again_112 rfl rfl rfl ?_
      refine g_icmp_ge (nx := 116) 132 F dX12_again_113 rfl (by decide) (fun c_113 => absurd c_113 (by exact nI_ge (by omega) (by omega))) (fun c_113 => ?_)
      refine g_aload_n (nx := 117) 0 F dX12_again_116 rfl rfl rfl ?_
      refine g_callV (nx := 120) 0 5 [] F dX12_again_117 rfl ml_RX12_349 mo_X12_passes rfl rfl rfl rfl (Nat.le_of_ble_eq_true rfl) (by first | decide | omega) (k_passes T D (pvK τ) τ (nn y) f s y e (agS T D s nn sd y).2.1 (nI y) τ henv (KR_self τ) hth hag.2.2.2.2.1 hD (by rw [← zu8]; exact hok) (by omega) (fun j hj => hokf j (by omega))) (fun r_117 τ_117 q_117 => ?_)
      obtain ⟨τ1, hk1, et_117, rfl⟩ := q_117
      subst et_117
      dsimp only [Option.toList, List.append, List.cons_append, List.nil_append]
      rw [nI_1 y]
      have hstep := agR_step hD hs8 hsd hnn hag hk1
      have hpd := hk1.2.2.2.2.1.trans hstep.2
      refine g_iload (nx := 122) F dX12_again_120 rfl rfl ?_
      refine g_aload_n (nx := 123) 0 F dX12_again_122 rfl rfl rfl ?_
      refine g_getV (nx := 126) ((monP T D s (nn y) (agS T D s nn sd y).2.1 (nI y) (nn y) 0 (rst (agS T D s nn sd y).1)) 8 2) F dX12_again_123 rfl fl_RX12_334 rfl (by decide) (by decide) rfl rfl (hpd) ?_
      refine g_iadd (nx := 127) F dX12_again_126 rfl ?_
      refine g_istore (nx := 129) F dX12_again_127 rfl (by decide) ?_
      try dsimp only [List.set]
      refine g_goto 108 F dX12_again_129 (by decide) ?_
      exact ih (y + 1) _ _ _ _ (by omega) hstep.1
  have L1 : isin w 2 → ∀ (q k : Nat) (z6 z7 z8 : Value), k + q = f → Gs X 34 [.ref 145, .int w, .int (nI Y), .int (σ 145 5), .int (σ 145 6), .int (nI k), z6, z7, z8] [] (rsS (cpM cm2 (cpM cm1 σ f) e) k) := by
    intro hA q
    induction q with
    | zero =>
      intro k z6 z7 z8 hk
      have hk : k = f := hk
      subst hk
      refine g_iload (nx := 36) F dX12_again_34 rfl rfl ?_
      refine g_aload_n (nx := 37) 0 F dX12_again_36 rfl rfl rfl ?_
      refine g_getV (nx := 40) (nI k) F dX12_again_37 rfl fl_RX12_171 rfl (by decide) (by decide) rfl rfl (hf) ?_
      refine g_icmp_ge (nx := 43) 87 F dX12_again_40 rfl (by decide) (fun c_40 => ?_) (fun c_40 => absurd c_40 (by exact fun zq => zq (nI_le (Nat.le_refl k) (by omega))))
      refine g_aload_n (nx := 88) 0 F dX12_again_87 rfl rfl rfl ?_
      refine g_iconst (nx := 89) (0) F dX12_again_88 rfl rfl ?_
      refine g_putI (nx := 92) F dX12_again_89 rfl fl_RX12_183 fi_11_0 rfl (by decide) (by decide) rfl rfl ?_
      refine g_aload_n (nx := 93) 0 F dX12_again_92 rfl rfl rfl ?_
      refine g_aload_n (nx := 94) 0 F dX12_again_93 rfl rfl rfl ?_
      refine g_getV (nx := 97) (sd) F dX12_again_94 rfl fl_RX12_158 rfl (by decide) (by decide) rfl rfl (hsd0) ?_
      refine g_putI (nx := 100) F dX12_again_97 rfl fl_RX12_162 fi_11_5 rfl (by decide) (by decide) rfl rfl ?_
      refine g_aload_n (nx := 101) 0 F dX12_again_100 rfl rfl rfl ?_
      refine g_iconst (nx := 102) (0) F dX12_again_101 rfl rfl ?_
      refine g_putI (nx := 105) F dX12_again_102 rfl fl_RX12_308 fi_11_6 rfl (by decide) (by decide) rfl rfl ?_
      refine g_iconst (nx := 106) (0) F dX12_again_105 rfl rfl ?_
      refine g_istore (nx := 108) F dX12_again_106 rfl (by decide) ?_
      try dsimp only [List.set]
      refine L2 hA Y 0 _ _ _ _ (by omega) ⟨fun a b1 b2 b3 b4 b5 b6 => ?_, fun q b1 b2 b3 b4 => ?_, fun i hi j hj => ?_, rfl, rfl, rfl, fun i hi j hj => ?_, fun q hq => ⟨rfl, rfl⟩⟩
      · rw [zu_ne _ b1, zu_ne _ b1, zu_ne _ b1]
        show (if a = 156 ∨ a = 158 ∨ a = 159 then _ else if a = 157 then _ else _) = _
        rw [if_neg (by omega), if_neg (by omega)]
      · rw [zu_off _ _ _ _ _ b3, zu_off _ _ _ _ _ b2, zu_off _ _ _ _ _ b1]
        rfl
      · match i, hi with
        | 0, _ => exact fa_fill_in (f := fun _ => 0) (g := σ 156) hj
        | 1, _ => exact (fa_fill_in hj).trans (congrFun hD6 j)
        | 2, _ => exact fa_fill_in (f := fun _ => 0) (g := σ 158) hj
      · match i, hi with
        | 0, _ => exact fa_fill_out (f := fun _ => 0) (g := σ 156) hj
        | 1, _ => exact fa_fill_out hj
        | 2, _ => exact fa_fill_out (f := fun _ => 0) (g := σ 158) hj
        | 3, _ => exact fa_fill_out (f := fun _ => 0) (g := σ 159) hj
        | 4, _ => rfl
        | 5, _ => rfl
    | succ q ih =>
      intro k z6 z7 z8 hk
      refine g_iload (nx := 36) F dX12_again_34 rfl rfl ?_
      refine g_aload_n (nx := 37) 0 F dX12_again_36 rfl rfl rfl ?_
      refine g_getV (nx := 40) (nI f) F dX12_again_37 rfl fl_RX12_171 rfl (by decide) (by decide) rfl rfl (hf) ?_
      refine g_icmp_ge (nx := 43) 87 F dX12_again_40 rfl (by decide) (fun c_40 => absurd c_40 (by exact nI_ge (by omega) (by omega))) (fun c_40 => ?_)
      refine g_aload_n (nx := 44) 0 F dX12_again_43 rfl rfl rfl ?_
      refine g_getR (nx := 47) F dX12_again_44 rfl fl_RX12_40 rfl (by decide) (by decide) rfl ?_
      refine g_iload (nx := 49) F dX12_again_47 rfl rfl ?_
      refine g_iconst (nx := 50) (0) F dX12_again_49 rfl rfl ?_
      refine g_iastN (nx := 51) (k) F dX12_again_50 rfl rfl (by omega) ?_
      refine g_aload_n (nx := 52) 0 F dX12_again_51 rfl rfl rfl ?_
      refine g_getR (nx := 55) F dX12_again_52 rfl fl_RX12_43 rfl (by decide) (by decide) rfl ?_
      refine g_iload (nx := 57) F dX12_again_55 rfl rfl ?_
      refine g_aload_n (nx := 58) 0 F dX12_again_57 rfl rfl rfl ?_
      refine g_getR (nx := 61) F dX12_again_58 rfl fl_RX12_31 rfl (by decide) (by decide) rfl ?_
      refine g_iload (nx := 63) F dX12_again_61 rfl rfl ?_
      refine g_ialdN (nx := 64) (k) ((cpM cm2 (cpM cm1 σ f) e) 153 k) F dX12_again_63 rfl rfl (by omega) (rfl) ?_
      refine g_iastN (nx := 65) (k) F dX12_again_64 rfl rfl (by omega) ?_
      refine g_aload_n (nx := 66) 0 F dX12_again_65 rfl rfl rfl ?_
      refine g_getR (nx := 69) F dX12_again_66 rfl fl_RX12_46 rfl (by decide) (by decide) rfl ?_
      refine g_iload (nx := 71) F dX12_again_69 rfl rfl ?_
      refine g_iconst (nx := 72) (0) F dX12_again_71 rfl rfl ?_
      refine g_iastN (nx := 73) (k) F dX12_again_72 rfl rfl (by omega) ?_
      refine g_aload_n (nx := 74) 0 F dX12_again_73 rfl rfl rfl ?_
      refine g_getR (nx := 77) F dX12_again_74 rfl fl_RX12_49 rfl (by decide) (by decide) rfl ?_
      refine g_iload (nx := 79) F dX12_again_77 rfl rfl ?_
      refine g_iconst (nx := 80) (0) F dX12_again_79 rfl rfl ?_
      refine g_iastN (nx := 81) (k) F dX12_again_80 rfl rfl (by omega) ?_
      refine g_iinc (nx := 84) (1) F dX12_again_81 rfl rfl (by decide) (by decide) ?_
      try dsimp only [List.set]
      refine g_goto 34 F dX12_again_84 (by decide) ?_
      rw [nI_1]
      refine g_st _ (rsS_step (cpM cm2 (cpM cm1 σ f) e) k) ?_
      exact ih (k + 1) _ _ _ (by omega)
  by_cases hA : isin w 2
  · refine g_iload_n (nx := 1) 1 F dX12_again_0 rfl rfl rfl ?_
    refine g_iconst (nx := 2) (0) F dX12_again_1 rfl rfl ?_
    refine g_iconst (nx := 3) (2) F dX12_again_2 rfl rfl ?_
    refine g_callS (nx := 6) 3 0 [.int w, .int 0, .int 2] F dX12_again_3 rfl ml_RX12_174 mo_X12_in rfl rfl (Nat.le_of_ble_eq_true rfl) (by first | decide | omega) (k_in w 0 2 _) (fun r_3 τ_3 q_3 => ?_)
    obtain ⟨rfl, et_3⟩ := q_3
    have et_3 := et_3.symm
    subst et_3
    dsimp only [Option.toList, List.append, List.cons_append, List.nil_append]
    refine g_if_ne (nx := 9) 11 F dX12_again_6 rfl (by decide) (fun c_6 => ?_) (fun c_6 => absurd c_6 (by exact bI_n0.mpr (by unfold isin at hA; simp only [Int32.reduceToInt, Int32.toInt_zero]; omega)))
    refine g_aload_n (nx := 12) 0 F dX12_again_11 rfl rfl rfl ?_
    refine g_callV (nx := 15) 0 0 [] F dX12_again_12 rfl ml_RX12_413 mo_X12_laysBy rfl rfl rfl rfl (Nat.le_of_ble_eq_true rfl) (by first | decide | omega) (k_laysBy f e _ hf hf40 he.2.2.2.2.2.2.2.2.1 he10) (fun r_12 τ_12 q_12 => ?_)
    obtain ⟨rfl, et_12⟩ := q_12
    have et_12 := et_12.symm
    subst et_12
    dsimp only [Option.toList, List.append, List.cons_append, List.nil_append]
    refine g_aload_n (nx := 16) 0 F dX12_again_15 rfl rfl rfl ?_
    refine g_getV (nx := 19) (nI Y) F dX12_again_16 rfl fl_RX12_183 rfl (by decide) (by decide) rfl rfl (hY) ?_
    refine g_istore_n (nx := 20) 2 F dX12_again_19 rfl rfl (by decide) ?_
    try dsimp only [List.set]
    refine g_aload_n (nx := 21) 0 F dX12_again_20 rfl rfl rfl ?_
    refine g_getV (nx := 24) (σ 145 5) F dX12_again_21 rfl fl_RX12_162 rfl (by decide) (by decide) rfl rfl (rfl) ?_
    refine g_istore_n (nx := 25) 3 F dX12_again_24 rfl rfl (by decide) ?_
    try dsimp only [List.set]
    refine g_aload_n (nx := 26) 0 F dX12_again_25 rfl rfl rfl ?_
    refine g_getV (nx := 29) (σ 145 6) F dX12_again_26 rfl fl_RX12_308 rfl (by decide) (by decide) rfl rfl (rfl) ?_
    refine g_istore (nx := 31) F dX12_again_29 rfl (by decide) ?_
    try dsimp only [List.set]
    refine g_iconst (nx := 32) (0) F dX12_again_31 rfl rfl ?_
    refine g_istore (nx := 34) F dX12_again_32 rfl (by decide) ?_
    try dsimp only [List.set]
    have := L1 hA f 0 (.long 0) (.long 0) (.long 0) (by omega)
    rw [rsS_0] at this
    exact this
  · refine g_iload_n (nx := 1) 1 F dX12_again_0 rfl rfl rfl ?_
    refine g_iconst (nx := 2) (0) F dX12_again_1 rfl rfl ?_
    refine g_iconst (nx := 3) (2) F dX12_again_2 rfl rfl ?_
    refine g_callS (nx := 6) 3 0 [.int w, .int 0, .int 2] F dX12_again_3 rfl ml_RX12_174 mo_X12_in rfl rfl (Nat.le_of_ble_eq_true rfl) (by first | decide | omega) (k_in w 0 2 _) (fun r_3 τ_3 q_3 => ?_)
    obtain ⟨rfl, et_3⟩ := q_3
    have et_3 := et_3.symm
    subst et_3
    dsimp only [Option.toList, List.append, List.cons_append, List.nil_append]
    refine g_if_ne (nx := 9) 11 F dX12_again_6 rfl (by decide) (fun c_6 => absurd c_6 (by exact fun zq => zq (bI_f (by unfold isin at hA; simp only [Int32.reduceToInt, Int32.toInt_zero]; omega)))) (fun c_6 => ?_)
    refine g_iconst (nx := 10) (-1) F dX12_again_9 rfl rfl ?_
    refine g_iret F E dX12_again_10 ?_
    exact Or.inr ⟨hA, rfl, rfl⟩
