def kzS (σ : zSt) (z : CS) : Prop := match z with
  | (m, h, sf, cf, en) => m ≤ 12 ∧ σ 145 31 = nI m ∧ ∀ j, j < m → σ 165 j = nI (h j) ∧ σ 166 j = nI (sf j) ∧ σ 167 j = nI (cf j) ∧ σ 168 j = nI (en j)
def frZ (σ τ : zSt) : Prop := (∀ a, a ≠ 145 → (a < 163 ∨ 168 < a) → τ a = σ a) ∧ ∀ k, (k < 25 ∨ 32 < k ∨ k = 26) → τ 145 k = σ 145 k
theorem frZ.rf (σ : zSt) : frZ σ σ := ⟨fun _ _ _ => rfl, fun _ _ => rfl⟩
theorem frZ.tr {σ τ ρ : zSt} (h : frZ σ τ) (g : frZ τ ρ) : frZ σ ρ := ⟨fun a a1 a2 => (g.1 a a1 a2).trans (h.1 a a1 a2), fun k hk => (g.2 k hk).trans (h.2 k hk)⟩
theorem frK.Z {σ τ : zSt} (h : frK σ τ) : frZ σ τ := ⟨fun a a1 a2 => h.1 a a1 (by omega) (by omega), fun k hk => h.2 k (by omega)⟩
theorem frZ.u (σ : zSt) (k : Nat) (x : Int32) (h : 25 ≤ k ∧ k ≤ 32 ∧ k ≠ 26) : frZ σ (zu σ 145 k x) := ⟨fun a a1 _ => zu_ne _ a1 _ _, fun j hj => zu_off _ _ _ _ _ (by omega)⟩
theorem frZ.w (σ : zSt) (a k : Nat) (x : Int32) (h : 163 ≤ a ∧ a ≤ 168) : frZ σ (zu σ a k x) := ⟨fun b _ b2 => zu_ne _ (by omega) _ _, fun j _ => by rw [zu_ne _ (by omega)]⟩
theorem kcS_x {σ τ : zSt} {n p o l p' o' : Nat} {c op vl : Nat → Nat} {w : TK} (H : kcS σ c n (p, o, l, op, vl) w) (h162 : τ 162 = σ 162) (h163 : τ 163 = σ 163) (h164 : τ 164 = σ 164) (h25 : τ 145 25 = nI p') (h26 : τ 145 26 = σ 145 26) (h28 : τ 145 28 = nI o') (h29 : τ 145 29 = σ 145 29) (h30 : τ 145 30 = nI w.length) (hp : p' ≤ n) (ho : o' ≤ 6) : kcS τ c n (p', o', l, op, vl) w := by
  obtain ⟨⟨a1, a2, a3⟩, ⟨b1, b2, b3, b4, b5⟩, ⟨c1, c2⟩, d1, d2, d3, d4⟩ := H
  refine ⟨⟨a1, a2, fun q hq => by rw [h162]; exact a3 q hq⟩, ⟨h25, h26.trans b2, h28, h29.trans b4, h30⟩, ⟨fun k hk => by rw [h163]; exact c1 k hk, by rw [h164]; exact c2⟩, hp, ho, d3, d4⟩
theorem kzS_fin {σ τ : zSt} {m a b d e : Nat} {h sf cf en : Nat → Nat} (H : kzS σ (m, h, sf, cf, en)) (hm : m < 12) (h2 : τ 165 = upd (σ 165) m (nI a)) (h3 : τ 166 = upd (σ 166) m (nI b)) (h4 : τ 167 = upd (σ 167) m (nI d)) (h5 : τ 168 = upd (σ 168) m (nI e)) (h6 : τ 145 31 = nI (m + 1)) : kzS τ (m + 1, updN h m a, updN sf m b, updN cf m d, updN en m e) := by
  refine ⟨hm, h6, fun j hj => ?_⟩
  rw [h2, h3, h4, h5]
  unfold upd updN
  by_cases ez : j = m
  · simp only [if_pos ez]
    refine ⟨?_, ?_, ?_, ?_⟩ <;> first | rfl | trivial
  · simp only [if_neg ez]
    exact H.2.2 j (by omega)
def kQ (n : Nat) (c : Nat → Nat) (hd : Nat → Bool) (σ : zSt) (p l : Nat) (op vl : Nat → Nat) (z : CS) (r : Option Value) (τ : zSt) : Prop :=
  (r = some (.int 1) ∧ ∃ (p2 l2 : Nat) (op2 vl2 : Nat → Nat) (z2 : CS), kcS τ c n (p2, 0, l2, op2, vl2) [] ∧ kzS τ z2 ∧ frZ σ τ ∧ p < p2 ∧ l2 + p ≤ l + p2 ∧ ∀ K, Rn c hd ((13, 0) :: K, (p, 0, l, op, vl), z) (K, (p2, 0, l2, op2, vl2), z2)) ∨
  (r = some (.int 0) ∧ ∃ (f : Nat) (e : ES) (z2 : CS), kcF τ f e.1 ∧ frZ σ τ ∧ ∀ K, Rn c hd ((13, 0) :: K, (p, 0, l, op, vl), z) ([(99, f)], e, z2))
set_option maxHeartbeats 4000000 in
set_option maxRecDepth 100000 in
theorem k_readsClause0 (n p l m : Nat) (c op vl h sf cf en : Nat → Nat) (σ : zSt) (H : kcS σ c n (p, 0, l, op, vl) []) (HZ : kzS σ (m, h, sf, cf, en)) (hlp : l ≤ p) : Con mX12_readsClause 7 [.ref 145, .int 0] σ (kQ n c hdW2 σ p l op vl (m, h, sf, cf, en)) := by
  refine Con.of (lv := [.ref 145, .int 0, .long 0]) mk_X12_readsClause rfl (Nat.le_of_ble_eq_true rfl) rfl (fun X F E => ?_)
  have hor := inC_or H.1.1 p
  have hpn0 := H.2.2.2.1
  have hn160 := H.1.2.1
  have hm12 := HZ.1
  by_cases hA : hdW2 (c p) = true
  · have T : Gs X 52 [.ref 145, .int 0, .int (sgI (c p))] [] σ := by
      have hlt : c p < 256 := by
        have := of_decide_eq_true hA
        omega
      have hpn := inC_lt (p := p) H.1.1 (by omega)
      have hsg : sgI (c p) = nI (c p) := if_neg (by omega)
      by_cases hM : m = 12
      · refine g_aload_n (nx := 53) 0 F dX12_readsClause_52 rfl rfl rfl ?_
        refine g_getV (nx := 56) (nI m) F dX12_readsClause_53 rfl fl_RX12_272 rfl (by decide) (by decide) rfl rfl (HZ.2.1) ?_
        refine g_bipush (nx := 58) (12) F dX12_readsClause_56 rfl (by decide) ?_
        refine g_icmp_ne (nx := 61) 71 F dX12_readsClause_58 rfl (by decide) (fun c_58 => absurd c_58 (by exact fun zq => zq (by rw [hM]; rfl))) (fun c_58 => ?_)
        refine g_aload_n (nx := 62) 0 F dX12_readsClause_61 rfl rfl rfl ?_
        refine g_iconst (nx := 63) (4) F dX12_readsClause_62 rfl rfl ?_
        refine g_aload_n (nx := 64) 0 F dX12_readsClause_63 rfl rfl rfl ?_
        refine g_getV (nx := 67) (nI p) F dX12_readsClause_64 rfl fl_RX12_193 rfl (by decide) (by decide) rfl rfl (H.2.1.1) ?_
        refine g_callV (nx := 70) 2 0 [.int 4, .int (nI p)] F dX12_readsClause_67 rfl ml_RX12_206 mo_X12_wrong rfl rfl rfl rfl (Nat.le_of_ble_eq_true rfl) (by first | decide | omega) (k_wrong n _ _ _ 4 c _ _ 4 _ H rfl) (fun r_67 τ_67 q_67 => ?_)
        obtain ⟨rfl, hF_67, hf_67⟩ := q_67
        dsimp only [Option.toList, List.append, List.cons_append, List.nil_append]
        refine g_zret F E dX12_readsClause_70 (by first | rfl | assumption) ?_
        exact Or.inr ⟨rfl, 4, (p, 0, l, op, vl), (m, h, sf, cf, en), hF_67, hf_67.Z, fun K => s13_many hA hM⟩
      · refine g_aload_n (nx := 53) 0 F dX12_readsClause_52 rfl rfl rfl ?_
        refine g_getV (nx := 56) (nI m) F dX12_readsClause_53 rfl fl_RX12_272 rfl (by decide) (by decide) rfl rfl (HZ.2.1) ?_
        refine g_bipush (nx := 58) (12) F dX12_readsClause_56 rfl (by decide) ?_
        refine g_icmp_ne (nx := 61) 71 F dX12_readsClause_58 rfl (by decide) (fun c_58 => ?_) (fun c_58 => absurd c_58 (by exact fun zq => hM ((nI_eq (b := 12) (by omega) (by omega)).mp zq)))
        refine g_aload_n (nx := 72) 0 F dX12_readsClause_71 rfl rfl rfl ?_
        refine g_getR (nx := 75) F dX12_readsClause_72 rfl fl_RX12_68 rfl (by decide) (by decide) rfl ?_
        refine g_aload_n (nx := 76) 0 F dX12_readsClause_75 rfl rfl rfl ?_
        refine g_getV (nx := 79) (nI m) F dX12_readsClause_76 rfl fl_RX12_272 rfl (by decide) (by decide) rfl rfl (HZ.2.1) ?_
        refine g_iload_n (nx := 80) 2 F dX12_readsClause_79 rfl rfl rfl ?_
        rw [hsg]
        refine g_iastN (nx := 81) (m) F dX12_readsClause_80 rfl rfl (by omega) ?_
        refine g_aload_n (nx := 82) 0 F dX12_readsClause_81 rfl rfl rfl ?_
        refine g_aload_n (nx := 83) 0 F dX12_readsClause_82 rfl rfl rfl ?_
        refine g_getV (nx := 86) (nI p) F dX12_readsClause_83 rfl fl_RX12_193 rfl (by decide) (by decide) rfl rfl (H.2.1.1) ?_
        refine g_iconst (nx := 87) (1) F dX12_readsClause_86 rfl rfl ?_
        refine g_iadd (nx := 88) F dX12_readsClause_87 rfl ?_
        rw [nI_1]
        refine g_putI (nx := 91) F dX12_readsClause_88 rfl fl_RX12_193 fi_11_25 rfl (by decide) (by decide) rfl rfl ?_
        refine g_aload_n (nx := 92) 0 F dX12_readsClause_91 rfl rfl rfl ?_
        refine g_getR (nx := 95) F dX12_readsClause_92 rfl fl_RX12_71 rfl (by decide) (by decide) rfl ?_
        refine g_aload_n (nx := 96) 0 F dX12_readsClause_95 rfl rfl rfl ?_
        refine g_getV (nx := 99) (nI m) F dX12_readsClause_96 rfl fl_RX12_272 rfl (by decide) (by decide) rfl rfl (HZ.2.1) ?_
        refine g_aload_n (nx := 100) 0 F dX12_readsClause_99 rfl rfl rfl ?_
        refine g_getV (nx := 103) (nI l) F dX12_readsClause_100 rfl fl_RX12_217 rfl (by decide) (by decide) rfl rfl (H.2.1.2.2.2.1) ?_
        refine g_iastN (nx := 104) (m) F dX12_readsClause_103 rfl rfl (by omega) ?_
        refine g_aload_n (nx := 105) 0 F dX12_readsClause_104 rfl rfl rfl ?_
        refine g_iconst (nx := 106) (0) F dX12_readsClause_105 rfl rfl ?_
        refine g_putI (nx := 109) F dX12_readsClause_106 rfl fl_RX12_221 fi_11_28 rfl (by decide) (by decide) rfl rfl ?_
        refine g_aload_n (nx := 110) 0 F dX12_readsClause_109 rfl rfl rfl ?_
        refine g_iconst (nx := 111) (0) F dX12_readsClause_110 rfl rfl ?_
        refine g_putI (nx := 114) F dX12_readsClause_111 rfl fl_RX12_224 fi_11_30 rfl (by decide) (by decide) rfl rfl ?_
        obtain ⟨σ1, e_σ1⟩ : ∃ s, s = zu (zu (zu (zu (zu σ 165 m (nI (c p))) 145 25 (nI (p + 1))) 166 m (nI l)) 145 28 0) 145 30 0 := ⟨_, rfl⟩
        rw [← e_σ1]
        have H1 : kcS σ1 c n (p + 1, 0, l, op, vl) [] := kcS_x H (by rw [e_σ1]; rfl) (by rw [e_σ1]; rfl) (by rw [e_σ1]; rfl) (by rw [e_σ1]; rfl) (by rw [e_σ1]; rfl) (by rw [e_σ1]; rfl) (by rw [e_σ1]; rfl) (by rw [e_σ1]; rfl) hpn (by decide)
        have hm1 : σ1 145 31 = nI m := by rw [e_σ1]; exact HZ.2.1
        have hz1 : frZ σ σ1 := by
          rw [e_σ1]
          exact ((((frZ.w _ 165 m _ (by decide)).tr (frZ.u _ 25 _ (by decide))).tr (frZ.w _ 166 m _ (by decide))).tr (frZ.u _ 28 _ (by decide))).tr (frZ.u _ 30 _ (by decide))
        refine g_aload_n (nx := 115) 0 F dX12_readsClause_114 rfl rfl rfl ?_
        refine g_callV (nx := 118) 0 4 [] F dX12_readsClause_115 rfl ml_RX12_257 mo_X12_readsSum rfl rfl rfl rfl (Nat.le_of_ble_eq_true rfl) (by first | decide | omega) (k_readsSum n (p + 1) 0 l c op vl hdW2 [] _ H1 (fun x hx => absurd hx (by intro z; cases z)) (by omega) (Nat.zero_le _)) (fun r_115 τ_115 q_115 => ?_)
        skip
        rcases q_115 with ⟨rfl, p2, l2, op2, vl2, hS2, hf2, hp2, hl2, hR2⟩ | ⟨rfl, f2, e2, hF2, hf2, hR2⟩
        · dsimp only [Option.toList, List.append, List.cons_append, List.nil_append]
          refine g_if_ne (nx := 121) 123 F dX12_readsClause_118 rfl (by decide) (fun c_118 => ?_) (fun c_118 => absurd c_118 (by decide))
          refine g_aload_n (nx := 124) 0 F dX12_readsClause_123 rfl rfl rfl ?_
          refine g_getR (nx := 127) F dX12_readsClause_124 rfl fl_RX12_74 rfl (by decide) (by decide) rfl ?_
          refine g_aload_n (nx := 128) 0 F dX12_readsClause_127 rfl rfl rfl ?_
          refine g_getV (nx := 131) (nI m) F dX12_readsClause_128 rfl fl_RX12_272 rfl (by decide) (by decide) rfl rfl ((hf2.2 31 (by omega)).trans hm1) ?_
          refine g_aload_n (nx := 132) 0 F dX12_readsClause_131 rfl rfl rfl ?_
          refine g_getV (nx := 135) (nI l2) F dX12_readsClause_132 rfl fl_RX12_217 rfl (by decide) (by decide) rfl rfl (hS2.2.1.2.2.2.1) ?_
          refine g_iastN (nx := 136) (m) F dX12_readsClause_135 rfl rfl (by omega) ?_
          obtain ⟨σ2, e_σ2⟩ : ∃ s, s = zu τ_115 167 m (nI l2) := ⟨_, rfl⟩
          rw [← e_σ2]
          have H2 : kcS σ2 c n (p2, 0, l2, op2, vl2) [] := kcS_x hS2 (by rw [e_σ2]; rfl) (by rw [e_σ2]; rfl) (by rw [e_σ2]; rfl) (by rw [e_σ2]; exact hS2.2.1.1) (by rw [e_σ2]; rfl) (by rw [e_σ2]; exact hS2.2.1.2.2.1) (by rw [e_σ2]; rfl) (by rw [e_σ2]; exact hS2.2.1.2.2.2.2) hS2.2.2.2.1 (by decide)
          have hm2 : σ2 145 31 = nI m := by rw [e_σ2]; exact (hf2.2 31 (by omega)).trans hm1
          have hz2 : frZ σ σ2 := (hz1.tr hf2.Z).tr (by rw [e_σ2]; exact frZ.w _ 167 m _ (by decide))
          refine g_aload_n (nx := 137) 0 F dX12_readsClause_136 rfl rfl rfl ?_
          refine g_callV (nx := 140) 0 6 [] F dX12_readsClause_137 rfl ml_RX12_275 mo_X12_readsCondition rfl rfl rfl rfl (Nat.le_of_ble_eq_true rfl) (by first | decide | omega) (k_readsCondition n p2 l2 c op2 vl2 hdW2 _ H2 (by omega)) (fun r_137 τ_137 q_137 => ?_)
          skip
          rcases q_137 with ⟨rfl, hB, p3, l3, op3, vl3, hS3, hf3, hp3, hl3, hR3⟩ | ⟨rfl, hB, hF3, hf3⟩ | ⟨rfl, hB, f3, e3, hF3, hf3, hR3⟩
          · dsimp only [Option.toList, List.append, List.cons_append, List.nil_append]
            have hm3 : τ_137 145 31 = nI m := by rw [hf3.2 31 (by omega)]; exact hm2
            refine g_if_ne (nx := 143) 145 F dX12_readsClause_140 rfl (by decide) (fun c_140 => ?_) (fun c_140 => absurd c_140 (by decide))
            refine g_aload_n (nx := 146) 0 F dX12_readsClause_145 rfl rfl rfl ?_
            refine g_getR (nx := 149) F dX12_readsClause_146 rfl fl_RX12_77 rfl (by decide) (by decide) rfl ?_
            refine g_aload_n (nx := 150) 0 F dX12_readsClause_149 rfl rfl rfl ?_
            refine g_getV (nx := 153) (nI m) F dX12_readsClause_150 rfl fl_RX12_272 rfl (by decide) (by decide) rfl rfl (hm3) ?_
            refine g_aload_n (nx := 154) 0 F dX12_readsClause_153 rfl rfl rfl ?_
            refine g_getV (nx := 157) (nI l3) F dX12_readsClause_154 rfl fl_RX12_217 rfl (by decide) (by decide) rfl rfl (hS3.2.1.2.2.2.1) ?_
            refine g_iastN (nx := 158) (m) F dX12_readsClause_157 rfl rfl (by omega) ?_
            refine g_aload_n (nx := 159) 0 F dX12_readsClause_158 rfl rfl rfl ?_
            refine g_aload_n (nx := 160) 0 F dX12_readsClause_159 rfl rfl rfl ?_
            refine g_getV (nx := 163) (nI m) F dX12_readsClause_160 rfl fl_RX12_272 rfl (by decide) (by decide) rfl rfl (hm3) ?_
            refine g_iconst (nx := 164) (1) F dX12_readsClause_163 rfl rfl ?_
            refine g_iadd (nx := 165) F dX12_readsClause_164 rfl ?_
            rw [nI_1]
            refine g_putI (nx := 168) F dX12_readsClause_165 rfl fl_RX12_272 fi_11_31 rfl (by decide) (by decide) rfl rfl ?_
            obtain ⟨σ4, e_σ4⟩ : ∃ s, s = zu (zu τ_137 168 m (nI l3)) 145 31 (nI (m + 1)) := ⟨_, rfl⟩
            rw [← e_σ4]
            
            refine g_iconst (nx := 169) (1) F dX12_readsClause_168 rfl rfl ?_
            refine g_zret F E dX12_readsClause_169 (by first | rfl | assumption) ?_
            have e165 : σ4 165 = upd (σ 165) m (nI (c p)) := by rw [e_σ4, zu_ne _ (by decide), zu_ne _ (by decide), hf3.1 165 (by decide) (by decide) (by decide), e_σ2, zu_ne _ (by decide), hf2.1 165 (by decide) (by decide) (by decide), e_σ1, zu_ne _ (by decide), zu_ne _ (by decide), zu_ne _ (by decide), zu_ne _ (by decide), zu_at]
            have e166 : σ4 166 = upd (σ 166) m (nI l) := by rw [e_σ4, zu_ne _ (by decide), zu_ne _ (by decide), hf3.1 166 (by decide) (by decide) (by decide), e_σ2, zu_ne _ (by decide), hf2.1 166 (by decide) (by decide) (by decide), e_σ1, zu_ne _ (by decide), zu_ne _ (by decide), zu_at, zu_ne _ (by decide), zu_ne _ (by decide)]
            have e167 : σ4 167 = upd (σ 167) m (nI l2) := by rw [e_σ4, zu_ne _ (by decide), zu_ne _ (by decide), hf3.1 167 (by decide) (by decide) (by decide), e_σ2, zu_at, hf2.1 167 (by decide) (by decide) (by decide), e_σ1, zu_ne _ (by decide), zu_ne _ (by decide), zu_ne _ (by decide), zu_ne _ (by decide), zu_ne _ (by decide)]
            have e168 : σ4 168 = upd (σ 168) m (nI l3) := by rw [e_σ4, zu_ne _ (by decide), zu_at, hf3.1 168 (by decide) (by decide) (by decide), e_σ2, zu_ne _ (by decide), hf2.1 168 (by decide) (by decide) (by decide), e_σ1, zu_ne _ (by decide), zu_ne _ (by decide), zu_ne _ (by decide), zu_ne _ (by decide), zu_ne _ (by decide)]
            refine Or.inl ⟨rfl, p3, l3, op3, vl3, (m + 1, updN h m (c p), updN sf m l, updN cf m l2, updN en m l3), kcS_x hS3 (by rw [e_σ4]; rfl) (by rw [e_σ4]; rfl) (by rw [e_σ4]; rfl) (by rw [e_σ4]; exact hS3.2.1.1) (by rw [e_σ4]; rfl) (by rw [e_σ4]; exact hS3.2.1.2.2.1) (by rw [e_σ4]; rfl) (by rw [e_σ4]; exact hS3.2.1.2.2.2.2) hS3.2.2.2.1 (by decide), kzS_fin HZ (by omega) e165 e166 e167 e168 (by rw [e_σ4]; rfl), ?_, by omega, by omega, fun K => ((((s13_go hA hM).tr (hR2 _ _)).tr (s14_go hB)).tr (hR3 _ _)).tr s15⟩
            rw [e_σ4]
            exact ((hz2.tr hf3.Z).tr (frZ.w _ 168 m _ (by decide))).tr (frZ.u _ 31 _ (by decide))
          · dsimp only [Option.toList, List.append, List.cons_append, List.nil_append]
            refine g_if_ne (nx := 143) 145 F dX12_readsClause_140 rfl (by decide) (fun c_140 => absurd c_140 (by exact fun zq => zq rfl)) (fun c_140 => ?_)
            refine g_iconst (nx := 144) (0) F dX12_readsClause_143 rfl rfl ?_
            refine g_zret F E dX12_readsClause_144 (by first | rfl | assumption) ?_
            exact Or.inr ⟨rfl, 1, (p2, 0, l2, op2, vl2), (m, updN h m (c p), updN sf m l, updN cf m l2, en), hF3, hz2.tr hf3.Z, fun K => ((s13_go hA hM).tr (hR2 _ _)).tr (s14_bad hB)⟩
          · dsimp only [Option.toList, List.append, List.cons_append, List.nil_append]
            refine g_if_ne (nx := 143) 145 F dX12_readsClause_140 rfl (by decide) (fun c_140 => absurd c_140 (by exact fun zq => zq rfl)) (fun c_140 => ?_)
            refine g_iconst (nx := 144) (0) F dX12_readsClause_143 rfl rfl ?_
            refine g_zret F E dX12_readsClause_144 (by first | rfl | assumption) ?_
            exact Or.inr ⟨rfl, f3, e3, (m, updN h m (c p), updN sf m l, updN cf m l2, en), hF3, hz2.tr hf3.Z, fun K => (((s13_go hA hM).tr (hR2 _ _)).tr (s14_go hB)).tr (hR3 _ _)⟩
        · dsimp only [Option.toList, List.append, List.cons_append, List.nil_append]
          refine g_if_ne (nx := 121) 123 F dX12_readsClause_118 rfl (by decide) (fun c_118 => absurd c_118 (by exact fun zq => zq rfl)) (fun c_118 => ?_)
          refine g_iconst (nx := 122) (0) F dX12_readsClause_121 rfl rfl ?_
          refine g_zret F E dX12_readsClause_122 (by first | rfl | assumption) ?_
          exact Or.inr ⟨rfl, f2, e2, (m, updN h m (c p), updN sf m l, cf, en), hF2, hz1.tr hf2.Z, fun K => (s13_go hA hM).tr (hR2 _ _)⟩
    refine g_aload_n (nx := 1) 0 F dX12_readsClause_0 rfl rfl rfl ?_
    refine g_callV (nx := 4) 0 0 [] F dX12_readsClause_1 rfl ml_RX12_199 mo_X12_here rfl rfl rfl rfl (Nat.le_of_ble_eq_true rfl) (by first | decide | omega) (k_here n _ _ _ c _ _ _ _ H) (fun r_1 τ_1 q_1 => ?_)
    obtain ⟨rfl, et_1⟩ := q_1
    have et_1 := et_1.symm
    subst et_1
    dsimp only [Option.toList, List.append, List.cons_append, List.nil_append]
    refine g_istore_n (nx := 5) 2 F dX12_readsClause_4 rfl rfl (by decide) ?_
    try dsimp only [List.set]
    refine g_iload_n (nx := 6) 1 F dX12_readsClause_5 rfl rfl rfl ?_
    refine g_if_eq (nx := 9) 30 F dX12_readsClause_6 rfl (by decide) (fun c_6 => ?_) (fun c_6 => absurd c_6 (by exact fun zq => zq rfl))
    refine g_iload_n (nx := 31) 2 F dX12_readsClause_30 rfl rfl rfl ?_
    refine g_bipush (nx := 33) (97) F dX12_readsClause_31 rfl (by decide) ?_
    refine g_icmp_eq (nx := 36) 52 F dX12_readsClause_33 rfl (by decide) (fun c_33 => ?_) (fun c_33 => ?_)
    · exact T
    · refine g_iload_n (nx := 37) 2 F dX12_readsClause_36 rfl rfl rfl ?_
      refine g_bipush (nx := 39) (119) F dX12_readsClause_37 rfl (by decide) ?_
      refine g_icmp_eq (nx := 42) 52 F dX12_readsClause_39 rfl (by decide) (fun c_39 => ?_) (fun c_39 => ?_)
      · exact T
      · exfalso
        rcases of_decide_eq_true hA with z0 | z1
        · exact c_33 ((sgI_eq hor (by decide)).mpr z0)
        · exact c_39 ((sgI_eq hor (by decide)).mpr z1)
  · have B : Gs X 42 [.ref 145, .int 0, .int (sgI (c p))] [] σ := by
      refine g_aload_n (nx := 43) 0 F dX12_readsClause_42 rfl rfl rfl ?_
      refine g_iconst (nx := 44) (1) F dX12_readsClause_43 rfl rfl ?_
      refine g_aload_n (nx := 45) 0 F dX12_readsClause_44 rfl rfl rfl ?_
      refine g_getV (nx := 48) (nI p) F dX12_readsClause_45 rfl fl_RX12_193 rfl (by decide) (by decide) rfl rfl (H.2.1.1) ?_
      refine g_callV (nx := 51) 2 0 [.int 1, .int (nI p)] F dX12_readsClause_48 rfl ml_RX12_206 mo_X12_wrong rfl rfl rfl rfl (Nat.le_of_ble_eq_true rfl) (by first | decide | omega) (k_wrong n _ _ _ 1 c _ _ 1 _ H rfl) (fun r_48 τ_48 q_48 => ?_)
      obtain ⟨rfl, hF_48, hf_48⟩ := q_48
      dsimp only [Option.toList, List.append, List.cons_append, List.nil_append]
      refine g_zret F E dX12_readsClause_51 (by first | rfl | assumption) ?_
      exact Or.inr ⟨rfl, 1, (p, 0, l, op, vl), (m, h, sf, cf, en), hF_48, hf_48.Z, fun K => s13_bad hA⟩
    refine g_aload_n (nx := 1) 0 F dX12_readsClause_0 rfl rfl rfl ?_
    refine g_callV (nx := 4) 0 0 [] F dX12_readsClause_1 rfl ml_RX12_199 mo_X12_here rfl rfl rfl rfl (Nat.le_of_ble_eq_true rfl) (by first | decide | omega) (k_here n _ _ _ c _ _ _ _ H) (fun r_1 τ_1 q_1 => ?_)
    obtain ⟨rfl, et_1⟩ := q_1
    have et_1 := et_1.symm
    subst et_1
    dsimp only [Option.toList, List.append, List.cons_append, List.nil_append]
    refine g_istore_n (nx := 5) 2 F dX12_readsClause_4 rfl rfl (by decide) ?_
    try dsimp only [List.set]
    refine g_iload_n (nx := 6) 1 F dX12_readsClause_5 rfl rfl rfl ?_
    refine g_if_eq (nx := 9) 30 F dX12_readsClause_6 rfl (by decide) (fun c_6 => ?_) (fun c_6 => absurd c_6 (by exact fun zq => zq rfl))
    refine g_iload_n (nx := 31) 2 F dX12_readsClause_30 rfl rfl rfl ?_
    refine g_bipush (nx := 33) (97) F dX12_readsClause_31 rfl (by decide) ?_
    refine g_icmp_eq (nx := 36) 52 F dX12_readsClause_33 rfl (by decide) (fun c_33 => ?_) (fun c_33 => ?_)
    · exfalso
      first
        | exact hA (decide_eq_true (by have z := (sgI_eq (y := 97) hor (by decide)).mp c_33; exact Or.inl z))
        | exact hA (decide_eq_true (by have z := (sgI_eq (y := 119) hor (by decide)).mp c_39; exact Or.inr (z)))
    · refine g_iload_n (nx := 37) 2 F dX12_readsClause_36 rfl rfl rfl ?_
      refine g_bipush (nx := 39) (119) F dX12_readsClause_37 rfl (by decide) ?_
      refine g_icmp_eq (nx := 42) 52 F dX12_readsClause_39 rfl (by decide) (fun c_39 => ?_) (fun c_39 => ?_)
      · exfalso
        first
          | exact hA (decide_eq_true (by have z := (sgI_eq (y := 97) hor (by decide)).mp c_33; exact Or.inl z))
          | exact hA (decide_eq_true (by have z := (sgI_eq (y := 119) hor (by decide)).mp c_39; exact Or.inr (z)))
      · exact B
set_option maxHeartbeats 4000000 in
set_option maxRecDepth 100000 in
theorem k_readsClause1 (n p l m : Nat) (c op vl h sf cf en : Nat → Nat) (σ : zSt) (H : kcS σ c n (p, 0, l, op, vl) []) (HZ : kzS σ (m, h, sf, cf, en)) (hlp : l ≤ p) : Con mX12_readsClause 7 [.ref 145, .int 1] σ (kQ n c hdL σ p l op vl (m, h, sf, cf, en)) := by
  refine Con.of (lv := [.ref 145, .int 1, .long 0]) mk_X12_readsClause rfl (Nat.le_of_ble_eq_true rfl) rfl (fun X F E => ?_)
  have hor := inC_or H.1.1 p
  have hpn0 := H.2.2.2.1
  have hn160 := H.1.2.1
  have hm12 := HZ.1
  by_cases hA : hdL (c p) = true
  · have T : Gs X 52 [.ref 145, .int 1, .int (sgI (c p))] [] σ := by
      have hlt : c p < 256 := by
        have := of_decide_eq_true hA
        omega
      have hpn := inC_lt (p := p) H.1.1 (by omega)
      have hsg : sgI (c p) = nI (c p) := if_neg (by omega)
      by_cases hM : m = 12
      · refine g_aload_n (nx := 53) 0 F dX12_readsClause_52 rfl rfl rfl ?_
        refine g_getV (nx := 56) (nI m) F dX12_readsClause_53 rfl fl_RX12_272 rfl (by decide) (by decide) rfl rfl (HZ.2.1) ?_
        refine g_bipush (nx := 58) (12) F dX12_readsClause_56 rfl (by decide) ?_
        refine g_icmp_ne (nx := 61) 71 F dX12_readsClause_58 rfl (by decide) (fun c_58 => absurd c_58 (by exact fun zq => zq (by rw [hM]; rfl))) (fun c_58 => ?_)
        refine g_aload_n (nx := 62) 0 F dX12_readsClause_61 rfl rfl rfl ?_
        refine g_iconst (nx := 63) (4) F dX12_readsClause_62 rfl rfl ?_
        refine g_aload_n (nx := 64) 0 F dX12_readsClause_63 rfl rfl rfl ?_
        refine g_getV (nx := 67) (nI p) F dX12_readsClause_64 rfl fl_RX12_193 rfl (by decide) (by decide) rfl rfl (H.2.1.1) ?_
        refine g_callV (nx := 70) 2 0 [.int 4, .int (nI p)] F dX12_readsClause_67 rfl ml_RX12_206 mo_X12_wrong rfl rfl rfl rfl (Nat.le_of_ble_eq_true rfl) (by first | decide | omega) (k_wrong n _ _ _ 4 c _ _ 4 _ H rfl) (fun r_67 τ_67 q_67 => ?_)
        obtain ⟨rfl, hF_67, hf_67⟩ := q_67
        dsimp only [Option.toList, List.append, List.cons_append, List.nil_append]
        refine g_zret F E dX12_readsClause_70 (by first | rfl | assumption) ?_
        exact Or.inr ⟨rfl, 4, (p, 0, l, op, vl), (m, h, sf, cf, en), hF_67, hf_67.Z, fun K => s13_many hA hM⟩
      · refine g_aload_n (nx := 53) 0 F dX12_readsClause_52 rfl rfl rfl ?_
        refine g_getV (nx := 56) (nI m) F dX12_readsClause_53 rfl fl_RX12_272 rfl (by decide) (by decide) rfl rfl (HZ.2.1) ?_
        refine g_bipush (nx := 58) (12) F dX12_readsClause_56 rfl (by decide) ?_
        refine g_icmp_ne (nx := 61) 71 F dX12_readsClause_58 rfl (by decide) (fun c_58 => ?_) (fun c_58 => absurd c_58 (by exact fun zq => hM ((nI_eq (b := 12) (by omega) (by omega)).mp zq)))
        refine g_aload_n (nx := 72) 0 F dX12_readsClause_71 rfl rfl rfl ?_
        refine g_getR (nx := 75) F dX12_readsClause_72 rfl fl_RX12_68 rfl (by decide) (by decide) rfl ?_
        refine g_aload_n (nx := 76) 0 F dX12_readsClause_75 rfl rfl rfl ?_
        refine g_getV (nx := 79) (nI m) F dX12_readsClause_76 rfl fl_RX12_272 rfl (by decide) (by decide) rfl rfl (HZ.2.1) ?_
        refine g_iload_n (nx := 80) 2 F dX12_readsClause_79 rfl rfl rfl ?_
        rw [hsg]
        refine g_iastN (nx := 81) (m) F dX12_readsClause_80 rfl rfl (by omega) ?_
        refine g_aload_n (nx := 82) 0 F dX12_readsClause_81 rfl rfl rfl ?_
        refine g_aload_n (nx := 83) 0 F dX12_readsClause_82 rfl rfl rfl ?_
        refine g_getV (nx := 86) (nI p) F dX12_readsClause_83 rfl fl_RX12_193 rfl (by decide) (by decide) rfl rfl (H.2.1.1) ?_
        refine g_iconst (nx := 87) (1) F dX12_readsClause_86 rfl rfl ?_
        refine g_iadd (nx := 88) F dX12_readsClause_87 rfl ?_
        rw [nI_1]
        refine g_putI (nx := 91) F dX12_readsClause_88 rfl fl_RX12_193 fi_11_25 rfl (by decide) (by decide) rfl rfl ?_
        refine g_aload_n (nx := 92) 0 F dX12_readsClause_91 rfl rfl rfl ?_
        refine g_getR (nx := 95) F dX12_readsClause_92 rfl fl_RX12_71 rfl (by decide) (by decide) rfl ?_
        refine g_aload_n (nx := 96) 0 F dX12_readsClause_95 rfl rfl rfl ?_
        refine g_getV (nx := 99) (nI m) F dX12_readsClause_96 rfl fl_RX12_272 rfl (by decide) (by decide) rfl rfl (HZ.2.1) ?_
        refine g_aload_n (nx := 100) 0 F dX12_readsClause_99 rfl rfl rfl ?_
        refine g_getV (nx := 103) (nI l) F dX12_readsClause_100 rfl fl_RX12_217 rfl (by decide) (by decide) rfl rfl (H.2.1.2.2.2.1) ?_
        refine g_iastN (nx := 104) (m) F dX12_readsClause_103 rfl rfl (by omega) ?_
        refine g_aload_n (nx := 105) 0 F dX12_readsClause_104 rfl rfl rfl ?_
        refine g_iconst (nx := 106) (0) F dX12_readsClause_105 rfl rfl ?_
        refine g_putI (nx := 109) F dX12_readsClause_106 rfl fl_RX12_221 fi_11_28 rfl (by decide) (by decide) rfl rfl ?_
        refine g_aload_n (nx := 110) 0 F dX12_readsClause_109 rfl rfl rfl ?_
        refine g_iconst (nx := 111) (0) F dX12_readsClause_110 rfl rfl ?_
        refine g_putI (nx := 114) F dX12_readsClause_111 rfl fl_RX12_224 fi_11_30 rfl (by decide) (by decide) rfl rfl ?_
        obtain ⟨σ1, e_σ1⟩ : ∃ s, s = zu (zu (zu (zu (zu σ 165 m (nI (c p))) 145 25 (nI (p + 1))) 166 m (nI l)) 145 28 0) 145 30 0 := ⟨_, rfl⟩
        rw [← e_σ1]
        have H1 : kcS σ1 c n (p + 1, 0, l, op, vl) [] := kcS_x H (by rw [e_σ1]; rfl) (by rw [e_σ1]; rfl) (by rw [e_σ1]; rfl) (by rw [e_σ1]; rfl) (by rw [e_σ1]; rfl) (by rw [e_σ1]; rfl) (by rw [e_σ1]; rfl) (by rw [e_σ1]; rfl) hpn (by decide)
        have hm1 : σ1 145 31 = nI m := by rw [e_σ1]; exact HZ.2.1
        have hz1 : frZ σ σ1 := by
          rw [e_σ1]
          exact ((((frZ.w _ 165 m _ (by decide)).tr (frZ.u _ 25 _ (by decide))).tr (frZ.w _ 166 m _ (by decide))).tr (frZ.u _ 28 _ (by decide))).tr (frZ.u _ 30 _ (by decide))
        refine g_aload_n (nx := 115) 0 F dX12_readsClause_114 rfl rfl rfl ?_
        refine g_callV (nx := 118) 0 4 [] F dX12_readsClause_115 rfl ml_RX12_257 mo_X12_readsSum rfl rfl rfl rfl (Nat.le_of_ble_eq_true rfl) (by first | decide | omega) (k_readsSum n (p + 1) 0 l c op vl hdL [] _ H1 (fun x hx => absurd hx (by intro z; cases z)) (by omega) (Nat.zero_le _)) (fun r_115 τ_115 q_115 => ?_)
        skip
        rcases q_115 with ⟨rfl, p2, l2, op2, vl2, hS2, hf2, hp2, hl2, hR2⟩ | ⟨rfl, f2, e2, hF2, hf2, hR2⟩
        · dsimp only [Option.toList, List.append, List.cons_append, List.nil_append]
          refine g_if_ne (nx := 121) 123 F dX12_readsClause_118 rfl (by decide) (fun c_118 => ?_) (fun c_118 => absurd c_118 (by decide))
          refine g_aload_n (nx := 124) 0 F dX12_readsClause_123 rfl rfl rfl ?_
          refine g_getR (nx := 127) F dX12_readsClause_124 rfl fl_RX12_74 rfl (by decide) (by decide) rfl ?_
          refine g_aload_n (nx := 128) 0 F dX12_readsClause_127 rfl rfl rfl ?_
          refine g_getV (nx := 131) (nI m) F dX12_readsClause_128 rfl fl_RX12_272 rfl (by decide) (by decide) rfl rfl ((hf2.2 31 (by omega)).trans hm1) ?_
          refine g_aload_n (nx := 132) 0 F dX12_readsClause_131 rfl rfl rfl ?_
          refine g_getV (nx := 135) (nI l2) F dX12_readsClause_132 rfl fl_RX12_217 rfl (by decide) (by decide) rfl rfl (hS2.2.1.2.2.2.1) ?_
          refine g_iastN (nx := 136) (m) F dX12_readsClause_135 rfl rfl (by omega) ?_
          obtain ⟨σ2, e_σ2⟩ : ∃ s, s = zu τ_115 167 m (nI l2) := ⟨_, rfl⟩
          rw [← e_σ2]
          have H2 : kcS σ2 c n (p2, 0, l2, op2, vl2) [] := kcS_x hS2 (by rw [e_σ2]; rfl) (by rw [e_σ2]; rfl) (by rw [e_σ2]; rfl) (by rw [e_σ2]; exact hS2.2.1.1) (by rw [e_σ2]; rfl) (by rw [e_σ2]; exact hS2.2.1.2.2.1) (by rw [e_σ2]; rfl) (by rw [e_σ2]; exact hS2.2.1.2.2.2.2) hS2.2.2.2.1 (by decide)
          have hm2 : σ2 145 31 = nI m := by rw [e_σ2]; exact (hf2.2 31 (by omega)).trans hm1
          have hz2 : frZ σ σ2 := (hz1.tr hf2.Z).tr (by rw [e_σ2]; exact frZ.w _ 167 m _ (by decide))
          refine g_aload_n (nx := 137) 0 F dX12_readsClause_136 rfl rfl rfl ?_
          refine g_callV (nx := 140) 0 6 [] F dX12_readsClause_137 rfl ml_RX12_275 mo_X12_readsCondition rfl rfl rfl rfl (Nat.le_of_ble_eq_true rfl) (by first | decide | omega) (k_readsCondition n p2 l2 c op2 vl2 hdL _ H2 (by omega)) (fun r_137 τ_137 q_137 => ?_)
          skip
          rcases q_137 with ⟨rfl, hB, p3, l3, op3, vl3, hS3, hf3, hp3, hl3, hR3⟩ | ⟨rfl, hB, hF3, hf3⟩ | ⟨rfl, hB, f3, e3, hF3, hf3, hR3⟩
          · dsimp only [Option.toList, List.append, List.cons_append, List.nil_append]
            have hm3 : τ_137 145 31 = nI m := by rw [hf3.2 31 (by omega)]; exact hm2
            refine g_if_ne (nx := 143) 145 F dX12_readsClause_140 rfl (by decide) (fun c_140 => ?_) (fun c_140 => absurd c_140 (by decide))
            refine g_aload_n (nx := 146) 0 F dX12_readsClause_145 rfl rfl rfl ?_
            refine g_getR (nx := 149) F dX12_readsClause_146 rfl fl_RX12_77 rfl (by decide) (by decide) rfl ?_
            refine g_aload_n (nx := 150) 0 F dX12_readsClause_149 rfl rfl rfl ?_
            refine g_getV (nx := 153) (nI m) F dX12_readsClause_150 rfl fl_RX12_272 rfl (by decide) (by decide) rfl rfl (hm3) ?_
            refine g_aload_n (nx := 154) 0 F dX12_readsClause_153 rfl rfl rfl ?_
            refine g_getV (nx := 157) (nI l3) F dX12_readsClause_154 rfl fl_RX12_217 rfl (by decide) (by decide) rfl rfl (hS3.2.1.2.2.2.1) ?_
            refine g_iastN (nx := 158) (m) F dX12_readsClause_157 rfl rfl (by omega) ?_
            refine g_aload_n (nx := 159) 0 F dX12_readsClause_158 rfl rfl rfl ?_
            refine g_aload_n (nx := 160) 0 F dX12_readsClause_159 rfl rfl rfl ?_
            refine g_getV (nx := 163) (nI m) F dX12_readsClause_160 rfl fl_RX12_272 rfl (by decide) (by decide) rfl rfl (hm3) ?_
            refine g_iconst (nx := 164) (1) F dX12_readsClause_163 rfl rfl ?_
            refine g_iadd (nx := 165) F dX12_readsClause_164 rfl ?_
            rw [nI_1]
            refine g_putI (nx := 168) F dX12_readsClause_165 rfl fl_RX12_272 fi_11_31 rfl (by decide) (by decide) rfl rfl ?_
            obtain ⟨σ4, e_σ4⟩ : ∃ s, s = zu (zu τ_137 168 m (nI l3)) 145 31 (nI (m + 1)) := ⟨_, rfl⟩
            rw [← e_σ4]
            
            refine g_iconst (nx := 169) (1) F dX12_readsClause_168 rfl rfl ?_
            refine g_zret F E dX12_readsClause_169 (by first | rfl | assumption) ?_
            have e165 : σ4 165 = upd (σ 165) m (nI (c p)) := by rw [e_σ4, zu_ne _ (by decide), zu_ne _ (by decide), hf3.1 165 (by decide) (by decide) (by decide), e_σ2, zu_ne _ (by decide), hf2.1 165 (by decide) (by decide) (by decide), e_σ1, zu_ne _ (by decide), zu_ne _ (by decide), zu_ne _ (by decide), zu_ne _ (by decide), zu_at]
            have e166 : σ4 166 = upd (σ 166) m (nI l) := by rw [e_σ4, zu_ne _ (by decide), zu_ne _ (by decide), hf3.1 166 (by decide) (by decide) (by decide), e_σ2, zu_ne _ (by decide), hf2.1 166 (by decide) (by decide) (by decide), e_σ1, zu_ne _ (by decide), zu_ne _ (by decide), zu_at, zu_ne _ (by decide), zu_ne _ (by decide)]
            have e167 : σ4 167 = upd (σ 167) m (nI l2) := by rw [e_σ4, zu_ne _ (by decide), zu_ne _ (by decide), hf3.1 167 (by decide) (by decide) (by decide), e_σ2, zu_at, hf2.1 167 (by decide) (by decide) (by decide), e_σ1, zu_ne _ (by decide), zu_ne _ (by decide), zu_ne _ (by decide), zu_ne _ (by decide), zu_ne _ (by decide)]
            have e168 : σ4 168 = upd (σ 168) m (nI l3) := by rw [e_σ4, zu_ne _ (by decide), zu_at, hf3.1 168 (by decide) (by decide) (by decide), e_σ2, zu_ne _ (by decide), hf2.1 168 (by decide) (by decide) (by decide), e_σ1, zu_ne _ (by decide), zu_ne _ (by decide), zu_ne _ (by decide), zu_ne _ (by decide), zu_ne _ (by decide)]
            refine Or.inl ⟨rfl, p3, l3, op3, vl3, (m + 1, updN h m (c p), updN sf m l, updN cf m l2, updN en m l3), kcS_x hS3 (by rw [e_σ4]; rfl) (by rw [e_σ4]; rfl) (by rw [e_σ4]; rfl) (by rw [e_σ4]; exact hS3.2.1.1) (by rw [e_σ4]; rfl) (by rw [e_σ4]; exact hS3.2.1.2.2.1) (by rw [e_σ4]; rfl) (by rw [e_σ4]; exact hS3.2.1.2.2.2.2) hS3.2.2.2.1 (by decide), kzS_fin HZ (by omega) e165 e166 e167 e168 (by rw [e_σ4]; rfl), ?_, by omega, by omega, fun K => ((((s13_go hA hM).tr (hR2 _ _)).tr (s14_go hB)).tr (hR3 _ _)).tr s15⟩
            rw [e_σ4]
            exact ((hz2.tr hf3.Z).tr (frZ.w _ 168 m _ (by decide))).tr (frZ.u _ 31 _ (by decide))
          · dsimp only [Option.toList, List.append, List.cons_append, List.nil_append]
            refine g_if_ne (nx := 143) 145 F dX12_readsClause_140 rfl (by decide) (fun c_140 => absurd c_140 (by exact fun zq => zq rfl)) (fun c_140 => ?_)
            refine g_iconst (nx := 144) (0) F dX12_readsClause_143 rfl rfl ?_
            refine g_zret F E dX12_readsClause_144 (by first | rfl | assumption) ?_
            exact Or.inr ⟨rfl, 1, (p2, 0, l2, op2, vl2), (m, updN h m (c p), updN sf m l, updN cf m l2, en), hF3, hz2.tr hf3.Z, fun K => ((s13_go hA hM).tr (hR2 _ _)).tr (s14_bad hB)⟩
          · dsimp only [Option.toList, List.append, List.cons_append, List.nil_append]
            refine g_if_ne (nx := 143) 145 F dX12_readsClause_140 rfl (by decide) (fun c_140 => absurd c_140 (by exact fun zq => zq rfl)) (fun c_140 => ?_)
            refine g_iconst (nx := 144) (0) F dX12_readsClause_143 rfl rfl ?_
            refine g_zret F E dX12_readsClause_144 (by first | rfl | assumption) ?_
            exact Or.inr ⟨rfl, f3, e3, (m, updN h m (c p), updN sf m l, updN cf m l2, en), hF3, hz2.tr hf3.Z, fun K => (((s13_go hA hM).tr (hR2 _ _)).tr (s14_go hB)).tr (hR3 _ _)⟩
        · dsimp only [Option.toList, List.append, List.cons_append, List.nil_append]
          refine g_if_ne (nx := 121) 123 F dX12_readsClause_118 rfl (by decide) (fun c_118 => absurd c_118 (by exact fun zq => zq rfl)) (fun c_118 => ?_)
          refine g_iconst (nx := 122) (0) F dX12_readsClause_121 rfl rfl ?_
          refine g_zret F E dX12_readsClause_122 (by first | rfl | assumption) ?_
          exact Or.inr ⟨rfl, f2, e2, (m, updN h m (c p), updN sf m l, cf, en), hF2, hz1.tr hf2.Z, fun K => (s13_go hA hM).tr (hR2 _ _)⟩
    refine g_aload_n (nx := 1) 0 F dX12_readsClause_0 rfl rfl rfl ?_
    refine g_callV (nx := 4) 0 0 [] F dX12_readsClause_1 rfl ml_RX12_199 mo_X12_here rfl rfl rfl rfl (Nat.le_of_ble_eq_true rfl) (by first | decide | omega) (k_here n _ _ _ c _ _ _ _ H) (fun r_1 τ_1 q_1 => ?_)
    obtain ⟨rfl, et_1⟩ := q_1
    have et_1 := et_1.symm
    subst et_1
    dsimp only [Option.toList, List.append, List.cons_append, List.nil_append]
    refine g_istore_n (nx := 5) 2 F dX12_readsClause_4 rfl rfl (by decide) ?_
    try dsimp only [List.set]
    refine g_iload_n (nx := 6) 1 F dX12_readsClause_5 rfl rfl rfl ?_
    refine g_if_eq (nx := 9) 30 F dX12_readsClause_6 rfl (by decide) (fun c_6 => absurd c_6 (by decide)) (fun c_6 => ?_)
    refine g_iload_n (nx := 10) 2 F dX12_readsClause_9 rfl rfl rfl ?_
    refine g_bipush (nx := 12) (103) F dX12_readsClause_10 rfl (by decide) ?_
    refine g_icmp_eq (nx := 15) 52 F dX12_readsClause_12 rfl (by decide) (fun c_12 => ?_) (fun c_12 => ?_)
    · exact T
    · refine g_iload_n (nx := 16) 2 F dX12_readsClause_15 rfl rfl rfl ?_
      refine g_bipush (nx := 18) (107) F dX12_readsClause_16 rfl (by decide) ?_
      refine g_icmp_eq (nx := 21) 52 F dX12_readsClause_18 rfl (by decide) (fun c_18 => ?_) (fun c_18 => ?_)
      · exact T
      · refine g_iload_n (nx := 22) 2 F dX12_readsClause_21 rfl rfl rfl ?_
        refine g_bipush (nx := 24) (98) F dX12_readsClause_22 rfl (by decide) ?_
        refine g_icmp_eq (nx := 27) 52 F dX12_readsClause_24 rfl (by decide) (fun c_24 => ?_) (fun c_24 => ?_)
        · exact T
        · refine g_goto 42 F dX12_readsClause_27 (by decide) ?_
          exfalso
          rcases of_decide_eq_true hA with z0 | z1 | z2
          · exact c_12 ((sgI_eq hor (by decide)).mpr z0)
          · exact c_18 ((sgI_eq hor (by decide)).mpr z1)
          · exact c_24 ((sgI_eq hor (by decide)).mpr z2)
  · have B : Gs X 42 [.ref 145, .int 1, .int (sgI (c p))] [] σ := by
      refine g_aload_n (nx := 43) 0 F dX12_readsClause_42 rfl rfl rfl ?_
      refine g_iconst (nx := 44) (1) F dX12_readsClause_43 rfl rfl ?_
      refine g_aload_n (nx := 45) 0 F dX12_readsClause_44 rfl rfl rfl ?_
      refine g_getV (nx := 48) (nI p) F dX12_readsClause_45 rfl fl_RX12_193 rfl (by decide) (by decide) rfl rfl (H.2.1.1) ?_
      refine g_callV (nx := 51) 2 0 [.int 1, .int (nI p)] F dX12_readsClause_48 rfl ml_RX12_206 mo_X12_wrong rfl rfl rfl rfl (Nat.le_of_ble_eq_true rfl) (by first | decide | omega) (k_wrong n _ _ _ 1 c _ _ 1 _ H rfl) (fun r_48 τ_48 q_48 => ?_)
      obtain ⟨rfl, hF_48, hf_48⟩ := q_48
      dsimp only [Option.toList, List.append, List.cons_append, List.nil_append]
      refine g_zret F E dX12_readsClause_51 (by first | rfl | assumption) ?_
      exact Or.inr ⟨rfl, 1, (p, 0, l, op, vl), (m, h, sf, cf, en), hF_48, hf_48.Z, fun K => s13_bad hA⟩
    refine g_aload_n (nx := 1) 0 F dX12_readsClause_0 rfl rfl rfl ?_
    refine g_callV (nx := 4) 0 0 [] F dX12_readsClause_1 rfl ml_RX12_199 mo_X12_here rfl rfl rfl rfl (Nat.le_of_ble_eq_true rfl) (by first | decide | omega) (k_here n _ _ _ c _ _ _ _ H) (fun r_1 τ_1 q_1 => ?_)
    obtain ⟨rfl, et_1⟩ := q_1
    have et_1 := et_1.symm
    subst et_1
    dsimp only [Option.toList, List.append, List.cons_append, List.nil_append]
    refine g_istore_n (nx := 5) 2 F dX12_readsClause_4 rfl rfl (by decide) ?_
    try dsimp only [List.set]
    refine g_iload_n (nx := 6) 1 F dX12_readsClause_5 rfl rfl rfl ?_
    refine g_if_eq (nx := 9) 30 F dX12_readsClause_6 rfl (by decide) (fun c_6 => absurd c_6 (by decide)) (fun c_6 => ?_)
    refine g_iload_n (nx := 10) 2 F dX12_readsClause_9 rfl rfl rfl ?_
    refine g_bipush (nx := 12) (103) F dX12_readsClause_10 rfl (by decide) ?_
    refine g_icmp_eq (nx := 15) 52 F dX12_readsClause_12 rfl (by decide) (fun c_12 => ?_) (fun c_12 => ?_)
    · exfalso
      first
        | exact hA (decide_eq_true (by have z := (sgI_eq (y := 103) hor (by decide)).mp c_12; exact Or.inl z))
        | exact hA (decide_eq_true (by have z := (sgI_eq (y := 107) hor (by decide)).mp c_18; exact Or.inr (Or.inl z)))
        | exact hA (decide_eq_true (by have z := (sgI_eq (y := 98) hor (by decide)).mp c_24; exact Or.inr (Or.inr (z))))
    · refine g_iload_n (nx := 16) 2 F dX12_readsClause_15 rfl rfl rfl ?_
      refine g_bipush (nx := 18) (107) F dX12_readsClause_16 rfl (by decide) ?_
      refine g_icmp_eq (nx := 21) 52 F dX12_readsClause_18 rfl (by decide) (fun c_18 => ?_) (fun c_18 => ?_)
      · exfalso
        first
          | exact hA (decide_eq_true (by have z := (sgI_eq (y := 103) hor (by decide)).mp c_12; exact Or.inl z))
          | exact hA (decide_eq_true (by have z := (sgI_eq (y := 107) hor (by decide)).mp c_18; exact Or.inr (Or.inl z)))
          | exact hA (decide_eq_true (by have z := (sgI_eq (y := 98) hor (by decide)).mp c_24; exact Or.inr (Or.inr (z))))
      · refine g_iload_n (nx := 22) 2 F dX12_readsClause_21 rfl rfl rfl ?_
        refine g_bipush (nx := 24) (98) F dX12_readsClause_22 rfl (by decide) ?_
        refine g_icmp_eq (nx := 27) 52 F dX12_readsClause_24 rfl (by decide) (fun c_24 => ?_) (fun c_24 => ?_)
        · exfalso
          first
            | exact hA (decide_eq_true (by have z := (sgI_eq (y := 103) hor (by decide)).mp c_12; exact Or.inl z))
            | exact hA (decide_eq_true (by have z := (sgI_eq (y := 107) hor (by decide)).mp c_18; exact Or.inr (Or.inl z)))
            | exact hA (decide_eq_true (by have z := (sgI_eq (y := 98) hor (by decide)).mp c_24; exact Or.inr (Or.inr (z))))
        · refine g_goto 42 F dX12_readsClause_27 (by decide) ?_
          exact B
def kpF (g dst : Nat → Int32) (b k : Nat) : Nat → Int32 := fun j => if b ≤ j ∧ j < b + k then g (j - b) else dst j
theorem kpF_0 (g dst : Nat → Int32) (b : Nat) : kpF g dst b 0 = dst := funext fun j => if_neg (by omega)
theorem kpF_s (g dst : Nat → Int32) (b k : Nat) : upd (kpF g dst b k) (b + k) (g k) = kpF g dst b (k + 1) := by
  funext j
  unfold upd kpF
  by_cases e : j = b + k
  · rw [if_pos e, if_pos (by omega)]
    exact congrArg g (by omega)
  · rw [if_neg e]
    by_cases e2 : b ≤ j ∧ j < b + k
    · rw [if_pos e2, if_pos (by omega)]
    · rw [if_neg e2, if_neg (by omega)]
theorem kpF_in {g dst : Nat → Int32} {b k j : Nat} (h : j < k) : kpF g dst b k (b + j) = g j := by
  unfold kpF
  rw [if_pos (by omega)]
  exact congrArg g (by omega)
theorem kpF_out {g dst : Nat → Int32} {b k j : Nat} (h : j < b ∨ b + k ≤ j) : kpF g dst b k j = dst j := if_neg (by omega)
def kp1 (σ : zSt) (i m k : Nat) : zSt := zs (zu σ 170 i (nI m)) 169 (kpF (σ 163) (σ 169) (180 * i) k)
def kp2 (σ : zSt) (i k : Nat) : zSt := zs (zs (zs (zs σ 171 (kpF (σ 165) (σ 171) (12 * i) k)) 172 (kpF (fun j => nI (180 * i) + σ 166 j) (σ 172) (12 * i) k)) 173 (kpF (fun j => nI (180 * i) + σ 167 j) (σ 173) (12 * i) k)) 174 (kpF (fun j => nI (180 * i) + σ 168 j) (σ 174) (12 * i) k)
theorem zs_n (σ : zSt) {a b : Nat} (f : Nat → Int32) (h : b ≠ a) : zs σ a f b = σ b := if_neg h
set_option maxHeartbeats 4000000 in
set_option maxRecDepth 100000 in
theorem k_keeps (i l m : Nat) (σ : zSt) (hi : i < 12) (hl0 : l ≤ 170) (hm0 : m ≤ 12) (h29 : σ 145 29 = nI l) (h31 : σ 145 31 = nI m) : Con mX12_keeps 0 [.ref 145, .int (nI i)] σ (fun r τ => r = none ∧ τ = kp2 (kp1 σ i m l) i m) := by
  refine Con.of (lv := [.ref 145, .int (nI i), .long 0, .long 0]) mk_X12_keeps rfl (Nat.le_of_ble_eq_true rfl) rfl (fun X F E => ?_)
  have hk2 : ∀ (q k : Nat) (τ ρ : zSt) (z3 : Value), ρ = kp1 σ i m l → m ≤ k + q → k ≤ m → τ = kp2 ρ i k → Gs X 46 [.ref 145, .int (nI i), .int (nI k), z3] [] τ := by
    intro q
    induction q with
    | zero =>
      intro k τ ρ z3 hρ hq hk' hτ
      have hk : m ≤ k := hq
      have hm : τ 145 31 = nI m := by rw [hτ, hρ]; exact h31
      refine g_iload_n (nx := 47) 2 F dX12_keeps_46 rfl rfl rfl ?_
      refine g_aload_n (nx := 48) 0 F dX12_keeps_47 rfl rfl rfl ?_
      refine g_getV (nx := 51) (nI m) F dX12_keeps_48 rfl fl_RX12_272 rfl (by decide) (by decide) rfl rfl (hm) ?_
      refine g_icmp_ge (nx := 54) 133 F dX12_keeps_51 rfl (by decide) (fun c_51 => ?_) (fun c_51 => absurd c_51 (by exact fun zq => zq (nI_le hk (by omega))))
      refine g_vret F E dX12_keeps_133 ?_
      exact ⟨rfl, by rw [hτ, hρ, show k = m by omega]⟩
    | succ q ih0 =>
      intro k τ ρ z3 hρ hq hk' hτ
      have ih : ∀ (k : Nat) (z3 : Value), m ≤ k + q → k ≤ m → Gs X 46 [.ref 145, .int (nI i), .int (nI k), z3] [] (kp2 ρ i k) := fun k z3 h1 h2 => ih0 k _ ρ z3 hρ h1 h2 rfl
      have hm : τ 145 31 = nI m := by rw [hτ, hρ]; exact h31
      rcases Nat.lt_or_ge k m with hk | hk
      · refine g_iload_n (nx := 47) 2 F dX12_keeps_46 rfl rfl rfl ?_
        refine g_aload_n (nx := 48) 0 F dX12_keeps_47 rfl rfl rfl ?_
        refine g_getV (nx := 51) (nI m) F dX12_keeps_48 rfl fl_RX12_272 rfl (by decide) (by decide) rfl rfl (hm) ?_
        refine g_icmp_ge (nx := 54) 133 F dX12_keeps_51 rfl (by decide) (fun c_51 => absurd c_51 (by exact nI_ge hk (by omega))) (fun c_51 => ?_)
        refine g_bipush (nx := 56) (12) F dX12_keeps_54 rfl (by decide) ?_
        refine g_iload_n (nx := 57) 1 F dX12_keeps_56 rfl rfl rfl ?_
        refine g_imul (nx := 58) F dX12_keeps_57 rfl ?_
        refine g_iload_n (nx := 59) 2 F dX12_keeps_58 rfl rfl rfl ?_
        refine g_iadd (nx := 60) F dX12_keeps_59 rfl ?_
        refine g_top (nI (12 * i + k)) (by rw [show (12 : Int32) = nI 12 from rfl, pk_mul, nI_add]) ?_
        refine g_istore_n (nx := 61) 3 F dX12_keeps_60 rfl rfl (by decide) ?_
        try dsimp only [List.set]
        refine g_aload_n (nx := 62) 0 F dX12_keeps_61 rfl rfl rfl ?_
        refine g_getR (nx := 65) F dX12_keeps_62 rfl fl_RX12_86 rfl (by decide) (by decide) rfl ?_
        refine g_iload_n (nx := 66) 3 F dX12_keeps_65 rfl rfl rfl ?_
        refine g_aload_n (nx := 67) 0 F dX12_keeps_66 rfl rfl rfl ?_
        refine g_getR (nx := 70) F dX12_keeps_67 rfl fl_RX12_68 rfl (by decide) (by decide) rfl ?_
        refine g_iload_n (nx := 71) 2 F dX12_keeps_70 rfl rfl rfl ?_
        refine g_ialdN (nx := 72) (k) (_) F dX12_keeps_71 rfl rfl (by omega) (rfl) ?_
        refine g_iastN (nx := 73) (12 * i + k) F dX12_keeps_72 rfl rfl (by omega) ?_
        refine g_aload_n (nx := 74) 0 F dX12_keeps_73 rfl rfl rfl ?_
        refine g_getR (nx := 77) F dX12_keeps_74 rfl fl_RX12_89 rfl (by decide) (by decide) rfl ?_
        refine g_iload_n (nx := 78) 3 F dX12_keeps_77 rfl rfl rfl ?_
        refine g_sipush (nx := 81) (180) F dX12_keeps_78 rfl (by decide) ?_
        refine g_iload_n (nx := 82) 1 F dX12_keeps_81 rfl rfl rfl ?_
        refine g_imul (nx := 83) F dX12_keeps_82 rfl ?_
        rw [show (180 : Int32) * nI i = nI (180 * i) by rw [show (180 : Int32) = nI 180 from rfl, pk_mul]]
        refine g_aload_n (nx := 84) 0 F dX12_keeps_83 rfl rfl rfl ?_
        refine g_getR (nx := 87) F dX12_keeps_84 rfl fl_RX12_71 rfl (by decide) (by decide) rfl ?_
        refine g_iload_n (nx := 88) 2 F dX12_keeps_87 rfl rfl rfl ?_
        refine g_ialdN (nx := 89) (k) (_) F dX12_keeps_88 rfl rfl (by omega) (rfl) ?_
        refine g_iadd (nx := 90) F dX12_keeps_89 rfl ?_
        refine g_iastN (nx := 91) (12 * i + k) F dX12_keeps_90 rfl rfl (by omega) ?_
        refine g_aload_n (nx := 92) 0 F dX12_keeps_91 rfl rfl rfl ?_
        refine g_getR (nx := 95) F dX12_keeps_92 rfl fl_RX12_92 rfl (by decide) (by decide) rfl ?_
        refine g_iload_n (nx := 96) 3 F dX12_keeps_95 rfl rfl rfl ?_
        refine g_sipush (nx := 99) (180) F dX12_keeps_96 rfl (by decide) ?_
        refine g_iload_n (nx := 100) 1 F dX12_keeps_99 rfl rfl rfl ?_
        refine g_imul (nx := 101) F dX12_keeps_100 rfl ?_
        rw [show (180 : Int32) * nI i = nI (180 * i) by rw [show (180 : Int32) = nI 180 from rfl, pk_mul]]
        refine g_aload_n (nx := 102) 0 F dX12_keeps_101 rfl rfl rfl ?_
        refine g_getR (nx := 105) F dX12_keeps_102 rfl fl_RX12_74 rfl (by decide) (by decide) rfl ?_
        refine g_iload_n (nx := 106) 2 F dX12_keeps_105 rfl rfl rfl ?_
        refine g_ialdN (nx := 107) (k) (_) F dX12_keeps_106 rfl rfl (by omega) (rfl) ?_
        refine g_iadd (nx := 108) F dX12_keeps_107 rfl ?_
        refine g_iastN (nx := 109) (12 * i + k) F dX12_keeps_108 rfl rfl (by omega) ?_
        refine g_aload_n (nx := 110) 0 F dX12_keeps_109 rfl rfl rfl ?_
        refine g_getR (nx := 113) F dX12_keeps_110 rfl fl_RX12_95 rfl (by decide) (by decide) rfl ?_
        refine g_iload_n (nx := 114) 3 F dX12_keeps_113 rfl rfl rfl ?_
        refine g_sipush (nx := 117) (180) F dX12_keeps_114 rfl (by decide) ?_
        refine g_iload_n (nx := 118) 1 F dX12_keeps_117 rfl rfl rfl ?_
        refine g_imul (nx := 119) F dX12_keeps_118 rfl ?_
        rw [show (180 : Int32) * nI i = nI (180 * i) by rw [show (180 : Int32) = nI 180 from rfl, pk_mul]]
        refine g_aload_n (nx := 120) 0 F dX12_keeps_119 rfl rfl rfl ?_
        refine g_getR (nx := 123) F dX12_keeps_120 rfl fl_RX12_77 rfl (by decide) (by decide) rfl ?_
        refine g_iload_n (nx := 124) 2 F dX12_keeps_123 rfl rfl rfl ?_
        refine g_ialdN (nx := 125) (k) (_) F dX12_keeps_124 rfl rfl (by omega) (rfl) ?_
        refine g_iadd (nx := 126) F dX12_keeps_125 rfl ?_
        refine g_iastN (nx := 127) (12 * i + k) F dX12_keeps_126 rfl rfl (by omega) ?_
        refine g_iinc (nx := 130) (1) F dX12_keeps_127 rfl rfl (by decide) (by decide) ?_
        try dsimp only [List.set]
        refine g_goto 46 F dX12_keeps_130 (by decide) ?_
        rw [nI_1]
        refine g_st (kp2 ρ i (k + 1)) ?_ (ih (k + 1) _ (by omega) (by omega))
        rw [hτ]
        funext b
        by_cases b1 : b = 171
        · subst b1
          exact kpF_s (ρ 165) (ρ 171) (12 * i) k
        by_cases b2 : b = 172
        · subst b2
          exact kpF_s (fun j => nI (180 * i) + ρ 166 j) (ρ 172) (12 * i) k
        by_cases b3 : b = 173
        · subst b3
          exact kpF_s (fun j => nI (180 * i) + ρ 167 j) (ρ 173) (12 * i) k
        by_cases b4 : b = 174
        · subst b4
          exact kpF_s (fun j => nI (180 * i) + ρ 168 j) (ρ 174) (12 * i) k
        rw [zu_ne _ b4, zu_ne _ b3, zu_ne _ b2, zu_ne _ b1]
        unfold kp2
        rw [zs_n _ _ b4, zs_n _ _ b3, zs_n _ _ b2, zs_n _ _ b1, zs_n _ _ b4, zs_n _ _ b3, zs_n _ _ b2, zs_n _ _ b1]
      · refine g_iload_n (nx := 47) 2 F dX12_keeps_46 rfl rfl rfl ?_
        refine g_aload_n (nx := 48) 0 F dX12_keeps_47 rfl rfl rfl ?_
        refine g_getV (nx := 51) (nI m) F dX12_keeps_48 rfl fl_RX12_272 rfl (by decide) (by decide) rfl rfl (hm) ?_
        refine g_icmp_ge (nx := 54) 133 F dX12_keeps_51 rfl (by decide) (fun c_51 => ?_) (fun c_51 => absurd c_51 (by exact fun zq => zq (nI_le hk (by omega))))
        refine g_vret F E dX12_keeps_133 ?_
        exact ⟨rfl, by rw [hτ, hρ, show k = m by omega]⟩
  have hk1 : ∀ (q k : Nat), l ≤ k + q → k ≤ l → Gs X 12 [.ref 145, .int (nI i), .int (nI k), .long 0] [] (kp1 σ i m k) := by
    intro q
    induction q with
    | zero =>
      intro k hq hk'
      have hk : l ≤ k := hq
      have hl : (kp1 σ i m k) 145 29 = nI l := h29
      refine g_iload_n (nx := 13) 2 F dX12_keeps_12 rfl rfl rfl ?_
      refine g_aload_n (nx := 14) 0 F dX12_keeps_13 rfl rfl rfl ?_
      refine g_getV (nx := 17) (nI l) F dX12_keeps_14 rfl fl_RX12_217 rfl (by decide) (by decide) rfl rfl (hl) ?_
      refine g_icmp_ge (nx := 20) 44 F dX12_keeps_17 rfl (by decide) (fun c_17 => ?_) (fun c_17 => absurd c_17 (by exact fun zq => zq (nI_le hk (by omega))))
      refine g_iconst (nx := 45) (0) F dX12_keeps_44 rfl rfl ?_
      refine g_istore_n (nx := 46) 2 F dX12_keeps_45 rfl rfl (by decide) ?_
      try dsimp only [List.set]
      refine hk2 m 0 _ (kp1 σ i m l) _ rfl (by omega) (Nat.zero_le _) ?_
      have e : k = l := by omega
      subst e
      unfold kp2
      rw [kpF_0, kpF_0, kpF_0, kpF_0]
      funext b
      unfold zs
      by_cases b4 : b = 174
      · rw [if_pos b4, b4]
      rw [if_neg b4]
      by_cases b3 : b = 173
      · rw [if_pos b3, b3]
      rw [if_neg b3]
      by_cases b2 : b = 172
      · rw [if_pos b2, b2]
      rw [if_neg b2]
      by_cases b1 : b = 171
      · rw [if_pos b1, b1]
      rw [if_neg b1]
    | succ q ih =>
      intro k hq hk'
      have hl : (kp1 σ i m k) 145 29 = nI l := h29
      rcases Nat.lt_or_ge k l with hk | hk
      · refine g_iload_n (nx := 13) 2 F dX12_keeps_12 rfl rfl rfl ?_
        refine g_aload_n (nx := 14) 0 F dX12_keeps_13 rfl rfl rfl ?_
        refine g_getV (nx := 17) (nI l) F dX12_keeps_14 rfl fl_RX12_217 rfl (by decide) (by decide) rfl rfl (hl) ?_
        refine g_icmp_ge (nx := 20) 44 F dX12_keeps_17 rfl (by decide) (fun c_17 => absurd c_17 (by exact nI_ge hk (by omega))) (fun c_17 => ?_)
        refine g_aload_n (nx := 21) 0 F dX12_keeps_20 rfl rfl rfl ?_
        refine g_getR (nx := 24) F dX12_keeps_21 rfl fl_RX12_80 rfl (by decide) (by decide) rfl ?_
        refine g_sipush (nx := 27) (180) F dX12_keeps_24 rfl (by decide) ?_
        refine g_iload_n (nx := 28) 1 F dX12_keeps_27 rfl rfl rfl ?_
        refine g_imul (nx := 29) F dX12_keeps_28 rfl ?_
        refine g_iload_n (nx := 30) 2 F dX12_keeps_29 rfl rfl rfl ?_
        refine g_iadd (nx := 31) F dX12_keeps_30 rfl ?_
        rw [show (180 : Int32) * nI i + nI k = nI (180 * i + k) by rw [show (180 : Int32) = nI 180 from rfl, pk_mul, nI_add]]
        refine g_aload_n (nx := 32) 0 F dX12_keeps_31 rfl rfl rfl ?_
        refine g_getR (nx := 35) F dX12_keeps_32 rfl fl_RX12_62 rfl (by decide) (by decide) rfl ?_
        refine g_iload_n (nx := 36) 2 F dX12_keeps_35 rfl rfl rfl ?_
        refine g_ialdN (nx := 37) (k) (_) F dX12_keeps_36 rfl rfl (by omega) (rfl) ?_
        refine g_iastN (nx := 38) (180 * i + k) F dX12_keeps_37 rfl rfl (by omega) ?_
        refine g_iinc (nx := 41) (1) F dX12_keeps_38 rfl rfl (by decide) (by decide) ?_
        try dsimp only [List.set]
        refine g_goto 12 F dX12_keeps_41 (by decide) ?_
        rw [nI_1]
        refine g_st (kp1 σ i m (k + 1)) ?_ (ih (k + 1) (by omega) (by omega))
        unfold kp1
        rw [zu_zs, zs_zs, zs_at]
        exact congrArg (zs _ 169) (kpF_s (σ 163) (σ 169) (180 * i) k)
      · refine g_iload_n (nx := 13) 2 F dX12_keeps_12 rfl rfl rfl ?_
        refine g_aload_n (nx := 14) 0 F dX12_keeps_13 rfl rfl rfl ?_
        refine g_getV (nx := 17) (nI l) F dX12_keeps_14 rfl fl_RX12_217 rfl (by decide) (by decide) rfl rfl (hl) ?_
        refine g_icmp_ge (nx := 20) 44 F dX12_keeps_17 rfl (by decide) (fun c_17 => ?_) (fun c_17 => absurd c_17 (by exact fun zq => zq (nI_le hk (by omega))))
        refine g_iconst (nx := 45) (0) F dX12_keeps_44 rfl rfl ?_
        refine g_istore_n (nx := 46) 2 F dX12_keeps_45 rfl rfl (by decide) ?_
        try dsimp only [List.set]
        refine hk2 m 0 _ (kp1 σ i m l) _ rfl (by omega) (Nat.zero_le _) ?_
        have e : k = l := by omega
        subst e
        unfold kp2
        rw [kpF_0, kpF_0, kpF_0, kpF_0]
        funext b
        unfold zs
        by_cases b4 : b = 174
        · rw [if_pos b4, b4]
        rw [if_neg b4]
        by_cases b3 : b = 173
        · rw [if_pos b3, b3]
        rw [if_neg b3]
        by_cases b2 : b = 172
        · rw [if_pos b2, b2]
        rw [if_neg b2]
        by_cases b1 : b = 171
        · rw [if_pos b1, b1]
        rw [if_neg b1]
  refine g_aload_n (nx := 1) 0 F dX12_keeps_0 rfl rfl rfl ?_
  refine g_getR (nx := 4) F dX12_keeps_1 rfl fl_RX12_83 rfl (by decide) (by decide) rfl ?_
  refine g_iload_n (nx := 5) 1 F dX12_keeps_4 rfl rfl rfl ?_
  refine g_aload_n (nx := 6) 0 F dX12_keeps_5 rfl rfl rfl ?_
  refine g_getV (nx := 9) (nI m) F dX12_keeps_6 rfl fl_RX12_272 rfl (by decide) (by decide) rfl rfl (h31) ?_
  refine g_iastN (nx := 10) (i) F dX12_keeps_9 rfl rfl (hi) ?_
  refine g_iconst (nx := 11) (0) F dX12_keeps_10 rfl rfl ?_
  refine g_istore_n (nx := 12) 2 F dX12_keeps_11 rfl rfl (by decide) ?_
  try dsimp only [List.set]
  refine g_st (kp1 σ i m 0) ?_ (hk1 l 0 (by omega) (Nat.zero_le _))
  unfold kp1
  rw [kpF_0]
  funext b
  unfold zs
  by_cases b4 : b = 169
  · rw [if_pos b4, b4]
    rfl
  · rw [if_neg b4]
