/-! GO-BETWEENS: one narrowing, as both reckon it -/
theorem bit_ok : ∀ s, s < 1024 → ∀ i, i < 10 → ((nI s >>> (nI i &&& 31)) &&& 1) = nI (s / 2 ^ i % 2) := by decide +kernel
theorem or_bI {a b : Prop} [Decidable a] [Decidable b] : bI a ||| bI b = bI (a ∨ b) := by
  by_cases h1 : a <;> by_cases h2 : b
  · rw [bI_t h1, bI_t h2, bI_t (Or.inl h1)]; rfl
  · rw [bI_t h1, bI_f h2, bI_t (Or.inl h1)]; rfl
  · rw [bI_f h1, bI_t h2, bI_t (Or.inr h2)]; rfl
  · rw [bI_f h1, bI_f h2, bI_f (by rintro (h | h); exact h1 h; exact h2 h)]; rfl
def smL (s : Nat) (f : Nat → Int32) : Nat → Int32
  | 0 => 0
  | q + 1 => if s / 2 ^ q % 2 = 1 then smL s f q + f q else smL s f q
def smE (s : Nat) (f : Nat → Int32) (i : Nat) : Nat → Int32
  | 0 => 0
  | q + 1 => if q ≠ i ∧ s / 2 ^ q % 2 = 1 then smE s f i q + f q else smE s f i q
theorem smL_out {s : Nat} {f : Nat → Int32} {i : Nat} {x : Int32} : ∀ {n : Nat}, n ≤ i → smL s (upd f i x) n = smL s f n
  | 0, _ => rfl
  | n + 1, h => by
    rw [smL, smL, smL_out (n := n) (by omega)]
    have : upd f i x n = f n := if_neg (by omega)
    rw [this]
theorem smL_upd {s : Nat} {f : Nat → Int32} {i : Nat} {x : Int32} (hb : s / 2 ^ i % 2 = 1) : ∀ {n : Nat}, i < n → smL s (upd f i x) n = smL s f n + (x - f i)
  | 0, h => absurd h (Nat.not_lt_zero i)
  | n + 1, h => by
    rw [smL, smL]
    by_cases e : n = i
    · subst e
      rw [if_pos hb, if_pos hb, smL_out (Nat.le_refl n)]
      have : upd f n x n = x := if_pos rfl
      rw [this]
      grind
    · have h1 : upd f i x n = f n := if_neg e
      rw [smL_upd hb (n := n) (by omega), h1]
      split
      · grind
      · rfl
theorem smE_out {s : Nat} {f : Nat → Int32} {i : Nat} : ∀ {n : Nat}, n ≤ i → smE s f i n = smL s f n
  | 0, _ => rfl
  | n + 1, h => by
    rw [smL, smE, smE_out (n := n) (by omega)]
    by_cases hb : s / 2 ^ n % 2 = 1
    · rw [if_pos hb, if_pos ⟨by omega, hb⟩]
    · rw [if_neg hb, if_neg (fun z => hb z.2)]
theorem smE_eq {s : Nat} {f : Nat → Int32} {i : Nat} (hb : s / 2 ^ i % 2 = 1) : ∀ {n : Nat}, i < n → smE s f i n = smL s f n - f i
  | 0, h => absurd h (Nat.not_lt_zero i)
  | n + 1, h => by
    rw [smL, smE]
    by_cases e : n = i
    · subst e
      rw [if_pos hb, if_neg (fun z => z.1 rfl), smE_out (Nat.le_refl n)]
      grind
    · rw [smE_eq hb (n := n) (by omega)]
      by_cases hb2 : s / 2 ^ n % 2 = 1
      · rw [if_pos hb2, if_pos ⟨e, hb2⟩]
        grind
      · rw [if_neg hb2, if_neg (fun z => hb2 z.2)]
theorem smL_top {s c : Nat} {f : Nat → Int32} (hs : s < 2 ^ c) : ∀ m, smL s f (c + m) = smL s f c
  | 0 => rfl
  | m + 1 => by
    rw [← Nat.add_assoc, smL, smL_top hs m, if_neg]
    rw [Nat.div_eq_of_lt (Nat.lt_of_lt_of_le hs (Nat.pow_le_pow_right (by decide) (by omega)))]
    decide
def leV (s : Nat) (L : Int32) (lo hi : Nat → Int32) (i : Nat) : Int32 := if lo i < L - (smL s hi 10 - hi i) then L - (smL s hi 10 - hi i) else lo i
def moV (s : Nat) (M : Int32) (lo hi : Nat → Int32) (i : Nat) : Int32 := if M - (smL s lo 10 - lo i) < hi i then M - (smL s lo 10 - lo i) else hi i
def nwL (s : Nat) (L M : Int32) (lo hi : Nat → Int32) : Nat → (Nat → Int32) × (Nat → Int32) × Bool × Bool
  | 0 => (lo, hi, false, false)
  | i + 1 => if s / 2 ^ i % 2 = 1 then
      (upd (nwL s L M lo hi i).1 i (leV s L (nwL s L M lo hi i).1 (nwL s L M lo hi i).2.1 i), upd (nwL s L M lo hi i).2.1 i (moV s M (nwL s L M lo hi i).1 (nwL s L M lo hi i).2.1 i),
        (nwL s L M lo hi i).2.2.1 || decide (leV s L (nwL s L M lo hi i).1 (nwL s L M lo hi i).2.1 i ≠ (nwL s L M lo hi i).1 i ∨ moV s M (nwL s L M lo hi i).1 (nwL s L M lo hi i).2.1 i ≠ (nwL s L M lo hi i).2.1 i),
        (nwL s L M lo hi i).2.2.2 || decide (moV s M (nwL s L M lo hi i).1 (nwL s L M lo hi i).2.1 i < leV s L (nwL s L M lo hi i).1 (nwL s L M lo hi i).2.1 i))
    else nwL s L M lo hi i
theorem st_nw (σ : zSt) (f g : Nat → Int32) (i : Nat) (x y a b : Int32) : zu (zu (zu (zu (zs (zs σ 59 f) 60 g) 55 6 a) 59 i x) 60 i y) 55 6 b = zu (zs (zs σ 59 (upd f i x)) 60 (upd g i y)) 55 6 b := by
  rw [zu_swap _ (show (55 : Nat) ≠ 59 by decide), zu_swap _ (show (55 : Nat) ≠ 60 by decide), zu_zu, zs_zu2 _ (show (59 : Nat) ≠ 60 by decide), zs_zu, zs_zu]
set_option maxHeartbeats 4000000 in
set_option maxRecDepth 100000 in
theorem c_narrow (k s : Nat) (L M : Int32) (tv : Prop) [Decidable tv] (σ : zSt) (hk : k < 8) (hs : s < 1024) (hs0 : σ 56 k = nI s) (hL : σ 57 k = L) (hM : σ 58 k = M) (ht : σ 55 6 = bI tv) : Con mX0_narrow 1 [.ref 55, .int (nI k)] σ (fun r τ => r = some (.int (bI ((nwL s L M (σ 59) (σ 60) 10).2.2.1 = true))) ∧ τ = zu (zs (zs σ 59 (nwL s L M (σ 59) (σ 60) 10).1) 60 (nwL s L M (σ 59) (σ 60) 10).2.1) 55 6 (bI (tv ∨ (nwL s L M (σ 59) (σ 60) 10).2.2.2 = true))) := by
  refine Con.of (lv := [.ref 55, .int (nI k), .long 0, .long 0, .long 0, .long 0, .long 0, .long 0]) mk_X0_narrow rfl (Nat.le_of_ble_eq_true rfl) rfl (fun X F E => ?_)
  have L2 : ∀ (q i : Nat) (z1 z2 : Value), i + q = 10 → Gs X 61 [.ref 55, .int (nI k), .int (smL s (nwL s L M (σ 59) (σ 60) i).1 10), .int (smL s (nwL s L M (σ 59) (σ 60) i).2.1 10), .int (bI ((nwL s L M (σ 59) (σ 60) i).2.2.1 = true)), .int (nI i), z1, z2] [] (zu (zs (zs σ 59 (nwL s L M (σ 59) (σ 60) i).1) 60 (nwL s L M (σ 59) (σ 60) i).2.1) 55 6 (bI (tv ∨ (nwL s L M (σ 59) (σ 60) i).2.2.2 = true))) := by
    intro q
    induction q with
    | zero =>
      intro i z1 z2 hi
      have hi : i = 10 := hi
      subst hi
      refine g_iload (nx := 63) F dX0_narrow_61 rfl rfl ?_
      refine g_bipush (nx := 65) (10) F dX0_narrow_63 rfl (by decide) ?_
      refine g_icmp_ge (nx := 68) 244 F dX0_narrow_65 rfl (by decide) (fun c_65 => ?_) (fun c_65 => absurd c_65 (by decide))
      refine g_iload (nx := 246) F dX0_narrow_244 rfl rfl ?_
      refine g_zret F E dX0_narrow_246 (nar_bI) ?_
      exact ⟨rfl, rfl⟩
    | succ q ih =>
      intro i z1 z2 hi
      by_cases hb : s / 2 ^ i % 2 = 1
      · have e1 : (nwL s L M (σ 59) (σ 60) (i + 1)).1 = upd (nwL s L M (σ 59) (σ 60) i).1 i (leV s L (nwL s L M (σ 59) (σ 60) i).1 (nwL s L M (σ 59) (σ 60) i).2.1 i) := by rw [nwL, if_pos hb]
        have e2 : (nwL s L M (σ 59) (σ 60) (i + 1)).2.1 = upd (nwL s L M (σ 59) (σ 60) i).2.1 i (moV s M (nwL s L M (σ 59) (σ 60) i).1 (nwL s L M (σ 59) (σ 60) i).2.1 i) := by rw [nwL, if_pos hb]
        have e3 : (nwL s L M (σ 59) (σ 60) (i + 1)).2.2.1 = ((nwL s L M (σ 59) (σ 60) i).2.2.1 || decide ((leV s L (nwL s L M (σ 59) (σ 60) i).1 (nwL s L M (σ 59) (σ 60) i).2.1 i) ≠ (nwL s L M (σ 59) (σ 60) i).1 i ∨ (moV s M (nwL s L M (σ 59) (σ 60) i).1 (nwL s L M (σ 59) (σ 60) i).2.1 i) ≠ (nwL s L M (σ 59) (σ 60) i).2.1 i)) := by rw [nwL, if_pos hb]
        have e4 : (nwL s L M (σ 59) (σ 60) (i + 1)).2.2.2 = ((nwL s L M (σ 59) (σ 60) i).2.2.2 || decide ((moV s M (nwL s L M (σ 59) (σ 60) i).1 (nwL s L M (σ 59) (σ 60) i).2.1 i) < (leV s L (nwL s L M (σ 59) (σ 60) i).1 (nwL s L M (σ 59) (σ 60) i).2.1 i))) := by rw [nwL, if_pos hb]
        have hh := fun z1 z2 => ih (i + 1) z1 z2 (by omega)
        rw [show bI ((nwL s L M (σ 59) (σ 60) (i + 1)).2.2.1 = true) = bI ((nwL s L M (σ 59) (σ 60) i).2.2.1 = true) ||| bI ((leV s L (nwL s L M (σ 59) (σ 60) i).1 (nwL s L M (σ 59) (σ 60) i).2.1 i) ≠ (nwL s L M (σ 59) (σ 60) i).1 i ∨ (moV s M (nwL s L M (σ 59) (σ 60) i).1 (nwL s L M (σ 59) (σ 60) i).2.1 i) ≠ (nwL s L M (σ 59) (σ 60) i).2.1 i) from by rw [or_bI]; exact bI_c (by rw [e3]; simp), show bI (tv ∨ (nwL s L M (σ 59) (σ 60) (i + 1)).2.2.2 = true) = bI (tv ∨ (nwL s L M (σ 59) (σ 60) i).2.2.2 = true) ||| bI ((moV s M (nwL s L M (σ 59) (σ 60) i).1 (nwL s L M (σ 59) (σ 60) i).2.1 i) < (leV s L (nwL s L M (σ 59) (σ 60) i).1 (nwL s L M (σ 59) (σ 60) i).2.1 i)) from by rw [or_bI]; exact bI_c (by rw [e4]; simp [or_assoc]), e1, e2, smL_upd hb (by omega), smL_upd hb (by omega)] at hh
        refine g_iload (nx := 63) F dX0_narrow_61 rfl rfl ?_
        refine g_bipush (nx := 65) (10) F dX0_narrow_63 rfl (by decide) ?_
        refine g_icmp_ge (nx := 68) 244 F dX0_narrow_65 rfl (by decide) (fun c_65 => absurd c_65 (by exact nI_ge (b := 10) (by omega) (by omega))) (fun c_65 => ?_)
        refine g_aload_n (nx := 69) 0 F dX0_narrow_68 rfl rfl rfl ?_
        refine g_getR (nx := 72) F dX0_narrow_69 rfl fl_RX0_11 rfl (by decide) (by decide) rfl ?_
        refine g_iload_n (nx := 73) 1 F dX0_narrow_72 rfl rfl rfl ?_
        refine g_ialdN (nx := 74) (k) (nI s) F dX0_narrow_73 rfl rfl (by omega) (hs0) ?_
        refine g_iload (nx := 76) F dX0_narrow_74 rfl rfl ?_
        refine g_ishr (nx := 77) F dX0_narrow_76 rfl ?_
        refine g_iconst (nx := 78) (1) F dX0_narrow_77 rfl rfl ?_
        refine g_iand (nx := 79) F dX0_narrow_78 rfl ?_
        rw [bit_ok s hs i (by omega)]
        refine g_iconst (nx := 80) (1) F dX0_narrow_79 rfl rfl ?_
        refine g_icmp_ne (nx := 83) 238 F dX0_narrow_80 rfl (by decide) (fun c_80 => absurd c_80 (by exact fun zq => zq (by rw [hb]; rfl))) (fun c_80 => ?_)
        refine g_aload_n (nx := 84) 0 F dX0_narrow_83 rfl rfl rfl ?_
        refine g_getR (nx := 87) F dX0_narrow_84 rfl fl_RX0_21 rfl (by decide) (by decide) rfl ?_
        refine g_iload (nx := 89) F dX0_narrow_87 rfl rfl ?_
        refine g_ialdN (nx := 90) (i) ((nwL s L M (σ 59) (σ 60) i).1 i) F dX0_narrow_89 rfl rfl (by omega) (rfl) ?_
        refine g_aload_n (nx := 91) 0 F dX0_narrow_90 rfl rfl rfl ?_
        refine g_getR (nx := 94) F dX0_narrow_91 rfl fl_RX0_15 rfl (by decide) (by decide) rfl ?_
        refine g_iload_n (nx := 95) 1 F dX0_narrow_94 rfl rfl rfl ?_
        refine g_ialdN (nx := 96) (k) (L) F dX0_narrow_95 rfl rfl (by omega) (hL) ?_
        refine g_iload_n (nx := 97) 3 F dX0_narrow_96 rfl rfl rfl ?_
        refine g_aload_n (nx := 98) 0 F dX0_narrow_97 rfl rfl rfl ?_
        refine g_getR (nx := 101) F dX0_narrow_98 rfl fl_RX0_24 rfl (by decide) (by decide) rfl ?_
        refine g_iload (nx := 103) F dX0_narrow_101 rfl rfl ?_
        refine g_ialdN (nx := 104) (i) ((nwL s L M (σ 59) (σ 60) i).2.1 i) F dX0_narrow_103 rfl rfl (by omega) (rfl) ?_
        refine g_isub (nx := 105) F dX0_narrow_104 rfl ?_
        refine g_isub (nx := 106) F dX0_narrow_105 rfl ?_
        refine g_mmax (nx := 109) F dX0_narrow_106 rfl mm_Betweens_46 (by omega) (Nat.le_of_ble_eq_true rfl) ?_
        refine g_top (leV s L (nwL s L M (σ 59) (σ 60) i).1 (nwL s L M (σ 59) (σ 60) i).2.1 i) rfl ?_
        refine g_istore (nx := 111) F dX0_narrow_109 rfl (by decide) ?_
        try dsimp only [List.set]
        refine g_aload_n (nx := 112) 0 F dX0_narrow_111 rfl rfl rfl ?_
        refine g_getR (nx := 115) F dX0_narrow_112 rfl fl_RX0_24 rfl (by decide) (by decide) rfl ?_
        refine g_iload (nx := 117) F dX0_narrow_115 rfl rfl ?_
        refine g_ialdN (nx := 118) (i) ((nwL s L M (σ 59) (σ 60) i).2.1 i) F dX0_narrow_117 rfl rfl (by omega) (rfl) ?_
        refine g_aload_n (nx := 119) 0 F dX0_narrow_118 rfl rfl rfl ?_
        refine g_getR (nx := 122) F dX0_narrow_119 rfl fl_RX0_18 rfl (by decide) (by decide) rfl ?_
        refine g_iload_n (nx := 123) 1 F dX0_narrow_122 rfl rfl rfl ?_
        refine g_ialdN (nx := 124) (k) (M) F dX0_narrow_123 rfl rfl (by omega) (hM) ?_
        refine g_iload_n (nx := 125) 2 F dX0_narrow_124 rfl rfl rfl ?_
        refine g_aload_n (nx := 126) 0 F dX0_narrow_125 rfl rfl rfl ?_
        refine g_getR (nx := 129) F dX0_narrow_126 rfl fl_RX0_21 rfl (by decide) (by decide) rfl ?_
        refine g_iload (nx := 131) F dX0_narrow_129 rfl rfl ?_
        refine g_ialdN (nx := 132) (i) ((nwL s L M (σ 59) (σ 60) i).1 i) F dX0_narrow_131 rfl rfl (by omega) (rfl) ?_
        refine g_isub (nx := 133) F dX0_narrow_132 rfl ?_
        refine g_isub (nx := 134) F dX0_narrow_133 rfl ?_
        refine g_mmin (nx := 137) F dX0_narrow_134 rfl mm_Betweens_52 (by omega) (Nat.le_of_ble_eq_true rfl) ?_
        refine g_top (moV s M (nwL s L M (σ 59) (σ 60) i).1 (nwL s L M (σ 59) (σ 60) i).2.1 i) rfl ?_
        refine g_istore (nx := 139) F dX0_narrow_137 rfl (by decide) ?_
        try dsimp only [List.set]
        refine g_iload (nx := 141) F dX0_narrow_139 rfl rfl ?_
        refine g_iload (nx := 143) F dX0_narrow_141 rfl rfl ?_
        refine g_aload_n (nx := 144) 0 F dX0_narrow_143 rfl rfl rfl ?_
        refine g_getR (nx := 147) F dX0_narrow_144 rfl fl_RX0_21 rfl (by decide) (by decide) rfl ?_
        refine g_iload (nx := 149) F dX0_narrow_147 rfl rfl ?_
        refine g_ialdN (nx := 150) (i) ((nwL s L M (σ 59) (σ 60) i).1 i) F dX0_narrow_149 rfl rfl (by omega) (rfl) ?_
        refine g_icmp_ne (nx := 153) 165 F dX0_narrow_150 rfl (by decide) (fun c_150 => ?_) (fun c_150 => ?_)
        · refine g_iconst (nx := 166) (1) F dX0_narrow_165 rfl rfl ?_
          refine g_goto 170 F dX0_narrow_166 (by decide) ?_
          first | (refine g_top (bI ((leV s L (nwL s L M (σ 59) (σ 60) i).1 (nwL s L M (σ 59) (σ 60) i).2.1 i) ≠ (nwL s L M (σ 59) (σ 60) i).1 i ∨ (moV s M (nwL s L M (σ 59) (σ 60) i).1 (nwL s L M (σ 59) (σ 60) i).2.1 i) ≠ (nwL s L M (σ 59) (σ 60) i).2.1 i)) (bI_t (by first | exact Or.inl (by assumption) | exact Or.inr (by assumption))).symm ?_) | (refine g_top (bI ((leV s L (nwL s L M (σ 59) (σ 60) i).1 (nwL s L M (σ 59) (σ 60) i).2.1 i) ≠ (nwL s L M (σ 59) (σ 60) i).1 i ∨ (moV s M (nwL s L M (σ 59) (σ 60) i).1 (nwL s L M (σ 59) (σ 60) i).2.1 i) ≠ (nwL s L M (σ 59) (σ 60) i).2.1 i)) (bI_f (by rintro (z | z); exact z (by assumption); exact z (by assumption))).symm ?_)
          refine g_ior (nx := 171) F dX0_narrow_170 rfl ?_
          refine g_istore (nx := 173) F dX0_narrow_171 rfl (by decide) ?_
          try dsimp only [List.set]
          refine g_iload_n (nx := 174) 2 F dX0_narrow_173 rfl rfl rfl ?_
          refine g_iload (nx := 176) F dX0_narrow_174 rfl rfl ?_
          refine g_aload_n (nx := 177) 0 F dX0_narrow_176 rfl rfl rfl ?_
          refine g_getR (nx := 180) F dX0_narrow_177 rfl fl_RX0_21 rfl (by decide) (by decide) rfl ?_
          refine g_iload (nx := 182) F dX0_narrow_180 rfl rfl ?_
          refine g_ialdN (nx := 183) (i) ((nwL s L M (σ 59) (σ 60) i).1 i) F dX0_narrow_182 rfl rfl (by omega) (rfl) ?_
          refine g_isub (nx := 184) F dX0_narrow_183 rfl ?_
          refine g_iadd (nx := 185) F dX0_narrow_184 rfl ?_
          refine g_istore_n (nx := 186) 2 F dX0_narrow_185 rfl rfl (by decide) ?_
          try dsimp only [List.set]
          refine g_iload_n (nx := 187) 3 F dX0_narrow_186 rfl rfl rfl ?_
          refine g_iload (nx := 189) F dX0_narrow_187 rfl rfl ?_
          refine g_aload_n (nx := 190) 0 F dX0_narrow_189 rfl rfl rfl ?_
          refine g_getR (nx := 193) F dX0_narrow_190 rfl fl_RX0_24 rfl (by decide) (by decide) rfl ?_
          refine g_iload (nx := 195) F dX0_narrow_193 rfl rfl ?_
          refine g_ialdN (nx := 196) (i) ((nwL s L M (σ 59) (σ 60) i).2.1 i) F dX0_narrow_195 rfl rfl (by omega) (rfl) ?_
          refine g_isub (nx := 197) F dX0_narrow_196 rfl ?_
          refine g_iadd (nx := 198) F dX0_narrow_197 rfl ?_
          refine g_istore_n (nx := 199) 3 F dX0_narrow_198 rfl rfl (by decide) ?_
          try dsimp only [List.set]
          refine g_aload_n (nx := 200) 0 F dX0_narrow_199 rfl rfl rfl ?_
          refine g_getR (nx := 203) F dX0_narrow_200 rfl fl_RX0_21 rfl (by decide) (by decide) rfl ?_
          refine g_iload (nx := 205) F dX0_narrow_203 rfl rfl ?_
          refine g_iload (nx := 207) F dX0_narrow_205 rfl rfl ?_
          refine g_iastN (nx := 208) (i) F dX0_narrow_207 rfl rfl (by omega) ?_
          refine g_aload_n (nx := 209) 0 F dX0_narrow_208 rfl rfl rfl ?_
          refine g_getR (nx := 212) F dX0_narrow_209 rfl fl_RX0_24 rfl (by decide) (by decide) rfl ?_
          refine g_iload (nx := 214) F dX0_narrow_212 rfl rfl ?_
          refine g_iload (nx := 216) F dX0_narrow_214 rfl rfl ?_
          refine g_iastN (nx := 217) (i) F dX0_narrow_216 rfl rfl (by omega) ?_
          refine g_aload_n (nx := 218) 0 F dX0_narrow_217 rfl rfl rfl ?_
          refine g_dup (nx := 219) F dX0_narrow_218 rfl rfl ?_
          refine g_getV (nx := 222) (bI (tv ∨ (nwL s L M (σ 59) (σ 60) i).2.2.2 = true)) F dX0_narrow_219 rfl fl_RX0_37 rfl (by decide) (by decide) rfl rfl (rfl) ?_
          refine g_iload (nx := 224) F dX0_narrow_222 rfl rfl ?_
          refine g_iload (nx := 226) F dX0_narrow_224 rfl rfl ?_
          refine g_icmp_le (nx := 229) 233 F dX0_narrow_226 rfl (by decide) (fun c_226 => ?_) (fun c_226 => ?_)
          · refine g_iconst (nx := 234) (0) F dX0_narrow_233 rfl rfl ?_
            first | (refine g_top (bI ((moV s M (nwL s L M (σ 59) (σ 60) i).1 (nwL s L M (σ 59) (σ 60) i).2.1 i) < (leV s L (nwL s L M (σ 59) (σ 60) i).1 (nwL s L M (σ 59) (σ 60) i).2.1 i))) (bI_t (not_le_I.mp c_226)).symm ?_) | (refine g_top (bI ((moV s M (nwL s L M (σ 59) (σ 60) i).1 (nwL s L M (σ 59) (σ 60) i).2.1 i) < (leV s L (nwL s L M (σ 59) (σ 60) i).1 (nwL s L M (σ 59) (σ 60) i).2.1 i))) (bI_f (not_lt_I.mpr c_226)).symm ?_)
            refine g_ior (nx := 235) F dX0_narrow_234 rfl ?_
            refine g_putB (nx := 238) F dX0_narrow_235 rfl fl_RX0_37 fb_0_6 rfl (by decide) (by decide) rfl rfl (by rw [or_bI]; exact bI_or) ?_
            refine g_iinc (nx := 241) (1) F dX0_narrow_238 rfl rfl (by decide) (by decide) ?_
            try dsimp only [List.set]
            refine g_goto 61 F dX0_narrow_241 (by decide) ?_
            rw [nI_1]
            refine g_st _ ?_ (hh _ _)
            rw [st_nw]
          · refine g_iconst (nx := 230) (1) F dX0_narrow_229 rfl rfl ?_
            refine g_goto 234 F dX0_narrow_230 (by decide) ?_
            first | (refine g_top (bI ((moV s M (nwL s L M (σ 59) (σ 60) i).1 (nwL s L M (σ 59) (σ 60) i).2.1 i) < (leV s L (nwL s L M (σ 59) (σ 60) i).1 (nwL s L M (σ 59) (σ 60) i).2.1 i))) (bI_t (not_le_I.mp c_226)).symm ?_) | (refine g_top (bI ((moV s M (nwL s L M (σ 59) (σ 60) i).1 (nwL s L M (σ 59) (σ 60) i).2.1 i) < (leV s L (nwL s L M (σ 59) (σ 60) i).1 (nwL s L M (σ 59) (σ 60) i).2.1 i))) (bI_f (not_lt_I.mpr c_226)).symm ?_)
            refine g_ior (nx := 235) F dX0_narrow_234 rfl ?_
            refine g_putB (nx := 238) F dX0_narrow_235 rfl fl_RX0_37 fb_0_6 rfl (by decide) (by decide) rfl rfl (by rw [or_bI]; exact bI_or) ?_
            refine g_iinc (nx := 241) (1) F dX0_narrow_238 rfl rfl (by decide) (by decide) ?_
            try dsimp only [List.set]
            refine g_goto 61 F dX0_narrow_241 (by decide) ?_
            rw [nI_1]
            refine g_st _ ?_ (hh _ _)
            rw [st_nw]
        · refine g_iload (nx := 155) F dX0_narrow_153 rfl rfl ?_
          refine g_aload_n (nx := 156) 0 F dX0_narrow_155 rfl rfl rfl ?_
          refine g_getR (nx := 159) F dX0_narrow_156 rfl fl_RX0_24 rfl (by decide) (by decide) rfl ?_
          refine g_iload (nx := 161) F dX0_narrow_159 rfl rfl ?_
          refine g_ialdN (nx := 162) (i) ((nwL s L M (σ 59) (σ 60) i).2.1 i) F dX0_narrow_161 rfl rfl (by omega) (rfl) ?_
          refine g_icmp_eq (nx := 165) 169 F dX0_narrow_162 rfl (by decide) (fun c_162 => ?_) (fun c_162 => ?_)
          · refine g_iconst (nx := 170) (0) F dX0_narrow_169 rfl rfl ?_
            first | (refine g_top (bI ((leV s L (nwL s L M (σ 59) (σ 60) i).1 (nwL s L M (σ 59) (σ 60) i).2.1 i) ≠ (nwL s L M (σ 59) (σ 60) i).1 i ∨ (moV s M (nwL s L M (σ 59) (σ 60) i).1 (nwL s L M (σ 59) (σ 60) i).2.1 i) ≠ (nwL s L M (σ 59) (σ 60) i).2.1 i)) (bI_t (by first | exact Or.inl (by assumption) | exact Or.inr (by assumption))).symm ?_) | (refine g_top (bI ((leV s L (nwL s L M (σ 59) (σ 60) i).1 (nwL s L M (σ 59) (σ 60) i).2.1 i) ≠ (nwL s L M (σ 59) (σ 60) i).1 i ∨ (moV s M (nwL s L M (σ 59) (σ 60) i).1 (nwL s L M (σ 59) (σ 60) i).2.1 i) ≠ (nwL s L M (σ 59) (σ 60) i).2.1 i)) (bI_f (by rintro (z | z); exact z (by assumption); exact z (by assumption))).symm ?_)
            refine g_ior (nx := 171) F dX0_narrow_170 rfl ?_
            refine g_istore (nx := 173) F dX0_narrow_171 rfl (by decide) ?_
            try dsimp only [List.set]
            refine g_iload_n (nx := 174) 2 F dX0_narrow_173 rfl rfl rfl ?_
            refine g_iload (nx := 176) F dX0_narrow_174 rfl rfl ?_
            refine g_aload_n (nx := 177) 0 F dX0_narrow_176 rfl rfl rfl ?_
            refine g_getR (nx := 180) F dX0_narrow_177 rfl fl_RX0_21 rfl (by decide) (by decide) rfl ?_
            refine g_iload (nx := 182) F dX0_narrow_180 rfl rfl ?_
            refine g_ialdN (nx := 183) (i) ((nwL s L M (σ 59) (σ 60) i).1 i) F dX0_narrow_182 rfl rfl (by omega) (rfl) ?_
            refine g_isub (nx := 184) F dX0_narrow_183 rfl ?_
            refine g_iadd (nx := 185) F dX0_narrow_184 rfl ?_
            refine g_istore_n (nx := 186) 2 F dX0_narrow_185 rfl rfl (by decide) ?_
            try dsimp only [List.set]
            refine g_iload_n (nx := 187) 3 F dX0_narrow_186 rfl rfl rfl ?_
            refine g_iload (nx := 189) F dX0_narrow_187 rfl rfl ?_
            refine g_aload_n (nx := 190) 0 F dX0_narrow_189 rfl rfl rfl ?_
            refine g_getR (nx := 193) F dX0_narrow_190 rfl fl_RX0_24 rfl (by decide) (by decide) rfl ?_
            refine g_iload (nx := 195) F dX0_narrow_193 rfl rfl ?_
            refine g_ialdN (nx := 196) (i) ((nwL s L M (σ 59) (σ 60) i).2.1 i) F dX0_narrow_195 rfl rfl (by omega) (rfl) ?_
            refine g_isub (nx := 197) F dX0_narrow_196 rfl ?_
            refine g_iadd (nx := 198) F dX0_narrow_197 rfl ?_
            refine g_istore_n (nx := 199) 3 F dX0_narrow_198 rfl rfl (by decide) ?_
            try dsimp only [List.set]
            refine g_aload_n (nx := 200) 0 F dX0_narrow_199 rfl rfl rfl ?_
            refine g_getR (nx := 203) F dX0_narrow_200 rfl fl_RX0_21 rfl (by decide) (by decide) rfl ?_
            refine g_iload (nx := 205) F dX0_narrow_203 rfl rfl ?_
            refine g_iload (nx := 207) F dX0_narrow_205 rfl rfl ?_
            refine g_iastN (nx := 208) (i) F dX0_narrow_207 rfl rfl (by omega) ?_
            refine g_aload_n (nx := 209) 0 F dX0_narrow_208 rfl rfl rfl ?_
            refine g_getR (nx := 212) F dX0_narrow_209 rfl fl_RX0_24 rfl (by decide) (by decide) rfl ?_
            refine g_iload (nx := 214) F dX0_narrow_212 rfl rfl ?_
            refine g_iload (nx := 216) F dX0_narrow_214 rfl rfl ?_
            refine g_iastN (nx := 217) (i) F dX0_narrow_216 rfl rfl (by omega) ?_
            refine g_aload_n (nx := 218) 0 F dX0_narrow_217 rfl rfl rfl ?_
            refine g_dup (nx := 219) F dX0_narrow_218 rfl rfl ?_
            refine g_getV (nx := 222) (bI (tv ∨ (nwL s L M (σ 59) (σ 60) i).2.2.2 = true)) F dX0_narrow_219 rfl fl_RX0_37 rfl (by decide) (by decide) rfl rfl (rfl) ?_
            refine g_iload (nx := 224) F dX0_narrow_222 rfl rfl ?_
            refine g_iload (nx := 226) F dX0_narrow_224 rfl rfl ?_
            refine g_icmp_le (nx := 229) 233 F dX0_narrow_226 rfl (by decide) (fun c_226 => ?_) (fun c_226 => ?_)
            · refine g_iconst (nx := 234) (0) F dX0_narrow_233 rfl rfl ?_
              first | (refine g_top (bI ((moV s M (nwL s L M (σ 59) (σ 60) i).1 (nwL s L M (σ 59) (σ 60) i).2.1 i) < (leV s L (nwL s L M (σ 59) (σ 60) i).1 (nwL s L M (σ 59) (σ 60) i).2.1 i))) (bI_t (not_le_I.mp c_226)).symm ?_) | (refine g_top (bI ((moV s M (nwL s L M (σ 59) (σ 60) i).1 (nwL s L M (σ 59) (σ 60) i).2.1 i) < (leV s L (nwL s L M (σ 59) (σ 60) i).1 (nwL s L M (σ 59) (σ 60) i).2.1 i))) (bI_f (not_lt_I.mpr c_226)).symm ?_)
              refine g_ior (nx := 235) F dX0_narrow_234 rfl ?_
              refine g_putB (nx := 238) F dX0_narrow_235 rfl fl_RX0_37 fb_0_6 rfl (by decide) (by decide) rfl rfl (by rw [or_bI]; exact bI_or) ?_
              refine g_iinc (nx := 241) (1) F dX0_narrow_238 rfl rfl (by decide) (by decide) ?_
              try dsimp only [List.set]
              refine g_goto 61 F dX0_narrow_241 (by decide) ?_
              rw [nI_1]
              refine g_st _ ?_ (hh _ _)
              rw [st_nw]
            · refine g_iconst (nx := 230) (1) F dX0_narrow_229 rfl rfl ?_
              refine g_goto 234 F dX0_narrow_230 (by decide) ?_
              first | (refine g_top (bI ((moV s M (nwL s L M (σ 59) (σ 60) i).1 (nwL s L M (σ 59) (σ 60) i).2.1 i) < (leV s L (nwL s L M (σ 59) (σ 60) i).1 (nwL s L M (σ 59) (σ 60) i).2.1 i))) (bI_t (not_le_I.mp c_226)).symm ?_) | (refine g_top (bI ((moV s M (nwL s L M (σ 59) (σ 60) i).1 (nwL s L M (σ 59) (σ 60) i).2.1 i) < (leV s L (nwL s L M (σ 59) (σ 60) i).1 (nwL s L M (σ 59) (σ 60) i).2.1 i))) (bI_f (not_lt_I.mpr c_226)).symm ?_)
              refine g_ior (nx := 235) F dX0_narrow_234 rfl ?_
              refine g_putB (nx := 238) F dX0_narrow_235 rfl fl_RX0_37 fb_0_6 rfl (by decide) (by decide) rfl rfl (by rw [or_bI]; exact bI_or) ?_
              refine g_iinc (nx := 241) (1) F dX0_narrow_238 rfl rfl (by decide) (by decide) ?_
              try dsimp only [List.set]
              refine g_goto 61 F dX0_narrow_241 (by decide) ?_
              rw [nI_1]
              refine g_st _ ?_ (hh _ _)
              rw [st_nw]
          · refine g_iconst (nx := 166) (1) F dX0_narrow_165 rfl rfl ?_
            refine g_goto 170 F dX0_narrow_166 (by decide) ?_
            first | (refine g_top (bI ((leV s L (nwL s L M (σ 59) (σ 60) i).1 (nwL s L M (σ 59) (σ 60) i).2.1 i) ≠ (nwL s L M (σ 59) (σ 60) i).1 i ∨ (moV s M (nwL s L M (σ 59) (σ 60) i).1 (nwL s L M (σ 59) (σ 60) i).2.1 i) ≠ (nwL s L M (σ 59) (σ 60) i).2.1 i)) (bI_t (by first | exact Or.inl (by assumption) | exact Or.inr (by assumption))).symm ?_) | (refine g_top (bI ((leV s L (nwL s L M (σ 59) (σ 60) i).1 (nwL s L M (σ 59) (σ 60) i).2.1 i) ≠ (nwL s L M (σ 59) (σ 60) i).1 i ∨ (moV s M (nwL s L M (σ 59) (σ 60) i).1 (nwL s L M (σ 59) (σ 60) i).2.1 i) ≠ (nwL s L M (σ 59) (σ 60) i).2.1 i)) (bI_f (by rintro (z | z); exact z (by assumption); exact z (by assumption))).symm ?_)
            refine g_ior (nx := 171) F dX0_narrow_170 rfl ?_
            refine g_istore (nx := 173) F dX0_narrow_171 rfl (by decide) ?_
            try dsimp only [List.set]
            refine g_iload_n (nx := 174) 2 F dX0_narrow_173 rfl rfl rfl ?_
            refine g_iload (nx := 176) F dX0_narrow_174 rfl rfl ?_
            refine g_aload_n (nx := 177) 0 F dX0_narrow_176 rfl rfl rfl ?_
            refine g_getR (nx := 180) F dX0_narrow_177 rfl fl_RX0_21 rfl (by decide) (by decide) rfl ?_
            refine g_iload (nx := 182) F dX0_narrow_180 rfl rfl ?_
            refine g_ialdN (nx := 183) (i) ((nwL s L M (σ 59) (σ 60) i).1 i) F dX0_narrow_182 rfl rfl (by omega) (rfl) ?_
            refine g_isub (nx := 184) F dX0_narrow_183 rfl ?_
            refine g_iadd (nx := 185) F dX0_narrow_184 rfl ?_
            refine g_istore_n (nx := 186) 2 F dX0_narrow_185 rfl rfl (by decide) ?_
            try dsimp only [List.set]
            refine g_iload_n (nx := 187) 3 F dX0_narrow_186 rfl rfl rfl ?_
            refine g_iload (nx := 189) F dX0_narrow_187 rfl rfl ?_
            refine g_aload_n (nx := 190) 0 F dX0_narrow_189 rfl rfl rfl ?_
            refine g_getR (nx := 193) F dX0_narrow_190 rfl fl_RX0_24 rfl (by decide) (by decide) rfl ?_
            refine g_iload (nx := 195) F dX0_narrow_193 rfl rfl ?_
            refine g_ialdN (nx := 196) (i) ((nwL s L M (σ 59) (σ 60) i).2.1 i) F dX0_narrow_195 rfl rfl (by omega) (rfl) ?_
            refine g_isub (nx := 197) F dX0_narrow_196 rfl ?_
            refine g_iadd (nx := 198) F dX0_narrow_197 rfl ?_
            refine g_istore_n (nx := 199) 3 F dX0_narrow_198 rfl rfl (by decide) ?_
            try dsimp only [List.set]
            refine g_aload_n (nx := 200) 0 F dX0_narrow_199 rfl rfl rfl ?_
            refine g_getR (nx := 203) F dX0_narrow_200 rfl fl_RX0_21 rfl (by decide) (by decide) rfl ?_
            refine g_iload (nx := 205) F dX0_narrow_203 rfl rfl ?_
            refine g_iload (nx := 207) F dX0_narrow_205 rfl rfl ?_
            refine g_iastN (nx := 208) (i) F dX0_narrow_207 rfl rfl (by omega) ?_
            refine g_aload_n (nx := 209) 0 F dX0_narrow_208 rfl rfl rfl ?_
            refine g_getR (nx := 212) F dX0_narrow_209 rfl fl_RX0_24 rfl (by decide) (by decide) rfl ?_
            refine g_iload (nx := 214) F dX0_narrow_212 rfl rfl ?_
            refine g_iload (nx := 216) F dX0_narrow_214 rfl rfl ?_
            refine g_iastN (nx := 217) (i) F dX0_narrow_216 rfl rfl (by omega) ?_
            refine g_aload_n (nx := 218) 0 F dX0_narrow_217 rfl rfl rfl ?_
            refine g_dup (nx := 219) F dX0_narrow_218 rfl rfl ?_
            refine g_getV (nx := 222) (bI (tv ∨ (nwL s L M (σ 59) (σ 60) i).2.2.2 = true)) F dX0_narrow_219 rfl fl_RX0_37 rfl (by decide) (by decide) rfl rfl (rfl) ?_
            refine g_iload (nx := 224) F dX0_narrow_222 rfl rfl ?_
            refine g_iload (nx := 226) F dX0_narrow_224 rfl rfl ?_
            refine g_icmp_le (nx := 229) 233 F dX0_narrow_226 rfl (by decide) (fun c_226 => ?_) (fun c_226 => ?_)
            · refine g_iconst (nx := 234) (0) F dX0_narrow_233 rfl rfl ?_
              first | (refine g_top (bI ((moV s M (nwL s L M (σ 59) (σ 60) i).1 (nwL s L M (σ 59) (σ 60) i).2.1 i) < (leV s L (nwL s L M (σ 59) (σ 60) i).1 (nwL s L M (σ 59) (σ 60) i).2.1 i))) (bI_t (not_le_I.mp c_226)).symm ?_) | (refine g_top (bI ((moV s M (nwL s L M (σ 59) (σ 60) i).1 (nwL s L M (σ 59) (σ 60) i).2.1 i) < (leV s L (nwL s L M (σ 59) (σ 60) i).1 (nwL s L M (σ 59) (σ 60) i).2.1 i))) (bI_f (not_lt_I.mpr c_226)).symm ?_)
              refine g_ior (nx := 235) F dX0_narrow_234 rfl ?_
              refine g_putB (nx := 238) F dX0_narrow_235 rfl fl_RX0_37 fb_0_6 rfl (by decide) (by decide) rfl rfl (by rw [or_bI]; exact bI_or) ?_
              refine g_iinc (nx := 241) (1) F dX0_narrow_238 rfl rfl (by decide) (by decide) ?_
              try dsimp only [List.set]
              refine g_goto 61 F dX0_narrow_241 (by decide) ?_
              rw [nI_1]
              refine g_st _ ?_ (hh _ _)
              rw [st_nw]
            · refine g_iconst (nx := 230) (1) F dX0_narrow_229 rfl rfl ?_
              refine g_goto 234 F dX0_narrow_230 (by decide) ?_
              first | (refine g_top (bI ((moV s M (nwL s L M (σ 59) (σ 60) i).1 (nwL s L M (σ 59) (σ 60) i).2.1 i) < (leV s L (nwL s L M (σ 59) (σ 60) i).1 (nwL s L M (σ 59) (σ 60) i).2.1 i))) (bI_t (not_le_I.mp c_226)).symm ?_) | (refine g_top (bI ((moV s M (nwL s L M (σ 59) (σ 60) i).1 (nwL s L M (σ 59) (σ 60) i).2.1 i) < (leV s L (nwL s L M (σ 59) (σ 60) i).1 (nwL s L M (σ 59) (σ 60) i).2.1 i))) (bI_f (not_lt_I.mpr c_226)).symm ?_)
              refine g_ior (nx := 235) F dX0_narrow_234 rfl ?_
              refine g_putB (nx := 238) F dX0_narrow_235 rfl fl_RX0_37 fb_0_6 rfl (by decide) (by decide) rfl rfl (by rw [or_bI]; exact bI_or) ?_
              refine g_iinc (nx := 241) (1) F dX0_narrow_238 rfl rfl (by decide) (by decide) ?_
              try dsimp only [List.set]
              refine g_goto 61 F dX0_narrow_241 (by decide) ?_
              rw [nI_1]
              refine g_st _ ?_ (hh _ _)
              rw [st_nw]
      · have e0 : nwL s L M (σ 59) (σ 60) (i + 1) = (nwL s L M (σ 59) (σ 60) i) := by rw [nwL, if_neg hb]
        have hh := fun z1 z2 => ih (i + 1) z1 z2 (by omega)
        rw [e0] at hh
        refine g_iload (nx := 63) F dX0_narrow_61 rfl rfl ?_
        refine g_bipush (nx := 65) (10) F dX0_narrow_63 rfl (by decide) ?_
        refine g_icmp_ge (nx := 68) 244 F dX0_narrow_65 rfl (by decide) (fun c_65 => absurd c_65 (by exact nI_ge (b := 10) (by omega) (by omega))) (fun c_65 => ?_)
        refine g_aload_n (nx := 69) 0 F dX0_narrow_68 rfl rfl rfl ?_
        refine g_getR (nx := 72) F dX0_narrow_69 rfl fl_RX0_11 rfl (by decide) (by decide) rfl ?_
        refine g_iload_n (nx := 73) 1 F dX0_narrow_72 rfl rfl rfl ?_
        refine g_ialdN (nx := 74) (k) (nI s) F dX0_narrow_73 rfl rfl (by omega) (hs0) ?_
        refine g_iload (nx := 76) F dX0_narrow_74 rfl rfl ?_
        refine g_ishr (nx := 77) F dX0_narrow_76 rfl ?_
        refine g_iconst (nx := 78) (1) F dX0_narrow_77 rfl rfl ?_
        refine g_iand (nx := 79) F dX0_narrow_78 rfl ?_
        rw [bit_ok s hs i (by omega)]
        refine g_iconst (nx := 80) (1) F dX0_narrow_79 rfl rfl ?_
        refine g_icmp_ne (nx := 83) 238 F dX0_narrow_80 rfl (by decide) (fun c_80 => ?_) (fun c_80 => absurd c_80 (by exact fun zq => hb ((nI_eq (b := 1) (by omega) (by omega)).mp zq)))
        refine g_iinc (nx := 241) (1) F dX0_narrow_238 rfl rfl (by decide) (by decide) ?_
        try dsimp only [List.set]
        refine g_goto 61 F dX0_narrow_241 (by decide) ?_
        rw [nI_1]
        exact hh _ _
  have L1 : ∀ (q i : Nat) (z1 z2 z3 : Value), i + q = 10 → Gs X 7 [.ref 55, .int (nI k), .int (smL s (σ 59) i), .int (smL s (σ 60) i), .int (nI i), z1, z2, z3] [] σ := by
    intro q
    induction q with
    | zero =>
      intro i z1 z2 z3 hi
      have hi : i = 10 := hi
      subst hi
      refine g_iload (nx := 9) F dX0_narrow_7 rfl rfl ?_
      refine g_bipush (nx := 11) (10) F dX0_narrow_9 rfl (by decide) ?_
      refine g_icmp_ge (nx := 14) 55 F dX0_narrow_11 rfl (by decide) (fun c_11 => ?_) (fun c_11 => absurd c_11 (by decide))
      refine g_iconst (nx := 56) (0) F dX0_narrow_55 rfl rfl ?_
      refine g_istore (nx := 58) F dX0_narrow_56 rfl (by decide) ?_
      try dsimp only [List.set]
      refine g_iconst (nx := 59) (0) F dX0_narrow_58 rfl rfl ?_
      refine g_istore (nx := 61) F dX0_narrow_59 rfl (by decide) ?_
      try dsimp only [List.set]
      have hh := fun z1 z2 => L2 10 0 z1 z2 (by omega)
      rw [bI_f (show ¬ ((nwL s L M (σ 59) (σ 60) 0).2.2.1 = true) from by simp [nwL])] at hh
      refine g_st (zu (zs (zs σ 59 (nwL s L M (σ 59) (σ 60) 0).1) 60 (nwL s L M (σ 59) (σ 60) 0).2.1) 55 6 (bI (tv ∨ (nwL s L M (σ 59) (σ 60) 0).2.2.2 = true))) ?_ (hh _ _)
      show σ = zu (zs (zs σ 59 (σ 59)) 60 (σ 60)) 55 6 (bI (tv ∨ false = true))
      rw [zs_id σ 59 _ rfl, zs_id σ 60 _ rfl, show bI (tv ∨ false = true) = bI tv from bI_c (by simp), ← ht, zu_zs, zs_id]
      funext q
      unfold upd
      by_cases e : q = 6
      · rw [if_pos e, e]
      · rw [if_neg e]
    | succ q ih =>
      intro i z1 z2 z3 hi
      refine g_iload (nx := 9) F dX0_narrow_7 rfl rfl ?_
      refine g_bipush (nx := 11) (10) F dX0_narrow_9 rfl (by decide) ?_
      refine g_icmp_ge (nx := 14) 55 F dX0_narrow_11 rfl (by decide) (fun c_11 => absurd c_11 (by exact nI_ge (b := 10) (by omega) (by omega))) (fun c_11 => ?_)
      refine g_aload_n (nx := 15) 0 F dX0_narrow_14 rfl rfl rfl ?_
      refine g_getR (nx := 18) F dX0_narrow_15 rfl fl_RX0_11 rfl (by decide) (by decide) rfl ?_
      refine g_iload_n (nx := 19) 1 F dX0_narrow_18 rfl rfl rfl ?_
      refine g_ialdN (nx := 20) (k) (nI s) F dX0_narrow_19 rfl rfl (by omega) (hs0) ?_
      refine g_iload (nx := 22) F dX0_narrow_20 rfl rfl ?_
      refine g_ishr (nx := 23) F dX0_narrow_22 rfl ?_
      refine g_iconst (nx := 24) (1) F dX0_narrow_23 rfl rfl ?_
      refine g_iand (nx := 25) F dX0_narrow_24 rfl ?_
      rw [bit_ok s hs i (by omega)]
      refine g_iconst (nx := 26) (1) F dX0_narrow_25 rfl rfl ?_
      refine g_icmp_ne (nx := 29) 49 F dX0_narrow_26 rfl (by decide) (fun c_26 => ?_) (fun c_26 => ?_)
      · refine g_iinc (nx := 52) (1) F dX0_narrow_49 rfl rfl (by decide) (by decide) ?_
        try dsimp only [List.set]
        refine g_goto 7 F dX0_narrow_52 (by decide) ?_
        have hh := fun z1 z2 z3 => ih (i + 1) z1 z2 z3 (by omega)
        simp only [smL] at hh
        rw [nI_1]
        first
          | (have hb : s / 2 ^ i % 2 = 1 := (nI_eq (b := 1) (by omega) (by omega)).mp c_26
             simp only [if_pos hb] at hh
             exact hh _ _ _)
          | (have hb : ¬ s / 2 ^ i % 2 = 1 := fun z => c_26 (by rw [z]; rfl)
             simp only [if_neg hb] at hh
             exact hh _ _ _)
      · refine g_iload_n (nx := 30) 2 F dX0_narrow_29 rfl rfl rfl ?_
        refine g_aload_n (nx := 31) 0 F dX0_narrow_30 rfl rfl rfl ?_
        refine g_getR (nx := 34) F dX0_narrow_31 rfl fl_RX0_21 rfl (by decide) (by decide) rfl ?_
        refine g_iload (nx := 36) F dX0_narrow_34 rfl rfl ?_
        refine g_ialdN (nx := 37) (i) (_) F dX0_narrow_36 rfl rfl (by omega) (rfl) ?_
        refine g_iadd (nx := 38) F dX0_narrow_37 rfl ?_
        refine g_istore_n (nx := 39) 2 F dX0_narrow_38 rfl rfl (by decide) ?_
        try dsimp only [List.set]
        refine g_iload_n (nx := 40) 3 F dX0_narrow_39 rfl rfl rfl ?_
        refine g_aload_n (nx := 41) 0 F dX0_narrow_40 rfl rfl rfl ?_
        refine g_getR (nx := 44) F dX0_narrow_41 rfl fl_RX0_24 rfl (by decide) (by decide) rfl ?_
        refine g_iload (nx := 46) F dX0_narrow_44 rfl rfl ?_
        refine g_ialdN (nx := 47) (i) (_) F dX0_narrow_46 rfl rfl (by omega) (rfl) ?_
        refine g_iadd (nx := 48) F dX0_narrow_47 rfl ?_
        refine g_istore_n (nx := 49) 3 F dX0_narrow_48 rfl rfl (by decide) ?_
        try dsimp only [List.set]
        refine g_iinc (nx := 52) (1) F dX0_narrow_49 rfl rfl (by decide) (by decide) ?_
        try dsimp only [List.set]
        refine g_goto 7 F dX0_narrow_52 (by decide) ?_
        have hh := fun z1 z2 z3 => ih (i + 1) z1 z2 z3 (by omega)
        simp only [smL] at hh
        rw [nI_1]
        first
          | (have hb : s / 2 ^ i % 2 = 1 := (nI_eq (b := 1) (by omega) (by omega)).mp c_26
             simp only [if_pos hb] at hh
             exact hh _ _ _)
          | (have hb : ¬ s / 2 ^ i % 2 = 1 := fun z => c_26 (by rw [z]; rfl)
             simp only [if_neg hb] at hh
             exact hh _ _ _)
  refine g_iconst (nx := 1) (0) F dX0_narrow_0 rfl rfl ?_
  refine g_istore_n (nx := 2) 2 F dX0_narrow_1 rfl rfl (by decide) ?_
  try dsimp only [List.set]
  refine g_iconst (nx := 3) (0) F dX0_narrow_2 rfl rfl ?_
  refine g_istore_n (nx := 4) 3 F dX0_narrow_3 rfl rfl (by decide) ?_
  try dsimp only [List.set]
  refine g_iconst (nx := 5) (0) F dX0_narrow_4 rfl rfl ?_
  refine g_istore (nx := 7) F dX0_narrow_5 rfl (by decide) ?_
  try dsimp only [List.set]
  exact L1 10 0 _ _ _ (by omega)
