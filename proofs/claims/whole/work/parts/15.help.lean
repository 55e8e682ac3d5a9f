theorem mx_static : Cond.static Lib.Math.max.name ∈ TB := tb_of 620 (by decide +kernel) rfl
theorem mn_static : Cond.static Lib.Math.min.name ∈ TB := tb_of 623 (by decide +kernel) rfl
theorem mm_init : Cond.initialized "java/lang/Math" ∈ TB := tb_of 94 (by decide +kernel) rfl
theorem mx_code : Cond.code Lib.Math.max.name Lib.Math.max.code 2 (some .int) ∈ TB := tb_of 621 (by decide +kernel) rfl
theorem mn_code : Cond.code Lib.Math.min.name Lib.Math.min.code 2 (some .int) ∈ TB := tb_of 624 (by decide +kernel) rfl
theorem mm_SL1_92 : Cond.methodLink "java/lang/StringLatin1" 92 Lib.Math.max.name ∈ TB := tb_of 619 (by decide +kernel) rfl
theorem mm_SL1_38 : Cond.methodLink "java/lang/StringLatin1" 38 Lib.Math.min.name ∈ TB := tb_of 622 (by decide +kernel) rfl
theorem mm_SU_224 : Cond.methodLink "java/lang/StringUTF16" 224 Lib.Math.max.name ∈ TB := tb_of 631 (by decide +kernel) rfl
theorem mm_SU_183 : Cond.methodLink "java/lang/StringUTF16" 183 Lib.Math.min.name ∈ TB := tb_of 632 (by decide +kernel) rfl
theorem mm_Reckoner_46 : Cond.methodLink "StampRoad$Reckoner" 46 Lib.Math.max.name ∈ TB := tb_of 812 (by decide +kernel) rfl
theorem mm_Reckoner_40 : Cond.methodLink "StampRoad$Reckoner" 40 Lib.Math.min.name ∈ TB := tb_of 819 (by decide +kernel) rfl
theorem mm_Play_128 : Cond.methodLink "StampRoad$Play" 128 Lib.Math.max.name ∈ TB := tb_of 820 (by decide +kernel) rfl
theorem mm_Betweens_46 : Cond.methodLink "StampRoad$Betweens" 46 Lib.Math.max.name ∈ TB := tb_of 1016 (by decide +kernel) rfl
theorem mm_Betweens_52 : Cond.methodLink "StampRoad$Betweens" 52 Lib.Math.min.name ∈ TB := tb_of 1017 (by decide +kernel) rfl
theorem sf_38 : Cond.fieldLink "java/lang/String" 38 "java/lang/String" "COMPACT_STRINGS" "Z" ∈ TB := tb_of 603 (by decide +kernel) rfl
theorem sf_1053 : Cond.fieldLink "java/lang/String" 1053 "jdk/internal/util/Preconditions" "SIOOBE_FORMATTER" "Ljava/util/function/BiFunction;" ∈ TB := tb_of 646 (by decide +kernel) rfl
theorem sf_15 : Cond.fieldLink "java/lang/String" 15 "java/lang/String" "coder" "B" ∈ TB := tb_of 1674 (by decide +kernel) rfl
theorem sf_9 : Cond.fieldLink "java/lang/String" 9 "java/lang/String" "value" "[B" ∈ TB := tb_of 1675 (by decide +kernel) rfl
/-! truth as an int -/
def bI (b : Prop) [Decidable b] : Int32 := if b then 1 else 0
theorem bI_t {b : Prop} [Decidable b] (h : b) : bI b = 1 := if_pos h
theorem bI_f {b : Prop} [Decidable b] (h : ¬ b) : bI b = 0 := if_neg h
theorem bI_0 {b : Prop} [Decidable b] : bI b = 0 ↔ ¬ b := by
  by_cases h : b
  · rw [bI_t h]; exact ⟨fun q => absurd q (by decide), fun q => absurd h q⟩
  · rw [bI_f h]; exact ⟨fun _ => h, fun _ => rfl⟩
theorem bI_1 {b : Prop} [Decidable b] : bI b = 1 ↔ b := by
  by_cases h : b
  · rw [bI_t h]; exact ⟨fun _ => h, fun _ => rfl⟩
  · rw [bI_f h]; exact ⟨fun q => absurd q (by decide), fun q => absurd q h⟩
theorem bI_n0 {b : Prop} [Decidable b] : bI b ≠ 0 ↔ b := by
  rw [ne_eq, bI_0]
  exact Decidable.not_not
theorem bI_or {b : Prop} [Decidable b] : bI b = 0 ∨ bI b = 1 := by
  by_cases h : b
  · exact Or.inr (bI_t h)
  · exact Or.inl (bI_f h)
theorem bI_c {a b : Prop} [Decidable a] [Decidable b] (h : a ↔ b) : bI a = bI b := by
  by_cases q : a
  · rw [bI_t q, bI_t (h.mp q)]
  · rw [bI_f q, bI_f (fun z => q (h.mpr z))]
theorem nar_bI {b : Prop} [Decidable b] : narrow .boolean (.int (bI b)) = .int (bI b) := by
  rcases bI_or (b := b) with h | h <;> rw [h] <;> rfl
theorem nar_0 : narrow .boolean (.int 0) = .int 0 := rfl
theorem nar_1 : narrow .boolean (.int 1) = .int 1 := rfl
theorem not_le_I {a b : Int32} : ¬ a ≤ b ↔ b < a := by rw [fa_le, fa_lt]; omega
theorem not_lt_I {a b : Int32} : ¬ a < b ↔ b ≤ a := by rw [fa_le, fa_lt]; omega
section ZS
variable {X : ZX} {cc : ByteArray} {own : String} {nL dd pc nx : Nat} {lv st : List Value} {σ : zSt}
/-- Math.max, Math.min -/
theorem g_mmax {idx : Nat} {x y : Int32} (F : Fx X cc own nL dd) (hdg : decode cc pc = .ok (.invokestatic idx, 3)) (hn : pc + 3 = nx) (L : Cond.methodLink own idx Lib.Math.max.name ∈ TB) (hd : 1 ≤ dd) (hst : (st.map fun v => v.category).sum ≤ 8) (K : Gs X nx lv (.int (if x < y then y else x) :: st) σ) : Gs X pc lv (.int y :: .int x :: st) σ := by
  subst hn
  obtain ⟨p, l, e, R, s, m, args, below, meth, c, cells, slots, Q, D, tc, al, A⟩ := X
  intro H locs ls h1 h2 h3
  have hsum : ((st.map (cV al)).map fun v => v.category).sum ≤ 8 := by
    rw [List.map_map, show ((fun v : Value => v.category) ∘ cV al) = (fun v => v.category) from funext fun v => cV_cat al v]
    exact hst
  have g1 := F.2.2.2.2.2.2.2.2.2.1
  have g2 := F.2.2.2.2.2.2.2.2.2.2.1
  exact va_mmax F.1 F.2.1 h1.1.symm F.2.2.2.1 (F.2.2.2.2.1 _ L) (F.2.2.2.2.1 _ mx_static) (F.2.2.2.2.1 _ mm_init) (F.2.2.2.2.1 _ mx_code) (by omega) (by omega) F.2.2.2.2.2.2.2.2.2.2.2.1 F.2.2.2.2.2.2.2.2.2.2.2.2 hdg (K H locs ls h1 h2 h3)
theorem g_mmin {idx : Nat} {x y : Int32} (F : Fx X cc own nL dd) (hdg : decode cc pc = .ok (.invokestatic idx, 3)) (hn : pc + 3 = nx) (L : Cond.methodLink own idx Lib.Math.min.name ∈ TB) (hd : 1 ≤ dd) (hst : (st.map fun v => v.category).sum ≤ 8) (K : Gs X nx lv (.int (if y < x then y else x) :: st) σ) : Gs X pc lv (.int y :: .int x :: st) σ := by
  subst hn
  obtain ⟨p, l, e, R, s, m, args, below, meth, c, cells, slots, Q, D, tc, al, A⟩ := X
  intro H locs ls h1 h2 h3
  have hsum : ((st.map (cV al)).map fun v => v.category).sum ≤ 8 := by
    rw [List.map_map, show ((fun v : Value => v.category) ∘ cV al) = (fun v => v.category) from funext fun v => cV_cat al v]
    exact hst
  have g1 := F.2.2.2.2.2.2.2.2.2.1
  have g2 := F.2.2.2.2.2.2.2.2.2.2.1
  exact va_mmin F.1 F.2.1 h1.1.symm F.2.2.2.1 (F.2.2.2.2.1 _ L) (F.2.2.2.2.1 _ mn_static) (F.2.2.2.2.1 _ mm_init) (F.2.2.2.2.1 _ mn_code) (by omega) (by omega) F.2.2.2.2.2.2.2.2.2.2.2.1 F.2.2.2.2.2.2.2.2.2.2.2.2 hdg (K H locs ls h1 h2 h3)
/-- String constants -/
theorem g_ldcS {idx : Nat} {tx : String} (k : Nat) (F : Fx X cc own nL dd) (hdg : decode cc pc = .ok (.ldc idx, 2)) (hn : pc + 2 = nx) (hk : k < 6) (hz : zsn[k]? = some (own, idx, tx)) (K : Gs X nx lv (.ref (1000 + k) :: st) σ) : Gs X pc lv st σ := by
  subst hn
  obtain ⟨p, l, e, R, s, m, args, below, meth, c, cells, slots, Q, D, tc, al, A⟩ := X
  intro H locs ls h1 h2 h3
  exact va_ldcS F.1 F.2.1 F.2.2.2.1 (F.2.2.2.2.2.2.2.2.1.2.1 k hk _ hz) hdg (K H locs ls h1 h2 h3)
theorem g_Sval {idx k : Nat} (F : Fx X cc own nL dd) (hdg : decode cc pc = .ok (.getfield idx, 3)) (hn : pc + 3 = nx) (hk : k < 6) (L : Cond.fieldLink own idx "java/lang/String" "value" "[B" ∈ TB) (K : Gs X nx lv (.ref (2000 + k) :: st) σ) : Gs X pc lv (.ref (1000 + k) :: st) σ := by
  subst hn
  obtain ⟨p, l, e, R, s, m, args, below, meth, c, cells, slots, Q, D, tc, al, A⟩ := X
  intro H locs ls h1 h2 h3
  exact vk_getf F.1 F.2.1 (F.2.2.2.2.2.2.2.2.1.1.1 k hk).2.2.1 h3 F.2.2.2.1 (F.2.2.2.2.1 _ L) (fun _ h => h) hdg (K H locs ls h1 h2 h3)
theorem g_Scoder {idx k : Nat} (F : Fx X cc own nL dd) (hdg : decode cc pc = .ok (.getfield idx, 3)) (hn : pc + 3 = nx) (hk : k < 6) (L : Cond.fieldLink own idx "java/lang/String" "coder" "B" ∈ TB) (K : Gs X nx lv (.int 0 :: st) σ) : Gs X pc lv (.ref (1000 + k) :: st) σ := by
  subst hn
  obtain ⟨p, l, e, R, s, m, args, below, meth, c, cells, slots, Q, D, tc, al, A⟩ := X
  intro H locs ls h1 h2 h3
  exact vk_getf F.1 F.2.1 (F.2.2.2.2.2.2.2.2.1.1.1 k hk).2.1 h3 F.2.2.2.1 (F.2.2.2.2.1 _ L) (fun _ h => h) hdg (K H locs ls h1 h2 h3)
theorem g_Scomp {idx : Nat} (F : Fx X cc own nL dd) (hdg : decode cc pc = .ok (.getstatic idx, 3)) (hn : pc + 3 = nx) (L : Cond.fieldLink own idx "java/lang/String" "COMPACT_STRINGS" "Z" ∈ TB) (K : Gs X nx lv (.int 1 :: st) σ) : Gs X pc lv st σ := by
  subst hn
  obtain ⟨p, l, e, R, s, m, args, below, meth, c, cells, slots, Q, D, tc, al, A⟩ := X
  intro H locs ls h1 h2 h3
  exact va_gets F.1 F.2.1 F.2.2.2.2.2.2.2.2.1.2.2.1 h3 F.2.2.2.1 (F.2.2.2.2.1 _ L) (fun _ h => h) hdg (K H locs ls h1 h2 h3)
/-- the formatter that the JDK's checks hand on: null or an object, nobody looks at it -/
theorem g_Sioo {idx : Nat} (F : Fx X cc own nL dd) (hdg : decode cc pc = .ok (.getstatic idx, 3)) (hn : pc + 3 = nx) (L : Cond.fieldLink own idx "jdk/internal/util/Preconditions" "SIOOBE_FORMATTER" "Ljava/util/function/BiFunction;" ∈ TB) (K : ∀ v : Value, v = .null ∨ v = .ref 3000 → Gs X nx lv (v :: st) σ) : Gs X pc lv st σ := by
  subst hn
  obtain ⟨p, l, e, R, s, m, args, below, meth, c, cells, slots, Q, D, tc, al, A⟩ := X
  intro H locs ls h1 h2 h3
  rcases F.2.2.2.2.2.2.2.2.1.2.2.2 with z | z
  · exact va_gets F.1 F.2.1 z h3 F.2.2.2.1 (F.2.2.2.2.1 _ L) (fun _ h => h) hdg (K .null (Or.inl rfl) H locs ls h1 h2 h3)
  · exact va_gets F.1 F.2.1 z h3 F.2.2.2.1 (F.2.2.2.2.1 _ L) (fun _ h => h) hdg (K (.ref 3000) (Or.inr rfl) H locs ls h1 h2 h3)
theorem g_Sbald {k : Nat} {i : Int32} (F : Fx X cc own nL dd) (hdg : decode cc pc = .ok (.baload, 1)) (hn : pc + 1 = nx) (hk : k < 6) (hi : vp_in i (zsl.getD k 0)) (K : Gs X nx lv (.int ((zsb.getD k []).getD i.toNatClampNeg 0) :: st) σ) : Gs X pc lv (.int i :: .ref (2000 + k) :: st) σ := by
  subst hn
  obtain ⟨p, l, e, R, s, m, args, below, meth, c, cells, slots, Q, D, tc, al, A⟩ := X
  intro H locs ls h1 h2 h3
  exact va_tb F.1 F.2.1 (F.2.2.2.2.2.2.2.2.1.1.1 k hk).2.2.2 h3 hi rfl hdg (K H locs ls h1 h2 h3)
theorem g_Slen {k : Nat} (F : Fx X cc own nL dd) (hdg : decode cc pc = .ok (.arraylength, 1)) (hn : pc + 1 = nx) (hk : k < 6) (K : Gs X nx lv (.int (nI (zsl.getD k 0)) :: st) σ) : Gs X pc lv (.ref (2000 + k) :: st) σ := by
  subst hn
  obtain ⟨p, l, e, R, s, m, args, below, meth, c, cells, slots, Q, D, tc, al, A⟩ := X
  intro H locs ls h1 h2 h3
  exact va_tlen F.1 F.2.1 (F.2.2.2.2.2.2.2.2.1.1.1 k hk).2.2.2 h3 rfl hdg (K H locs ls h1 h2 h3)
/-- a call on a String constant -/
theorem g_callSt {M : ZM} {k idx : Nat} {stk : List Value} (n d : Nat) (av : List Value) {σ : zSt} {Qm : Option Value → zSt → Prop} (F : Fx X cc own nL dd) (hdg : decode cc pc = .ok (.invokevirtual idx, 3)) (hn : pc + 3 = nx) (L : zML own idx M) (hM : zMI M n) (hk : k < 6) (hcl : M.1.cls = "java/lang/String") (hstk : stk = av.reverse ++ .ref (1000 + k) :: st) (hlen : av.length = n) (hst : (st.map fun v => v.category).sum ≤ 8) (hd : d + 1 ≤ dd)
    (C : Con M d (.ref (1000 + k) :: av) σ Qm) (K : ∀ (r : Option Value) (τ : zSt), Qm r τ → Gs X nx lv (r.toList ++ st) τ) : Gs X pc lv stk σ := by
  subst hn
  subst hstk
  obtain ⟨p, l, e, R, s, m, args, below, meth, c, cells, slots, Qf, D, tc, al, A⟩ := X
  intro H locs ls h1 h2 h3
  have hsum : ((st.map (cV al)).map fun v => v.category).sum ≤ 8 := by
    rw [List.map_map, show ((fun v : Value => v.category) ∘ cV al) = (fun v => v.category) from funext fun v => cV_cat al v]
    exact hst
  refine z_back F.2.2.2.2.2.2.2.1 h1 h3 (va_runV (C := M.1.cls) (As := av.map (cV al)) (b := al (1000 + k)) ⟨F.1, F.2.1, F.2.2.1, F.2.2.2.1, F.2.2.2.2.1⟩ (C l D tc al F.2.2.2.2.2.2.1) ⟨z_callB F hM.1 L hd, F.2.2.2.2.1 _ hM.2.1, F.2.2.2.2.1 _ hM.2.2⟩ ⟨zPc_blind, ?_, ?_⟩ rfl (by rw [List.length_map]; exact hlen) ?_ ?_ (lv_room hsum) hdg ⟨F.2.2.2.2.2.2.2.2.2.2.2.1, F.2.2.2.2.2.2.2.2.2.2.2.2⟩) K
  · rw [hcl]
    exact vk_recv (adK := fun k => al (1000 + k)) (i := k) F.2.2.2.2.2.2.2.2.1.1 hk h3
  · exact z_pre (av := .ref (1000 + k) :: av) F h2 h3
  · rw [h1.1]; exact F.2.2.1
  · show List.map (cV al) (av.reverse ++ .ref (1000 + k) :: st) = (av.map (cV al)).reverse ++ .ref (al (1000 + k)) :: st.map (cV al)
    rw [List.map_append, List.map_reverse]
    rfl
end ZS
