theorem nwL_top {s c : Nat} {L M : Int32} {lo hi : Nat → Int32} (hs : s < 2 ^ c) : ∀ m, nwL s L M lo hi (c + m) = nwL s L M lo hi c
  | 0 => rfl
  | m + 1 => by
    rw [← Nat.add_assoc, nwL, nwL_top hs m, if_neg]
    rw [Nat.div_eq_of_lt (Nat.lt_of_lt_of_le hs (Nat.pow_le_pow_right (by decide) (by omega)))]
    decide
theorem nwL_ten {s c : Nat} {L M : Int32} {lo hi : Nat → Int32} (hc : c ≤ 10) (hs : s < 2 ^ c) : nwL s L M lo hi 10 = nwL s L M lo hi c := by
  have := nwL_top (L := L) (M := M) (lo := lo) (hi := hi) hs (10 - c)
  rw [show c + (10 - c) = 10 by omega] at this
  exact this
theorem smL_ten {s c : Nat} {f : Nat → Int32} (hc : c ≤ 10) (hs : s < 2 ^ c) : smL s f 10 = smL s f c := by
  have := smL_top (f := f) hs (10 - c)
  rw [show c + (10 - c) = 10 by omega] at this
  exact this
theorem sub_sub_I (a b c : Int32) : a - b - c = a - (b + c) := by grind
set_option maxHeartbeats 4000000 in
set_option maxRecDepth 100000 in
theorem k_narrows (g c s : Nat) (P a b L M : Int32) (σ : zSt) (hg : g < 8) (hc10 : c ≤ 10) (hs : s < 2 ^ c) (hc : σ 145 1 = nI c) (hs0 : σ 180 g = nI s) (hP : σ 181 g = P) (ha0 : σ 182 g = a) (hb0 : σ 183 g = b) (hL : P - b = L) (hM : P - a = M) : Con mX12_narrows 0 [.ref 145, .int (nI g)] σ (fun r τ => r = some (.int (bI ((nwL s L M (σ 185) (σ 186) 10).2.2.1 = true))) ∧ τ = zs (zs σ 185 (nwL s L M (σ 185) (σ 186) 10).1) 186 (nwL s L M (σ 185) (σ 186) 10).2.1) := by
  refine Con.of (lv := [.ref 145, .int (nI g), .long 0, .long 0, .long 0, .long 0, .long 0]) mk_X12_narrows rfl (Nat.le_of_ble_eq_true rfl) rfl (fun X F E => ?_)
  have L2 : ∀ (q i : Nat) (z1 z2 z3 : Value), i + q = c → Gs X 4 [.ref 145, .int (nI g), .int (bI ((nwL s L M (σ 185) (σ 186) i).2.2.1 = true)), .int (nI i), z1, z2, z3] [] (zs (zs σ 185 (nwL s L M (σ 185) (σ 186) i).1) 186 (nwL s L M (σ 185) (σ 186) i).2.1) := by
    intro q
    induction q with
    | zero =>
      intro i z1 z2 z3 hi
      have hi : i = c := hi
      subst hi
      refine g_iload_n (nx := 5) 3 F dX12_narrows_4 rfl rfl rfl ?_
      refine g_aload_n (nx := 6) 0 F dX12_narrows_5 rfl rfl rfl ?_
      refine g_getV (nx := 9) (nI i) F dX12_narrows_6 rfl fl_RX12_165 rfl (by decide) (by decide) rfl rfl (hc) ?_
      refine g_icmp_ge (nx := 12) 217 F dX12_narrows_9 rfl (by decide) (fun c_9 => ?_) (fun c_9 => absurd c_9 (by exact fun zq => zq (nI_le (Nat.le_refl i) (by omega))))
      refine g_iload_n (nx := 218) 2 F dX12_narrows_217 rfl rfl rfl ?_
      refine g_zret F E dX12_narrows_218 (nar_bI) ?_
      exact ⟨by rw [nwL_ten hc10 hs], by rw [nwL_ten hc10 hs]⟩
    | succ q ih =>
      intro i z1 z2 z3 hi
      have hs1 : s < 1024 := Nat.lt_of_lt_of_le hs (Nat.pow_le_pow_right (n := 2) (j := 10) (by decide) (by omega))
      have hi10 : i < 10 := by omega
      by_cases hb : s / 2 ^ i % 2 = 1
      · have e1 : (nwL s L M (σ 185) (σ 186) (i + 1)).1 = upd (nwL s L M (σ 185) (σ 186) i).1 i (leV s L (nwL s L M (σ 185) (σ 186) i).1 (nwL s L M (σ 185) (σ 186) i).2.1 i) := by rw [nwL, if_pos hb]
        have e2 : (nwL s L M (σ 185) (σ 186) (i + 1)).2.1 = upd (nwL s L M (σ 185) (σ 186) i).2.1 i (moV s M (nwL s L M (σ 185) (σ 186) i).1 (nwL s L M (σ 185) (σ 186) i).2.1 i) := by rw [nwL, if_pos hb]
        have e3 : (nwL s L M (σ 185) (σ 186) (i + 1)).2.2.1 = ((nwL s L M (σ 185) (σ 186) i).2.2.1 || decide ((leV s L (nwL s L M (σ 185) (σ 186) i).1 (nwL s L M (σ 185) (σ 186) i).2.1 i) ≠ (nwL s L M (σ 185) (σ 186) i).1 i ∨ (moV s M (nwL s L M (σ 185) (σ 186) i).1 (nwL s L M (σ 185) (σ 186) i).2.1 i) ≠ (nwL s L M (σ 185) (σ 186) i).2.1 i)) := by rw [nwL, if_pos hb]
        have hh := fun z1 z2 z3 => ih (i + 1) z1 z2 z3 (by omega)
        have x1 : (leV s L (nwL s L M (σ 185) (σ 186) i).1 (nwL s L M (σ 185) (σ 186) i).2.1 i) ≠ (nwL s L M (σ 185) (σ 186) i).1 i ↔ (nwL s L M (σ 185) (σ 186) i).1 i < (L - (smL s (nwL s L M (σ 185) (σ 186) i).2.1 10 - (nwL s L M (σ 185) (σ 186) i).2.1 i)) := by
          unfold leV
          by_cases z : (nwL s L M (σ 185) (σ 186) i).1 i < (L - (smL s (nwL s L M (σ 185) (σ 186) i).2.1 10 - (nwL s L M (σ 185) (σ 186) i).2.1 i))
          · rw [if_pos z]; exact ⟨fun _ => z, fun _ e => by rw [e, fa_lt] at z; omega⟩
          · rw [if_neg z]; exact ⟨fun e => absurd rfl e, fun e => absurd e z⟩
        have x2 : (moV s M (nwL s L M (σ 185) (σ 186) i).1 (nwL s L M (σ 185) (σ 186) i).2.1 i) ≠ (nwL s L M (σ 185) (σ 186) i).2.1 i ↔ (M - (smL s (nwL s L M (σ 185) (σ 186) i).1 10 - (nwL s L M (σ 185) (σ 186) i).1 i)) < (nwL s L M (σ 185) (σ 186) i).2.1 i := by
          unfold moV
          by_cases z : (M - (smL s (nwL s L M (σ 185) (σ 186) i).1 10 - (nwL s L M (σ 185) (σ 186) i).1 i)) < (nwL s L M (σ 185) (σ 186) i).2.1 i
          · rw [if_pos z]; exact ⟨fun _ => z, fun _ e => by rw [e, fa_lt] at z; omega⟩
          · rw [if_neg z]; exact ⟨fun e => absurd rfl e, fun e => absurd e z⟩
        rw [show bI ((nwL s L M (σ 185) (σ 186) (i + 1)).2.2.1 = true) = bI ((nwL s L M (σ 185) (σ 186) i).2.2.1 = true ∨ (nwL s L M (σ 185) (σ 186) i).1 i < (L - (smL s (nwL s L M (σ 185) (σ 186) i).2.1 10 - (nwL s L M (σ 185) (σ 186) i).2.1 i)) ∨ (M - (smL s (nwL s L M (σ 185) (σ 186) i).1 10 - (nwL s L M (σ 185) (σ 186) i).1 i)) < (nwL s L M (σ 185) (σ 186) i).2.1 i) from bI_c (by rw [e3, ← x1, ← x2]; simp), e1, e2] at hh
        have LQ : ∀ (r q : Nat), q + r = c → Gs X 61 [.ref 145, .int (nI g), .int (bI ((nwL s L M (σ 185) (σ 186) i).2.2.1 = true)), .int (nI i), .int (L - smE s (nwL s L M (σ 185) (σ 186) i).2.1 i q), .int (M - smE s (nwL s L M (σ 185) (σ 186) i).1 i q), .int (nI q)] [] (zs (zs σ 185 (nwL s L M (σ 185) (σ 186) i).1) 186 (nwL s L M (σ 185) (σ 186) i).2.1) := by
          intro r
          induction r with
          | zero =>
            intro q hq
            have hq : q = c := hq
            subst hq
            rw [smE_eq hb (by omega), smE_eq hb (by omega), ← smL_ten hc10 hs, ← smL_ten hc10 hs]
            refine g_iload (nx := 63) F dX12_narrows_61 rfl rfl ?_
            refine g_aload_n (nx := 64) 0 F dX12_narrows_63 rfl rfl rfl ?_
            refine g_getV (nx := 67) (nI q) F dX12_narrows_64 rfl fl_RX12_165 rfl (by decide) (by decide) rfl rfl (hc) ?_
            refine g_icmp_ge (nx := 70) 123 F dX12_narrows_67 rfl (by decide) (fun c_67 => ?_) (fun c_67 => absurd c_67 (by exact fun zq => zq (nI_le (Nat.le_refl q) (by omega))))
            refine g_iload_n (nx := 124) 2 F dX12_narrows_123 rfl rfl rfl ?_
            refine g_if_ne (nx := 127) 149 F dX12_narrows_124 rfl (by decide) (fun c_124 => ?_) (fun c_124 => ?_)
            · refine g_iconst (nx := 150) (1) F dX12_narrows_149 rfl rfl ?_
              refine g_goto 154 F dX12_narrows_150 (by decide) ?_
              first
                | (refine g_top (bI ((nwL s L M (σ 185) (σ 186) i).2.2.1 = true ∨ (nwL s L M (σ 185) (σ 186) i).1 i < (L - (smL s (nwL s L M (σ 185) (σ 186) i).2.1 10 - (nwL s L M (σ 185) (σ 186) i).2.1 i)) ∨ (M - (smL s (nwL s L M (σ 185) (σ 186) i).1 10 - (nwL s L M (σ 185) (σ 186) i).1 i)) < (nwL s L M (σ 185) (σ 186) i).2.1 i)) (bI_t (Or.inl (bI_n0.mp c_124))).symm ?_)
                | (refine g_top (bI ((nwL s L M (σ 185) (σ 186) i).2.2.1 = true ∨ (nwL s L M (σ 185) (σ 186) i).1 i < (L - (smL s (nwL s L M (σ 185) (σ 186) i).2.1 10 - (nwL s L M (σ 185) (σ 186) i).2.1 i)) ∨ (M - (smL s (nwL s L M (σ 185) (σ 186) i).1 10 - (nwL s L M (σ 185) (σ 186) i).1 i)) < (nwL s L M (σ 185) (σ 186) i).2.1 i)) (bI_t (Or.inr (Or.inl c_135))).symm ?_)
                | (refine g_top (bI ((nwL s L M (σ 185) (σ 186) i).2.2.1 = true ∨ (nwL s L M (σ 185) (σ 186) i).1 i < (L - (smL s (nwL s L M (σ 185) (σ 186) i).2.1 10 - (nwL s L M (σ 185) (σ 186) i).2.1 i)) ∨ (M - (smL s (nwL s L M (σ 185) (σ 186) i).1 10 - (nwL s L M (σ 185) (σ 186) i).1 i)) < (nwL s L M (σ 185) (σ 186) i).2.1 i)) (bI_t (Or.inr (Or.inr (not_le_I.mp c_146)))).symm ?_)
                | (refine g_top (bI ((nwL s L M (σ 185) (σ 186) i).2.2.1 = true ∨ (nwL s L M (σ 185) (σ 186) i).1 i < (L - (smL s (nwL s L M (σ 185) (σ 186) i).2.1 10 - (nwL s L M (σ 185) (σ 186) i).2.1 i)) ∨ (M - (smL s (nwL s L M (σ 185) (σ 186) i).1 10 - (nwL s L M (σ 185) (σ 186) i).1 i)) < (nwL s L M (σ 185) (σ 186) i).2.1 i)) (bI_f (by rintro (z | z | z); exact bI_0.mp c_124 z; exact c_135 z; exact absurd z (not_lt_I.mpr c_146))).symm ?_)
              refine g_istore_n (nx := 155) 2 F dX12_narrows_154 rfl rfl (by decide) ?_
              try dsimp only [List.set]
              refine g_aload_n (nx := 156) 0 F dX12_narrows_155 rfl rfl rfl ?_
              refine g_getR (nx := 159) F dX12_narrows_156 rfl fl_RX12_128 rfl (by decide) (by decide) rfl ?_
              refine g_iload_n (nx := 160) 3 F dX12_narrows_159 rfl rfl rfl ?_
              refine g_iload (nx := 162) F dX12_narrows_160 rfl rfl ?_
              refine g_aload_n (nx := 163) 0 F dX12_narrows_162 rfl rfl rfl ?_
              refine g_getR (nx := 166) F dX12_narrows_163 rfl fl_RX12_128 rfl (by decide) (by decide) rfl ?_
              refine g_iload_n (nx := 167) 3 F dX12_narrows_166 rfl rfl rfl ?_
              refine g_ialdN (nx := 168) (i) ((nwL s L M (σ 185) (σ 186) i).1 i) F dX12_narrows_167 rfl rfl (by omega) (rfl) ?_
              refine g_icmp_le (nx := 171) 176 F dX12_narrows_168 rfl (by decide) (fun c_168 => ?_) (fun c_168 => ?_)
              · refine g_aload_n (nx := 177) 0 F dX12_narrows_176 rfl rfl rfl ?_
                refine g_getR (nx := 180) F dX12_narrows_177 rfl fl_RX12_128 rfl (by decide) (by decide) rfl ?_
                refine g_iload_n (nx := 181) 3 F dX12_narrows_180 rfl rfl rfl ?_
                refine g_ialdN (nx := 182) (i) ((nwL s L M (σ 185) (σ 186) i).1 i) F dX12_narrows_181 rfl rfl (by omega) (rfl) ?_
                refine g_iastN (nx := 183) (i) F dX12_narrows_182 rfl rfl (by omega) ?_
                refine g_aload_n (nx := 184) 0 F dX12_narrows_183 rfl rfl rfl ?_
                refine g_getR (nx := 187) F dX12_narrows_184 rfl fl_RX12_131 rfl (by decide) (by decide) rfl ?_
                refine g_iload_n (nx := 188) 3 F dX12_narrows_187 rfl rfl rfl ?_
                refine g_iload (nx := 190) F dX12_narrows_188 rfl rfl ?_
                refine g_aload_n (nx := 191) 0 F dX12_narrows_190 rfl rfl rfl ?_
                refine g_getR (nx := 194) F dX12_narrows_191 rfl fl_RX12_131 rfl (by decide) (by decide) rfl ?_
                refine g_iload_n (nx := 195) 3 F dX12_narrows_194 rfl rfl rfl ?_
                refine g_ialdN (nx := 196) (i) ((nwL s L M (σ 185) (σ 186) i).2.1 i) F dX12_narrows_195 rfl rfl (by omega) (rfl) ?_
                refine g_icmp_ge (nx := 199) 204 F dX12_narrows_196 rfl (by decide) (fun c_196 => ?_) (fun c_196 => ?_)
                · refine g_aload_n (nx := 205) 0 F dX12_narrows_204 rfl rfl rfl ?_
                  refine g_getR (nx := 208) F dX12_narrows_205 rfl fl_RX12_131 rfl (by decide) (by decide) rfl ?_
                  refine g_iload_n (nx := 209) 3 F dX12_narrows_208 rfl rfl rfl ?_
                  refine g_ialdN (nx := 210) (i) ((nwL s L M (σ 185) (σ 186) i).2.1 i) F dX12_narrows_209 rfl rfl (by omega) (rfl) ?_
                  refine g_iastN (nx := 211) (i) F dX12_narrows_210 rfl rfl (by omega) ?_
                  refine g_iinc (nx := 214) (1) F dX12_narrows_211 rfl rfl (by decide) (by decide) ?_
                  try dsimp only [List.set]
                  refine g_goto 4 F dX12_narrows_214 (by decide) ?_
                  rw [nI_1]
                  refine g_st _ ?_ (hh _ _ _)
                  rw [zs_zu2 _ (show (185 : Nat) ≠ 186 by decide), zs_zu, zs_zu]
                  unfold leV moV
                  first
                    | rw [if_pos (not_le_I.mp c_168), if_pos (not_le_I.mp c_196)]
                    | rw [if_pos (not_le_I.mp c_168), if_neg (not_lt_I.mpr c_196)]
                    | rw [if_neg (not_lt_I.mpr c_168), if_pos (not_le_I.mp c_196)]
                    | rw [if_neg (not_lt_I.mpr c_168), if_neg (not_lt_I.mpr c_196)]
                · refine g_iload (nx := 201) F dX12_narrows_199 rfl rfl ?_
                  refine g_goto 210 F dX12_narrows_201 (by decide) ?_
                  refine g_iastN (nx := 211) (i) F dX12_narrows_210 rfl rfl (by omega) ?_
                  refine g_iinc (nx := 214) (1) F dX12_narrows_211 rfl rfl (by decide) (by decide) ?_
                  try dsimp only [List.set]
                  refine g_goto 4 F dX12_narrows_214 (by decide) ?_
                  rw [nI_1]
                  refine g_st _ ?_ (hh _ _ _)
                  rw [zs_zu2 _ (show (185 : Nat) ≠ 186 by decide), zs_zu, zs_zu]
                  unfold leV moV
                  first
                    | rw [if_pos (not_le_I.mp c_168), if_pos (not_le_I.mp c_196)]
                    | rw [if_pos (not_le_I.mp c_168), if_neg (not_lt_I.mpr c_196)]
                    | rw [if_neg (not_lt_I.mpr c_168), if_pos (not_le_I.mp c_196)]
                    | rw [if_neg (not_lt_I.mpr c_168), if_neg (not_lt_I.mpr c_196)]
              · refine g_iload (nx := 173) F dX12_narrows_171 rfl rfl ?_
                refine g_goto 182 F dX12_narrows_173 (by decide) ?_
                refine g_iastN (nx := 183) (i) F dX12_narrows_182 rfl rfl (by omega) ?_
                refine g_aload_n (nx := 184) 0 F dX12_narrows_183 rfl rfl rfl ?_
                refine g_getR (nx := 187) F dX12_narrows_184 rfl fl_RX12_131 rfl (by decide) (by decide) rfl ?_
                refine g_iload_n (nx := 188) 3 F dX12_narrows_187 rfl rfl rfl ?_
                refine g_iload (nx := 190) F dX12_narrows_188 rfl rfl ?_
                refine g_aload_n (nx := 191) 0 F dX12_narrows_190 rfl rfl rfl ?_
                refine g_getR (nx := 194) F dX12_narrows_191 rfl fl_RX12_131 rfl (by decide) (by decide) rfl ?_
                refine g_iload_n (nx := 195) 3 F dX12_narrows_194 rfl rfl rfl ?_
                refine g_ialdN (nx := 196) (i) ((nwL s L M (σ 185) (σ 186) i).2.1 i) F dX12_narrows_195 rfl rfl (by omega) (rfl) ?_
                refine g_icmp_ge (nx := 199) 204 F dX12_narrows_196 rfl (by decide) (fun c_196 => ?_) (fun c_196 => ?_)
                · refine g_aload_n (nx := 205) 0 F dX12_narrows_204 rfl rfl rfl ?_
                  refine g_getR (nx := 208) F dX12_narrows_205 rfl fl_RX12_131 rfl (by decide) (by decide) rfl ?_
                  refine g_iload_n (nx := 209) 3 F dX12_narrows_208 rfl rfl rfl ?_
                  refine g_ialdN (nx := 210) (i) ((nwL s L M (σ 185) (σ 186) i).2.1 i) F dX12_narrows_209 rfl rfl (by omega) (rfl) ?_
                  refine g_iastN (nx := 211) (i) F dX12_narrows_210 rfl rfl (by omega) ?_
                  refine g_iinc (nx := 214) (1) F dX12_narrows_211 rfl rfl (by decide) (by decide) ?_
                  try dsimp only [List.set]
                  refine g_goto 4 F dX12_narrows_214 (by decide) ?_
                  rw [nI_1]
                  refine g_st _ ?_ (hh _ _ _)
                  rw [zs_zu2 _ (show (185 : Nat) ≠ 186 by decide), zs_zu, zs_zu]
                  unfold leV moV
                  first
                    | rw [if_pos (not_le_I.mp c_168), if_pos (not_le_I.mp c_196)]
                    | rw [if_pos (not_le_I.mp c_168), if_neg (not_lt_I.mpr c_196)]
                    | rw [if_neg (not_lt_I.mpr c_168), if_pos (not_le_I.mp c_196)]
                    | rw [if_neg (not_lt_I.mpr c_168), if_neg (not_lt_I.mpr c_196)]
                · refine g_iload (nx := 201) F dX12_narrows_199 rfl rfl ?_
                  refine g_goto 210 F dX12_narrows_201 (by decide) ?_
                  refine g_iastN (nx := 211) (i) F dX12_narrows_210 rfl rfl (by omega) ?_
                  refine g_iinc (nx := 214) (1) F dX12_narrows_211 rfl rfl (by decide) (by decide) ?_
                  try dsimp only [List.set]
                  refine g_goto 4 F dX12_narrows_214 (by decide) ?_
                  rw [nI_1]
                  refine g_st _ ?_ (hh _ _ _)
                  rw [zs_zu2 _ (show (185 : Nat) ≠ 186 by decide), zs_zu, zs_zu]
                  unfold leV moV
                  first
                    | rw [if_pos (not_le_I.mp c_168), if_pos (not_le_I.mp c_196)]
                    | rw [if_pos (not_le_I.mp c_168), if_neg (not_lt_I.mpr c_196)]
                    | rw [if_neg (not_lt_I.mpr c_168), if_pos (not_le_I.mp c_196)]
                    | rw [if_neg (not_lt_I.mpr c_168), if_neg (not_lt_I.mpr c_196)]
            · refine g_iload (nx := 129) F dX12_narrows_127 rfl rfl ?_
              refine g_aload_n (nx := 130) 0 F dX12_narrows_129 rfl rfl rfl ?_
              refine g_getR (nx := 133) F dX12_narrows_130 rfl fl_RX12_128 rfl (by decide) (by decide) rfl ?_
              refine g_iload_n (nx := 134) 3 F dX12_narrows_133 rfl rfl rfl ?_
              refine g_ialdN (nx := 135) (i) ((nwL s L M (σ 185) (σ 186) i).1 i) F dX12_narrows_134 rfl rfl (by omega) (rfl) ?_
              refine g_icmp_gt (nx := 138) 149 F dX12_narrows_135 rfl (by decide) (fun c_135 => ?_) (fun c_135 => ?_)
              · refine g_iconst (nx := 150) (1) F dX12_narrows_149 rfl rfl ?_
                refine g_goto 154 F dX12_narrows_150 (by decide) ?_
                first
                  | (refine g_top (bI ((nwL s L M (σ 185) (σ 186) i).2.2.1 = true ∨ (nwL s L M (σ 185) (σ 186) i).1 i < (L - (smL s (nwL s L M (σ 185) (σ 186) i).2.1 10 - (nwL s L M (σ 185) (σ 186) i).2.1 i)) ∨ (M - (smL s (nwL s L M (σ 185) (σ 186) i).1 10 - (nwL s L M (σ 185) (σ 186) i).1 i)) < (nwL s L M (σ 185) (σ 186) i).2.1 i)) (bI_t (Or.inl (bI_n0.mp c_124))).symm ?_)
                  | (refine g_top (bI ((nwL s L M (σ 185) (σ 186) i).2.2.1 = true ∨ (nwL s L M (σ 185) (σ 186) i).1 i < (L - (smL s (nwL s L M (σ 185) (σ 186) i).2.1 10 - (nwL s L M (σ 185) (σ 186) i).2.1 i)) ∨ (M - (smL s (nwL s L M (σ 185) (σ 186) i).1 10 - (nwL s L M (σ 185) (σ 186) i).1 i)) < (nwL s L M (σ 185) (σ 186) i).2.1 i)) (bI_t (Or.inr (Or.inl c_135))).symm ?_)
                  | (refine g_top (bI ((nwL s L M (σ 185) (σ 186) i).2.2.1 = true ∨ (nwL s L M (σ 185) (σ 186) i).1 i < (L - (smL s (nwL s L M (σ 185) (σ 186) i).2.1 10 - (nwL s L M (σ 185) (σ 186) i).2.1 i)) ∨ (M - (smL s (nwL s L M (σ 185) (σ 186) i).1 10 - (nwL s L M (σ 185) (σ 186) i).1 i)) < (nwL s L M (σ 185) (σ 186) i).2.1 i)) (bI_t (Or.inr (Or.inr (not_le_I.mp c_146)))).symm ?_)
                  | (refine g_top (bI ((nwL s L M (σ 185) (σ 186) i).2.2.1 = true ∨ (nwL s L M (σ 185) (σ 186) i).1 i < (L - (smL s (nwL s L M (σ 185) (σ 186) i).2.1 10 - (nwL s L M (σ 185) (σ 186) i).2.1 i)) ∨ (M - (smL s (nwL s L M (σ 185) (σ 186) i).1 10 - (nwL s L M (σ 185) (σ 186) i).1 i)) < (nwL s L M (σ 185) (σ 186) i).2.1 i)) (bI_f (by rintro (z | z | z); exact bI_0.mp c_124 z; exact c_135 z; exact absurd z (not_lt_I.mpr c_146))).symm ?_)
                refine g_istore_n (nx := 155) 2 F dX12_narrows_154 rfl rfl (by decide) ?_
                try dsimp only [List.set]
                refine g_aload_n (nx := 156) 0 F dX12_narrows_155 rfl rfl rfl ?_
                refine g_getR (nx := 159) F dX12_narrows_156 rfl fl_RX12_128 rfl (by decide) (by decide) rfl ?_
                refine g_iload_n (nx := 160) 3 F dX12_narrows_159 rfl rfl rfl ?_
                refine g_iload (nx := 162) F dX12_narrows_160 rfl rfl ?_
                refine g_aload_n (nx := 163) 0 F dX12_narrows_162 rfl rfl rfl ?_
                refine g_getR (nx := 166) F dX12_narrows_163 rfl fl_RX12_128 rfl (by decide) (by decide) rfl ?_
                refine g_iload_n (nx := 167) 3 F dX12_narrows_166 rfl rfl rfl ?_
                refine g_ialdN (nx := 168) (i) ((nwL s L M (σ 185) (σ 186) i).1 i) F dX12_narrows_167 rfl rfl (by omega) (rfl) ?_
                refine g_icmp_le (nx := 171) 176 F dX12_narrows_168 rfl (by decide) (fun c_168 => ?_) (fun c_168 => ?_)
                · refine g_aload_n (nx := 177) 0 F dX12_narrows_176 rfl rfl rfl ?_
                  refine g_getR (nx := 180) F dX12_narrows_177 rfl fl_RX12_128 rfl (by decide) (by decide) rfl ?_
                  refine g_iload_n (nx := 181) 3 F dX12_narrows_180 rfl rfl rfl ?_
                  refine g_ialdN (nx := 182) (i) ((nwL s L M (σ 185) (σ 186) i).1 i) F dX12_narrows_181 rfl rfl (by omega) (rfl) ?_
                  refine g_iastN (nx := 183) (i) F dX12_narrows_182 rfl rfl (by omega) ?_
                  refine g_aload_n (nx := 184) 0 F dX12_narrows_183 rfl rfl rfl ?_
                  refine g_getR (nx := 187) F dX12_narrows_184 rfl fl_RX12_131 rfl (by decide) (by decide) rfl ?_
                  refine g_iload_n (nx := 188) 3 F dX12_narrows_187 rfl rfl rfl ?_
                  refine g_iload (nx := 190) F dX12_narrows_188 rfl rfl ?_
                  refine g_aload_n (nx := 191) 0 F dX12_narrows_190 rfl rfl rfl ?_
                  refine g_getR (nx := 194) F dX12_narrows_191 rfl fl_RX12_131 rfl (by decide) (by decide) rfl ?_
                  refine g_iload_n (nx := 195) 3 F dX12_narrows_194 rfl rfl rfl ?_
                  refine g_ialdN (nx := 196) (i) ((nwL s L M (σ 185) (σ 186) i).2.1 i) F dX12_narrows_195 rfl rfl (by omega) (rfl) ?_
                  refine g_icmp_ge (nx := 199) 204 F dX12_narrows_196 rfl (by decide) (fun c_196 => ?_) (fun c_196 => ?_)
                  · refine g_aload_n (nx := 205) 0 F dX12_narrows_204 rfl rfl rfl ?_
                    refine g_getR (nx := 208) F dX12_narrows_205 rfl fl_RX12_131 rfl (by decide) (by decide) rfl ?_
                    refine g_iload_n (nx := 209) 3 F dX12_narrows_208 rfl rfl rfl ?_
                    refine g_ialdN (nx := 210) (i) ((nwL s L M (σ 185) (σ 186) i).2.1 i) F dX12_narrows_209 rfl rfl (by omega) (rfl) ?_
                    refine g_iastN (nx := 211) (i) F dX12_narrows_210 rfl rfl (by omega) ?_
                    refine g_iinc (nx := 214) (1) F dX12_narrows_211 rfl rfl (by decide) (by decide) ?_
                    try dsimp only [List.set]
                    refine g_goto 4 F dX12_narrows_214 (by decide) ?_
                    rw [nI_1]
                    refine g_st _ ?_ (hh _ _ _)
                    rw [zs_zu2 _ (show (185 : Nat) ≠ 186 by decide), zs_zu, zs_zu]
                    unfold leV moV
                    first
                      | rw [if_pos (not_le_I.mp c_168), if_pos (not_le_I.mp c_196)]
                      | rw [if_pos (not_le_I.mp c_168), if_neg (not_lt_I.mpr c_196)]
                      | rw [if_neg (not_lt_I.mpr c_168), if_pos (not_le_I.mp c_196)]
                      | rw [if_neg (not_lt_I.mpr c_168), if_neg (not_lt_I.mpr c_196)]
                  · refine g_iload (nx := 201) F dX12_narrows_199 rfl rfl ?_
                    refine g_goto 210 F dX12_narrows_201 (by decide) ?_
                    refine g_iastN (nx := 211) (i) F dX12_narrows_210 rfl rfl (by omega) ?_
                    refine g_iinc (nx := 214) (1) F dX12_narrows_211 rfl rfl (by decide) (by decide) ?_
                    try dsimp only [List.set]
                    refine g_goto 4 F dX12_narrows_214 (by decide) ?_
                    rw [nI_1]
                    refine g_st _ ?_ (hh _ _ _)
                    rw [zs_zu2 _ (show (185 : Nat) ≠ 186 by decide), zs_zu, zs_zu]
                    unfold leV moV
                    first
                      | rw [if_pos (not_le_I.mp c_168), if_pos (not_le_I.mp c_196)]
                      | rw [if_pos (not_le_I.mp c_168), if_neg (not_lt_I.mpr c_196)]
                      | rw [if_neg (not_lt_I.mpr c_168), if_pos (not_le_I.mp c_196)]
                      | rw [if_neg (not_lt_I.mpr c_168), if_neg (not_lt_I.mpr c_196)]
                · refine g_iload (nx := 173) F dX12_narrows_171 rfl rfl ?_
                  refine g_goto 182 F dX12_narrows_173 (by decide) ?_
                  refine g_iastN (nx := 183) (i) F dX12_narrows_182 rfl rfl (by omega) ?_
                  refine g_aload_n (nx := 184) 0 F dX12_narrows_183 rfl rfl rfl ?_
                  refine g_getR (nx := 187) F dX12_narrows_184 rfl fl_RX12_131 rfl (by decide) (by decide) rfl ?_
                  refine g_iload_n (nx := 188) 3 F dX12_narrows_187 rfl rfl rfl ?_
                  refine g_iload (nx := 190) F dX12_narrows_188 rfl rfl ?_
                  refine g_aload_n (nx := 191) 0 F dX12_narrows_190 rfl rfl rfl ?_
                  refine g_getR (nx := 194) F dX12_narrows_191 rfl fl_RX12_131 rfl (by decide) (by decide) rfl ?_
                  refine g_iload_n (nx := 195) 3 F dX12_narrows_194 rfl rfl rfl ?_
                  refine g_ialdN (nx := 196) (i) ((nwL s L M (σ 185) (σ 186) i).2.1 i) F dX12_narrows_195 rfl rfl (by omega) (rfl) ?_
                  refine g_icmp_ge (nx := 199) 204 F dX12_narrows_196 rfl (by decide) (fun c_196 => ?_) (fun c_196 => ?_)
                  · refine g_aload_n (nx := 205) 0 F dX12_narrows_204 rfl rfl rfl ?_
                    refine g_getR (nx := 208) F dX12_narrows_205 rfl fl_RX12_131 rfl (by decide) (by decide) rfl ?_
                    refine g_iload_n (nx := 209) 3 F dX12_narrows_208 rfl rfl rfl ?_
                    refine g_ialdN (nx := 210) (i) ((nwL s L M (σ 185) (σ 186) i).2.1 i) F dX12_narrows_209 rfl rfl (by omega) (rfl) ?_
                    refine g_iastN (nx := 211) (i) F dX12_narrows_210 rfl rfl (by omega) ?_
                    refine g_iinc (nx := 214) (1) F dX12_narrows_211 rfl rfl (by decide) (by decide) ?_
                    try dsimp only [List.set]
                    refine g_goto 4 F dX12_narrows_214 (by decide) ?_
                    rw [nI_1]
                    refine g_st _ ?_ (hh _ _ _)
                    rw [zs_zu2 _ (show (185 : Nat) ≠ 186 by decide), zs_zu, zs_zu]
                    unfold leV moV
                    first
                      | rw [if_pos (not_le_I.mp c_168), if_pos (not_le_I.mp c_196)]
                      | rw [if_pos (not_le_I.mp c_168), if_neg (not_lt_I.mpr c_196)]
                      | rw [if_neg (not_lt_I.mpr c_168), if_pos (not_le_I.mp c_196)]
                      | rw [if_neg (not_lt_I.mpr c_168), if_neg (not_lt_I.mpr c_196)]
                  · refine g_iload (nx := 201) F dX12_narrows_199 rfl rfl ?_
                    refine g_goto 210 F dX12_narrows_201 (by decide) ?_
                    refine g_iastN (nx := 211) (i) F dX12_narrows_210 rfl rfl (by omega) ?_
                    refine g_iinc (nx := 214) (1) F dX12_narrows_211 rfl rfl (by decide) (by decide) ?_
                    try dsimp only [List.set]
                    refine g_goto 4 F dX12_narrows_214 (by decide) ?_
                    rw [nI_1]
                    refine g_st _ ?_ (hh _ _ _)
                    rw [zs_zu2 _ (show (185 : Nat) ≠ 186 by decide), zs_zu, zs_zu]
                    unfold leV moV
                    first
                      | rw [if_pos (not_le_I.mp c_168), if_pos (not_le_I.mp c_196)]
                      | rw [if_pos (not_le_I.mp c_168), if_neg (not_lt_I.mpr c_196)]
                      | rw [if_neg (not_lt_I.mpr c_168), if_pos (not_le_I.mp c_196)]
                      | rw [if_neg (not_lt_I.mpr c_168), if_neg (not_lt_I.mpr c_196)]
              · refine g_iload (nx := 140) F dX12_narrows_138 rfl rfl ?_
                refine g_aload_n (nx := 141) 0 F dX12_narrows_140 rfl rfl rfl ?_
                refine g_getR (nx := 144) F dX12_narrows_141 rfl fl_RX12_131 rfl (by decide) (by decide) rfl ?_
                refine g_iload_n (nx := 145) 3 F dX12_narrows_144 rfl rfl rfl ?_
                refine g_ialdN (nx := 146) (i) ((nwL s L M (σ 185) (σ 186) i).2.1 i) F dX12_narrows_145 rfl rfl (by omega) (rfl) ?_
                refine g_icmp_ge (nx := 149) 153 F dX12_narrows_146 rfl (by decide) (fun c_146 => ?_) (fun c_146 => ?_)
                · refine g_iconst (nx := 154) (0) F dX12_narrows_153 rfl rfl ?_
                  first
                    | (refine g_top (bI ((nwL s L M (σ 185) (σ 186) i).2.2.1 = true ∨ (nwL s L M (σ 185) (σ 186) i).1 i < (L - (smL s (nwL s L M (σ 185) (σ 186) i).2.1 10 - (nwL s L M (σ 185) (σ 186) i).2.1 i)) ∨ (M - (smL s (nwL s L M (σ 185) (σ 186) i).1 10 - (nwL s L M (σ 185) (σ 186) i).1 i)) < (nwL s L M (σ 185) (σ 186) i).2.1 i)) (bI_t (Or.inl (bI_n0.mp c_124))).symm ?_)
                    | (refine g_top (bI ((nwL s L M (σ 185) (σ 186) i).2.2.1 = true ∨ (nwL s L M (σ 185) (σ 186) i).1 i < (L - (smL s (nwL s L M (σ 185) (σ 186) i).2.1 10 - (nwL s L M (σ 185) (σ 186) i).2.1 i)) ∨ (M - (smL s (nwL s L M (σ 185) (σ 186) i).1 10 - (nwL s L M (σ 185) (σ 186) i).1 i)) < (nwL s L M (σ 185) (σ 186) i).2.1 i)) (bI_t (Or.inr (Or.inl c_135))).symm ?_)
                    | (refine g_top (bI ((nwL s L M (σ 185) (σ 186) i).2.2.1 = true ∨ (nwL s L M (σ 185) (σ 186) i).1 i < (L - (smL s (nwL s L M (σ 185) (σ 186) i).2.1 10 - (nwL s L M (σ 185) (σ 186) i).2.1 i)) ∨ (M - (smL s (nwL s L M (σ 185) (σ 186) i).1 10 - (nwL s L M (σ 185) (σ 186) i).1 i)) < (nwL s L M (σ 185) (σ 186) i).2.1 i)) (bI_t (Or.inr (Or.inr (not_le_I.mp c_146)))).symm ?_)
                    | (refine g_top (bI ((nwL s L M (σ 185) (σ 186) i).2.2.1 = true ∨ (nwL s L M (σ 185) (σ 186) i).1 i < (L - (smL s (nwL s L M (σ 185) (σ 186) i).2.1 10 - (nwL s L M (σ 185) (σ 186) i).2.1 i)) ∨ (M - (smL s (nwL s L M (σ 185) (σ 186) i).1 10 - (nwL s L M (σ 185) (σ 186) i).1 i)) < (nwL s L M (σ 185) (σ 186) i).2.1 i)) (bI_f (by rintro (z | z | z); exact bI_0.mp c_124 z; exact c_135 z; exact absurd z (not_lt_I.mpr c_146))).symm ?_)
                  refine g_istore_n (nx := 155) 2 F dX12_narrows_154 rfl rfl (by decide) ?_
                  try dsimp only [List.set]
                  refine g_aload_n (nx := 156) 0 F dX12_narrows_155 rfl rfl rfl ?_
                  refine g_getR (nx := 159) F dX12_narrows_156 rfl fl_RX12_128 rfl (by decide) (by decide) rfl ?_
                  refine g_iload_n (nx := 160) 3 F dX12_narrows_159 rfl rfl rfl ?_
                  refine g_iload (nx := 162) F dX12_narrows_160 rfl rfl ?_
                  refine g_aload_n (nx := 163) 0 F dX12_narrows_162 rfl rfl rfl ?_
                  refine g_getR (nx := 166) F dX12_narrows_163 rfl fl_RX12_128 rfl (by decide) (by decide) rfl ?_
                  refine g_iload_n (nx := 167) 3 F dX12_narrows_166 rfl rfl rfl ?_
                  refine g_ialdN (nx := 168) (i) ((nwL s L M (σ 185) (σ 186) i).1 i) F dX12_narrows_167 rfl rfl (by omega) (rfl) ?_
                  refine g_icmp_le (nx := 171) 176 F dX12_narrows_168 rfl (by decide) (fun c_168 => ?_) (fun c_168 => ?_)
                  · refine g_aload_n (nx := 177) 0 F dX12_narrows_176 rfl rfl rfl ?_
                    refine g_getR (nx := 180) F dX12_narrows_177 rfl fl_RX12_128 rfl (by decide) (by decide) rfl ?_
                    refine g_iload_n (nx := 181) 3 F dX12_narrows_180 rfl rfl rfl ?_
                    refine g_ialdN (nx := 182) (i) ((nwL s L M (σ 185) (σ 186) i).1 i) F dX12_narrows_181 rfl rfl (by omega) (rfl) ?_
                    refine g_iastN (nx := 183) (i) F dX12_narrows_182 rfl rfl (by omega) ?_
                    refine g_aload_n (nx := 184) 0 F dX12_narrows_183 rfl rfl rfl ?_
                    refine g_getR (nx := 187) F dX12_narrows_184 rfl fl_RX12_131 rfl (by decide) (by decide) rfl ?_
                    refine g_iload_n (nx := 188) 3 F dX12_narrows_187 rfl rfl rfl ?_
                    refine g_iload (nx := 190) F dX12_narrows_188 rfl rfl ?_
                    refine g_aload_n (nx := 191) 0 F dX12_narrows_190 rfl rfl rfl ?_
                    refine g_getR (nx := 194) F dX12_narrows_191 rfl fl_RX12_131 rfl (by decide) (by decide) rfl ?_
                    refine g_iload_n (nx := 195) 3 F dX12_narrows_194 rfl rfl rfl ?_
                    refine g_ialdN (nx := 196) (i) ((nwL s L M (σ 185) (σ 186) i).2.1 i) F dX12_narrows_195 rfl rfl (by omega) (rfl) ?_
                    refine g_icmp_ge (nx := 199) 204 F dX12_narrows_196 rfl (by decide) (fun c_196 => ?_) (fun c_196 => ?_)
                    · refine g_aload_n (nx := 205) 0 F dX12_narrows_204 rfl rfl rfl ?_
                      refine g_getR (nx := 208) F dX12_narrows_205 rfl fl_RX12_131 rfl (by decide) (by decide) rfl ?_
                      refine g_iload_n (nx := 209) 3 F dX12_narrows_208 rfl rfl rfl ?_
                      refine g_ialdN (nx := 210) (i) ((nwL s L M (σ 185) (σ 186) i).2.1 i) F dX12_narrows_209 rfl rfl (by omega) (rfl) ?_
                      refine g_iastN (nx := 211) (i) F dX12_narrows_210 rfl rfl (by omega) ?_
                      refine g_iinc (nx := 214) (1) F dX12_narrows_211 rfl rfl (by decide) (by decide) ?_
                      try dsimp only [List.set]
                      refine g_goto 4 F dX12_narrows_214 (by decide) ?_
                      rw [nI_1]
                      refine g_st _ ?_ (hh _ _ _)
                      rw [zs_zu2 _ (show (185 : Nat) ≠ 186 by decide), zs_zu, zs_zu]
                      unfold leV moV
                      first
                        | rw [if_pos (not_le_I.mp c_168), if_pos (not_le_I.mp c_196)]
                        | rw [if_pos (not_le_I.mp c_168), if_neg (not_lt_I.mpr c_196)]
                        | rw [if_neg (not_lt_I.mpr c_168), if_pos (not_le_I.mp c_196)]
                        | rw [if_neg (not_lt_I.mpr c_168), if_neg (not_lt_I.mpr c_196)]
                    · refine g_iload (nx := 201) F dX12_narrows_199 rfl rfl ?_
                      refine g_goto 210 F dX12_narrows_201 (by decide) ?_
                      refine g_iastN (nx := 211) (i) F dX12_narrows_210 rfl rfl (by omega) ?_
                      refine g_iinc (nx := 214) (1) F dX12_narrows_211 rfl rfl (by decide) (by decide) ?_
                      try dsimp only [List.set]
                      refine g_goto 4 F dX12_narrows_214 (by decide) ?_
                      rw [nI_1]
                      refine g_st _ ?_ (hh _ _ _)
                      rw [zs_zu2 _ (show (185 : Nat) ≠ 186 by decide), zs_zu, zs_zu]
                      unfold leV moV
                      first
                        | rw [if_pos (not_le_I.mp c_168), if_pos (not_le_I.mp c_196)]
                        | rw [if_pos (not_le_I.mp c_168), if_neg (not_lt_I.mpr c_196)]
                        | rw [if_neg (not_lt_I.mpr c_168), if_pos (not_le_I.mp c_196)]
                        | rw [if_neg (not_lt_I.mpr c_168), if_neg (not_lt_I.mpr c_196)]
                  · refine g_iload (nx := 173) F dX12_narrows_171 rfl rfl ?_
                    refine g_goto 182 F dX12_narrows_173 (by decide) ?_
                    refine g_iastN (nx := 183) (i) F dX12_narrows_182 rfl rfl (by omega) ?_
                    refine g_aload_n (nx := 184) 0 F dX12_narrows_183 rfl rfl rfl ?_
                    refine g_getR (nx := 187) F dX12_narrows_184 rfl fl_RX12_131 rfl (by decide) (by decide) rfl ?_
                    refine g_iload_n (nx := 188) 3 F dX12_narrows_187 rfl rfl rfl ?_
                    refine g_iload (nx := 190) F dX12_narrows_188 rfl rfl ?_
                    refine g_aload_n (nx := 191) 0 F dX12_narrows_190 rfl rfl rfl ?_
                    refine g_getR (nx := 194) F dX12_narrows_191 rfl fl_RX12_131 rfl (by decide) (by decide) rfl ?_
                    refine g_iload_n (nx := 195) 3 F dX12_narrows_194 rfl rfl rfl ?_
                    refine g_ialdN (nx := 196) (i) ((nwL s L M (σ 185) (σ 186) i).2.1 i) F dX12_narrows_195 rfl rfl (by omega) (rfl) ?_
                    refine g_icmp_ge (nx := 199) 204 F dX12_narrows_196 rfl (by decide) (fun c_196 => ?_) (fun c_196 => ?_)
                    · refine g_aload_n (nx := 205) 0 F dX12_narrows_204 rfl rfl rfl ?_
                      refine g_getR (nx := 208) F dX12_narrows_205 rfl fl_RX12_131 rfl (by decide) (by decide) rfl ?_
                      refine g_iload_n (nx := 209) 3 F dX12_narrows_208 rfl rfl rfl ?_
                      refine g_ialdN (nx := 210) (i) ((nwL s L M (σ 185) (σ 186) i).2.1 i) F dX12_narrows_209 rfl rfl (by omega) (rfl) ?_
                      refine g_iastN (nx := 211) (i) F dX12_narrows_210 rfl rfl (by omega) ?_
                      refine g_iinc (nx := 214) (1) F dX12_narrows_211 rfl rfl (by decide) (by decide) ?_
                      try dsimp only [List.set]
                      refine g_goto 4 F dX12_narrows_214 (by decide) ?_
                      rw [nI_1]
                      refine g_st _ ?_ (hh _ _ _)
                      rw [zs_zu2 _ (show (185 : Nat) ≠ 186 by decide), zs_zu, zs_zu]
                      unfold leV moV
                      first
                        | rw [if_pos (not_le_I.mp c_168), if_pos (not_le_I.mp c_196)]
                        | rw [if_pos (not_le_I.mp c_168), if_neg (not_lt_I.mpr c_196)]
                        | rw [if_neg (not_lt_I.mpr c_168), if_pos (not_le_I.mp c_196)]
                        | rw [if_neg (not_lt_I.mpr c_168), if_neg (not_lt_I.mpr c_196)]
                    · refine g_iload (nx := 201) F dX12_narrows_199 rfl rfl ?_
                      refine g_goto 210 F dX12_narrows_201 (by decide) ?_
                      refine g_iastN (nx := 211) (i) F dX12_narrows_210 rfl rfl (by omega) ?_
                      refine g_iinc (nx := 214) (1) F dX12_narrows_211 rfl rfl (by decide) (by decide) ?_
                      try dsimp only [List.set]
                      refine g_goto 4 F dX12_narrows_214 (by decide) ?_
                      rw [nI_1]
                      refine g_st _ ?_ (hh _ _ _)
                      rw [zs_zu2 _ (show (185 : Nat) ≠ 186 by decide), zs_zu, zs_zu]
                      unfold leV moV
                      first
                        | rw [if_pos (not_le_I.mp c_168), if_pos (not_le_I.mp c_196)]
                        | rw [if_pos (not_le_I.mp c_168), if_neg (not_lt_I.mpr c_196)]
                        | rw [if_neg (not_lt_I.mpr c_168), if_pos (not_le_I.mp c_196)]
                        | rw [if_neg (not_lt_I.mpr c_168), if_neg (not_lt_I.mpr c_196)]
                · refine g_iconst (nx := 150) (1) F dX12_narrows_149 rfl rfl ?_
                  refine g_goto 154 F dX12_narrows_150 (by decide) ?_
                  first
                    | (refine g_top (bI ((nwL s L M (σ 185) (σ 186) i).2.2.1 = true ∨ (nwL s L M (σ 185) (σ 186) i).1 i < (L - (smL s (nwL s L M (σ 185) (σ 186) i).2.1 10 - (nwL s L M (σ 185) (σ 186) i).2.1 i)) ∨ (M - (smL s (nwL s L M (σ 185) (σ 186) i).1 10 - (nwL s L M (σ 185) (σ 186) i).1 i)) < (nwL s L M (σ 185) (σ 186) i).2.1 i)) (bI_t (Or.inl (bI_n0.mp c_124))).symm ?_)
                    | (refine g_top (bI ((nwL s L M (σ 185) (σ 186) i).2.2.1 = true ∨ (nwL s L M (σ 185) (σ 186) i).1 i < (L - (smL s (nwL s L M (σ 185) (σ 186) i).2.1 10 - (nwL s L M (σ 185) (σ 186) i).2.1 i)) ∨ (M - (smL s (nwL s L M (σ 185) (σ 186) i).1 10 - (nwL s L M (σ 185) (σ 186) i).1 i)) < (nwL s L M (σ 185) (σ 186) i).2.1 i)) (bI_t (Or.inr (Or.inl c_135))).symm ?_)
                    | (refine g_top (bI ((nwL s L M (σ 185) (σ 186) i).2.2.1 = true ∨ (nwL s L M (σ 185) (σ 186) i).1 i < (L - (smL s (nwL s L M (σ 185) (σ 186) i).2.1 10 - (nwL s L M (σ 185) (σ 186) i).2.1 i)) ∨ (M - (smL s (nwL s L M (σ 185) (σ 186) i).1 10 - (nwL s L M (σ 185) (σ 186) i).1 i)) < (nwL s L M (σ 185) (σ 186) i).2.1 i)) (bI_t (Or.inr (Or.inr (not_le_I.mp c_146)))).symm ?_)
                    | (refine g_top (bI ((nwL s L M (σ 185) (σ 186) i).2.2.1 = true ∨ (nwL s L M (σ 185) (σ 186) i).1 i < (L - (smL s (nwL s L M (σ 185) (σ 186) i).2.1 10 - (nwL s L M (σ 185) (σ 186) i).2.1 i)) ∨ (M - (smL s (nwL s L M (σ 185) (σ 186) i).1 10 - (nwL s L M (σ 185) (σ 186) i).1 i)) < (nwL s L M (σ 185) (σ 186) i).2.1 i)) (bI_f (by rintro (z | z | z); exact bI_0.mp c_124 z; exact c_135 z; exact absurd z (not_lt_I.mpr c_146))).symm ?_)
                  refine g_istore_n (nx := 155) 2 F dX12_narrows_154 rfl rfl (by decide) ?_
                  try dsimp only [List.set]
                  refine g_aload_n (nx := 156) 0 F dX12_narrows_155 rfl rfl rfl ?_
                  refine g_getR (nx := 159) F dX12_narrows_156 rfl fl_RX12_128 rfl (by decide) (by decide) rfl ?_
                  refine g_iload_n (nx := 160) 3 F dX12_narrows_159 rfl rfl rfl ?_
                  refine g_iload (nx := 162) F dX12_narrows_160 rfl rfl ?_
                  refine g_aload_n (nx := 163) 0 F dX12_narrows_162 rfl rfl rfl ?_
                  refine g_getR (nx := 166) F dX12_narrows_163 rfl fl_RX12_128 rfl (by decide) (by decide) rfl ?_
                  refine g_iload_n (nx := 167) 3 F dX12_narrows_166 rfl rfl rfl ?_
                  refine g_ialdN (nx := 168) (i) ((nwL s L M (σ 185) (σ 186) i).1 i) F dX12_narrows_167 rfl rfl (by omega) (rfl) ?_
                  refine g_icmp_le (nx := 171) 176 F dX12_narrows_168 rfl (by decide) (fun c_168 => ?_) (fun c_168 => ?_)
                  · refine g_aload_n (nx := 177) 0 F dX12_narrows_176 rfl rfl rfl ?_
                    refine g_getR (nx := 180) F dX12_narrows_177 rfl fl_RX12_128 rfl (by decide) (by decide) rfl ?_
                    refine g_iload_n (nx := 181) 3 F dX12_narrows_180 rfl rfl rfl ?_
                    refine g_ialdN (nx := 182) (i) ((nwL s L M (σ 185) (σ 186) i).1 i) F dX12_narrows_181 rfl rfl (by omega) (rfl) ?_
                    refine g_iastN (nx := 183) (i) F dX12_narrows_182 rfl rfl (by omega) ?_
                    refine g_aload_n (nx := 184) 0 F dX12_narrows_183 rfl rfl rfl ?_
                    refine g_getR (nx := 187) F dX12_narrows_184 rfl fl_RX12_131 rfl (by decide) (by decide) rfl ?_
                    refine g_iload_n (nx := 188) 3 F dX12_narrows_187 rfl rfl rfl ?_
                    refine g_iload (nx := 190) F dX12_narrows_188 rfl rfl ?_
                    refine g_aload_n (nx := 191) 0 F dX12_narrows_190 rfl rfl rfl ?_
                    refine g_getR (nx := 194) F dX12_narrows_191 rfl fl_RX12_131 rfl (by decide) (by decide) rfl ?_
                    refine g_iload_n (nx := 195) 3 F dX12_narrows_194 rfl rfl rfl ?_
                    refine g_ialdN (nx := 196) (i) ((nwL s L M (σ 185) (σ 186) i).2.1 i) F dX12_narrows_195 rfl rfl (by omega) (rfl) ?_
                    refine g_icmp_ge (nx := 199) 204 F dX12_narrows_196 rfl (by decide) (fun c_196 => ?_) (fun c_196 => ?_)
                    · refine g_aload_n (nx := 205) 0 F dX12_narrows_204 rfl rfl rfl ?_
                      refine g_getR (nx := 208) F dX12_narrows_205 rfl fl_RX12_131 rfl (by decide) (by decide) rfl ?_
                      refine g_iload_n (nx := 209) 3 F dX12_narrows_208 rfl rfl rfl ?_
                      refine g_ialdN (nx := 210) (i) ((nwL s L M (σ 185) (σ 186) i).2.1 i) F dX12_narrows_209 rfl rfl (by omega) (rfl) ?_
                      refine g_iastN (nx := 211) (i) F dX12_narrows_210 rfl rfl (by omega) ?_
                      refine g_iinc (nx := 214) (1) F dX12_narrows_211 rfl rfl (by decide) (by decide) ?_
                      try dsimp only [List.set]
                      refine g_goto 4 F dX12_narrows_214 (by decide) ?_
                      rw [nI_1]
                      refine g_st _ ?_ (hh _ _ _)
                      rw [zs_zu2 _ (show (185 : Nat) ≠ 186 by decide), zs_zu, zs_zu]
                      unfold leV moV
                      first
                        | rw [if_pos (not_le_I.mp c_168), if_pos (not_le_I.mp c_196)]
                        | rw [if_pos (not_le_I.mp c_168), if_neg (not_lt_I.mpr c_196)]
                        | rw [if_neg (not_lt_I.mpr c_168), if_pos (not_le_I.mp c_196)]
                        | rw [if_neg (not_lt_I.mpr c_168), if_neg (not_lt_I.mpr c_196)]
                    · refine g_iload (nx := 201) F dX12_narrows_199 rfl rfl ?_
                      refine g_goto 210 F dX12_narrows_201 (by decide) ?_
                      refine g_iastN (nx := 211) (i) F dX12_narrows_210 rfl rfl (by omega) ?_
                      refine g_iinc (nx := 214) (1) F dX12_narrows_211 rfl rfl (by decide) (by decide) ?_
                      try dsimp only [List.set]
                      refine g_goto 4 F dX12_narrows_214 (by decide) ?_
                      rw [nI_1]
                      refine g_st _ ?_ (hh _ _ _)
                      rw [zs_zu2 _ (show (185 : Nat) ≠ 186 by decide), zs_zu, zs_zu]
                      unfold leV moV
                      first
                        | rw [if_pos (not_le_I.mp c_168), if_pos (not_le_I.mp c_196)]
                        | rw [if_pos (not_le_I.mp c_168), if_neg (not_lt_I.mpr c_196)]
                        | rw [if_neg (not_lt_I.mpr c_168), if_pos (not_le_I.mp c_196)]
                        | rw [if_neg (not_lt_I.mpr c_168), if_neg (not_lt_I.mpr c_196)]
                  · refine g_iload (nx := 173) F dX12_narrows_171 rfl rfl ?_
                    refine g_goto 182 F dX12_narrows_173 (by decide) ?_
                    refine g_iastN (nx := 183) (i) F dX12_narrows_182 rfl rfl (by omega) ?_
                    refine g_aload_n (nx := 184) 0 F dX12_narrows_183 rfl rfl rfl ?_
                    refine g_getR (nx := 187) F dX12_narrows_184 rfl fl_RX12_131 rfl (by decide) (by decide) rfl ?_
                    refine g_iload_n (nx := 188) 3 F dX12_narrows_187 rfl rfl rfl ?_
                    refine g_iload (nx := 190) F dX12_narrows_188 rfl rfl ?_
                    refine g_aload_n (nx := 191) 0 F dX12_narrows_190 rfl rfl rfl ?_
                    refine g_getR (nx := 194) F dX12_narrows_191 rfl fl_RX12_131 rfl (by decide) (by decide) rfl ?_
                    refine g_iload_n (nx := 195) 3 F dX12_narrows_194 rfl rfl rfl ?_
                    refine g_ialdN (nx := 196) (i) ((nwL s L M (σ 185) (σ 186) i).2.1 i) F dX12_narrows_195 rfl rfl (by omega) (rfl) ?_
                    refine g_icmp_ge (nx := 199) 204 F dX12_narrows_196 rfl (by decide) (fun c_196 => ?_) (fun c_196 => ?_)
                    · refine g_aload_n (nx := 205) 0 F dX12_narrows_204 rfl rfl rfl ?_
                      refine g_getR (nx := 208) F dX12_narrows_205 rfl fl_RX12_131 rfl (by decide) (by decide) rfl ?_
                      refine g_iload_n (nx := 209) 3 F dX12_narrows_208 rfl rfl rfl ?_
                      refine g_ialdN (nx := 210) (i) ((nwL s L M (σ 185) (σ 186) i).2.1 i) F dX12_narrows_209 rfl rfl (by omega) (rfl) ?_
                      refine g_iastN (nx := 211) (i) F dX12_narrows_210 rfl rfl (by omega) ?_
                      refine g_iinc (nx := 214) (1) F dX12_narrows_211 rfl rfl (by decide) (by decide) ?_
                      try dsimp only [List.set]
                      refine g_goto 4 F dX12_narrows_214 (by decide) ?_
                      rw [nI_1]
                      refine g_st _ ?_ (hh _ _ _)
                      rw [zs_zu2 _ (show (185 : Nat) ≠ 186 by decide), zs_zu, zs_zu]
                      unfold leV moV
                      first
                        | rw [if_pos (not_le_I.mp c_168), if_pos (not_le_I.mp c_196)]
                        | rw [if_pos (not_le_I.mp c_168), if_neg (not_lt_I.mpr c_196)]
                        | rw [if_neg (not_lt_I.mpr c_168), if_pos (not_le_I.mp c_196)]
                        | rw [if_neg (not_lt_I.mpr c_168), if_neg (not_lt_I.mpr c_196)]
                    · refine g_iload (nx := 201) F dX12_narrows_199 rfl rfl ?_
                      refine g_goto 210 F dX12_narrows_201 (by decide) ?_
                      refine g_iastN (nx := 211) (i) F dX12_narrows_210 rfl rfl (by omega) ?_
                      refine g_iinc (nx := 214) (1) F dX12_narrows_211 rfl rfl (by decide) (by decide) ?_
                      try dsimp only [List.set]
                      refine g_goto 4 F dX12_narrows_214 (by decide) ?_
                      rw [nI_1]
                      refine g_st _ ?_ (hh _ _ _)
                      rw [zs_zu2 _ (show (185 : Nat) ≠ 186 by decide), zs_zu, zs_zu]
                      unfold leV moV
                      first
                        | rw [if_pos (not_le_I.mp c_168), if_pos (not_le_I.mp c_196)]
                        | rw [if_pos (not_le_I.mp c_168), if_neg (not_lt_I.mpr c_196)]
                        | rw [if_neg (not_lt_I.mpr c_168), if_pos (not_le_I.mp c_196)]
                        | rw [if_neg (not_lt_I.mpr c_168), if_neg (not_lt_I.mpr c_196)]
          | succ r ihr =>
            intro q hq
            have h2 := ihr (q + 1) (by omega)
            by_cases hqi : q = i
            · rw [smE, smE, if_neg (fun z => z.1 hqi), if_neg (fun z => z.1 hqi)] at h2
              refine g_iload (nx := 63) F dX12_narrows_61 rfl rfl ?_
              refine g_aload_n (nx := 64) 0 F dX12_narrows_63 rfl rfl rfl ?_
              refine g_getV (nx := 67) (nI c) F dX12_narrows_64 rfl fl_RX12_165 rfl (by decide) (by decide) rfl rfl (hc) ?_
              refine g_icmp_ge (nx := 70) 123 F dX12_narrows_67 rfl (by decide) (fun c_67 => absurd c_67 (by exact nI_ge (by omega) (by omega))) (fun c_67 => ?_)
              refine g_iload (nx := 72) F dX12_narrows_70 rfl rfl ?_
              refine g_iload_n (nx := 73) 3 F dX12_narrows_72 rfl rfl rfl ?_
              refine g_icmp_eq (nx := 76) 117 F dX12_narrows_73 rfl (by decide) (fun c_73 => ?_) (fun c_73 => absurd c_73 (by exact fun zq => zq (by rw [hqi])))
              refine g_iinc (nx := 120) (1) F dX12_narrows_117 rfl rfl (by decide) (by decide) ?_
              try dsimp only [List.set]
              refine g_goto 61 F dX12_narrows_120 (by decide) ?_
              rw [nI_1]
              exact h2
            · by_cases hbq : s / 2 ^ q % 2 = 1
              · rw [smE, smE, if_pos ⟨hqi, hbq⟩, if_pos ⟨hqi, hbq⟩, ← sub_sub_I, ← sub_sub_I] at h2
                refine g_iload (nx := 63) F dX12_narrows_61 rfl rfl ?_
                refine g_aload_n (nx := 64) 0 F dX12_narrows_63 rfl rfl rfl ?_
                refine g_getV (nx := 67) (nI c) F dX12_narrows_64 rfl fl_RX12_165 rfl (by decide) (by decide) rfl rfl (hc) ?_
                refine g_icmp_ge (nx := 70) 123 F dX12_narrows_67 rfl (by decide) (fun c_67 => absurd c_67 (by exact nI_ge (by omega) (by omega))) (fun c_67 => ?_)
                refine g_iload (nx := 72) F dX12_narrows_70 rfl rfl ?_
                refine g_iload_n (nx := 73) 3 F dX12_narrows_72 rfl rfl rfl ?_
                refine g_icmp_eq (nx := 76) 117 F dX12_narrows_73 rfl (by decide) (fun c_73 => absurd c_73 (by exact fun zq => hqi ((nI_eq (by omega) (by omega)).mp zq))) (fun c_73 => ?_)
                refine g_aload_n (nx := 77) 0 F dX12_narrows_76 rfl rfl rfl ?_
                refine g_getR (nx := 80) F dX12_narrows_77 rfl fl_RX12_113 rfl (by decide) (by decide) rfl ?_
                refine g_iload_n (nx := 81) 1 F dX12_narrows_80 rfl rfl rfl ?_
                refine g_ialdN (nx := 82) (g) (nI s) F dX12_narrows_81 rfl rfl (by omega) (hs0) ?_
                refine g_iload (nx := 84) F dX12_narrows_82 rfl rfl ?_
                refine g_ishr (nx := 85) F dX12_narrows_84 rfl ?_
                refine g_iconst (nx := 86) (1) F dX12_narrows_85 rfl rfl ?_
                refine g_iand (nx := 87) F dX12_narrows_86 rfl ?_
                rw [bit_ok s hs1 q (by omega)]
                refine g_if_ne (nx := 90) 93 F dX12_narrows_87 rfl (by decide) (fun c_87 => ?_) (fun c_87 => absurd c_87 (by exact fun zq => absurd zq (by rw [hbq]; decide)))
                refine g_iload (nx := 95) F dX12_narrows_93 rfl rfl ?_
                refine g_aload_n (nx := 96) 0 F dX12_narrows_95 rfl rfl rfl ?_
                refine g_getR (nx := 99) F dX12_narrows_96 rfl fl_RX12_131 rfl (by decide) (by decide) rfl ?_
                refine g_iload (nx := 101) F dX12_narrows_99 rfl rfl ?_
                refine g_ialdN (nx := 102) (q) ((nwL s L M (σ 185) (σ 186) i).2.1 q) F dX12_narrows_101 rfl rfl (by omega) (rfl) ?_
                refine g_isub (nx := 103) F dX12_narrows_102 rfl ?_
                refine g_istore (nx := 105) F dX12_narrows_103 rfl (by decide) ?_
                try dsimp only [List.set]
                refine g_iload (nx := 107) F dX12_narrows_105 rfl rfl ?_
                refine g_aload_n (nx := 108) 0 F dX12_narrows_107 rfl rfl rfl ?_
                refine g_getR (nx := 111) F dX12_narrows_108 rfl fl_RX12_128 rfl (by decide) (by decide) rfl ?_
                refine g_iload (nx := 113) F dX12_narrows_111 rfl rfl ?_
                refine g_ialdN (nx := 114) (q) ((nwL s L M (σ 185) (σ 186) i).1 q) F dX12_narrows_113 rfl rfl (by omega) (rfl) ?_
                refine g_isub (nx := 115) F dX12_narrows_114 rfl ?_
                refine g_istore (nx := 117) F dX12_narrows_115 rfl (by decide) ?_
                try dsimp only [List.set]
                refine g_iinc (nx := 120) (1) F dX12_narrows_117 rfl rfl (by decide) (by decide) ?_
                try dsimp only [List.set]
                refine g_goto 61 F dX12_narrows_120 (by decide) ?_
                rw [nI_1]
                exact h2
              · rw [smE, smE, if_neg (fun z => hbq z.2), if_neg (fun z => hbq z.2)] at h2
                refine g_iload (nx := 63) F dX12_narrows_61 rfl rfl ?_
                refine g_aload_n (nx := 64) 0 F dX12_narrows_63 rfl rfl rfl ?_
                refine g_getV (nx := 67) (nI c) F dX12_narrows_64 rfl fl_RX12_165 rfl (by decide) (by decide) rfl rfl (hc) ?_
                refine g_icmp_ge (nx := 70) 123 F dX12_narrows_67 rfl (by decide) (fun c_67 => absurd c_67 (by exact nI_ge (by omega) (by omega))) (fun c_67 => ?_)
                refine g_iload (nx := 72) F dX12_narrows_70 rfl rfl ?_
                refine g_iload_n (nx := 73) 3 F dX12_narrows_72 rfl rfl rfl ?_
                refine g_icmp_eq (nx := 76) 117 F dX12_narrows_73 rfl (by decide) (fun c_73 => absurd c_73 (by exact fun zq => hqi ((nI_eq (by omega) (by omega)).mp zq))) (fun c_73 => ?_)
                refine g_aload_n (nx := 77) 0 F dX12_narrows_76 rfl rfl rfl ?_
                refine g_getR (nx := 80) F dX12_narrows_77 rfl fl_RX12_113 rfl (by decide) (by decide) rfl ?_
                refine g_iload_n (nx := 81) 1 F dX12_narrows_80 rfl rfl rfl ?_
                refine g_ialdN (nx := 82) (g) (nI s) F dX12_narrows_81 rfl rfl (by omega) (hs0) ?_
                refine g_iload (nx := 84) F dX12_narrows_82 rfl rfl ?_
                refine g_ishr (nx := 85) F dX12_narrows_84 rfl ?_
                refine g_iconst (nx := 86) (1) F dX12_narrows_85 rfl rfl ?_
                refine g_iand (nx := 87) F dX12_narrows_86 rfl ?_
                rw [bit_ok s hs1 q (by omega)]
                refine g_if_ne (nx := 90) 93 F dX12_narrows_87 rfl (by decide) (fun c_87 => absurd c_87 (by exact fun zq => zq (by rw [show s / 2 ^ q % 2 = 0 by omega]; rfl))) (fun c_87 => ?_)
                refine g_goto 117 F dX12_narrows_90 (by decide) ?_
                refine g_iinc (nx := 120) (1) F dX12_narrows_117 rfl rfl (by decide) (by decide) ?_
                try dsimp only [List.set]
                refine g_goto 61 F dX12_narrows_120 (by decide) ?_
                rw [nI_1]
                exact h2
        refine g_iload_n (nx := 5) 3 F dX12_narrows_4 rfl rfl rfl ?_
        refine g_aload_n (nx := 6) 0 F dX12_narrows_5 rfl rfl rfl ?_
        refine g_getV (nx := 9) (nI c) F dX12_narrows_6 rfl fl_RX12_165 rfl (by decide) (by decide) rfl rfl (hc) ?_
        refine g_icmp_ge (nx := 12) 217 F dX12_narrows_9 rfl (by decide) (fun c_9 => absurd c_9 (by exact nI_ge (by omega) (by omega))) (fun c_9 => ?_)
        refine g_aload_n (nx := 13) 0 F dX12_narrows_12 rfl rfl rfl ?_
        refine g_getR (nx := 16) F dX12_narrows_13 rfl fl_RX12_113 rfl (by decide) (by decide) rfl ?_
        refine g_iload_n (nx := 17) 1 F dX12_narrows_16 rfl rfl rfl ?_
        refine g_ialdN (nx := 18) (g) (nI s) F dX12_narrows_17 rfl rfl (by omega) (hs0) ?_
        refine g_iload_n (nx := 19) 3 F dX12_narrows_18 rfl rfl rfl ?_
        refine g_ishr (nx := 20) F dX12_narrows_19 rfl ?_
        refine g_iconst (nx := 21) (1) F dX12_narrows_20 rfl rfl ?_
        refine g_iand (nx := 22) F dX12_narrows_21 rfl ?_
        rw [bit_ok s hs1 i (by omega)]
        refine g_if_ne (nx := 25) 28 F dX12_narrows_22 rfl (by decide) (fun c_22 => ?_) (fun c_22 => absurd c_22 (by exact fun zq => absurd zq (by rw [hb]; decide)))
        refine g_aload_n (nx := 29) 0 F dX12_narrows_28 rfl rfl rfl ?_
        refine g_getR (nx := 32) F dX12_narrows_29 rfl fl_RX12_116 rfl (by decide) (by decide) rfl ?_
        refine g_iload_n (nx := 33) 1 F dX12_narrows_32 rfl rfl rfl ?_
        refine g_ialdN (nx := 34) (g) (P) F dX12_narrows_33 rfl rfl (by omega) (hP) ?_
        refine g_aload_n (nx := 35) 0 F dX12_narrows_34 rfl rfl rfl ?_
        refine g_getR (nx := 38) F dX12_narrows_35 rfl fl_RX12_122 rfl (by decide) (by decide) rfl ?_
        refine g_iload_n (nx := 39) 1 F dX12_narrows_38 rfl rfl rfl ?_
        refine g_ialdN (nx := 40) (g) (b) F dX12_narrows_39 rfl rfl (by omega) (hb0) ?_
        refine g_isub (nx := 41) F dX12_narrows_40 rfl ?_
        rw [hL]
        refine g_istore (nx := 43) F dX12_narrows_41 rfl (by decide) ?_
        try dsimp only [List.set]
        refine g_aload_n (nx := 44) 0 F dX12_narrows_43 rfl rfl rfl ?_
        refine g_getR (nx := 47) F dX12_narrows_44 rfl fl_RX12_116 rfl (by decide) (by decide) rfl ?_
        refine g_iload_n (nx := 48) 1 F dX12_narrows_47 rfl rfl rfl ?_
        refine g_ialdN (nx := 49) (g) (P) F dX12_narrows_48 rfl rfl (by omega) (hP) ?_
        refine g_aload_n (nx := 50) 0 F dX12_narrows_49 rfl rfl rfl ?_
        refine g_getR (nx := 53) F dX12_narrows_50 rfl fl_RX12_119 rfl (by decide) (by decide) rfl ?_
        refine g_iload_n (nx := 54) 1 F dX12_narrows_53 rfl rfl rfl ?_
        refine g_ialdN (nx := 55) (g) (a) F dX12_narrows_54 rfl rfl (by omega) (ha0) ?_
        refine g_isub (nx := 56) F dX12_narrows_55 rfl ?_
        rw [hM]
        refine g_istore (nx := 58) F dX12_narrows_56 rfl (by decide) ?_
        try dsimp only [List.set]
        refine g_iconst (nx := 59) (0) F dX12_narrows_58 rfl rfl ?_
        refine g_istore (nx := 61) F dX12_narrows_59 rfl (by decide) ?_
        try dsimp only [List.set]
        have h3 := LQ c 0 (by omega)
        simp only [smE] at h3
        rw [show L - 0 = L from by grind, show M - 0 = M from by grind] at h3
        exact h3
      · have e0 : nwL s L M (σ 185) (σ 186) (i + 1) = (nwL s L M (σ 185) (σ 186) i) := by rw [nwL, if_neg hb]
        have hh := fun z1 z2 z3 => ih (i + 1) z1 z2 z3 (by omega)
        rw [e0] at hh
        refine g_iload_n (nx := 5) 3 F dX12_narrows_4 rfl rfl rfl ?_
        refine g_aload_n (nx := 6) 0 F dX12_narrows_5 rfl rfl rfl ?_
        refine g_getV (nx := 9) (nI c) F dX12_narrows_6 rfl fl_RX12_165 rfl (by decide) (by decide) rfl rfl (hc) ?_
        refine g_icmp_ge (nx := 12) 217 F dX12_narrows_9 rfl (by decide) (fun c_9 => absurd c_9 (by exact nI_ge (by omega) (by omega))) (fun c_9 => ?_)
        refine g_aload_n (nx := 13) 0 F dX12_narrows_12 rfl rfl rfl ?_
        refine g_getR (nx := 16) F dX12_narrows_13 rfl fl_RX12_113 rfl (by decide) (by decide) rfl ?_
        refine g_iload_n (nx := 17) 1 F dX12_narrows_16 rfl rfl rfl ?_
        refine g_ialdN (nx := 18) (g) (nI s) F dX12_narrows_17 rfl rfl (by omega) (hs0) ?_
        refine g_iload_n (nx := 19) 3 F dX12_narrows_18 rfl rfl rfl ?_
        refine g_ishr (nx := 20) F dX12_narrows_19 rfl ?_
        refine g_iconst (nx := 21) (1) F dX12_narrows_20 rfl rfl ?_
        refine g_iand (nx := 22) F dX12_narrows_21 rfl ?_
        rw [bit_ok s hs1 i (by omega)]
        refine g_if_ne (nx := 25) 28 F dX12_narrows_22 rfl (by decide) (fun c_22 => absurd c_22 (by exact fun zq => zq (by rw [show s / 2 ^ i % 2 = 0 by omega]; rfl))) (fun c_22 => ?_)
        refine g_goto 211 F dX12_narrows_25 (by decide) ?_
        refine g_iinc (nx := 214) (1) F dX12_narrows_211 rfl rfl (by decide) (by decide) ?_
        try dsimp only [List.set]
        refine g_goto 4 F dX12_narrows_214 (by decide) ?_
        rw [nI_1]
        exact hh _ _ _
  refine g_iconst (nx := 1) (0) F dX12_narrows_0 rfl rfl ?_
  refine g_istore_n (nx := 2) 2 F dX12_narrows_1 rfl rfl (by decide) ?_
  try dsimp only [List.set]
  refine g_iconst (nx := 3) (0) F dX12_narrows_2 rfl rfl ?_
  refine g_istore_n (nx := 4) 3 F dX12_narrows_3 rfl rfl (by decide) ?_
  try dsimp only [List.set]
  have hh := fun z1 z2 z3 => L2 c 0 z1 z2 z3 (by omega)
  rw [bI_f (show ¬ ((nwL s L M (σ 185) (σ 186) 0).2.2.1 = true) from by simp [nwL])] at hh
  refine g_st (zs (zs σ 185 (nwL s L M (σ 185) (σ 186) 0).1) 186 (nwL s L M (σ 185) (σ 186) 0).2.1) ?_ (hh _ _ _)
  show σ = zs (zs σ 185 (σ 185)) 186 (σ 186)
  rw [zs_id σ 185 _ rfl, zs_id σ 186 _ rfl]
set_option maxHeartbeats 4000000 in
set_option maxRecDepth 100000 in
theorem k_isTurnedOver (c : Nat) (σ : zSt) (hc10 : c ≤ 10) (hc : σ 145 1 = nI c) : Con mX12_isTurnedOver 0 [.ref 145] σ (fun r τ => r = some (.int (bI (∃ i, i < c ∧ σ 186 i < σ 185 i))) ∧ τ = σ) := by
  refine Con.of (lv := [.ref 145, .long 0]) mk_X12_isTurnedOver rfl (Nat.le_of_ble_eq_true rfl) rfl (fun X F E => ?_)
  have L2 : ∀ (q i : Nat), i + q = c → (∀ k, k < i → ¬ σ 186 k < σ 185 k) → Gs X 2 [.ref 145, .int (nI i)] [] σ := by
    intro q
    induction q with
    | zero =>
      intro i hi hk
      have hi : i = c := hi
      subst hi
      refine g_iload_n (nx := 3) 1 F dX12_isTurnedOver_2 rfl rfl rfl ?_
      refine g_aload_n (nx := 4) 0 F dX12_isTurnedOver_3 rfl rfl rfl ?_
      refine g_getV (nx := 7) (nI i) F dX12_isTurnedOver_4 rfl fl_RX12_165 rfl (by decide) (by decide) rfl rfl (hc) ?_
      refine g_icmp_ge (nx := 10) 33 F dX12_isTurnedOver_7 rfl (by decide) (fun c_7 => ?_) (fun c_7 => absurd c_7 (by exact fun zq => zq (nI_le (Nat.le_refl i) (by omega))))
      refine g_iconst (nx := 34) (0) F dX12_isTurnedOver_33 rfl rfl ?_
      refine g_zret F E dX12_isTurnedOver_34 (by first | rfl | assumption) ?_
      exact ⟨by rw [bI_f (by rintro ⟨k, k1, k2⟩; exact hk k k1 k2)], rfl⟩
    | succ q ih =>
      intro i hi hk
      refine g_iload_n (nx := 3) 1 F dX12_isTurnedOver_2 rfl rfl rfl ?_
      refine g_aload_n (nx := 4) 0 F dX12_isTurnedOver_3 rfl rfl rfl ?_
      refine g_getV (nx := 7) (nI c) F dX12_isTurnedOver_4 rfl fl_RX12_165 rfl (by decide) (by decide) rfl rfl (hc) ?_
      refine g_icmp_ge (nx := 10) 33 F dX12_isTurnedOver_7 rfl (by decide) (fun c_7 => absurd c_7 (by exact nI_ge (by omega) (by omega))) (fun c_7 => ?_)
      refine g_aload_n (nx := 11) 0 F dX12_isTurnedOver_10 rfl rfl rfl ?_
      refine g_getR (nx := 14) F dX12_isTurnedOver_11 rfl fl_RX12_128 rfl (by decide) (by decide) rfl ?_
      refine g_iload_n (nx := 15) 1 F dX12_isTurnedOver_14 rfl rfl rfl ?_
      refine g_ialdN (nx := 16) (i) (_) F dX12_isTurnedOver_15 rfl rfl (by omega) (rfl) ?_
      refine g_aload_n (nx := 17) 0 F dX12_isTurnedOver_16 rfl rfl rfl ?_
      refine g_getR (nx := 20) F dX12_isTurnedOver_17 rfl fl_RX12_131 rfl (by decide) (by decide) rfl ?_
      refine g_iload_n (nx := 21) 1 F dX12_isTurnedOver_20 rfl rfl rfl ?_
      refine g_ialdN (nx := 22) (i) (_) F dX12_isTurnedOver_21 rfl rfl (by omega) (rfl) ?_
      refine g_icmp_le (nx := 25) 27 F dX12_isTurnedOver_22 rfl (by decide) (fun c_22 => ?_) (fun c_22 => ?_)
      · refine g_iinc (nx := 30) (1) F dX12_isTurnedOver_27 rfl rfl (by decide) (by decide) ?_
        try dsimp only [List.set]
        refine g_goto 2 F dX12_isTurnedOver_30 (by decide) ?_
        rw [nI_1]
        refine ih (i + 1) (by omega) (fun k k1 => ?_)
        rcases Nat.lt_or_ge k i with z | z
        · exact hk k z
        · rw [show k = i by omega]
          exact not_lt_I.mpr c_22
      · refine g_iconst (nx := 26) (1) F dX12_isTurnedOver_25 rfl rfl ?_
        refine g_zret F E dX12_isTurnedOver_26 (by first | rfl | assumption) ?_
        exact ⟨by rw [bI_t ⟨i, by omega, not_le_I.mp c_22⟩], rfl⟩
  refine g_iconst (nx := 1) (0) F dX12_isTurnedOver_0 rfl rfl ?_
  refine g_istore_n (nx := 2) 1 F dX12_isTurnedOver_1 rfl rfl (by decide) ?_
  try dsimp only [List.set]
  exact L2 c 0 (by omega) (fun k k1 => absurd k1 (Nat.not_lt_zero k))
