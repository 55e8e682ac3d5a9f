set_option maxHeartbeats 4000000 in
set_option maxRecDepth 100000 in
theorem k_comesTo (B tx fr to len : Nat) (op vl dp : Nat → Nat) (bl : Nat → Bool) (σ : zSt) (hB : B = 180 * tx) (htx : tx < 12) (hlen : len ≤ 160) (hto : to ≤ len) (hcode : ∀ k, k < len → σ 169 (B + k) = nI (1048576 * op k + vl k)) (hvl : ∀ k, k < len → vl k < 1000000) (hw : wfC op vl dp bl fr to) : Con mX12_comesTo 1 [.ref 145, .int (nI (B + fr)), .int (nI (B + to))] σ (fun r τ => (∃ g, τ = zs σ 175 g) ∧ r = some (.int (evF op vl (σ 176) to (to - fr) fr []))) := by
  refine Con.of (lv := [.ref 145, .int (nI (B + fr)), .int (nI (B + to)), .long 0, .long 0, .long 0, .long 0, .long 0]) mk_X12_comesTo rfl (Nat.le_of_ble_eq_true rfl) rfl (fun X F E => ?_)
  have hfr := hw.1
  have L : ∀ (f k : Nat) (st : List Int32) (g : Nat → Int32) (z6 z7 : Value), fr ≤ k → (k ≤ to ∧ to - k ≤ f) → stk g st → st.length = dp k → (bl k = true → st.headD 0 = 0 ∨ st.headD 0 = 1) → evF op vl (σ 176) to f k st = evF op vl (σ 176) to (to - fr) fr [] → Gs X 16 [.ref 145, .int (nI (B + fr)), .int (nI (B + to)), .int (nI st.length), .int (nI B), .int (nI (B + k)), z6, z7] [] (zs σ 175 g) := by
    intro f
    induction f with
    | zero =>
      intro k st g z6 z7 hk1 hk2 hst hlen hbl hA
      have hkt : k = to := by omega
      obtain ⟨x, rfl⟩ : ∃ x, st = [x] := by
        match st, hlen with
        | [x], _ => exact ⟨x, rfl⟩
        | [], h => rw [hkt, hw.2.2.2.1] at h; exact absurd h (by decide)
        | _ :: _ :: _, h => rw [hkt, hw.2.2.2.1] at h; simp at h
      show Gs X 16 [.ref 145, .int (nI (B + fr)), .int (nI (B + to)), .int (nI 1), .int (nI B), .int (nI (B + k)), z6, z7] [] (zs σ 175 g)
      refine g_iload (nx := 18) F dX12_comesTo_16 rfl rfl ?_
      refine g_iload_n (nx := 19) 2 F dX12_comesTo_18 rfl rfl rfl ?_
      refine g_icmp_ge (nx := 22) 233 F dX12_comesTo_19 rfl (by decide) (fun c_19 => ?_) (fun c_19 => absurd c_19 (by exact fun zq => zq (nI_le (by omega) (by omega))))
      refine g_aload_n (nx := 234) 0 F dX12_comesTo_233 rfl rfl rfl ?_
      refine g_getR (nx := 237) F dX12_comesTo_234 rfl fl_RX12_98 rfl (by decide) (by decide) rfl ?_
      refine g_iconst (nx := 238) (0) F dX12_comesTo_237 rfl rfl ?_
      refine g_ialdN (nx := 239) (0) (x) F dX12_comesTo_238 rfl rfl (by omega) (hst.1) ?_
      refine g_iret F E dX12_comesTo_239 ?_
      exact ⟨⟨g, rfl⟩, by rw [← hA]; rfl⟩
    | succ f ih =>
      intro k st g z6 z7 hk1 hk2 hst hlen hbl hA
      rcases Nat.lt_or_ge k to with hkt | hkt
      · have hw2 := hw.2.2.2.2.2 k hk1 hkt
        have hdp := hw.2.2.2.2.1 k hk1 (by omega)
        have hk2 : k < to := hkt
        rcases hw2 with ⟨ho, w2, w3, w4, w5⟩ | ⟨ho, w2, w3, w4, w5⟩ | ⟨o1, o2, w2, w4, w5, w6⟩ | ⟨o1, o2, w2, w4, w5, w6⟩ | ⟨ho, w2, w3, w5, w6⟩ | ⟨o1, w2, w5, w4, w6, w7, w8, w9, w10⟩
        · refine g_iload (nx := 18) F dX12_comesTo_16 rfl rfl ?_
          refine g_iload_n (nx := 19) 2 F dX12_comesTo_18 rfl rfl rfl ?_
          refine g_icmp_ge (nx := 22) 233 F dX12_comesTo_19 rfl (by decide) (fun c_19 => absurd c_19 (by exact nI_ge (by omega) (by omega))) (fun c_19 => ?_)
          refine g_aload_n (nx := 23) 0 F dX12_comesTo_22 rfl rfl rfl ?_
          refine g_getR (nx := 26) F dX12_comesTo_23 rfl fl_RX12_80 rfl (by decide) (by decide) rfl ?_
          refine g_iload (nx := 28) F dX12_comesTo_26 rfl rfl ?_
          refine g_ialdN (nx := 29) (B + k) (nI (1048576 * 0 + vl k)) F dX12_comesTo_28 rfl rfl (by omega) (by rw [zs_ne σ (show (169 : Nat) ≠ 175 by decide), hcode k (by omega), ho]) ?_
          refine g_ldc (nx := 31) (1048576) F dX12_comesTo_29 rfl co_RX12_220 ?_
          refine g_idiv (nx := 32) F dX12_comesTo_31 rfl (by decide) ?_
          refine g_top (0) (cm_op (o := 0) (by decide) (by omega)) ?_
          refine g_istore (nx := 34) F dX12_comesTo_32 rfl (by decide) ?_
          try dsimp only [List.set]
          refine g_aload_n (nx := 35) 0 F dX12_comesTo_34 rfl rfl rfl ?_
          refine g_getR (nx := 38) F dX12_comesTo_35 rfl fl_RX12_80 rfl (by decide) (by decide) rfl ?_
          refine g_iload (nx := 40) F dX12_comesTo_38 rfl rfl ?_
          refine g_ialdN (nx := 41) (B + k) (nI (1048576 * 0 + vl k)) F dX12_comesTo_40 rfl rfl (by omega) (by rw [zs_ne σ (show (169 : Nat) ≠ 175 by decide), hcode k (by omega), ho]) ?_
          refine g_ldc (nx := 43) (1048576) F dX12_comesTo_41 rfl co_RX12_220 ?_
          refine g_irem (nx := 44) F dX12_comesTo_43 rfl (by decide) ?_
          refine g_top (nI (vl k)) (cm_vl (o := 0) (by decide) (by omega)) ?_
          refine g_istore (nx := 46) F dX12_comesTo_44 rfl (by decide) ?_
          try dsimp only [List.set]
          refine g_iload (nx := 48) F dX12_comesTo_46 rfl rfl ?_
          refine g_iconst (nx := 49) (1) F dX12_comesTo_48 rfl rfl ?_
          refine g_iadd (nx := 50) F dX12_comesTo_49 rfl ?_
          rw [nI_1]
          refine g_istore (nx := 52) F dX12_comesTo_50 rfl (by decide) ?_
          try dsimp only [List.set]
          refine g_iload (nx := 54) F dX12_comesTo_52 rfl rfl ?_
          refine g_if_eq (nx := 57) 63 F dX12_comesTo_54 rfl (by decide) (fun c_54 => ?_) (fun c_54 => absurd c_54 (by decide))
          refine g_aload_n (nx := 64) 0 F dX12_comesTo_63 rfl rfl rfl ?_
          refine g_getR (nx := 67) F dX12_comesTo_64 rfl fl_RX12_98 rfl (by decide) (by decide) rfl ?_
          refine g_iload_n (nx := 68) 3 F dX12_comesTo_67 rfl rfl rfl ?_
          refine g_iload (nx := 70) F dX12_comesTo_68 rfl rfl ?_
          refine g_if_ne (nx := 73) 78 F dX12_comesTo_70 rfl (by decide) (fun c_70 => absurd c_70 (by decide)) (fun c_70 => ?_)
          refine g_iload (nx := 75) F dX12_comesTo_73 rfl rfl ?_
          refine g_goto 85 F dX12_comesTo_75 (by decide) ?_
          refine g_iastN (nx := 86) (st.length) F dX12_comesTo_85 rfl rfl (by omega) ?_
          refine g_iload_n (nx := 87) 3 F dX12_comesTo_86 rfl rfl rfl ?_
          refine g_iconst (nx := 88) (1) F dX12_comesTo_87 rfl rfl ?_
          refine g_iadd (nx := 89) F dX12_comesTo_88 rfl ?_
          rw [nI_1]
          refine g_istore_n (nx := 90) 3 F dX12_comesTo_89 rfl rfl (by decide) ?_
          try dsimp only [List.set]
          refine g_goto 230 F dX12_comesTo_90 (by decide) ?_
          refine g_goto 16 F dX12_comesTo_230 (by decide) ?_
          rw [zs_zu]
          refine ih (k + 1) (nI (vl k) :: st) _ _ _ (by omega) (by omega) (stk_push hst) (by show st.length + 1 = _; omega) (fun z => absurd z (by rw [w3]; decide)) ?_
          rw [← hA]
          simp only [evF, if_neg (show ¬ to ≤ k by omega), ho]
          rfl
        · refine g_iload (nx := 18) F dX12_comesTo_16 rfl rfl ?_
          refine g_iload_n (nx := 19) 2 F dX12_comesTo_18 rfl rfl rfl ?_
          refine g_icmp_ge (nx := 22) 233 F dX12_comesTo_19 rfl (by decide) (fun c_19 => absurd c_19 (by exact nI_ge (by omega) (by omega))) (fun c_19 => ?_)
          refine g_aload_n (nx := 23) 0 F dX12_comesTo_22 rfl rfl rfl ?_
          refine g_getR (nx := 26) F dX12_comesTo_23 rfl fl_RX12_80 rfl (by decide) (by decide) rfl ?_
          refine g_iload (nx := 28) F dX12_comesTo_26 rfl rfl ?_
          refine g_ialdN (nx := 29) (B + k) (nI (1048576 * 1 + vl k)) F dX12_comesTo_28 rfl rfl (by omega) (by rw [zs_ne σ (show (169 : Nat) ≠ 175 by decide), hcode k (by omega), ho]) ?_
          refine g_ldc (nx := 31) (1048576) F dX12_comesTo_29 rfl co_RX12_220 ?_
          refine g_idiv (nx := 32) F dX12_comesTo_31 rfl (by decide) ?_
          refine g_top (1) (cm_op (o := 1) (by decide) (by omega)) ?_
          refine g_istore (nx := 34) F dX12_comesTo_32 rfl (by decide) ?_
          try dsimp only [List.set]
          refine g_aload_n (nx := 35) 0 F dX12_comesTo_34 rfl rfl rfl ?_
          refine g_getR (nx := 38) F dX12_comesTo_35 rfl fl_RX12_80 rfl (by decide) (by decide) rfl ?_
          refine g_iload (nx := 40) F dX12_comesTo_38 rfl rfl ?_
          refine g_ialdN (nx := 41) (B + k) (nI (1048576 * 1 + vl k)) F dX12_comesTo_40 rfl rfl (by omega) (by rw [zs_ne σ (show (169 : Nat) ≠ 175 by decide), hcode k (by omega), ho]) ?_
          refine g_ldc (nx := 43) (1048576) F dX12_comesTo_41 rfl co_RX12_220 ?_
          refine g_irem (nx := 44) F dX12_comesTo_43 rfl (by decide) ?_
          refine g_top (nI (vl k)) (cm_vl (o := 1) (by decide) (by omega)) ?_
          refine g_istore (nx := 46) F dX12_comesTo_44 rfl (by decide) ?_
          try dsimp only [List.set]
          refine g_iload (nx := 48) F dX12_comesTo_46 rfl rfl ?_
          refine g_iconst (nx := 49) (1) F dX12_comesTo_48 rfl rfl ?_
          refine g_iadd (nx := 50) F dX12_comesTo_49 rfl ?_
          rw [nI_1]
          refine g_istore (nx := 52) F dX12_comesTo_50 rfl (by decide) ?_
          try dsimp only [List.set]
          refine g_iload (nx := 54) F dX12_comesTo_52 rfl rfl ?_
          refine g_if_eq (nx := 57) 63 F dX12_comesTo_54 rfl (by decide) (fun c_54 => absurd c_54 (by decide)) (fun c_54 => ?_)
          refine g_iload (nx := 59) F dX12_comesTo_57 rfl rfl ?_
          refine g_iconst (nx := 60) (1) F dX12_comesTo_59 rfl rfl ?_
          refine g_icmp_ne (nx := 63) 93 F dX12_comesTo_60 rfl (by decide) (fun c_60 => absurd c_60 (by decide)) (fun c_60 => ?_)
          refine g_aload_n (nx := 64) 0 F dX12_comesTo_63 rfl rfl rfl ?_
          refine g_getR (nx := 67) F dX12_comesTo_64 rfl fl_RX12_98 rfl (by decide) (by decide) rfl ?_
          refine g_iload_n (nx := 68) 3 F dX12_comesTo_67 rfl rfl rfl ?_
          refine g_iload (nx := 70) F dX12_comesTo_68 rfl rfl ?_
          refine g_if_ne (nx := 73) 78 F dX12_comesTo_70 rfl (by decide) (fun c_70 => ?_) (fun c_70 => absurd c_70 (by decide))
          refine g_aload_n (nx := 79) 0 F dX12_comesTo_78 rfl rfl rfl ?_
          refine g_getR (nx := 82) F dX12_comesTo_79 rfl fl_RX12_101 rfl (by decide) (by decide) rfl ?_
          refine g_iload (nx := 84) F dX12_comesTo_82 rfl rfl ?_
          refine g_ialdN (nx := 85) (vl k) (_) F dX12_comesTo_84 rfl rfl (by omega) (rfl) ?_
          refine g_iastN (nx := 86) (st.length) F dX12_comesTo_85 rfl rfl (by omega) ?_
          refine g_iload_n (nx := 87) 3 F dX12_comesTo_86 rfl rfl rfl ?_
          refine g_iconst (nx := 88) (1) F dX12_comesTo_87 rfl rfl ?_
          refine g_iadd (nx := 89) F dX12_comesTo_88 rfl ?_
          rw [nI_1]
          refine g_istore_n (nx := 90) 3 F dX12_comesTo_89 rfl rfl (by decide) ?_
          try dsimp only [List.set]
          refine g_goto 230 F dX12_comesTo_90 (by decide) ?_
          refine g_goto 16 F dX12_comesTo_230 (by decide) ?_
          rw [zs_zu]
          refine ih (k + 1) (σ 176 (vl k) :: st) _ _ _ (by omega) (by omega) (stk_push hst) (by show st.length + 1 = _; omega) (fun z => absurd z (by rw [w3]; decide)) ?_
          rw [← hA]
          simp only [evF, if_neg (show ¬ to ≤ k by omega), ho]
          rfl
        · obtain ⟨y, x, r, rfl⟩ : ∃ y x r, st = y :: x :: r := by
            match st, hlen with
            | y :: x :: r, _ => exact ⟨y, x, r, rfl⟩
            | [_], h => have : (1 : Nat) = dp k := h; omega
            | [], h => have : (0 : Nat) = dp k := h; omega
          have hlr : r.length + 2 = dp k := hlen
          have hst : stk g (y :: x :: r) := hst
          have hvl : vl k < 1000000 := hvl k (by omega)
          show Gs X 16 [.ref 145, .int (nI (B + fr)), .int (nI (B + to)), .int (nI (r.length + 1 + 1)), .int (nI B), .int (nI (B + k)), z6, z7] [] (zs σ 175 g)
          rcases (show op k = 2 ∨ op k = 3 ∨ op k = 4 ∨ op k = 5 ∨ op k = 6 by omega) with ho | ho | ho | ho | ho
          · refine g_iload (nx := 18) F dX12_comesTo_16 rfl rfl ?_
            refine g_iload_n (nx := 19) 2 F dX12_comesTo_18 rfl rfl rfl ?_
            refine g_icmp_ge (nx := 22) 233 F dX12_comesTo_19 rfl (by decide) (fun c_19 => absurd c_19 (by exact nI_ge (by omega) (by omega))) (fun c_19 => ?_)
            refine g_aload_n (nx := 23) 0 F dX12_comesTo_22 rfl rfl rfl ?_
            refine g_getR (nx := 26) F dX12_comesTo_23 rfl fl_RX12_80 rfl (by decide) (by decide) rfl ?_
            refine g_iload (nx := 28) F dX12_comesTo_26 rfl rfl ?_
            refine g_ialdN (nx := 29) (B + k) (nI (1048576 * 2 + vl k)) F dX12_comesTo_28 rfl rfl (by omega) (by rw [zs_ne σ (show (169 : Nat) ≠ 175 by decide), hcode k (by omega), ho]) ?_
            refine g_ldc (nx := 31) (1048576) F dX12_comesTo_29 rfl co_RX12_220 ?_
            refine g_idiv (nx := 32) F dX12_comesTo_31 rfl (by decide) ?_
            refine g_top (2) (cm_op (o := 2) (by decide) (by omega)) ?_
            refine g_istore (nx := 34) F dX12_comesTo_32 rfl (by decide) ?_
            try dsimp only [List.set]
            refine g_aload_n (nx := 35) 0 F dX12_comesTo_34 rfl rfl rfl ?_
            refine g_getR (nx := 38) F dX12_comesTo_35 rfl fl_RX12_80 rfl (by decide) (by decide) rfl ?_
            refine g_iload (nx := 40) F dX12_comesTo_38 rfl rfl ?_
            refine g_ialdN (nx := 41) (B + k) (nI (1048576 * 2 + vl k)) F dX12_comesTo_40 rfl rfl (by omega) (by rw [zs_ne σ (show (169 : Nat) ≠ 175 by decide), hcode k (by omega), ho]) ?_
            refine g_ldc (nx := 43) (1048576) F dX12_comesTo_41 rfl co_RX12_220 ?_
            refine g_irem (nx := 44) F dX12_comesTo_43 rfl (by decide) ?_
            refine g_top (nI (vl k)) (cm_vl (o := 2) (by decide) (by omega)) ?_
            refine g_istore (nx := 46) F dX12_comesTo_44 rfl (by decide) ?_
            try dsimp only [List.set]
            refine g_iload (nx := 48) F dX12_comesTo_46 rfl rfl ?_
            refine g_iconst (nx := 49) (1) F dX12_comesTo_48 rfl rfl ?_
            refine g_iadd (nx := 50) F dX12_comesTo_49 rfl ?_
            rw [nI_1]
            refine g_istore (nx := 52) F dX12_comesTo_50 rfl (by decide) ?_
            try dsimp only [List.set]
            refine g_iload (nx := 54) F dX12_comesTo_52 rfl rfl ?_
            refine g_if_eq (nx := 57) 63 F dX12_comesTo_54 rfl (by decide) (fun c_54 => absurd c_54 (by decide)) (fun c_54 => ?_)
            refine g_iload (nx := 59) F dX12_comesTo_57 rfl rfl ?_
            refine g_iconst (nx := 60) (1) F dX12_comesTo_59 rfl rfl ?_
            refine g_icmp_ne (nx := 63) 93 F dX12_comesTo_60 rfl (by decide) (fun c_60 => ?_) (fun c_60 => absurd c_60 (by decide))
            refine g_iload (nx := 95) F dX12_comesTo_93 rfl rfl ?_
            refine g_bipush (nx := 97) (10) F dX12_comesTo_95 rfl (by decide) ?_
            refine g_icmp_ne (nx := 100) 121 F dX12_comesTo_97 rfl (by decide) (fun c_97 => ?_) (fun c_97 => absurd c_97 (by decide))
            refine g_iload (nx := 123) F dX12_comesTo_121 rfl rfl ?_
            refine g_bipush (nx := 125) (11) F dX12_comesTo_123 rfl (by decide) ?_
            refine g_icmp_eq (nx := 128) 135 F dX12_comesTo_125 rfl (by decide) (fun c_125 => absurd c_125 (by decide)) (fun c_125 => ?_)
            refine g_iload (nx := 130) F dX12_comesTo_128 rfl rfl ?_
            refine g_bipush (nx := 132) (12) F dX12_comesTo_130 rfl (by decide) ?_
            refine g_icmp_ne (nx := 135) 175 F dX12_comesTo_132 rfl (by decide) (fun c_132 => ?_) (fun c_132 => absurd c_132 (by decide))
            refine g_iload_n (nx := 176) 3 F dX12_comesTo_175 rfl rfl rfl ?_
            refine g_iconst (nx := 177) (1) F dX12_comesTo_176 rfl rfl ?_
            refine g_isub (nx := 178) F dX12_comesTo_177 rfl ?_
            rw [nI_pred]
            refine g_istore_n (nx := 179) 3 F dX12_comesTo_178 rfl rfl (by decide) ?_
            try dsimp only [List.set]
            refine g_iload (nx := 181) F dX12_comesTo_179 rfl rfl ?_
            refine g_iconst (nx := 182) (5) F dX12_comesTo_181 rfl rfl ?_
            refine g_icmp_eq (nx := 185) 192 F dX12_comesTo_182 rfl (by decide) (fun c_182 => absurd c_182 (by decide)) (fun c_182 => ?_)
            refine g_iload (nx := 187) F dX12_comesTo_185 rfl rfl ?_
            refine g_bipush (nx := 189) (6) F dX12_comesTo_187 rfl (by decide) ?_
            refine g_icmp_ne (nx := 192) 203 F dX12_comesTo_189 rfl (by decide) (fun c_189 => ?_) (fun c_189 => absurd c_189 (by decide))
            refine g_aload_n (nx := 204) 0 F dX12_comesTo_203 rfl rfl rfl ?_
            refine g_getR (nx := 207) F dX12_comesTo_204 rfl fl_RX12_98 rfl (by decide) (by decide) rfl ?_
            refine g_iload_n (nx := 208) 3 F dX12_comesTo_207 rfl rfl rfl ?_
            refine g_iconst (nx := 209) (1) F dX12_comesTo_208 rfl rfl ?_
            refine g_isub (nx := 210) F dX12_comesTo_209 rfl ?_
            rw [nI_pred]
            refine g_iload (nx := 212) F dX12_comesTo_210 rfl rfl ?_
            refine g_aload_n (nx := 213) 0 F dX12_comesTo_212 rfl rfl rfl ?_
            refine g_getR (nx := 216) F dX12_comesTo_213 rfl fl_RX12_98 rfl (by decide) (by decide) rfl ?_
            refine g_iload_n (nx := 217) 3 F dX12_comesTo_216 rfl rfl rfl ?_
            refine g_iconst (nx := 218) (1) F dX12_comesTo_217 rfl rfl ?_
            refine g_isub (nx := 219) F dX12_comesTo_218 rfl ?_
            rw [nI_pred]
            refine g_ialdN (nx := 220) (r.length) (x) F dX12_comesTo_219 rfl rfl (by omega) (hst.2.1) ?_
            refine g_aload_n (nx := 221) 0 F dX12_comesTo_220 rfl rfl rfl ?_
            refine g_getR (nx := 224) F dX12_comesTo_221 rfl fl_RX12_98 rfl (by decide) (by decide) rfl ?_
            refine g_iload_n (nx := 225) 3 F dX12_comesTo_224 rfl rfl rfl ?_
            refine g_ialdN (nx := 226) (r.length + 1) (y) F dX12_comesTo_225 rfl rfl (by omega) (hst.1) ?_
            refine g_callS (nx := 229) 3 0 [.int (2), .int x, .int y] F dX12_comesTo_226 rfl ml_RX12_298 mo_X12_reckon rfl rfl (Nat.le_of_ble_eq_true rfl) (by first | decide | omega) (k_reckon_2 x y _ (fun z => absurd z (by decide))) (fun r_226 τ_226 q_226 => ?_)
            obtain ⟨rfl, et_226⟩ := q_226
            have et_226 := et_226.symm
            subst et_226
            dsimp only [Option.toList, List.append, List.cons_append, List.nil_append]
            refine g_iastN (nx := 230) (r.length) F dX12_comesTo_229 rfl rfl (by omega) ?_
            refine g_goto 16 F dX12_comesTo_230 (by decide) ?_
            rw [zs_zu]
            refine ih (k + 1) (jn 2 x y :: r) _ _ _ (by omega) (by omega) (stk_push hst.2.2) (by show r.length + 1 = _; have : (y :: x :: r).length = r.length + 2 := rfl; omega) (fun z => absurd z (by rw [w4]; decide)) ?_
            rw [← hA]
            simp only [evF, if_neg (show ¬ to ≤ k by omega), ho, List.headD_cons, List.tail_cons]
            rfl
          · refine g_iload (nx := 18) F dX12_comesTo_16 rfl rfl ?_
            refine g_iload_n (nx := 19) 2 F dX12_comesTo_18 rfl rfl rfl ?_
            refine g_icmp_ge (nx := 22) 233 F dX12_comesTo_19 rfl (by decide) (fun c_19 => absurd c_19 (by exact nI_ge (by omega) (by omega))) (fun c_19 => ?_)
            refine g_aload_n (nx := 23) 0 F dX12_comesTo_22 rfl rfl rfl ?_
            refine g_getR (nx := 26) F dX12_comesTo_23 rfl fl_RX12_80 rfl (by decide) (by decide) rfl ?_
            refine g_iload (nx := 28) F dX12_comesTo_26 rfl rfl ?_
            refine g_ialdN (nx := 29) (B + k) (nI (1048576 * 3 + vl k)) F dX12_comesTo_28 rfl rfl (by omega) (by rw [zs_ne σ (show (169 : Nat) ≠ 175 by decide), hcode k (by omega), ho]) ?_
            refine g_ldc (nx := 31) (1048576) F dX12_comesTo_29 rfl co_RX12_220 ?_
            refine g_idiv (nx := 32) F dX12_comesTo_31 rfl (by decide) ?_
            refine g_top (3) (cm_op (o := 3) (by decide) (by omega)) ?_
            refine g_istore (nx := 34) F dX12_comesTo_32 rfl (by decide) ?_
            try dsimp only [List.set]
            refine g_aload_n (nx := 35) 0 F dX12_comesTo_34 rfl rfl rfl ?_
            refine g_getR (nx := 38) F dX12_comesTo_35 rfl fl_RX12_80 rfl (by decide) (by decide) rfl ?_
            refine g_iload (nx := 40) F dX12_comesTo_38 rfl rfl ?_
            refine g_ialdN (nx := 41) (B + k) (nI (1048576 * 3 + vl k)) F dX12_comesTo_40 rfl rfl (by omega) (by rw [zs_ne σ (show (169 : Nat) ≠ 175 by decide), hcode k (by omega), ho]) ?_
            refine g_ldc (nx := 43) (1048576) F dX12_comesTo_41 rfl co_RX12_220 ?_
            refine g_irem (nx := 44) F dX12_comesTo_43 rfl (by decide) ?_
            refine g_top (nI (vl k)) (cm_vl (o := 3) (by decide) (by omega)) ?_
            refine g_istore (nx := 46) F dX12_comesTo_44 rfl (by decide) ?_
            try dsimp only [List.set]
            refine g_iload (nx := 48) F dX12_comesTo_46 rfl rfl ?_
            refine g_iconst (nx := 49) (1) F dX12_comesTo_48 rfl rfl ?_
            refine g_iadd (nx := 50) F dX12_comesTo_49 rfl ?_
            rw [nI_1]
            refine g_istore (nx := 52) F dX12_comesTo_50 rfl (by decide) ?_
            try dsimp only [List.set]
            refine g_iload (nx := 54) F dX12_comesTo_52 rfl rfl ?_
            refine g_if_eq (nx := 57) 63 F dX12_comesTo_54 rfl (by decide) (fun c_54 => absurd c_54 (by decide)) (fun c_54 => ?_)
            refine g_iload (nx := 59) F dX12_comesTo_57 rfl rfl ?_
            refine g_iconst (nx := 60) (1) F dX12_comesTo_59 rfl rfl ?_
            refine g_icmp_ne (nx := 63) 93 F dX12_comesTo_60 rfl (by decide) (fun c_60 => ?_) (fun c_60 => absurd c_60 (by decide))
            refine g_iload (nx := 95) F dX12_comesTo_93 rfl rfl ?_
            refine g_bipush (nx := 97) (10) F dX12_comesTo_95 rfl (by decide) ?_
            refine g_icmp_ne (nx := 100) 121 F dX12_comesTo_97 rfl (by decide) (fun c_97 => ?_) (fun c_97 => absurd c_97 (by decide))
            refine g_iload (nx := 123) F dX12_comesTo_121 rfl rfl ?_
            refine g_bipush (nx := 125) (11) F dX12_comesTo_123 rfl (by decide) ?_
            refine g_icmp_eq (nx := 128) 135 F dX12_comesTo_125 rfl (by decide) (fun c_125 => absurd c_125 (by decide)) (fun c_125 => ?_)
            refine g_iload (nx := 130) F dX12_comesTo_128 rfl rfl ?_
            refine g_bipush (nx := 132) (12) F dX12_comesTo_130 rfl (by decide) ?_
            refine g_icmp_ne (nx := 135) 175 F dX12_comesTo_132 rfl (by decide) (fun c_132 => ?_) (fun c_132 => absurd c_132 (by decide))
            refine g_iload_n (nx := 176) 3 F dX12_comesTo_175 rfl rfl rfl ?_
            refine g_iconst (nx := 177) (1) F dX12_comesTo_176 rfl rfl ?_
            refine g_isub (nx := 178) F dX12_comesTo_177 rfl ?_
            rw [nI_pred]
            refine g_istore_n (nx := 179) 3 F dX12_comesTo_178 rfl rfl (by decide) ?_
            try dsimp only [List.set]
            refine g_iload (nx := 181) F dX12_comesTo_179 rfl rfl ?_
            refine g_iconst (nx := 182) (5) F dX12_comesTo_181 rfl rfl ?_
            refine g_icmp_eq (nx := 185) 192 F dX12_comesTo_182 rfl (by decide) (fun c_182 => absurd c_182 (by decide)) (fun c_182 => ?_)
            refine g_iload (nx := 187) F dX12_comesTo_185 rfl rfl ?_
            refine g_bipush (nx := 189) (6) F dX12_comesTo_187 rfl (by decide) ?_
            refine g_icmp_ne (nx := 192) 203 F dX12_comesTo_189 rfl (by decide) (fun c_189 => ?_) (fun c_189 => absurd c_189 (by decide))
            refine g_aload_n (nx := 204) 0 F dX12_comesTo_203 rfl rfl rfl ?_
            refine g_getR (nx := 207) F dX12_comesTo_204 rfl fl_RX12_98 rfl (by decide) (by decide) rfl ?_
            refine g_iload_n (nx := 208) 3 F dX12_comesTo_207 rfl rfl rfl ?_
            refine g_iconst (nx := 209) (1) F dX12_comesTo_208 rfl rfl ?_
            refine g_isub (nx := 210) F dX12_comesTo_209 rfl ?_
            rw [nI_pred]
            refine g_iload (nx := 212) F dX12_comesTo_210 rfl rfl ?_
            refine g_aload_n (nx := 213) 0 F dX12_comesTo_212 rfl rfl rfl ?_
            refine g_getR (nx := 216) F dX12_comesTo_213 rfl fl_RX12_98 rfl (by decide) (by decide) rfl ?_
            refine g_iload_n (nx := 217) 3 F dX12_comesTo_216 rfl rfl rfl ?_
            refine g_iconst (nx := 218) (1) F dX12_comesTo_217 rfl rfl ?_
            refine g_isub (nx := 219) F dX12_comesTo_218 rfl ?_
            rw [nI_pred]
            refine g_ialdN (nx := 220) (r.length) (x) F dX12_comesTo_219 rfl rfl (by omega) (hst.2.1) ?_
            refine g_aload_n (nx := 221) 0 F dX12_comesTo_220 rfl rfl rfl ?_
            refine g_getR (nx := 224) F dX12_comesTo_221 rfl fl_RX12_98 rfl (by decide) (by decide) rfl ?_
            refine g_iload_n (nx := 225) 3 F dX12_comesTo_224 rfl rfl rfl ?_
            refine g_ialdN (nx := 226) (r.length + 1) (y) F dX12_comesTo_225 rfl rfl (by omega) (hst.1) ?_
            refine g_callS (nx := 229) 3 0 [.int (3), .int x, .int y] F dX12_comesTo_226 rfl ml_RX12_298 mo_X12_reckon rfl rfl (Nat.le_of_ble_eq_true rfl) (by first | decide | omega) (k_reckon_3 x y _ (fun z => absurd z (by decide))) (fun r_226 τ_226 q_226 => ?_)
            obtain ⟨rfl, et_226⟩ := q_226
            have et_226 := et_226.symm
            subst et_226
            dsimp only [Option.toList, List.append, List.cons_append, List.nil_append]
            refine g_iastN (nx := 230) (r.length) F dX12_comesTo_229 rfl rfl (by omega) ?_
            refine g_goto 16 F dX12_comesTo_230 (by decide) ?_
            rw [zs_zu]
            refine ih (k + 1) (jn 3 x y :: r) _ _ _ (by omega) (by omega) (stk_push hst.2.2) (by show r.length + 1 = _; have : (y :: x :: r).length = r.length + 2 := rfl; omega) (fun z => absurd z (by rw [w4]; decide)) ?_
            rw [← hA]
            simp only [evF, if_neg (show ¬ to ≤ k by omega), ho, List.headD_cons, List.tail_cons]
            rfl
          · refine g_iload (nx := 18) F dX12_comesTo_16 rfl rfl ?_
            refine g_iload_n (nx := 19) 2 F dX12_comesTo_18 rfl rfl rfl ?_
            refine g_icmp_ge (nx := 22) 233 F dX12_comesTo_19 rfl (by decide) (fun c_19 => absurd c_19 (by exact nI_ge (by omega) (by omega))) (fun c_19 => ?_)
            refine g_aload_n (nx := 23) 0 F dX12_comesTo_22 rfl rfl rfl ?_
            refine g_getR (nx := 26) F dX12_comesTo_23 rfl fl_RX12_80 rfl (by decide) (by decide) rfl ?_
            refine g_iload (nx := 28) F dX12_comesTo_26 rfl rfl ?_
            refine g_ialdN (nx := 29) (B + k) (nI (1048576 * 4 + vl k)) F dX12_comesTo_28 rfl rfl (by omega) (by rw [zs_ne σ (show (169 : Nat) ≠ 175 by decide), hcode k (by omega), ho]) ?_
            refine g_ldc (nx := 31) (1048576) F dX12_comesTo_29 rfl co_RX12_220 ?_
            refine g_idiv (nx := 32) F dX12_comesTo_31 rfl (by decide) ?_
            refine g_top (4) (cm_op (o := 4) (by decide) (by omega)) ?_
            refine g_istore (nx := 34) F dX12_comesTo_32 rfl (by decide) ?_
            try dsimp only [List.set]
            refine g_aload_n (nx := 35) 0 F dX12_comesTo_34 rfl rfl rfl ?_
            refine g_getR (nx := 38) F dX12_comesTo_35 rfl fl_RX12_80 rfl (by decide) (by decide) rfl ?_
            refine g_iload (nx := 40) F dX12_comesTo_38 rfl rfl ?_
            refine g_ialdN (nx := 41) (B + k) (nI (1048576 * 4 + vl k)) F dX12_comesTo_40 rfl rfl (by omega) (by rw [zs_ne σ (show (169 : Nat) ≠ 175 by decide), hcode k (by omega), ho]) ?_
            refine g_ldc (nx := 43) (1048576) F dX12_comesTo_41 rfl co_RX12_220 ?_
            refine g_irem (nx := 44) F dX12_comesTo_43 rfl (by decide) ?_
            refine g_top (nI (vl k)) (cm_vl (o := 4) (by decide) (by omega)) ?_
            refine g_istore (nx := 46) F dX12_comesTo_44 rfl (by decide) ?_
            try dsimp only [List.set]
            refine g_iload (nx := 48) F dX12_comesTo_46 rfl rfl ?_
            refine g_iconst (nx := 49) (1) F dX12_comesTo_48 rfl rfl ?_
            refine g_iadd (nx := 50) F dX12_comesTo_49 rfl ?_
            rw [nI_1]
            refine g_istore (nx := 52) F dX12_comesTo_50 rfl (by decide) ?_
            try dsimp only [List.set]
            refine g_iload (nx := 54) F dX12_comesTo_52 rfl rfl ?_
            refine g_if_eq (nx := 57) 63 F dX12_comesTo_54 rfl (by decide) (fun c_54 => absurd c_54 (by decide)) (fun c_54 => ?_)
            refine g_iload (nx := 59) F dX12_comesTo_57 rfl rfl ?_
            refine g_iconst (nx := 60) (1) F dX12_comesTo_59 rfl rfl ?_
            refine g_icmp_ne (nx := 63) 93 F dX12_comesTo_60 rfl (by decide) (fun c_60 => ?_) (fun c_60 => absurd c_60 (by decide))
            refine g_iload (nx := 95) F dX12_comesTo_93 rfl rfl ?_
            refine g_bipush (nx := 97) (10) F dX12_comesTo_95 rfl (by decide) ?_
            refine g_icmp_ne (nx := 100) 121 F dX12_comesTo_97 rfl (by decide) (fun c_97 => ?_) (fun c_97 => absurd c_97 (by decide))
            refine g_iload (nx := 123) F dX12_comesTo_121 rfl rfl ?_
            refine g_bipush (nx := 125) (11) F dX12_comesTo_123 rfl (by decide) ?_
            refine g_icmp_eq (nx := 128) 135 F dX12_comesTo_125 rfl (by decide) (fun c_125 => absurd c_125 (by decide)) (fun c_125 => ?_)
            refine g_iload (nx := 130) F dX12_comesTo_128 rfl rfl ?_
            refine g_bipush (nx := 132) (12) F dX12_comesTo_130 rfl (by decide) ?_
            refine g_icmp_ne (nx := 135) 175 F dX12_comesTo_132 rfl (by decide) (fun c_132 => ?_) (fun c_132 => absurd c_132 (by decide))
            refine g_iload_n (nx := 176) 3 F dX12_comesTo_175 rfl rfl rfl ?_
            refine g_iconst (nx := 177) (1) F dX12_comesTo_176 rfl rfl ?_
            refine g_isub (nx := 178) F dX12_comesTo_177 rfl ?_
            rw [nI_pred]
            refine g_istore_n (nx := 179) 3 F dX12_comesTo_178 rfl rfl (by decide) ?_
            try dsimp only [List.set]
            refine g_iload (nx := 181) F dX12_comesTo_179 rfl rfl ?_
            refine g_iconst (nx := 182) (5) F dX12_comesTo_181 rfl rfl ?_
            refine g_icmp_eq (nx := 185) 192 F dX12_comesTo_182 rfl (by decide) (fun c_182 => absurd c_182 (by decide)) (fun c_182 => ?_)
            refine g_iload (nx := 187) F dX12_comesTo_185 rfl rfl ?_
            refine g_bipush (nx := 189) (6) F dX12_comesTo_187 rfl (by decide) ?_
            refine g_icmp_ne (nx := 192) 203 F dX12_comesTo_189 rfl (by decide) (fun c_189 => ?_) (fun c_189 => absurd c_189 (by decide))
            refine g_aload_n (nx := 204) 0 F dX12_comesTo_203 rfl rfl rfl ?_
            refine g_getR (nx := 207) F dX12_comesTo_204 rfl fl_RX12_98 rfl (by decide) (by decide) rfl ?_
            refine g_iload_n (nx := 208) 3 F dX12_comesTo_207 rfl rfl rfl ?_
            refine g_iconst (nx := 209) (1) F dX12_comesTo_208 rfl rfl ?_
            refine g_isub (nx := 210) F dX12_comesTo_209 rfl ?_
            rw [nI_pred]
            refine g_iload (nx := 212) F dX12_comesTo_210 rfl rfl ?_
            refine g_aload_n (nx := 213) 0 F dX12_comesTo_212 rfl rfl rfl ?_
            refine g_getR (nx := 216) F dX12_comesTo_213 rfl fl_RX12_98 rfl (by decide) (by decide) rfl ?_
            refine g_iload_n (nx := 217) 3 F dX12_comesTo_216 rfl rfl rfl ?_
            refine g_iconst (nx := 218) (1) F dX12_comesTo_217 rfl rfl ?_
            refine g_isub (nx := 219) F dX12_comesTo_218 rfl ?_
            rw [nI_pred]
            refine g_ialdN (nx := 220) (r.length) (x) F dX12_comesTo_219 rfl rfl (by omega) (hst.2.1) ?_
            refine g_aload_n (nx := 221) 0 F dX12_comesTo_220 rfl rfl rfl ?_
            refine g_getR (nx := 224) F dX12_comesTo_221 rfl fl_RX12_98 rfl (by decide) (by decide) rfl ?_
            refine g_iload_n (nx := 225) 3 F dX12_comesTo_224 rfl rfl rfl ?_
            refine g_ialdN (nx := 226) (r.length + 1) (y) F dX12_comesTo_225 rfl rfl (by omega) (hst.1) ?_
            refine g_callS (nx := 229) 3 0 [.int (4), .int x, .int y] F dX12_comesTo_226 rfl ml_RX12_298 mo_X12_reckon rfl rfl (Nat.le_of_ble_eq_true rfl) (by first | decide | omega) (k_reckon_4 x y _ (fun z => absurd z (by decide))) (fun r_226 τ_226 q_226 => ?_)
            obtain ⟨rfl, et_226⟩ := q_226
            have et_226 := et_226.symm
            subst et_226
            dsimp only [Option.toList, List.append, List.cons_append, List.nil_append]
            refine g_iastN (nx := 230) (r.length) F dX12_comesTo_229 rfl rfl (by omega) ?_
            refine g_goto 16 F dX12_comesTo_230 (by decide) ?_
            rw [zs_zu]
            refine ih (k + 1) (jn 4 x y :: r) _ _ _ (by omega) (by omega) (stk_push hst.2.2) (by show r.length + 1 = _; have : (y :: x :: r).length = r.length + 2 := rfl; omega) (fun z => absurd z (by rw [w4]; decide)) ?_
            rw [← hA]
            simp only [evF, if_neg (show ¬ to ≤ k by omega), ho, List.headD_cons, List.tail_cons]
            rfl
          · refine g_iload (nx := 18) F dX12_comesTo_16 rfl rfl ?_
            refine g_iload_n (nx := 19) 2 F dX12_comesTo_18 rfl rfl rfl ?_
            refine g_icmp_ge (nx := 22) 233 F dX12_comesTo_19 rfl (by decide) (fun c_19 => absurd c_19 (by exact nI_ge (by omega) (by omega))) (fun c_19 => ?_)
            refine g_aload_n (nx := 23) 0 F dX12_comesTo_22 rfl rfl rfl ?_
            refine g_getR (nx := 26) F dX12_comesTo_23 rfl fl_RX12_80 rfl (by decide) (by decide) rfl ?_
            refine g_iload (nx := 28) F dX12_comesTo_26 rfl rfl ?_
            refine g_ialdN (nx := 29) (B + k) (nI (1048576 * 5 + vl k)) F dX12_comesTo_28 rfl rfl (by omega) (by rw [zs_ne σ (show (169 : Nat) ≠ 175 by decide), hcode k (by omega), ho]) ?_
            refine g_ldc (nx := 31) (1048576) F dX12_comesTo_29 rfl co_RX12_220 ?_
            refine g_idiv (nx := 32) F dX12_comesTo_31 rfl (by decide) ?_
            refine g_top (5) (cm_op (o := 5) (by decide) (by omega)) ?_
            refine g_istore (nx := 34) F dX12_comesTo_32 rfl (by decide) ?_
            try dsimp only [List.set]
            refine g_aload_n (nx := 35) 0 F dX12_comesTo_34 rfl rfl rfl ?_
            refine g_getR (nx := 38) F dX12_comesTo_35 rfl fl_RX12_80 rfl (by decide) (by decide) rfl ?_
            refine g_iload (nx := 40) F dX12_comesTo_38 rfl rfl ?_
            refine g_ialdN (nx := 41) (B + k) (nI (1048576 * 5 + vl k)) F dX12_comesTo_40 rfl rfl (by omega) (by rw [zs_ne σ (show (169 : Nat) ≠ 175 by decide), hcode k (by omega), ho]) ?_
            refine g_ldc (nx := 43) (1048576) F dX12_comesTo_41 rfl co_RX12_220 ?_
            refine g_irem (nx := 44) F dX12_comesTo_43 rfl (by decide) ?_
            refine g_top (nI (vl k)) (cm_vl (o := 5) (by decide) (by omega)) ?_
            refine g_istore (nx := 46) F dX12_comesTo_44 rfl (by decide) ?_
            try dsimp only [List.set]
            refine g_iload (nx := 48) F dX12_comesTo_46 rfl rfl ?_
            refine g_iconst (nx := 49) (1) F dX12_comesTo_48 rfl rfl ?_
            refine g_iadd (nx := 50) F dX12_comesTo_49 rfl ?_
            rw [nI_1]
            refine g_istore (nx := 52) F dX12_comesTo_50 rfl (by decide) ?_
            try dsimp only [List.set]
            refine g_iload (nx := 54) F dX12_comesTo_52 rfl rfl ?_
            refine g_if_eq (nx := 57) 63 F dX12_comesTo_54 rfl (by decide) (fun c_54 => absurd c_54 (by decide)) (fun c_54 => ?_)
            refine g_iload (nx := 59) F dX12_comesTo_57 rfl rfl ?_
            refine g_iconst (nx := 60) (1) F dX12_comesTo_59 rfl rfl ?_
            refine g_icmp_ne (nx := 63) 93 F dX12_comesTo_60 rfl (by decide) (fun c_60 => ?_) (fun c_60 => absurd c_60 (by decide))
            refine g_iload (nx := 95) F dX12_comesTo_93 rfl rfl ?_
            refine g_bipush (nx := 97) (10) F dX12_comesTo_95 rfl (by decide) ?_
            refine g_icmp_ne (nx := 100) 121 F dX12_comesTo_97 rfl (by decide) (fun c_97 => ?_) (fun c_97 => absurd c_97 (by decide))
            refine g_iload (nx := 123) F dX12_comesTo_121 rfl rfl ?_
            refine g_bipush (nx := 125) (11) F dX12_comesTo_123 rfl (by decide) ?_
            refine g_icmp_eq (nx := 128) 135 F dX12_comesTo_125 rfl (by decide) (fun c_125 => absurd c_125 (by decide)) (fun c_125 => ?_)
            refine g_iload (nx := 130) F dX12_comesTo_128 rfl rfl ?_
            refine g_bipush (nx := 132) (12) F dX12_comesTo_130 rfl (by decide) ?_
            refine g_icmp_ne (nx := 135) 175 F dX12_comesTo_132 rfl (by decide) (fun c_132 => ?_) (fun c_132 => absurd c_132 (by decide))
            refine g_iload_n (nx := 176) 3 F dX12_comesTo_175 rfl rfl rfl ?_
            refine g_iconst (nx := 177) (1) F dX12_comesTo_176 rfl rfl ?_
            refine g_isub (nx := 178) F dX12_comesTo_177 rfl ?_
            rw [nI_pred]
            refine g_istore_n (nx := 179) 3 F dX12_comesTo_178 rfl rfl (by decide) ?_
            try dsimp only [List.set]
            refine g_iload (nx := 181) F dX12_comesTo_179 rfl rfl ?_
            refine g_iconst (nx := 182) (5) F dX12_comesTo_181 rfl rfl ?_
            refine g_icmp_eq (nx := 185) 192 F dX12_comesTo_182 rfl (by decide) (fun c_182 => ?_) (fun c_182 => absurd c_182 (by decide))
            refine g_aload_n (nx := 193) 0 F dX12_comesTo_192 rfl rfl rfl ?_
            refine g_getR (nx := 196) F dX12_comesTo_193 rfl fl_RX12_98 rfl (by decide) (by decide) rfl ?_
            refine g_iload_n (nx := 197) 3 F dX12_comesTo_196 rfl rfl rfl ?_
            refine g_ialdN (nx := 198) (r.length + 1) (y) F dX12_comesTo_197 rfl rfl (by omega) (hst.1) ?_
            refine g_if_ne (nx := 201) 203 F dX12_comesTo_198 rfl (by decide) (fun c_198 => ?_) (fun c_198 => ?_)
            · refine g_aload_n (nx := 204) 0 F dX12_comesTo_203 rfl rfl rfl ?_
              refine g_getR (nx := 207) F dX12_comesTo_204 rfl fl_RX12_98 rfl (by decide) (by decide) rfl ?_
              refine g_iload_n (nx := 208) 3 F dX12_comesTo_207 rfl rfl rfl ?_
              refine g_iconst (nx := 209) (1) F dX12_comesTo_208 rfl rfl ?_
              refine g_isub (nx := 210) F dX12_comesTo_209 rfl ?_
              rw [nI_pred]
              refine g_iload (nx := 212) F dX12_comesTo_210 rfl rfl ?_
              refine g_aload_n (nx := 213) 0 F dX12_comesTo_212 rfl rfl rfl ?_
              refine g_getR (nx := 216) F dX12_comesTo_213 rfl fl_RX12_98 rfl (by decide) (by decide) rfl ?_
              refine g_iload_n (nx := 217) 3 F dX12_comesTo_216 rfl rfl rfl ?_
              refine g_iconst (nx := 218) (1) F dX12_comesTo_217 rfl rfl ?_
              refine g_isub (nx := 219) F dX12_comesTo_218 rfl ?_
              rw [nI_pred]
              refine g_ialdN (nx := 220) (r.length) (x) F dX12_comesTo_219 rfl rfl (by omega) (hst.2.1) ?_
              refine g_aload_n (nx := 221) 0 F dX12_comesTo_220 rfl rfl rfl ?_
              refine g_getR (nx := 224) F dX12_comesTo_221 rfl fl_RX12_98 rfl (by decide) (by decide) rfl ?_
              refine g_iload_n (nx := 225) 3 F dX12_comesTo_224 rfl rfl rfl ?_
              refine g_ialdN (nx := 226) (r.length + 1) (y) F dX12_comesTo_225 rfl rfl (by omega) (hst.1) ?_
              refine g_callS (nx := 229) 3 0 [.int (5), .int x, .int y] F dX12_comesTo_226 rfl ml_RX12_298 mo_X12_reckon rfl rfl (Nat.le_of_ble_eq_true rfl) (by first | decide | omega) (k_reckon_5 x y _ (fun _ => c_198)) (fun r_226 τ_226 q_226 => ?_)
              obtain ⟨rfl, et_226⟩ := q_226
              have et_226 := et_226.symm
              subst et_226
              dsimp only [Option.toList, List.append, List.cons_append, List.nil_append]
              refine g_iastN (nx := 230) (r.length) F dX12_comesTo_229 rfl rfl (by omega) ?_
              refine g_goto 16 F dX12_comesTo_230 (by decide) ?_
              rw [zs_zu]
              refine ih (k + 1) (jn 5 x y :: r) _ _ _ (by omega) (by omega) (stk_push hst.2.2) (by show r.length + 1 = _; have : (y :: x :: r).length = r.length + 2 := rfl; omega) (fun z => absurd z (by rw [w4]; decide)) ?_
              rw [← hA]
              simp only [evF, if_neg (show ¬ to ≤ k by omega), ho, List.headD_cons, List.tail_cons, show ¬ y = 0 from c_198]
              rfl
            · refine g_iconst (nx := 202) (0) F dX12_comesTo_201 rfl rfl ?_
              refine g_iret F E dX12_comesTo_202 ?_
              refine ⟨⟨g, rfl⟩, congrArg (fun z => some (Value.int z)) ?_⟩
              rw [← hA]
              simp only [evF, if_neg (show ¬ to ≤ k by omega), ho, List.headD_cons, c_198]
              rfl
          · refine g_iload (nx := 18) F dX12_comesTo_16 rfl rfl ?_
            refine g_iload_n (nx := 19) 2 F dX12_comesTo_18 rfl rfl rfl ?_
            refine g_icmp_ge (nx := 22) 233 F dX12_comesTo_19 rfl (by decide) (fun c_19 => absurd c_19 (by exact nI_ge (by omega) (by omega))) (fun c_19 => ?_)
            refine g_aload_n (nx := 23) 0 F dX12_comesTo_22 rfl rfl rfl ?_
            refine g_getR (nx := 26) F dX12_comesTo_23 rfl fl_RX12_80 rfl (by decide) (by decide) rfl ?_
            refine g_iload (nx := 28) F dX12_comesTo_26 rfl rfl ?_
            refine g_ialdN (nx := 29) (B + k) (nI (1048576 * 6 + vl k)) F dX12_comesTo_28 rfl rfl (by omega) (by rw [zs_ne σ (show (169 : Nat) ≠ 175 by decide), hcode k (by omega), ho]) ?_
            refine g_ldc (nx := 31) (1048576) F dX12_comesTo_29 rfl co_RX12_220 ?_
            refine g_idiv (nx := 32) F dX12_comesTo_31 rfl (by decide) ?_
            refine g_top (6) (cm_op (o := 6) (by decide) (by omega)) ?_
            refine g_istore (nx := 34) F dX12_comesTo_32 rfl (by decide) ?_
            try dsimp only [List.set]
            refine g_aload_n (nx := 35) 0 F dX12_comesTo_34 rfl rfl rfl ?_
            refine g_getR (nx := 38) F dX12_comesTo_35 rfl fl_RX12_80 rfl (by decide) (by decide) rfl ?_
            refine g_iload (nx := 40) F dX12_comesTo_38 rfl rfl ?_
            refine g_ialdN (nx := 41) (B + k) (nI (1048576 * 6 + vl k)) F dX12_comesTo_40 rfl rfl (by omega) (by rw [zs_ne σ (show (169 : Nat) ≠ 175 by decide), hcode k (by omega), ho]) ?_
            refine g_ldc (nx := 43) (1048576) F dX12_comesTo_41 rfl co_RX12_220 ?_
            refine g_irem (nx := 44) F dX12_comesTo_43 rfl (by decide) ?_
            refine g_top (nI (vl k)) (cm_vl (o := 6) (by decide) (by omega)) ?_
            refine g_istore (nx := 46) F dX12_comesTo_44 rfl (by decide) ?_
            try dsimp only [List.set]
            refine g_iload (nx := 48) F dX12_comesTo_46 rfl rfl ?_
            refine g_iconst (nx := 49) (1) F dX12_comesTo_48 rfl rfl ?_
            refine g_iadd (nx := 50) F dX12_comesTo_49 rfl ?_
            rw [nI_1]
            refine g_istore (nx := 52) F dX12_comesTo_50 rfl (by decide) ?_
            try dsimp only [List.set]
            refine g_iload (nx := 54) F dX12_comesTo_52 rfl rfl ?_
            refine g_if_eq (nx := 57) 63 F dX12_comesTo_54 rfl (by decide) (fun c_54 => absurd c_54 (by decide)) (fun c_54 => ?_)
            refine g_iload (nx := 59) F dX12_comesTo_57 rfl rfl ?_
            refine g_iconst (nx := 60) (1) F dX12_comesTo_59 rfl rfl ?_
            refine g_icmp_ne (nx := 63) 93 F dX12_comesTo_60 rfl (by decide) (fun c_60 => ?_) (fun c_60 => absurd c_60 (by decide))
            refine g_iload (nx := 95) F dX12_comesTo_93 rfl rfl ?_
            refine g_bipush (nx := 97) (10) F dX12_comesTo_95 rfl (by decide) ?_
            refine g_icmp_ne (nx := 100) 121 F dX12_comesTo_97 rfl (by decide) (fun c_97 => ?_) (fun c_97 => absurd c_97 (by decide))
            refine g_iload (nx := 123) F dX12_comesTo_121 rfl rfl ?_
            refine g_bipush (nx := 125) (11) F dX12_comesTo_123 rfl (by decide) ?_
            refine g_icmp_eq (nx := 128) 135 F dX12_comesTo_125 rfl (by decide) (fun c_125 => absurd c_125 (by decide)) (fun c_125 => ?_)
            refine g_iload (nx := 130) F dX12_comesTo_128 rfl rfl ?_
            refine g_bipush (nx := 132) (12) F dX12_comesTo_130 rfl (by decide) ?_
            refine g_icmp_ne (nx := 135) 175 F dX12_comesTo_132 rfl (by decide) (fun c_132 => ?_) (fun c_132 => absurd c_132 (by decide))
            refine g_iload_n (nx := 176) 3 F dX12_comesTo_175 rfl rfl rfl ?_
            refine g_iconst (nx := 177) (1) F dX12_comesTo_176 rfl rfl ?_
            refine g_isub (nx := 178) F dX12_comesTo_177 rfl ?_
            rw [nI_pred]
            refine g_istore_n (nx := 179) 3 F dX12_comesTo_178 rfl rfl (by decide) ?_
            try dsimp only [List.set]
            refine g_iload (nx := 181) F dX12_comesTo_179 rfl rfl ?_
            refine g_iconst (nx := 182) (5) F dX12_comesTo_181 rfl rfl ?_
            refine g_icmp_eq (nx := 185) 192 F dX12_comesTo_182 rfl (by decide) (fun c_182 => absurd c_182 (by decide)) (fun c_182 => ?_)
            refine g_iload (nx := 187) F dX12_comesTo_185 rfl rfl ?_
            refine g_bipush (nx := 189) (6) F dX12_comesTo_187 rfl (by decide) ?_
            refine g_icmp_ne (nx := 192) 203 F dX12_comesTo_189 rfl (by decide) (fun c_189 => absurd c_189 (by decide)) (fun c_189 => ?_)
            refine g_aload_n (nx := 193) 0 F dX12_comesTo_192 rfl rfl rfl ?_
            refine g_getR (nx := 196) F dX12_comesTo_193 rfl fl_RX12_98 rfl (by decide) (by decide) rfl ?_
            refine g_iload_n (nx := 197) 3 F dX12_comesTo_196 rfl rfl rfl ?_
            refine g_ialdN (nx := 198) (r.length + 1) (y) F dX12_comesTo_197 rfl rfl (by omega) (hst.1) ?_
            refine g_if_ne (nx := 201) 203 F dX12_comesTo_198 rfl (by decide) (fun c_198 => ?_) (fun c_198 => ?_)
            · refine g_aload_n (nx := 204) 0 F dX12_comesTo_203 rfl rfl rfl ?_
              refine g_getR (nx := 207) F dX12_comesTo_204 rfl fl_RX12_98 rfl (by decide) (by decide) rfl ?_
              refine g_iload_n (nx := 208) 3 F dX12_comesTo_207 rfl rfl rfl ?_
              refine g_iconst (nx := 209) (1) F dX12_comesTo_208 rfl rfl ?_
              refine g_isub (nx := 210) F dX12_comesTo_209 rfl ?_
              rw [nI_pred]
              refine g_iload (nx := 212) F dX12_comesTo_210 rfl rfl ?_
              refine g_aload_n (nx := 213) 0 F dX12_comesTo_212 rfl rfl rfl ?_
              refine g_getR (nx := 216) F dX12_comesTo_213 rfl fl_RX12_98 rfl (by decide) (by decide) rfl ?_
              refine g_iload_n (nx := 217) 3 F dX12_comesTo_216 rfl rfl rfl ?_
              refine g_iconst (nx := 218) (1) F dX12_comesTo_217 rfl rfl ?_
              refine g_isub (nx := 219) F dX12_comesTo_218 rfl ?_
              rw [nI_pred]
              refine g_ialdN (nx := 220) (r.length) (x) F dX12_comesTo_219 rfl rfl (by omega) (hst.2.1) ?_
              refine g_aload_n (nx := 221) 0 F dX12_comesTo_220 rfl rfl rfl ?_
              refine g_getR (nx := 224) F dX12_comesTo_221 rfl fl_RX12_98 rfl (by decide) (by decide) rfl ?_
              refine g_iload_n (nx := 225) 3 F dX12_comesTo_224 rfl rfl rfl ?_
              refine g_ialdN (nx := 226) (r.length + 1) (y) F dX12_comesTo_225 rfl rfl (by omega) (hst.1) ?_
              refine g_callS (nx := 229) 3 0 [.int (6), .int x, .int y] F dX12_comesTo_226 rfl ml_RX12_298 mo_X12_reckon rfl rfl (Nat.le_of_ble_eq_true rfl) (by first | decide | omega) (k_reckon_6 x y _ (fun _ => c_198)) (fun r_226 τ_226 q_226 => ?_)
              obtain ⟨rfl, et_226⟩ := q_226
              have et_226 := et_226.symm
              subst et_226
              dsimp only [Option.toList, List.append, List.cons_append, List.nil_append]
              refine g_iastN (nx := 230) (r.length) F dX12_comesTo_229 rfl rfl (by omega) ?_
              refine g_goto 16 F dX12_comesTo_230 (by decide) ?_
              rw [zs_zu]
              refine ih (k + 1) (jn 6 x y :: r) _ _ _ (by omega) (by omega) (stk_push hst.2.2) (by show r.length + 1 = _; have : (y :: x :: r).length = r.length + 2 := rfl; omega) (fun z => absurd z (by rw [w4]; decide)) ?_
              rw [← hA]
              simp only [evF, if_neg (show ¬ to ≤ k by omega), ho, List.headD_cons, List.tail_cons, show ¬ y = 0 from c_198]
              rfl
            · refine g_iconst (nx := 202) (0) F dX12_comesTo_201 rfl rfl ?_
              refine g_iret F E dX12_comesTo_202 ?_
              refine ⟨⟨g, rfl⟩, congrArg (fun z => some (Value.int z)) ?_⟩
              rw [← hA]
              simp only [evF, if_neg (show ¬ to ≤ k by omega), ho, List.headD_cons, c_198]
              rfl
        · obtain ⟨y, x, r, rfl⟩ : ∃ y x r, st = y :: x :: r := by
            match st, hlen with
            | y :: x :: r, _ => exact ⟨y, x, r, rfl⟩
            | [_], h => have : (1 : Nat) = dp k := h; omega
            | [], h => have : (0 : Nat) = dp k := h; omega
          have hlr : r.length + 2 = dp k := hlen
          have hst : stk g (y :: x :: r) := hst
          have hvl : vl k < 1000000 := hvl k (by omega)
          show Gs X 16 [.ref 145, .int (nI (B + fr)), .int (nI (B + to)), .int (nI (r.length + 1 + 1)), .int (nI B), .int (nI (B + k)), z6, z7] [] (zs σ 175 g)
          rcases (show op k = 7 ∨ op k = 8 ∨ op k = 9 by omega) with ho | ho | ho
          · refine g_iload (nx := 18) F dX12_comesTo_16 rfl rfl ?_
            refine g_iload_n (nx := 19) 2 F dX12_comesTo_18 rfl rfl rfl ?_
            refine g_icmp_ge (nx := 22) 233 F dX12_comesTo_19 rfl (by decide) (fun c_19 => absurd c_19 (by exact nI_ge (by omega) (by omega))) (fun c_19 => ?_)
            refine g_aload_n (nx := 23) 0 F dX12_comesTo_22 rfl rfl rfl ?_
            refine g_getR (nx := 26) F dX12_comesTo_23 rfl fl_RX12_80 rfl (by decide) (by decide) rfl ?_
            refine g_iload (nx := 28) F dX12_comesTo_26 rfl rfl ?_
            refine g_ialdN (nx := 29) (B + k) (nI (1048576 * 7 + vl k)) F dX12_comesTo_28 rfl rfl (by omega) (by rw [zs_ne σ (show (169 : Nat) ≠ 175 by decide), hcode k (by omega), ho]) ?_
            refine g_ldc (nx := 31) (1048576) F dX12_comesTo_29 rfl co_RX12_220 ?_
            refine g_idiv (nx := 32) F dX12_comesTo_31 rfl (by decide) ?_
            refine g_top (7) (cm_op (o := 7) (by decide) (by omega)) ?_
            refine g_istore (nx := 34) F dX12_comesTo_32 rfl (by decide) ?_
            try dsimp only [List.set]
            refine g_aload_n (nx := 35) 0 F dX12_comesTo_34 rfl rfl rfl ?_
            refine g_getR (nx := 38) F dX12_comesTo_35 rfl fl_RX12_80 rfl (by decide) (by decide) rfl ?_
            refine g_iload (nx := 40) F dX12_comesTo_38 rfl rfl ?_
            refine g_ialdN (nx := 41) (B + k) (nI (1048576 * 7 + vl k)) F dX12_comesTo_40 rfl rfl (by omega) (by rw [zs_ne σ (show (169 : Nat) ≠ 175 by decide), hcode k (by omega), ho]) ?_
            refine g_ldc (nx := 43) (1048576) F dX12_comesTo_41 rfl co_RX12_220 ?_
            refine g_irem (nx := 44) F dX12_comesTo_43 rfl (by decide) ?_
            refine g_top (nI (vl k)) (cm_vl (o := 7) (by decide) (by omega)) ?_
            refine g_istore (nx := 46) F dX12_comesTo_44 rfl (by decide) ?_
            try dsimp only [List.set]
            refine g_iload (nx := 48) F dX12_comesTo_46 rfl rfl ?_
            refine g_iconst (nx := 49) (1) F dX12_comesTo_48 rfl rfl ?_
            refine g_iadd (nx := 50) F dX12_comesTo_49 rfl ?_
            rw [nI_1]
            refine g_istore (nx := 52) F dX12_comesTo_50 rfl (by decide) ?_
            try dsimp only [List.set]
            refine g_iload (nx := 54) F dX12_comesTo_52 rfl rfl ?_
            refine g_if_eq (nx := 57) 63 F dX12_comesTo_54 rfl (by decide) (fun c_54 => absurd c_54 (by decide)) (fun c_54 => ?_)
            refine g_iload (nx := 59) F dX12_comesTo_57 rfl rfl ?_
            refine g_iconst (nx := 60) (1) F dX12_comesTo_59 rfl rfl ?_
            refine g_icmp_ne (nx := 63) 93 F dX12_comesTo_60 rfl (by decide) (fun c_60 => ?_) (fun c_60 => absurd c_60 (by decide))
            refine g_iload (nx := 95) F dX12_comesTo_93 rfl rfl ?_
            refine g_bipush (nx := 97) (10) F dX12_comesTo_95 rfl (by decide) ?_
            refine g_icmp_ne (nx := 100) 121 F dX12_comesTo_97 rfl (by decide) (fun c_97 => ?_) (fun c_97 => absurd c_97 (by decide))
            refine g_iload (nx := 123) F dX12_comesTo_121 rfl rfl ?_
            refine g_bipush (nx := 125) (11) F dX12_comesTo_123 rfl (by decide) ?_
            refine g_icmp_eq (nx := 128) 135 F dX12_comesTo_125 rfl (by decide) (fun c_125 => absurd c_125 (by decide)) (fun c_125 => ?_)
            refine g_iload (nx := 130) F dX12_comesTo_128 rfl rfl ?_
            refine g_bipush (nx := 132) (12) F dX12_comesTo_130 rfl (by decide) ?_
            refine g_icmp_ne (nx := 135) 175 F dX12_comesTo_132 rfl (by decide) (fun c_132 => ?_) (fun c_132 => absurd c_132 (by decide))
            refine g_iload_n (nx := 176) 3 F dX12_comesTo_175 rfl rfl rfl ?_
            refine g_iconst (nx := 177) (1) F dX12_comesTo_176 rfl rfl ?_
            refine g_isub (nx := 178) F dX12_comesTo_177 rfl ?_
            rw [nI_pred]
            refine g_istore_n (nx := 179) 3 F dX12_comesTo_178 rfl rfl (by decide) ?_
            try dsimp only [List.set]
            refine g_iload (nx := 181) F dX12_comesTo_179 rfl rfl ?_
            refine g_iconst (nx := 182) (5) F dX12_comesTo_181 rfl rfl ?_
            refine g_icmp_eq (nx := 185) 192 F dX12_comesTo_182 rfl (by decide) (fun c_182 => absurd c_182 (by decide)) (fun c_182 => ?_)
            refine g_iload (nx := 187) F dX12_comesTo_185 rfl rfl ?_
            refine g_bipush (nx := 189) (6) F dX12_comesTo_187 rfl (by decide) ?_
            refine g_icmp_ne (nx := 192) 203 F dX12_comesTo_189 rfl (by decide) (fun c_189 => ?_) (fun c_189 => absurd c_189 (by decide))
            refine g_aload_n (nx := 204) 0 F dX12_comesTo_203 rfl rfl rfl ?_
            refine g_getR (nx := 207) F dX12_comesTo_204 rfl fl_RX12_98 rfl (by decide) (by decide) rfl ?_
            refine g_iload_n (nx := 208) 3 F dX12_comesTo_207 rfl rfl rfl ?_
            refine g_iconst (nx := 209) (1) F dX12_comesTo_208 rfl rfl ?_
            refine g_isub (nx := 210) F dX12_comesTo_209 rfl ?_
            rw [nI_pred]
            refine g_iload (nx := 212) F dX12_comesTo_210 rfl rfl ?_
            refine g_aload_n (nx := 213) 0 F dX12_comesTo_212 rfl rfl rfl ?_
            refine g_getR (nx := 216) F dX12_comesTo_213 rfl fl_RX12_98 rfl (by decide) (by decide) rfl ?_
            refine g_iload_n (nx := 217) 3 F dX12_comesTo_216 rfl rfl rfl ?_
            refine g_iconst (nx := 218) (1) F dX12_comesTo_217 rfl rfl ?_
            refine g_isub (nx := 219) F dX12_comesTo_218 rfl ?_
            rw [nI_pred]
            refine g_ialdN (nx := 220) (r.length) (x) F dX12_comesTo_219 rfl rfl (by omega) (hst.2.1) ?_
            refine g_aload_n (nx := 221) 0 F dX12_comesTo_220 rfl rfl rfl ?_
            refine g_getR (nx := 224) F dX12_comesTo_221 rfl fl_RX12_98 rfl (by decide) (by decide) rfl ?_
            refine g_iload_n (nx := 225) 3 F dX12_comesTo_224 rfl rfl rfl ?_
            refine g_ialdN (nx := 226) (r.length + 1) (y) F dX12_comesTo_225 rfl rfl (by omega) (hst.1) ?_
            refine g_callS (nx := 229) 3 0 [.int (7), .int x, .int y] F dX12_comesTo_226 rfl ml_RX12_298 mo_X12_reckon rfl rfl (Nat.le_of_ble_eq_true rfl) (by first | decide | omega) (k_reckon_7 x y _ (fun z => absurd z (by decide))) (fun r_226 τ_226 q_226 => ?_)
            obtain ⟨rfl, et_226⟩ := q_226
            have et_226 := et_226.symm
            subst et_226
            dsimp only [Option.toList, List.append, List.cons_append, List.nil_append]
            refine g_iastN (nx := 230) (r.length) F dX12_comesTo_229 rfl rfl (by omega) ?_
            refine g_goto 16 F dX12_comesTo_230 (by decide) ?_
            rw [zs_zu]
            refine ih (k + 1) (jn 7 x y :: r) _ _ _ (by omega) (by omega) (stk_push hst.2.2) (by show r.length + 1 = _; have : (y :: x :: r).length = r.length + 2 := rfl; omega) (fun _ => by exact bI_or) ?_
            rw [← hA]
            simp only [evF, if_neg (show ¬ to ≤ k by omega), ho, List.headD_cons, List.tail_cons]
            rfl
          · refine g_iload (nx := 18) F dX12_comesTo_16 rfl rfl ?_
            refine g_iload_n (nx := 19) 2 F dX12_comesTo_18 rfl rfl rfl ?_
            refine g_icmp_ge (nx := 22) 233 F dX12_comesTo_19 rfl (by decide) (fun c_19 => absurd c_19 (by exact nI_ge (by omega) (by omega))) (fun c_19 => ?_)
            refine g_aload_n (nx := 23) 0 F dX12_comesTo_22 rfl rfl rfl ?_
            refine g_getR (nx := 26) F dX12_comesTo_23 rfl fl_RX12_80 rfl (by decide) (by decide) rfl ?_
            refine g_iload (nx := 28) F dX12_comesTo_26 rfl rfl ?_
            refine g_ialdN (nx := 29) (B + k) (nI (1048576 * 8 + vl k)) F dX12_comesTo_28 rfl rfl (by omega) (by rw [zs_ne σ (show (169 : Nat) ≠ 175 by decide), hcode k (by omega), ho]) ?_
            refine g_ldc (nx := 31) (1048576) F dX12_comesTo_29 rfl co_RX12_220 ?_
            refine g_idiv (nx := 32) F dX12_comesTo_31 rfl (by decide) ?_
            refine g_top (8) (cm_op (o := 8) (by decide) (by omega)) ?_
            refine g_istore (nx := 34) F dX12_comesTo_32 rfl (by decide) ?_
            try dsimp only [List.set]
            refine g_aload_n (nx := 35) 0 F dX12_comesTo_34 rfl rfl rfl ?_
            refine g_getR (nx := 38) F dX12_comesTo_35 rfl fl_RX12_80 rfl (by decide) (by decide) rfl ?_
            refine g_iload (nx := 40) F dX12_comesTo_38 rfl rfl ?_
            refine g_ialdN (nx := 41) (B + k) (nI (1048576 * 8 + vl k)) F dX12_comesTo_40 rfl rfl (by omega) (by rw [zs_ne σ (show (169 : Nat) ≠ 175 by decide), hcode k (by omega), ho]) ?_
            refine g_ldc (nx := 43) (1048576) F dX12_comesTo_41 rfl co_RX12_220 ?_
            refine g_irem (nx := 44) F dX12_comesTo_43 rfl (by decide) ?_
            refine g_top (nI (vl k)) (cm_vl (o := 8) (by decide) (by omega)) ?_
            refine g_istore (nx := 46) F dX12_comesTo_44 rfl (by decide) ?_
            try dsimp only [List.set]
            refine g_iload (nx := 48) F dX12_comesTo_46 rfl rfl ?_
            refine g_iconst (nx := 49) (1) F dX12_comesTo_48 rfl rfl ?_
            refine g_iadd (nx := 50) F dX12_comesTo_49 rfl ?_
            rw [nI_1]
            refine g_istore (nx := 52) F dX12_comesTo_50 rfl (by decide) ?_
            try dsimp only [List.set]
            refine g_iload (nx := 54) F dX12_comesTo_52 rfl rfl ?_
            refine g_if_eq (nx := 57) 63 F dX12_comesTo_54 rfl (by decide) (fun c_54 => absurd c_54 (by decide)) (fun c_54 => ?_)
            refine g_iload (nx := 59) F dX12_comesTo_57 rfl rfl ?_
            refine g_iconst (nx := 60) (1) F dX12_comesTo_59 rfl rfl ?_
            refine g_icmp_ne (nx := 63) 93 F dX12_comesTo_60 rfl (by decide) (fun c_60 => ?_) (fun c_60 => absurd c_60 (by decide))
            refine g_iload (nx := 95) F dX12_comesTo_93 rfl rfl ?_
            refine g_bipush (nx := 97) (10) F dX12_comesTo_95 rfl (by decide) ?_
            refine g_icmp_ne (nx := 100) 121 F dX12_comesTo_97 rfl (by decide) (fun c_97 => ?_) (fun c_97 => absurd c_97 (by decide))
            refine g_iload (nx := 123) F dX12_comesTo_121 rfl rfl ?_
            refine g_bipush (nx := 125) (11) F dX12_comesTo_123 rfl (by decide) ?_
            refine g_icmp_eq (nx := 128) 135 F dX12_comesTo_125 rfl (by decide) (fun c_125 => absurd c_125 (by decide)) (fun c_125 => ?_)
            refine g_iload (nx := 130) F dX12_comesTo_128 rfl rfl ?_
            refine g_bipush (nx := 132) (12) F dX12_comesTo_130 rfl (by decide) ?_
            refine g_icmp_ne (nx := 135) 175 F dX12_comesTo_132 rfl (by decide) (fun c_132 => ?_) (fun c_132 => absurd c_132 (by decide))
            refine g_iload_n (nx := 176) 3 F dX12_comesTo_175 rfl rfl rfl ?_
            refine g_iconst (nx := 177) (1) F dX12_comesTo_176 rfl rfl ?_
            refine g_isub (nx := 178) F dX12_comesTo_177 rfl ?_
            rw [nI_pred]
            refine g_istore_n (nx := 179) 3 F dX12_comesTo_178 rfl rfl (by decide) ?_
            try dsimp only [List.set]
            refine g_iload (nx := 181) F dX12_comesTo_179 rfl rfl ?_
            refine g_iconst (nx := 182) (5) F dX12_comesTo_181 rfl rfl ?_
            refine g_icmp_eq (nx := 185) 192 F dX12_comesTo_182 rfl (by decide) (fun c_182 => absurd c_182 (by decide)) (fun c_182 => ?_)
            refine g_iload (nx := 187) F dX12_comesTo_185 rfl rfl ?_
            refine g_bipush (nx := 189) (6) F dX12_comesTo_187 rfl (by decide) ?_
            refine g_icmp_ne (nx := 192) 203 F dX12_comesTo_189 rfl (by decide) (fun c_189 => ?_) (fun c_189 => absurd c_189 (by decide))
            refine g_aload_n (nx := 204) 0 F dX12_comesTo_203 rfl rfl rfl ?_
            refine g_getR (nx := 207) F dX12_comesTo_204 rfl fl_RX12_98 rfl (by decide) (by decide) rfl ?_
            refine g_iload_n (nx := 208) 3 F dX12_comesTo_207 rfl rfl rfl ?_
            refine g_iconst (nx := 209) (1) F dX12_comesTo_208 rfl rfl ?_
            refine g_isub (nx := 210) F dX12_comesTo_209 rfl ?_
            rw [nI_pred]
            refine g_iload (nx := 212) F dX12_comesTo_210 rfl rfl ?_
            refine g_aload_n (nx := 213) 0 F dX12_comesTo_212 rfl rfl rfl ?_
            refine g_getR (nx := 216) F dX12_comesTo_213 rfl fl_RX12_98 rfl (by decide) (by decide) rfl ?_
            refine g_iload_n (nx := 217) 3 F dX12_comesTo_216 rfl rfl rfl ?_
            refine g_iconst (nx := 218) (1) F dX12_comesTo_217 rfl rfl ?_
            refine g_isub (nx := 219) F dX12_comesTo_218 rfl ?_
            rw [nI_pred]
            refine g_ialdN (nx := 220) (r.length) (x) F dX12_comesTo_219 rfl rfl (by omega) (hst.2.1) ?_
            refine g_aload_n (nx := 221) 0 F dX12_comesTo_220 rfl rfl rfl ?_
            refine g_getR (nx := 224) F dX12_comesTo_221 rfl fl_RX12_98 rfl (by decide) (by decide) rfl ?_
            refine g_iload_n (nx := 225) 3 F dX12_comesTo_224 rfl rfl rfl ?_
            refine g_ialdN (nx := 226) (r.length + 1) (y) F dX12_comesTo_225 rfl rfl (by omega) (hst.1) ?_
            refine g_callS (nx := 229) 3 0 [.int (8), .int x, .int y] F dX12_comesTo_226 rfl ml_RX12_298 mo_X12_reckon rfl rfl (Nat.le_of_ble_eq_true rfl) (by first | decide | omega) (k_reckon_8 x y _ (fun z => absurd z (by decide))) (fun r_226 τ_226 q_226 => ?_)
            obtain ⟨rfl, et_226⟩ := q_226
            have et_226 := et_226.symm
            subst et_226
            dsimp only [Option.toList, List.append, List.cons_append, List.nil_append]
            refine g_iastN (nx := 230) (r.length) F dX12_comesTo_229 rfl rfl (by omega) ?_
            refine g_goto 16 F dX12_comesTo_230 (by decide) ?_
            rw [zs_zu]
            refine ih (k + 1) (jn 8 x y :: r) _ _ _ (by omega) (by omega) (stk_push hst.2.2) (by show r.length + 1 = _; have : (y :: x :: r).length = r.length + 2 := rfl; omega) (fun _ => by exact bI_or) ?_
            rw [← hA]
            simp only [evF, if_neg (show ¬ to ≤ k by omega), ho, List.headD_cons, List.tail_cons]
            rfl
          · refine g_iload (nx := 18) F dX12_comesTo_16 rfl rfl ?_
            refine g_iload_n (nx := 19) 2 F dX12_comesTo_18 rfl rfl rfl ?_
            refine g_icmp_ge (nx := 22) 233 F dX12_comesTo_19 rfl (by decide) (fun c_19 => absurd c_19 (by exact nI_ge (by omega) (by omega))) (fun c_19 => ?_)
            refine g_aload_n (nx := 23) 0 F dX12_comesTo_22 rfl rfl rfl ?_
            refine g_getR (nx := 26) F dX12_comesTo_23 rfl fl_RX12_80 rfl (by decide) (by decide) rfl ?_
            refine g_iload (nx := 28) F dX12_comesTo_26 rfl rfl ?_
            refine g_ialdN (nx := 29) (B + k) (nI (1048576 * 9 + vl k)) F dX12_comesTo_28 rfl rfl (by omega) (by rw [zs_ne σ (show (169 : Nat) ≠ 175 by decide), hcode k (by omega), ho]) ?_
            refine g_ldc (nx := 31) (1048576) F dX12_comesTo_29 rfl co_RX12_220 ?_
            refine g_idiv (nx := 32) F dX12_comesTo_31 rfl (by decide) ?_
            refine g_top (9) (cm_op (o := 9) (by decide) (by omega)) ?_
            refine g_istore (nx := 34) F dX12_comesTo_32 rfl (by decide) ?_
            try dsimp only [List.set]
            refine g_aload_n (nx := 35) 0 F dX12_comesTo_34 rfl rfl rfl ?_
            refine g_getR (nx := 38) F dX12_comesTo_35 rfl fl_RX12_80 rfl (by decide) (by decide) rfl ?_
            refine g_iload (nx := 40) F dX12_comesTo_38 rfl rfl ?_
            refine g_ialdN (nx := 41) (B + k) (nI (1048576 * 9 + vl k)) F dX12_comesTo_40 rfl rfl (by omega) (by rw [zs_ne σ (show (169 : Nat) ≠ 175 by decide), hcode k (by omega), ho]) ?_
            refine g_ldc (nx := 43) (1048576) F dX12_comesTo_41 rfl co_RX12_220 ?_
            refine g_irem (nx := 44) F dX12_comesTo_43 rfl (by decide) ?_
            refine g_top (nI (vl k)) (cm_vl (o := 9) (by decide) (by omega)) ?_
            refine g_istore (nx := 46) F dX12_comesTo_44 rfl (by decide) ?_
            try dsimp only [List.set]
            refine g_iload (nx := 48) F dX12_comesTo_46 rfl rfl ?_
            refine g_iconst (nx := 49) (1) F dX12_comesTo_48 rfl rfl ?_
            refine g_iadd (nx := 50) F dX12_comesTo_49 rfl ?_
            rw [nI_1]
            refine g_istore (nx := 52) F dX12_comesTo_50 rfl (by decide) ?_
            try dsimp only [List.set]
            refine g_iload (nx := 54) F dX12_comesTo_52 rfl rfl ?_
            refine g_if_eq (nx := 57) 63 F dX12_comesTo_54 rfl (by decide) (fun c_54 => absurd c_54 (by decide)) (fun c_54 => ?_)
            refine g_iload (nx := 59) F dX12_comesTo_57 rfl rfl ?_
            refine g_iconst (nx := 60) (1) F dX12_comesTo_59 rfl rfl ?_
            refine g_icmp_ne (nx := 63) 93 F dX12_comesTo_60 rfl (by decide) (fun c_60 => ?_) (fun c_60 => absurd c_60 (by decide))
            refine g_iload (nx := 95) F dX12_comesTo_93 rfl rfl ?_
            refine g_bipush (nx := 97) (10) F dX12_comesTo_95 rfl (by decide) ?_
            refine g_icmp_ne (nx := 100) 121 F dX12_comesTo_97 rfl (by decide) (fun c_97 => ?_) (fun c_97 => absurd c_97 (by decide))
            refine g_iload (nx := 123) F dX12_comesTo_121 rfl rfl ?_
            refine g_bipush (nx := 125) (11) F dX12_comesTo_123 rfl (by decide) ?_
            refine g_icmp_eq (nx := 128) 135 F dX12_comesTo_125 rfl (by decide) (fun c_125 => absurd c_125 (by decide)) (fun c_125 => ?_)
            refine g_iload (nx := 130) F dX12_comesTo_128 rfl rfl ?_
            refine g_bipush (nx := 132) (12) F dX12_comesTo_130 rfl (by decide) ?_
            refine g_icmp_ne (nx := 135) 175 F dX12_comesTo_132 rfl (by decide) (fun c_132 => ?_) (fun c_132 => absurd c_132 (by decide))
            refine g_iload_n (nx := 176) 3 F dX12_comesTo_175 rfl rfl rfl ?_
            refine g_iconst (nx := 177) (1) F dX12_comesTo_176 rfl rfl ?_
            refine g_isub (nx := 178) F dX12_comesTo_177 rfl ?_
            rw [nI_pred]
            refine g_istore_n (nx := 179) 3 F dX12_comesTo_178 rfl rfl (by decide) ?_
            try dsimp only [List.set]
            refine g_iload (nx := 181) F dX12_comesTo_179 rfl rfl ?_
            refine g_iconst (nx := 182) (5) F dX12_comesTo_181 rfl rfl ?_
            refine g_icmp_eq (nx := 185) 192 F dX12_comesTo_182 rfl (by decide) (fun c_182 => absurd c_182 (by decide)) (fun c_182 => ?_)
            refine g_iload (nx := 187) F dX12_comesTo_185 rfl rfl ?_
            refine g_bipush (nx := 189) (6) F dX12_comesTo_187 rfl (by decide) ?_
            refine g_icmp_ne (nx := 192) 203 F dX12_comesTo_189 rfl (by decide) (fun c_189 => ?_) (fun c_189 => absurd c_189 (by decide))
            refine g_aload_n (nx := 204) 0 F dX12_comesTo_203 rfl rfl rfl ?_
            refine g_getR (nx := 207) F dX12_comesTo_204 rfl fl_RX12_98 rfl (by decide) (by decide) rfl ?_
            refine g_iload_n (nx := 208) 3 F dX12_comesTo_207 rfl rfl rfl ?_
            refine g_iconst (nx := 209) (1) F dX12_comesTo_208 rfl rfl ?_
            refine g_isub (nx := 210) F dX12_comesTo_209 rfl ?_
            rw [nI_pred]
            refine g_iload (nx := 212) F dX12_comesTo_210 rfl rfl ?_
            refine g_aload_n (nx := 213) 0 F dX12_comesTo_212 rfl rfl rfl ?_
            refine g_getR (nx := 216) F dX12_comesTo_213 rfl fl_RX12_98 rfl (by decide) (by decide) rfl ?_
            refine g_iload_n (nx := 217) 3 F dX12_comesTo_216 rfl rfl rfl ?_
            refine g_iconst (nx := 218) (1) F dX12_comesTo_217 rfl rfl ?_
            refine g_isub (nx := 219) F dX12_comesTo_218 rfl ?_
            rw [nI_pred]
            refine g_ialdN (nx := 220) (r.length) (x) F dX12_comesTo_219 rfl rfl (by omega) (hst.2.1) ?_
            refine g_aload_n (nx := 221) 0 F dX12_comesTo_220 rfl rfl rfl ?_
            refine g_getR (nx := 224) F dX12_comesTo_221 rfl fl_RX12_98 rfl (by decide) (by decide) rfl ?_
            refine g_iload_n (nx := 225) 3 F dX12_comesTo_224 rfl rfl rfl ?_
            refine g_ialdN (nx := 226) (r.length + 1) (y) F dX12_comesTo_225 rfl rfl (by omega) (hst.1) ?_
            refine g_callS (nx := 229) 3 0 [.int (9), .int x, .int y] F dX12_comesTo_226 rfl ml_RX12_298 mo_X12_reckon rfl rfl (Nat.le_of_ble_eq_true rfl) (by first | decide | omega) (k_reckon_9 x y _ (fun z => absurd z (by decide))) (fun r_226 τ_226 q_226 => ?_)
            obtain ⟨rfl, et_226⟩ := q_226
            have et_226 := et_226.symm
            subst et_226
            dsimp only [Option.toList, List.append, List.cons_append, List.nil_append]
            refine g_iastN (nx := 230) (r.length) F dX12_comesTo_229 rfl rfl (by omega) ?_
            refine g_goto 16 F dX12_comesTo_230 (by decide) ?_
            rw [zs_zu]
            refine ih (k + 1) (jn 9 x y :: r) _ _ _ (by omega) (by omega) (stk_push hst.2.2) (by show r.length + 1 = _; have : (y :: x :: r).length = r.length + 2 := rfl; omega) (fun _ => by exact bI_or) ?_
            rw [← hA]
            simp only [evF, if_neg (show ¬ to ≤ k by omega), ho, List.headD_cons, List.tail_cons]
            rfl
        · obtain ⟨x, rfl⟩ : ∃ x, st = [x] := by
            match st, hlen with
            | [x], _ => exact ⟨x, rfl⟩
            | [], h => have : (0 : Nat) = dp k := h; omega
            | _ :: _ :: r, h => have : r.length + 2 = dp k := h; omega
          have hbl : x = 0 ∨ x = 1 := hbl w2
          have hst : g 0 = x ∧ True := hst
          have hvl : vl k < 1000000 := hvl k (by omega)
          show Gs X 16 [.ref 145, .int (nI (B + fr)), .int (nI (B + to)), .int (nI 1), .int (nI B), .int (nI (B + k)), z6, z7] [] (zs σ 175 g)
          refine g_iload (nx := 18) F dX12_comesTo_16 rfl rfl ?_
          refine g_iload_n (nx := 19) 2 F dX12_comesTo_18 rfl rfl rfl ?_
          refine g_icmp_ge (nx := 22) 233 F dX12_comesTo_19 rfl (by decide) (fun c_19 => absurd c_19 (by exact nI_ge (by omega) (by omega))) (fun c_19 => ?_)
          refine g_aload_n (nx := 23) 0 F dX12_comesTo_22 rfl rfl rfl ?_
          refine g_getR (nx := 26) F dX12_comesTo_23 rfl fl_RX12_80 rfl (by decide) (by decide) rfl ?_
          refine g_iload (nx := 28) F dX12_comesTo_26 rfl rfl ?_
          refine g_ialdN (nx := 29) (B + k) (nI (1048576 * 10 + vl k)) F dX12_comesTo_28 rfl rfl (by omega) (by rw [zs_ne σ (show (169 : Nat) ≠ 175 by decide), hcode k (by omega), ho]) ?_
          refine g_ldc (nx := 31) (1048576) F dX12_comesTo_29 rfl co_RX12_220 ?_
          refine g_idiv (nx := 32) F dX12_comesTo_31 rfl (by decide) ?_
          refine g_top (10) (cm_op (o := 10) (by decide) (by omega)) ?_
          refine g_istore (nx := 34) F dX12_comesTo_32 rfl (by decide) ?_
          try dsimp only [List.set]
          refine g_aload_n (nx := 35) 0 F dX12_comesTo_34 rfl rfl rfl ?_
          refine g_getR (nx := 38) F dX12_comesTo_35 rfl fl_RX12_80 rfl (by decide) (by decide) rfl ?_
          refine g_iload (nx := 40) F dX12_comesTo_38 rfl rfl ?_
          refine g_ialdN (nx := 41) (B + k) (nI (1048576 * 10 + vl k)) F dX12_comesTo_40 rfl rfl (by omega) (by rw [zs_ne σ (show (169 : Nat) ≠ 175 by decide), hcode k (by omega), ho]) ?_
          refine g_ldc (nx := 43) (1048576) F dX12_comesTo_41 rfl co_RX12_220 ?_
          refine g_irem (nx := 44) F dX12_comesTo_43 rfl (by decide) ?_
          refine g_top (nI (vl k)) (cm_vl (o := 10) (by decide) (by omega)) ?_
          refine g_istore (nx := 46) F dX12_comesTo_44 rfl (by decide) ?_
          try dsimp only [List.set]
          refine g_iload (nx := 48) F dX12_comesTo_46 rfl rfl ?_
          refine g_iconst (nx := 49) (1) F dX12_comesTo_48 rfl rfl ?_
          refine g_iadd (nx := 50) F dX12_comesTo_49 rfl ?_
          rw [nI_1]
          refine g_istore (nx := 52) F dX12_comesTo_50 rfl (by decide) ?_
          try dsimp only [List.set]
          refine g_iload (nx := 54) F dX12_comesTo_52 rfl rfl ?_
          refine g_if_eq (nx := 57) 63 F dX12_comesTo_54 rfl (by decide) (fun c_54 => absurd c_54 (by decide)) (fun c_54 => ?_)
          refine g_iload (nx := 59) F dX12_comesTo_57 rfl rfl ?_
          refine g_iconst (nx := 60) (1) F dX12_comesTo_59 rfl rfl ?_
          refine g_icmp_ne (nx := 63) 93 F dX12_comesTo_60 rfl (by decide) (fun c_60 => ?_) (fun c_60 => absurd c_60 (by decide))
          refine g_iload (nx := 95) F dX12_comesTo_93 rfl rfl ?_
          refine g_bipush (nx := 97) (10) F dX12_comesTo_95 rfl (by decide) ?_
          refine g_icmp_ne (nx := 100) 121 F dX12_comesTo_97 rfl (by decide) (fun c_97 => absurd c_97 (by decide)) (fun c_97 => ?_)
          refine g_aload_n (nx := 101) 0 F dX12_comesTo_100 rfl rfl rfl ?_
          refine g_getR (nx := 104) F dX12_comesTo_101 rfl fl_RX12_98 rfl (by decide) (by decide) rfl ?_
          refine g_iload_n (nx := 105) 3 F dX12_comesTo_104 rfl rfl rfl ?_
          refine g_iconst (nx := 106) (1) F dX12_comesTo_105 rfl rfl ?_
          refine g_isub (nx := 107) F dX12_comesTo_106 rfl ?_
          refine g_iconst (nx := 108) (1) F dX12_comesTo_107 rfl rfl ?_
          refine g_aload_n (nx := 109) 0 F dX12_comesTo_108 rfl rfl rfl ?_
          refine g_getR (nx := 112) F dX12_comesTo_109 rfl fl_RX12_98 rfl (by decide) (by decide) rfl ?_
          refine g_iload_n (nx := 113) 3 F dX12_comesTo_112 rfl rfl rfl ?_
          refine g_iconst (nx := 114) (1) F dX12_comesTo_113 rfl rfl ?_
          refine g_isub (nx := 115) F dX12_comesTo_114 rfl ?_
          show Gs X 115 _ (.int (nI 0) :: .ref 175 :: .int 1 :: .int (nI 0) :: .ref 175 :: []) _
          refine g_ialdN (nx := 116) (0) (x) F dX12_comesTo_115 rfl rfl (by omega) (hst.1) ?_
          refine g_isub (nx := 117) F dX12_comesTo_116 rfl ?_
          refine g_iastN (nx := 118) (0) F dX12_comesTo_117 rfl rfl (by omega) ?_
          refine g_goto 230 F dX12_comesTo_118 (by decide) ?_
          refine g_goto 16 F dX12_comesTo_230 (by decide) ?_
          rw [zs_zu]
          refine ih (k + 1) [1 - x] _ _ _ (by omega) (by omega) ⟨if_pos rfl, trivial⟩ (by show 1 = _; omega) (fun _ => by rcases hbl with e | e <;> rw [e] <;> simp) ?_
          rw [← hA]
          simp only [evF, if_neg (show ¬ to ≤ k by omega), ho]
          rfl
        · obtain ⟨x, rfl⟩ : ∃ x, st = [x] := by
            match st, hlen with
            | [x], _ => exact ⟨x, rfl⟩
            | [], h => have : (0 : Nat) = dp k := h; omega
            | _ :: _ :: r, h => have : r.length + 2 = dp k := h; omega
          have hbl : x = 0 ∨ x = 1 := hbl w2
          have hst : g 0 = x ∧ True := hst
          have hvl : vl k < 1000000 := hvl k (by omega)
          show Gs X 16 [.ref 145, .int (nI (B + fr)), .int (nI (B + to)), .int (nI 1), .int (nI B), .int (nI (B + k)), z6, z7] [] (zs σ 175 g)
          rcases o1 with ho | ho
          · rcases hbl with rfl | rfl
            · refine g_iload (nx := 18) F dX12_comesTo_16 rfl rfl ?_
              refine g_iload_n (nx := 19) 2 F dX12_comesTo_18 rfl rfl rfl ?_
              refine g_icmp_ge (nx := 22) 233 F dX12_comesTo_19 rfl (by decide) (fun c_19 => absurd c_19 (by exact nI_ge (by omega) (by omega))) (fun c_19 => ?_)
              refine g_aload_n (nx := 23) 0 F dX12_comesTo_22 rfl rfl rfl ?_
              refine g_getR (nx := 26) F dX12_comesTo_23 rfl fl_RX12_80 rfl (by decide) (by decide) rfl ?_
              refine g_iload (nx := 28) F dX12_comesTo_26 rfl rfl ?_
              refine g_ialdN (nx := 29) (B + k) (nI (1048576 * 11 + vl k)) F dX12_comesTo_28 rfl rfl (by omega) (by rw [zs_ne σ (show (169 : Nat) ≠ 175 by decide), hcode k (by omega), ho]) ?_
              refine g_ldc (nx := 31) (1048576) F dX12_comesTo_29 rfl co_RX12_220 ?_
              refine g_idiv (nx := 32) F dX12_comesTo_31 rfl (by decide) ?_
              refine g_top (11) (cm_op (o := 11) (by decide) (by omega)) ?_
              refine g_istore (nx := 34) F dX12_comesTo_32 rfl (by decide) ?_
              try dsimp only [List.set]
              refine g_aload_n (nx := 35) 0 F dX12_comesTo_34 rfl rfl rfl ?_
              refine g_getR (nx := 38) F dX12_comesTo_35 rfl fl_RX12_80 rfl (by decide) (by decide) rfl ?_
              refine g_iload (nx := 40) F dX12_comesTo_38 rfl rfl ?_
              refine g_ialdN (nx := 41) (B + k) (nI (1048576 * 11 + vl k)) F dX12_comesTo_40 rfl rfl (by omega) (by rw [zs_ne σ (show (169 : Nat) ≠ 175 by decide), hcode k (by omega), ho]) ?_
              refine g_ldc (nx := 43) (1048576) F dX12_comesTo_41 rfl co_RX12_220 ?_
              refine g_irem (nx := 44) F dX12_comesTo_43 rfl (by decide) ?_
              refine g_top (nI (vl k)) (cm_vl (o := 11) (by decide) (by omega)) ?_
              refine g_istore (nx := 46) F dX12_comesTo_44 rfl (by decide) ?_
              try dsimp only [List.set]
              refine g_iload (nx := 48) F dX12_comesTo_46 rfl rfl ?_
              refine g_iconst (nx := 49) (1) F dX12_comesTo_48 rfl rfl ?_
              refine g_iadd (nx := 50) F dX12_comesTo_49 rfl ?_
              rw [nI_1]
              refine g_istore (nx := 52) F dX12_comesTo_50 rfl (by decide) ?_
              try dsimp only [List.set]
              refine g_iload (nx := 54) F dX12_comesTo_52 rfl rfl ?_
              refine g_if_eq (nx := 57) 63 F dX12_comesTo_54 rfl (by decide) (fun c_54 => absurd c_54 (by decide)) (fun c_54 => ?_)
              refine g_iload (nx := 59) F dX12_comesTo_57 rfl rfl ?_
              refine g_iconst (nx := 60) (1) F dX12_comesTo_59 rfl rfl ?_
              refine g_icmp_ne (nx := 63) 93 F dX12_comesTo_60 rfl (by decide) (fun c_60 => ?_) (fun c_60 => absurd c_60 (by decide))
              refine g_iload (nx := 95) F dX12_comesTo_93 rfl rfl ?_
              refine g_bipush (nx := 97) (10) F dX12_comesTo_95 rfl (by decide) ?_
              refine g_icmp_ne (nx := 100) 121 F dX12_comesTo_97 rfl (by decide) (fun c_97 => ?_) (fun c_97 => absurd c_97 (by decide))
              refine g_iload (nx := 123) F dX12_comesTo_121 rfl rfl ?_
              refine g_bipush (nx := 125) (11) F dX12_comesTo_123 rfl (by decide) ?_
              refine g_icmp_eq (nx := 128) 135 F dX12_comesTo_125 rfl (by decide) (fun c_125 => ?_) (fun c_125 => absurd c_125 (by decide))
              refine g_aload_n (nx := 136) 0 F dX12_comesTo_135 rfl rfl rfl ?_
              refine g_getR (nx := 139) F dX12_comesTo_136 rfl fl_RX12_98 rfl (by decide) (by decide) rfl ?_
              refine g_iload_n (nx := 140) 3 F dX12_comesTo_139 rfl rfl rfl ?_
              refine g_iconst (nx := 141) (1) F dX12_comesTo_140 rfl rfl ?_
              refine g_isub (nx := 142) F dX12_comesTo_141 rfl ?_
              show Gs X 142 _ (.int (nI 0) :: .ref 175 :: []) _
              refine g_ialdN (nx := 143) (0) (0) F dX12_comesTo_142 rfl rfl (by omega) (hst.1) ?_
              refine g_iload (nx := 145) F dX12_comesTo_143 rfl rfl ?_
              refine g_bipush (nx := 147) (12) F dX12_comesTo_145 rfl (by decide) ?_
              refine g_icmp_ne (nx := 150) 154 F dX12_comesTo_147 rfl (by decide) (fun c_147 => ?_) (fun c_147 => absurd c_147 (by decide))
              refine g_iconst (nx := 155) (0) F dX12_comesTo_154 rfl rfl ?_
              refine g_icmp_ne (nx := 158) 168 F dX12_comesTo_155 rfl (by decide) (fun c_155 => absurd c_155 (by decide)) (fun c_155 => ?_)
              refine g_iload (nx := 160) F dX12_comesTo_158 rfl rfl ?_
              refine g_iload (nx := 162) F dX12_comesTo_160 rfl rfl ?_
              refine g_iadd (nx := 163) F dX12_comesTo_162 rfl ?_
              rw [nI_add]
              refine g_istore (nx := 165) F dX12_comesTo_163 rfl (by decide) ?_
              try dsimp only [List.set]
              refine g_goto 230 F dX12_comesTo_165 (by decide) ?_
              refine g_goto 16 F dX12_comesTo_230 (by decide) ?_
              refine ih (vl k) [0] _ _ _ (by omega) (by omega) hst (by show 1 = _; omega) (fun _ => by simp) ?_
              rw [← hA]
              simp only [evF, if_neg (show ¬ to ≤ k by omega), ho]
              rfl
            · refine g_iload (nx := 18) F dX12_comesTo_16 rfl rfl ?_
              refine g_iload_n (nx := 19) 2 F dX12_comesTo_18 rfl rfl rfl ?_
              refine g_icmp_ge (nx := 22) 233 F dX12_comesTo_19 rfl (by decide) (fun c_19 => absurd c_19 (by exact nI_ge (by omega) (by omega))) (fun c_19 => ?_)
              refine g_aload_n (nx := 23) 0 F dX12_comesTo_22 rfl rfl rfl ?_
              refine g_getR (nx := 26) F dX12_comesTo_23 rfl fl_RX12_80 rfl (by decide) (by decide) rfl ?_
              refine g_iload (nx := 28) F dX12_comesTo_26 rfl rfl ?_
              refine g_ialdN (nx := 29) (B + k) (nI (1048576 * 11 + vl k)) F dX12_comesTo_28 rfl rfl (by omega) (by rw [zs_ne σ (show (169 : Nat) ≠ 175 by decide), hcode k (by omega), ho]) ?_
              refine g_ldc (nx := 31) (1048576) F dX12_comesTo_29 rfl co_RX12_220 ?_
              refine g_idiv (nx := 32) F dX12_comesTo_31 rfl (by decide) ?_
              refine g_top (11) (cm_op (o := 11) (by decide) (by omega)) ?_
              refine g_istore (nx := 34) F dX12_comesTo_32 rfl (by decide) ?_
              try dsimp only [List.set]
              refine g_aload_n (nx := 35) 0 F dX12_comesTo_34 rfl rfl rfl ?_
              refine g_getR (nx := 38) F dX12_comesTo_35 rfl fl_RX12_80 rfl (by decide) (by decide) rfl ?_
              refine g_iload (nx := 40) F dX12_comesTo_38 rfl rfl ?_
              refine g_ialdN (nx := 41) (B + k) (nI (1048576 * 11 + vl k)) F dX12_comesTo_40 rfl rfl (by omega) (by rw [zs_ne σ (show (169 : Nat) ≠ 175 by decide), hcode k (by omega), ho]) ?_
              refine g_ldc (nx := 43) (1048576) F dX12_comesTo_41 rfl co_RX12_220 ?_
              refine g_irem (nx := 44) F dX12_comesTo_43 rfl (by decide) ?_
              refine g_top (nI (vl k)) (cm_vl (o := 11) (by decide) (by omega)) ?_
              refine g_istore (nx := 46) F dX12_comesTo_44 rfl (by decide) ?_
              try dsimp only [List.set]
              refine g_iload (nx := 48) F dX12_comesTo_46 rfl rfl ?_
              refine g_iconst (nx := 49) (1) F dX12_comesTo_48 rfl rfl ?_
              refine g_iadd (nx := 50) F dX12_comesTo_49 rfl ?_
              rw [nI_1]
              refine g_istore (nx := 52) F dX12_comesTo_50 rfl (by decide) ?_
              try dsimp only [List.set]
              refine g_iload (nx := 54) F dX12_comesTo_52 rfl rfl ?_
              refine g_if_eq (nx := 57) 63 F dX12_comesTo_54 rfl (by decide) (fun c_54 => absurd c_54 (by decide)) (fun c_54 => ?_)
              refine g_iload (nx := 59) F dX12_comesTo_57 rfl rfl ?_
              refine g_iconst (nx := 60) (1) F dX12_comesTo_59 rfl rfl ?_
              refine g_icmp_ne (nx := 63) 93 F dX12_comesTo_60 rfl (by decide) (fun c_60 => ?_) (fun c_60 => absurd c_60 (by decide))
              refine g_iload (nx := 95) F dX12_comesTo_93 rfl rfl ?_
              refine g_bipush (nx := 97) (10) F dX12_comesTo_95 rfl (by decide) ?_
              refine g_icmp_ne (nx := 100) 121 F dX12_comesTo_97 rfl (by decide) (fun c_97 => ?_) (fun c_97 => absurd c_97 (by decide))
              refine g_iload (nx := 123) F dX12_comesTo_121 rfl rfl ?_
              refine g_bipush (nx := 125) (11) F dX12_comesTo_123 rfl (by decide) ?_
              refine g_icmp_eq (nx := 128) 135 F dX12_comesTo_125 rfl (by decide) (fun c_125 => ?_) (fun c_125 => absurd c_125 (by decide))
              refine g_aload_n (nx := 136) 0 F dX12_comesTo_135 rfl rfl rfl ?_
              refine g_getR (nx := 139) F dX12_comesTo_136 rfl fl_RX12_98 rfl (by decide) (by decide) rfl ?_
              refine g_iload_n (nx := 140) 3 F dX12_comesTo_139 rfl rfl rfl ?_
              refine g_iconst (nx := 141) (1) F dX12_comesTo_140 rfl rfl ?_
              refine g_isub (nx := 142) F dX12_comesTo_141 rfl ?_
              show Gs X 142 _ (.int (nI 0) :: .ref 175 :: []) _
              refine g_ialdN (nx := 143) (0) (1) F dX12_comesTo_142 rfl rfl (by omega) (hst.1) ?_
              refine g_iload (nx := 145) F dX12_comesTo_143 rfl rfl ?_
              refine g_bipush (nx := 147) (12) F dX12_comesTo_145 rfl (by decide) ?_
              refine g_icmp_ne (nx := 150) 154 F dX12_comesTo_147 rfl (by decide) (fun c_147 => ?_) (fun c_147 => absurd c_147 (by decide))
              refine g_iconst (nx := 155) (0) F dX12_comesTo_154 rfl rfl ?_
              refine g_icmp_ne (nx := 158) 168 F dX12_comesTo_155 rfl (by decide) (fun c_155 => ?_) (fun c_155 => absurd c_155 (by decide))
              refine g_iload_n (nx := 169) 3 F dX12_comesTo_168 rfl rfl rfl ?_
              refine g_iconst (nx := 170) (1) F dX12_comesTo_169 rfl rfl ?_
              refine g_isub (nx := 171) F dX12_comesTo_170 rfl ?_
              refine g_istore_n (nx := 172) 3 F dX12_comesTo_171 rfl rfl (by decide) ?_
              try dsimp only [List.set]
              refine g_goto 230 F dX12_comesTo_172 (by decide) ?_
              refine g_goto 16 F dX12_comesTo_230 (by decide) ?_
              rw [show nI 1 - 1 = nI 0 from rfl]
              refine ih (k + 1) [] _ _ _ (by omega) (by omega) trivial (by show 0 = _; omega) (fun z => absurd z (by rw [w4]; decide)) ?_
              rw [← hA]
              simp only [evF, if_neg (show ¬ to ≤ k by omega), ho]
              rfl
          · rcases hbl with rfl | rfl
            · refine g_iload (nx := 18) F dX12_comesTo_16 rfl rfl ?_
              refine g_iload_n (nx := 19) 2 F dX12_comesTo_18 rfl rfl rfl ?_
              refine g_icmp_ge (nx := 22) 233 F dX12_comesTo_19 rfl (by decide) (fun c_19 => absurd c_19 (by exact nI_ge (by omega) (by omega))) (fun c_19 => ?_)
              refine g_aload_n (nx := 23) 0 F dX12_comesTo_22 rfl rfl rfl ?_
              refine g_getR (nx := 26) F dX12_comesTo_23 rfl fl_RX12_80 rfl (by decide) (by decide) rfl ?_
              refine g_iload (nx := 28) F dX12_comesTo_26 rfl rfl ?_
              refine g_ialdN (nx := 29) (B + k) (nI (1048576 * 12 + vl k)) F dX12_comesTo_28 rfl rfl (by omega) (by rw [zs_ne σ (show (169 : Nat) ≠ 175 by decide), hcode k (by omega), ho]) ?_
              refine g_ldc (nx := 31) (1048576) F dX12_comesTo_29 rfl co_RX12_220 ?_
              refine g_idiv (nx := 32) F dX12_comesTo_31 rfl (by decide) ?_
              refine g_top (12) (cm_op (o := 12) (by decide) (by omega)) ?_
              refine g_istore (nx := 34) F dX12_comesTo_32 rfl (by decide) ?_
              try dsimp only [List.set]
              refine g_aload_n (nx := 35) 0 F dX12_comesTo_34 rfl rfl rfl ?_
              refine g_getR (nx := 38) F dX12_comesTo_35 rfl fl_RX12_80 rfl (by decide) (by decide) rfl ?_
              refine g_iload (nx := 40) F dX12_comesTo_38 rfl rfl ?_
              refine g_ialdN (nx := 41) (B + k) (nI (1048576 * 12 + vl k)) F dX12_comesTo_40 rfl rfl (by omega) (by rw [zs_ne σ (show (169 : Nat) ≠ 175 by decide), hcode k (by omega), ho]) ?_
              refine g_ldc (nx := 43) (1048576) F dX12_comesTo_41 rfl co_RX12_220 ?_
              refine g_irem (nx := 44) F dX12_comesTo_43 rfl (by decide) ?_
              refine g_top (nI (vl k)) (cm_vl (o := 12) (by decide) (by omega)) ?_
              refine g_istore (nx := 46) F dX12_comesTo_44 rfl (by decide) ?_
              try dsimp only [List.set]
              refine g_iload (nx := 48) F dX12_comesTo_46 rfl rfl ?_
              refine g_iconst (nx := 49) (1) F dX12_comesTo_48 rfl rfl ?_
              refine g_iadd (nx := 50) F dX12_comesTo_49 rfl ?_
              rw [nI_1]
              refine g_istore (nx := 52) F dX12_comesTo_50 rfl (by decide) ?_
              try dsimp only [List.set]
              refine g_iload (nx := 54) F dX12_comesTo_52 rfl rfl ?_
              refine g_if_eq (nx := 57) 63 F dX12_comesTo_54 rfl (by decide) (fun c_54 => absurd c_54 (by decide)) (fun c_54 => ?_)
              refine g_iload (nx := 59) F dX12_comesTo_57 rfl rfl ?_
              refine g_iconst (nx := 60) (1) F dX12_comesTo_59 rfl rfl ?_
              refine g_icmp_ne (nx := 63) 93 F dX12_comesTo_60 rfl (by decide) (fun c_60 => ?_) (fun c_60 => absurd c_60 (by decide))
              refine g_iload (nx := 95) F dX12_comesTo_93 rfl rfl ?_
              refine g_bipush (nx := 97) (10) F dX12_comesTo_95 rfl (by decide) ?_
              refine g_icmp_ne (nx := 100) 121 F dX12_comesTo_97 rfl (by decide) (fun c_97 => ?_) (fun c_97 => absurd c_97 (by decide))
              refine g_iload (nx := 123) F dX12_comesTo_121 rfl rfl ?_
              refine g_bipush (nx := 125) (11) F dX12_comesTo_123 rfl (by decide) ?_
              refine g_icmp_eq (nx := 128) 135 F dX12_comesTo_125 rfl (by decide) (fun c_125 => absurd c_125 (by decide)) (fun c_125 => ?_)
              refine g_iload (nx := 130) F dX12_comesTo_128 rfl rfl ?_
              refine g_bipush (nx := 132) (12) F dX12_comesTo_130 rfl (by decide) ?_
              refine g_icmp_ne (nx := 135) 175 F dX12_comesTo_132 rfl (by decide) (fun c_132 => absurd c_132 (by decide)) (fun c_132 => ?_)
              refine g_aload_n (nx := 136) 0 F dX12_comesTo_135 rfl rfl rfl ?_
              refine g_getR (nx := 139) F dX12_comesTo_136 rfl fl_RX12_98 rfl (by decide) (by decide) rfl ?_
              refine g_iload_n (nx := 140) 3 F dX12_comesTo_139 rfl rfl rfl ?_
              refine g_iconst (nx := 141) (1) F dX12_comesTo_140 rfl rfl ?_
              refine g_isub (nx := 142) F dX12_comesTo_141 rfl ?_
              show Gs X 142 _ (.int (nI 0) :: .ref 175 :: []) _
              refine g_ialdN (nx := 143) (0) (0) F dX12_comesTo_142 rfl rfl (by omega) (hst.1) ?_
              refine g_iload (nx := 145) F dX12_comesTo_143 rfl rfl ?_
              refine g_bipush (nx := 147) (12) F dX12_comesTo_145 rfl (by decide) ?_
              refine g_icmp_ne (nx := 150) 154 F dX12_comesTo_147 rfl (by decide) (fun c_147 => absurd c_147 (by decide)) (fun c_147 => ?_)
              refine g_iconst (nx := 151) (1) F dX12_comesTo_150 rfl rfl ?_
              refine g_goto 155 F dX12_comesTo_151 (by decide) ?_
              refine g_icmp_ne (nx := 158) 168 F dX12_comesTo_155 rfl (by decide) (fun c_155 => ?_) (fun c_155 => absurd c_155 (by decide))
              refine g_iload_n (nx := 169) 3 F dX12_comesTo_168 rfl rfl rfl ?_
              refine g_iconst (nx := 170) (1) F dX12_comesTo_169 rfl rfl ?_
              refine g_isub (nx := 171) F dX12_comesTo_170 rfl ?_
              refine g_istore_n (nx := 172) 3 F dX12_comesTo_171 rfl rfl (by decide) ?_
              try dsimp only [List.set]
              refine g_goto 230 F dX12_comesTo_172 (by decide) ?_
              refine g_goto 16 F dX12_comesTo_230 (by decide) ?_
              rw [show nI 1 - 1 = nI 0 from rfl]
              refine ih (k + 1) [] _ _ _ (by omega) (by omega) trivial (by show 0 = _; omega) (fun z => absurd z (by rw [w4]; decide)) ?_
              rw [← hA]
              simp only [evF, if_neg (show ¬ to ≤ k by omega), ho]
              rfl
            · refine g_iload (nx := 18) F dX12_comesTo_16 rfl rfl ?_
              refine g_iload_n (nx := 19) 2 F dX12_comesTo_18 rfl rfl rfl ?_
              refine g_icmp_ge (nx := 22) 233 F dX12_comesTo_19 rfl (by decide) (fun c_19 => absurd c_19 (by exact nI_ge (by omega) (by omega))) (fun c_19 => ?_)
              refine g_aload_n (nx := 23) 0 F dX12_comesTo_22 rfl rfl rfl ?_
              refine g_getR (nx := 26) F dX12_comesTo_23 rfl fl_RX12_80 rfl (by decide) (by decide) rfl ?_
              refine g_iload (nx := 28) F dX12_comesTo_26 rfl rfl ?_
              refine g_ialdN (nx := 29) (B + k) (nI (1048576 * 12 + vl k)) F dX12_comesTo_28 rfl rfl (by omega) (by rw [zs_ne σ (show (169 : Nat) ≠ 175 by decide), hcode k (by omega), ho]) ?_
              refine g_ldc (nx := 31) (1048576) F dX12_comesTo_29 rfl co_RX12_220 ?_
              refine g_idiv (nx := 32) F dX12_comesTo_31 rfl (by decide) ?_
              refine g_top (12) (cm_op (o := 12) (by decide) (by omega)) ?_
              refine g_istore (nx := 34) F dX12_comesTo_32 rfl (by decide) ?_
              try dsimp only [List.set]
              refine g_aload_n (nx := 35) 0 F dX12_comesTo_34 rfl rfl rfl ?_
              refine g_getR (nx := 38) F dX12_comesTo_35 rfl fl_RX12_80 rfl (by decide) (by decide) rfl ?_
              refine g_iload (nx := 40) F dX12_comesTo_38 rfl rfl ?_
              refine g_ialdN (nx := 41) (B + k) (nI (1048576 * 12 + vl k)) F dX12_comesTo_40 rfl rfl (by omega) (by rw [zs_ne σ (show (169 : Nat) ≠ 175 by decide), hcode k (by omega), ho]) ?_
              refine g_ldc (nx := 43) (1048576) F dX12_comesTo_41 rfl co_RX12_220 ?_
              refine g_irem (nx := 44) F dX12_comesTo_43 rfl (by decide) ?_
              refine g_top (nI (vl k)) (cm_vl (o := 12) (by decide) (by omega)) ?_
              refine g_istore (nx := 46) F dX12_comesTo_44 rfl (by decide) ?_
              try dsimp only [List.set]
              refine g_iload (nx := 48) F dX12_comesTo_46 rfl rfl ?_
              refine g_iconst (nx := 49) (1) F dX12_comesTo_48 rfl rfl ?_
              refine g_iadd (nx := 50) F dX12_comesTo_49 rfl ?_
              rw [nI_1]
              refine g_istore (nx := 52) F dX12_comesTo_50 rfl (by decide) ?_
              try dsimp only [List.set]
              refine g_iload (nx := 54) F dX12_comesTo_52 rfl rfl ?_
              refine g_if_eq (nx := 57) 63 F dX12_comesTo_54 rfl (by decide) (fun c_54 => absurd c_54 (by decide)) (fun c_54 => ?_)
              refine g_iload (nx := 59) F dX12_comesTo_57 rfl rfl ?_
              refine g_iconst (nx := 60) (1) F dX12_comesTo_59 rfl rfl ?_
              refine g_icmp_ne (nx := 63) 93 F dX12_comesTo_60 rfl (by decide) (fun c_60 => ?_) (fun c_60 => absurd c_60 (by decide))
              refine g_iload (nx := 95) F dX12_comesTo_93 rfl rfl ?_
              refine g_bipush (nx := 97) (10) F dX12_comesTo_95 rfl (by decide) ?_
              refine g_icmp_ne (nx := 100) 121 F dX12_comesTo_97 rfl (by decide) (fun c_97 => ?_) (fun c_97 => absurd c_97 (by decide))
              refine g_iload (nx := 123) F dX12_comesTo_121 rfl rfl ?_
              refine g_bipush (nx := 125) (11) F dX12_comesTo_123 rfl (by decide) ?_
              refine g_icmp_eq (nx := 128) 135 F dX12_comesTo_125 rfl (by decide) (fun c_125 => absurd c_125 (by decide)) (fun c_125 => ?_)
              refine g_iload (nx := 130) F dX12_comesTo_128 rfl rfl ?_
              refine g_bipush (nx := 132) (12) F dX12_comesTo_130 rfl (by decide) ?_
              refine g_icmp_ne (nx := 135) 175 F dX12_comesTo_132 rfl (by decide) (fun c_132 => absurd c_132 (by decide)) (fun c_132 => ?_)
              refine g_aload_n (nx := 136) 0 F dX12_comesTo_135 rfl rfl rfl ?_
              refine g_getR (nx := 139) F dX12_comesTo_136 rfl fl_RX12_98 rfl (by decide) (by decide) rfl ?_
              refine g_iload_n (nx := 140) 3 F dX12_comesTo_139 rfl rfl rfl ?_
              refine g_iconst (nx := 141) (1) F dX12_comesTo_140 rfl rfl ?_
              refine g_isub (nx := 142) F dX12_comesTo_141 rfl ?_
              show Gs X 142 _ (.int (nI 0) :: .ref 175 :: []) _
              refine g_ialdN (nx := 143) (0) (1) F dX12_comesTo_142 rfl rfl (by omega) (hst.1) ?_
              refine g_iload (nx := 145) F dX12_comesTo_143 rfl rfl ?_
              refine g_bipush (nx := 147) (12) F dX12_comesTo_145 rfl (by decide) ?_
              refine g_icmp_ne (nx := 150) 154 F dX12_comesTo_147 rfl (by decide) (fun c_147 => absurd c_147 (by decide)) (fun c_147 => ?_)
              refine g_iconst (nx := 151) (1) F dX12_comesTo_150 rfl rfl ?_
              refine g_goto 155 F dX12_comesTo_151 (by decide) ?_
              refine g_icmp_ne (nx := 158) 168 F dX12_comesTo_155 rfl (by decide) (fun c_155 => absurd c_155 (by decide)) (fun c_155 => ?_)
              refine g_iload (nx := 160) F dX12_comesTo_158 rfl rfl ?_
              refine g_iload (nx := 162) F dX12_comesTo_160 rfl rfl ?_
              refine g_iadd (nx := 163) F dX12_comesTo_162 rfl ?_
              rw [nI_add]
              refine g_istore (nx := 165) F dX12_comesTo_163 rfl (by decide) ?_
              try dsimp only [List.set]
              refine g_goto 230 F dX12_comesTo_165 (by decide) ?_
              refine g_goto 16 F dX12_comesTo_230 (by decide) ?_
              refine ih (vl k) [1] _ _ _ (by omega) (by omega) hst (by show 1 = _; omega) (fun _ => by simp) ?_
              rw [← hA]
              simp only [evF, if_neg (show ¬ to ≤ k by omega), ho]
              rfl
      · have hkt : k = to := by omega
        obtain ⟨x, rfl⟩ : ∃ x, st = [x] := by
          match st, hlen with
          | [x], _ => exact ⟨x, rfl⟩
          | [], h => rw [hkt, hw.2.2.2.1] at h; exact absurd h (by decide)
          | _ :: _ :: _, h => rw [hkt, hw.2.2.2.1] at h; simp at h
        show Gs X 16 [.ref 145, .int (nI (B + fr)), .int (nI (B + to)), .int (nI 1), .int (nI B), .int (nI (B + k)), z6, z7] [] (zs σ 175 g)
        refine g_iload (nx := 18) F dX12_comesTo_16 rfl rfl ?_
        refine g_iload_n (nx := 19) 2 F dX12_comesTo_18 rfl rfl rfl ?_
        refine g_icmp_ge (nx := 22) 233 F dX12_comesTo_19 rfl (by decide) (fun c_19 => ?_) (fun c_19 => absurd c_19 (by exact fun zq => zq (nI_le (by omega) (by omega))))
        refine g_aload_n (nx := 234) 0 F dX12_comesTo_233 rfl rfl rfl ?_
        refine g_getR (nx := 237) F dX12_comesTo_234 rfl fl_RX12_98 rfl (by decide) (by decide) rfl ?_
        refine g_iconst (nx := 238) (0) F dX12_comesTo_237 rfl rfl ?_
        refine g_ialdN (nx := 239) (0) (x) F dX12_comesTo_238 rfl rfl (by omega) (hst.1) ?_
        refine g_iret F E dX12_comesTo_239 ?_
        exact ⟨⟨g, rfl⟩, by rw [← hA]; simp [evF, hkt]⟩
  refine g_iconst (nx := 1) (0) F dX12_comesTo_0 rfl rfl ?_
  refine g_istore_n (nx := 2) 3 F dX12_comesTo_1 rfl rfl (by decide) ?_
  try dsimp only [List.set]
  refine g_sipush (nx := 5) (180) F dX12_comesTo_2 rfl (by decide) ?_
  refine g_iload_n (nx := 6) 1 F dX12_comesTo_5 rfl rfl rfl ?_
  refine g_sipush (nx := 9) (180) F dX12_comesTo_6 rfl (by decide) ?_
  refine g_idiv (nx := 10) F dX12_comesTo_9 rfl (by decide) ?_
  rw [show (180 : Int32) = nI 180 from rfl, pk_div (by omega) (by omega) (by omega), show (B + fr) / 180 = tx by omega]
  refine g_imul (nx := 11) F dX12_comesTo_10 rfl ?_
  rw [pk_mul, show 180 * tx = B by omega]
  refine g_istore (nx := 13) F dX12_comesTo_11 rfl (by decide) ?_
  try dsimp only [List.set]
  refine g_iload_n (nx := 14) 1 F dX12_comesTo_13 rfl rfl rfl ?_
  refine g_istore (nx := 16) F dX12_comesTo_14 rfl (by decide) ?_
  try dsimp only [List.set]
  refine g_st (zs σ 175 (σ 175)) (zs_id σ 175 _ rfl).symm ?_
  exact L (to - fr) fr [] (σ 175) _ _ (Nat.le_refl fr) ⟨hw.1, Nat.le_refl _⟩ trivial hw.2.1.symm (fun z => absurd z (by rw [hw.2.2.1]; decide)) rfl
