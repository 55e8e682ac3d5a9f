set_option maxHeartbeats 4000000 in
set_option maxRecDepth 100000 in
theorem c_reckon (t fr to len : Nat) (op vl dp : Nat → Nat) (bl : Nat → Bool) (σ : zSt) (ht : isT t) (hl : σ t 1 = nI len) (hlen : len ≤ 160) (hto : to ≤ len) (hcode : ∀ k, k < len → σ (t + 1) k = nI (256 * vl k + ck (op k))) (hvl : ∀ k, k < len → vl k < 1000000) (hw : wfC op vl dp bl fr to) : Con mX7_reckon 1 [.ref 13, .ref t, .int (nI fr), .int (nI to)] σ (fun r τ => (∃ g, τ = zs σ 15 g) ∧ r = some (.int (evF op vl (σ 14) to (to - fr) fr []))) := by
  refine Con.of (lv := [.ref 13, .ref t, .int (nI fr), .int (nI to), .long 0, .long 0, .long 0, .long 0, .long 0]) mk_X7_reckon rfl (Nat.le_of_ble_eq_true rfl) rfl (fun X F E => ?_)
  have htr := tx_rng ht
  have hfr := hw.1
  have L : ∀ (f k : Nat) (st : List Int32) (g : Nat → Int32) (z6 z7 z8 : Value), fr ≤ k → (k ≤ to ∧ to - k ≤ f) → stk g st → st.length = dp k → (bl k = true → st.headD 0 = 0 ∨ st.headD 0 = 1) → evF op vl (σ 14) to f k st = evF op vl (σ 14) to (to - fr) fr [] → Gs X 24 [.ref 13, .ref t, .int (nI fr), .int (nI to), .int (nI st.length), .int (nI k), z6, z7, z8] [] (zs σ 15 g) := by
    intro f
    induction f with
    | zero =>
      intro k st g z6 z7 z8 hk1 hk2 hst hlen hbl hA
      have hkt : k = to := by omega
      obtain ⟨x, rfl⟩ : ∃ x, st = [x] := by
        match st, hlen with
        | [x], _ => exact ⟨x, rfl⟩
        | [], h => rw [hkt, hw.2.2.2.1] at h; exact absurd h (by decide)
        | _ :: _ :: _, h => rw [hkt, hw.2.2.2.1] at h; simp at h
      show Gs X 24 [.ref 13, .ref t, .int (nI fr), .int (nI to), .int (nI 1), .int (nI k), z6, z7, z8] [] (zs σ 15 g)
      refine g_iload (nx := 26) F dX7_reckon_24 rfl rfl ?_
      refine g_iload_n (nx := 27) 3 F dX7_reckon_26 rfl rfl rfl ?_
      refine g_icmp_ge (nx := 30) 284 F dX7_reckon_27 rfl (by decide) (fun c_27 => ?_) (fun c_27 => absurd c_27 (by exact fun zq => zq (nI_le (by omega) (by omega))))
      refine g_iload (nx := 286) F dX7_reckon_284 rfl rfl ?_
      refine g_if_le (nx := 289) 301 F dX7_reckon_286 rfl (by decide) (fun c_286 => absurd c_286 (by decide)) (fun c_286 => ?_)
      refine g_aload_n (nx := 290) 0 F dX7_reckon_289 rfl rfl rfl ?_
      refine g_getR (nx := 293) F dX7_reckon_290 rfl fl_RX7_15 rfl (by decide) (by decide) rfl ?_
      refine g_iload (nx := 295) F dX7_reckon_293 rfl rfl ?_
      refine g_iconst (nx := 296) (1) F dX7_reckon_295 rfl rfl ?_
      refine g_isub (nx := 297) F dX7_reckon_296 rfl ?_
      show Gs X 297 _ (.int (nI 0) :: .ref 15 :: []) _
      refine g_ialdN (nx := 298) (0) (x) F dX7_reckon_297 rfl rfl (by omega) (hst.1) ?_
      refine g_goto 302 F dX7_reckon_298 (by decide) ?_
      refine g_iret F E dX7_reckon_302 ?_
      exact ⟨⟨g, rfl⟩, by rw [← hA]; rfl⟩
    | succ f ih =>
      intro k st g z6 z7 z8 hk1 hk2 hst hlen hbl hA
      rcases Nat.lt_or_ge k to with hkt | hkt
      · have hw2 := hw.2.2.2.2.2 k hk1 hkt
        have hdp := hw.2.2.2.2.1 k hk1 (by omega)
        have hk2 : k < to := hkt
        rcases hw2 with ⟨ho, w2, w3, w4, w5⟩ | ⟨ho, w2, w3, w4, w5⟩ | ⟨o1, o2, w2, w4, w5, w6⟩ | ⟨o1, o2, w2, w4, w5, w6⟩ | ⟨ho, w2, w3, w5, w6⟩ | ⟨o1, w2, w5, w4, w6, w7, w8, w9, w10⟩
        · refine g_iload (nx := 26) F dX7_reckon_24 rfl rfl ?_
          refine g_iload_n (nx := 27) 3 F dX7_reckon_26 rfl rfl rfl ?_
          refine g_icmp_ge (nx := 30) 284 F dX7_reckon_27 rfl (by decide) (fun c_27 => absurd c_27 (by exact nI_ge hk2 (by omega))) (fun c_27 => ?_)
          refine g_aload_n (nx := 31) 1 F dX7_reckon_30 rfl rfl rfl ?_
          refine g_getR (nx := 34) F dX7_reckon_31 rfl fl_RX7_52 (tx_k ht) (by decide) (by decide) (tx_0 ht) ?_
          refine g_iload (nx := 36) F dX7_reckon_34 rfl rfl ?_
          refine g_ialdN (nx := 37) (k) (nI (256 * vl k + 48)) F dX7_reckon_36 rfl (tx_k1 ht) (by omega) (by rw [zs_ne σ (show t + 1 ≠ 15 by omega), hcode k (by omega), ho]; rfl) ?_
          refine g_sipush (nx := 40) (255) F dX7_reckon_37 rfl (by decide) ?_
          refine g_iand (nx := 41) F dX7_reckon_40 rfl ?_
          refine g_top (48) (cd_kind (c := 48) (by decide) (by omega)) ?_
          refine g_istore (nx := 43) F dX7_reckon_41 rfl (by decide) ?_
          try dsimp only [List.set]
          refine g_aload_n (nx := 44) 1 F dX7_reckon_43 rfl rfl rfl ?_
          refine g_getR (nx := 47) F dX7_reckon_44 rfl fl_RX7_52 (tx_k ht) (by decide) (by decide) (tx_0 ht) ?_
          refine g_iload (nx := 49) F dX7_reckon_47 rfl rfl ?_
          refine g_ialdN (nx := 50) (k) (nI (256 * vl k + 48)) F dX7_reckon_49 rfl (tx_k1 ht) (by omega) (by rw [zs_ne σ (show t + 1 ≠ 15 by omega), hcode k (by omega), ho]; rfl) ?_
          refine g_bipush (nx := 52) (8) F dX7_reckon_50 rfl (by decide) ?_
          refine g_ishr (nx := 53) F dX7_reckon_52 rfl ?_
          refine g_top (nI (vl k)) (cd_more (c := 48) (by decide) (by omega)) ?_
          refine g_istore (nx := 55) F dX7_reckon_53 rfl (by decide) ?_
          try dsimp only [List.set]
          refine g_iload (nx := 57) F dX7_reckon_55 rfl rfl ?_
          refine g_bipush (nx := 59) (48) F dX7_reckon_57 rfl (by decide) ?_
          refine g_icmp_eq (nx := 62) 69 F dX7_reckon_59 rfl (by decide) (fun c_59 => ?_) (fun c_59 => absurd c_59 (by decide))
          refine g_iload (nx := 71) F dX7_reckon_69 rfl rfl ?_
          refine g_aload_n (nx := 72) 0 F dX7_reckon_71 rfl rfl rfl ?_
          refine g_getR (nx := 75) F dX7_reckon_72 rfl fl_RX7_15 rfl (by decide) (by decide) rfl ?_
          refine g_alen (nx := 76) F dX7_reckon_75 rfl rfl (Or.inr rfl) ?_
          refine g_icmp_lt (nx := 79) 81 F dX7_reckon_76 rfl (by decide) (fun c_76 => ?_) (fun c_76 => absurd c_76 (by exact fun zq => zq (nI_lt (b := 32) (by omega) (by omega))))
          refine g_aload_n (nx := 82) 0 F dX7_reckon_81 rfl rfl rfl ?_
          refine g_getR (nx := 85) F dX7_reckon_82 rfl fl_RX7_15 rfl (by decide) (by decide) rfl ?_
          refine g_iload (nx := 87) F dX7_reckon_85 rfl rfl ?_
          refine g_iload (nx := 89) F dX7_reckon_87 rfl rfl ?_
          refine g_bipush (nx := 91) (48) F dX7_reckon_89 rfl (by decide) ?_
          refine g_icmp_ne (nx := 94) 99 F dX7_reckon_91 rfl (by decide) (fun c_91 => absurd c_91 (by decide)) (fun c_91 => ?_)
          refine g_iload (nx := 96) F dX7_reckon_94 rfl rfl ?_
          refine g_goto 105 F dX7_reckon_96 (by decide) ?_
          refine g_iastN (nx := 106) (st.length) F dX7_reckon_105 rfl rfl (by omega) ?_
          refine g_iinc (nx := 109) (1) F dX7_reckon_106 rfl rfl (by decide) (by decide) ?_
          try dsimp only [List.set]
          refine g_goto 278 F dX7_reckon_109 (by decide) ?_
          refine g_iinc (nx := 281) (1) F dX7_reckon_278 rfl rfl (by decide) (by decide) ?_
          try dsimp only [List.set]
          refine g_goto 24 F dX7_reckon_281 (by decide) ?_
          rw [nI_1, nI_1, zs_zu]
          refine ih (k + 1) (nI (vl k) :: st) _ _ _ _ (by omega) (by omega) (stk_push hst) (by show st.length + 1 = _; omega) (fun z => absurd z (by rw [w3]; decide)) ?_
          rw [← hA]
          simp only [evF, if_neg (show ¬ to ≤ k by omega), ho]
          rfl
        · refine g_iload (nx := 26) F dX7_reckon_24 rfl rfl ?_
          refine g_iload_n (nx := 27) 3 F dX7_reckon_26 rfl rfl rfl ?_
          refine g_icmp_ge (nx := 30) 284 F dX7_reckon_27 rfl (by decide) (fun c_27 => absurd c_27 (by exact nI_ge hk2 (by omega))) (fun c_27 => ?_)
          refine g_aload_n (nx := 31) 1 F dX7_reckon_30 rfl rfl rfl ?_
          refine g_getR (nx := 34) F dX7_reckon_31 rfl fl_RX7_52 (tx_k ht) (by decide) (by decide) (tx_0 ht) ?_
          refine g_iload (nx := 36) F dX7_reckon_34 rfl rfl ?_
          refine g_ialdN (nx := 37) (k) (nI (256 * vl k + 97)) F dX7_reckon_36 rfl (tx_k1 ht) (by omega) (by rw [zs_ne σ (show t + 1 ≠ 15 by omega), hcode k (by omega), ho]; rfl) ?_
          refine g_sipush (nx := 40) (255) F dX7_reckon_37 rfl (by decide) ?_
          refine g_iand (nx := 41) F dX7_reckon_40 rfl ?_
          refine g_top (97) (cd_kind (c := 97) (by decide) (by omega)) ?_
          refine g_istore (nx := 43) F dX7_reckon_41 rfl (by decide) ?_
          try dsimp only [List.set]
          refine g_aload_n (nx := 44) 1 F dX7_reckon_43 rfl rfl rfl ?_
          refine g_getR (nx := 47) F dX7_reckon_44 rfl fl_RX7_52 (tx_k ht) (by decide) (by decide) (tx_0 ht) ?_
          refine g_iload (nx := 49) F dX7_reckon_47 rfl rfl ?_
          refine g_ialdN (nx := 50) (k) (nI (256 * vl k + 97)) F dX7_reckon_49 rfl (tx_k1 ht) (by omega) (by rw [zs_ne σ (show t + 1 ≠ 15 by omega), hcode k (by omega), ho]; rfl) ?_
          refine g_bipush (nx := 52) (8) F dX7_reckon_50 rfl (by decide) ?_
          refine g_ishr (nx := 53) F dX7_reckon_52 rfl ?_
          refine g_top (nI (vl k)) (cd_more (c := 97) (by decide) (by omega)) ?_
          refine g_istore (nx := 55) F dX7_reckon_53 rfl (by decide) ?_
          try dsimp only [List.set]
          refine g_iload (nx := 57) F dX7_reckon_55 rfl rfl ?_
          refine g_bipush (nx := 59) (48) F dX7_reckon_57 rfl (by decide) ?_
          refine g_icmp_eq (nx := 62) 69 F dX7_reckon_59 rfl (by decide) (fun c_59 => absurd c_59 (by decide)) (fun c_59 => ?_)
          refine g_iload (nx := 64) F dX7_reckon_62 rfl rfl ?_
          refine g_bipush (nx := 66) (97) F dX7_reckon_64 rfl (by decide) ?_
          refine g_icmp_ne (nx := 69) 112 F dX7_reckon_66 rfl (by decide) (fun c_66 => absurd c_66 (by decide)) (fun c_66 => ?_)
          refine g_iload (nx := 71) F dX7_reckon_69 rfl rfl ?_
          refine g_aload_n (nx := 72) 0 F dX7_reckon_71 rfl rfl rfl ?_
          refine g_getR (nx := 75) F dX7_reckon_72 rfl fl_RX7_15 rfl (by decide) (by decide) rfl ?_
          refine g_alen (nx := 76) F dX7_reckon_75 rfl rfl (Or.inr rfl) ?_
          refine g_icmp_lt (nx := 79) 81 F dX7_reckon_76 rfl (by decide) (fun c_76 => ?_) (fun c_76 => absurd c_76 (by exact fun zq => zq (nI_lt (b := 32) (by omega) (by omega))))
          refine g_aload_n (nx := 82) 0 F dX7_reckon_81 rfl rfl rfl ?_
          refine g_getR (nx := 85) F dX7_reckon_82 rfl fl_RX7_15 rfl (by decide) (by decide) rfl ?_
          refine g_iload (nx := 87) F dX7_reckon_85 rfl rfl ?_
          refine g_iload (nx := 89) F dX7_reckon_87 rfl rfl ?_
          refine g_bipush (nx := 91) (48) F dX7_reckon_89 rfl (by decide) ?_
          refine g_icmp_ne (nx := 94) 99 F dX7_reckon_91 rfl (by decide) (fun c_91 => ?_) (fun c_91 => absurd c_91 (by decide))
          refine g_aload_n (nx := 100) 0 F dX7_reckon_99 rfl rfl rfl ?_
          refine g_iload (nx := 102) F dX7_reckon_100 rfl rfl ?_
          refine g_callV (nx := 105) 1 0 [.int (nI (vl k))] F dX7_reckon_102 rfl ml_RX7_55 mo_X7_letter rfl rfl rfl rfl (Nat.le_of_ble_eq_true rfl) (by first | decide | omega) (c_letter (vl k) _ (by omega)) (fun r_102 τ_102 q_102 => ?_)
          obtain ⟨rfl, et_102⟩ := q_102
          have et_102 := et_102.symm
          subst et_102
          dsimp only [Option.toList, List.append, List.cons_append, List.nil_append]
          refine g_iastN (nx := 106) (st.length) F dX7_reckon_105 rfl rfl (by omega) ?_
          refine g_iinc (nx := 109) (1) F dX7_reckon_106 rfl rfl (by decide) (by decide) ?_
          try dsimp only [List.set]
          refine g_goto 278 F dX7_reckon_109 (by decide) ?_
          refine g_iinc (nx := 281) (1) F dX7_reckon_278 rfl rfl (by decide) (by decide) ?_
          try dsimp only [List.set]
          refine g_goto 24 F dX7_reckon_281 (by decide) ?_
          rw [nI_1, nI_1, zs_zu]
          refine ih (k + 1) (σ 14 (vl k) :: st) _ _ _ _ (by omega) (by omega) (stk_push hst) (by show st.length + 1 = _; omega) (fun z => absurd z (by rw [w3]; decide)) ?_
          rw [← hA]
          simp only [evF, if_neg (show ¬ to ≤ k by omega), ho]
          rfl
        · obtain ⟨y, x, r, rfl⟩ : ∃ y x r, st = y :: x :: r := by
            match st, hlen with
            | y :: x :: r, _ => exact ⟨y, x, r, rfl⟩
            | [_], h => have : (1 : Nat) = dp k := h; omega
            | [], h => have : (0 : Nat) = dp k := h; omega
          have hlr : r.length + 2 = dp k := hlen
          have hst : g (r.length + 1) = y ∧ g r.length = x ∧ stk g r := hst
          have hst : stk g (y :: x :: r) := hst
          have hvl : vl k < 1000000 := hvl k (by omega)
          show Gs X 24 [.ref 13, .ref t, .int (nI fr), .int (nI to), .int (nI (r.length + 1 + 1)), .int (nI k), z6, z7, z8] [] (zs σ 15 g)
          rcases (show op k = 2 ∨ op k = 3 ∨ op k = 4 ∨ op k = 5 ∨ op k = 6 by omega) with ho | ho | ho | ho | ho
          · refine g_iload (nx := 26) F dX7_reckon_24 rfl rfl ?_
            refine g_iload_n (nx := 27) 3 F dX7_reckon_26 rfl rfl rfl ?_
            refine g_icmp_ge (nx := 30) 284 F dX7_reckon_27 rfl (by decide) (fun c_27 => absurd c_27 (by exact nI_ge hk2 (by omega))) (fun c_27 => ?_)
            refine g_aload_n (nx := 31) 1 F dX7_reckon_30 rfl rfl rfl ?_
            refine g_getR (nx := 34) F dX7_reckon_31 rfl fl_RX7_52 (tx_k ht) (by decide) (by decide) (tx_0 ht) ?_
            refine g_iload (nx := 36) F dX7_reckon_34 rfl rfl ?_
            refine g_ialdN (nx := 37) (k) (nI (256 * vl k + 43)) F dX7_reckon_36 rfl (tx_k1 ht) (by omega) (by rw [zs_ne σ (show t + 1 ≠ 15 by omega), hcode k (by omega), ho]; rfl) ?_
            refine g_sipush (nx := 40) (255) F dX7_reckon_37 rfl (by decide) ?_
            refine g_iand (nx := 41) F dX7_reckon_40 rfl ?_
            refine g_top (43) (cd_kind (c := 43) (by decide) (by omega)) ?_
            refine g_istore (nx := 43) F dX7_reckon_41 rfl (by decide) ?_
            try dsimp only [List.set]
            refine g_aload_n (nx := 44) 1 F dX7_reckon_43 rfl rfl rfl ?_
            refine g_getR (nx := 47) F dX7_reckon_44 rfl fl_RX7_52 (tx_k ht) (by decide) (by decide) (tx_0 ht) ?_
            refine g_iload (nx := 49) F dX7_reckon_47 rfl rfl ?_
            refine g_ialdN (nx := 50) (k) (nI (256 * vl k + 43)) F dX7_reckon_49 rfl (tx_k1 ht) (by omega) (by rw [zs_ne σ (show t + 1 ≠ 15 by omega), hcode k (by omega), ho]; rfl) ?_
            refine g_bipush (nx := 52) (8) F dX7_reckon_50 rfl (by decide) ?_
            refine g_ishr (nx := 53) F dX7_reckon_52 rfl ?_
            refine g_top (nI (vl k)) (cd_more (c := 43) (by decide) (by omega)) ?_
            refine g_istore (nx := 55) F dX7_reckon_53 rfl (by decide) ?_
            try dsimp only [List.set]
            refine g_iload (nx := 57) F dX7_reckon_55 rfl rfl ?_
            refine g_bipush (nx := 59) (48) F dX7_reckon_57 rfl (by decide) ?_
            refine g_icmp_eq (nx := 62) 69 F dX7_reckon_59 rfl (by decide) (fun c_59 => absurd c_59 (by decide)) (fun c_59 => ?_)
            refine g_iload (nx := 64) F dX7_reckon_62 rfl rfl ?_
            refine g_bipush (nx := 66) (97) F dX7_reckon_64 rfl (by decide) ?_
            refine g_icmp_ne (nx := 69) 112 F dX7_reckon_66 rfl (by decide) (fun c_66 => ?_) (fun c_66 => absurd c_66 (by decide))
            refine g_iload (nx := 114) F dX7_reckon_112 rfl rfl ?_
            refine g_iconst (nx := 115) (1) F dX7_reckon_114 rfl rfl ?_
            refine g_icmp_ge (nx := 118) 120 F dX7_reckon_115 rfl (by decide) (fun c_115 => ?_) (fun c_115 => absurd c_115 (by exact fun zq => zq (nI_le (a := 1) (by omega) (by omega))))
            refine g_iload (nx := 122) F dX7_reckon_120 rfl rfl ?_
            refine g_bipush (nx := 124) (33) F dX7_reckon_122 rfl (by decide) ?_
            refine g_icmp_ne (nx := 127) 150 F dX7_reckon_124 rfl (by decide) (fun c_124 => ?_) (fun c_124 => absurd c_124 (by decide))
            refine g_iload (nx := 152) F dX7_reckon_150 rfl rfl ?_
            refine g_bipush (nx := 154) (38) F dX7_reckon_152 rfl (by decide) ?_
            refine g_icmp_eq (nx := 157) 164 F dX7_reckon_154 rfl (by decide) (fun c_154 => absurd c_154 (by decide)) (fun c_154 => ?_)
            refine g_iload (nx := 159) F dX7_reckon_157 rfl rfl ?_
            refine g_bipush (nx := 161) (124) F dX7_reckon_159 rfl (by decide) ?_
            refine g_icmp_ne (nx := 164) 220 F dX7_reckon_161 rfl (by decide) (fun c_161 => ?_) (fun c_161 => absurd c_161 (by decide))
            refine g_iload (nx := 222) F dX7_reckon_220 rfl rfl ?_
            refine g_iconst (nx := 223) (2) F dX7_reckon_222 rfl rfl ?_
            refine g_icmp_lt (nx := 226) 243 F dX7_reckon_223 rfl (by decide) (fun c_223 => absurd c_223 (by exact nI_nlt (b := 2) (by omega) (by omega))) (fun c_223 => ?_)
            refine g_iload (nx := 228) F dX7_reckon_226 rfl rfl ?_
            refine g_aload_n (nx := 229) 0 F dX7_reckon_228 rfl rfl rfl ?_
            refine g_getR (nx := 232) F dX7_reckon_229 rfl fl_RX7_15 rfl (by decide) (by decide) rfl ?_
            refine g_iload (nx := 234) F dX7_reckon_232 rfl rfl ?_
            refine g_iconst (nx := 235) (1) F dX7_reckon_234 rfl rfl ?_
            refine g_isub (nx := 236) F dX7_reckon_235 rfl ?_
            rw [nI_pred]
            refine g_ialdN (nx := 237) (r.length + 1) (y) F dX7_reckon_236 rfl rfl (by omega) (hst.1) ?_
            refine g_callS (nx := 240) 2 0 [.int (43), .int y] F dX7_reckon_237 rfl ml_RX7_59 mo_X7_isRefused rfl rfl (Nat.le_of_ble_eq_true rfl) (by first | decide | omega) (c_isRefused (43) y _) (fun r_237 τ_237 q_237 => ?_)
            obtain ⟨rfl, et_237⟩ := q_237
            have et_237 := et_237.symm
            subst et_237
            dsimp only [Option.toList, List.append, List.cons_append, List.nil_append]
            refine g_if_eq (nx := 243) 245 F dX7_reckon_240 rfl (by decide) (fun c_240 => ?_) (fun c_240 => absurd c_240 (by exact fun zq => zq (bI_f (by rintro ⟨_, z | z⟩ <;> exact absurd z (by decide)))))
            refine g_iinc (nx := 248) (-1) F dX7_reckon_245 rfl rfl (by decide) (by decide) ?_
            try dsimp only [List.set]
            rw [pk_m1]
            refine g_aload_n (nx := 249) 0 F dX7_reckon_248 rfl rfl rfl ?_
            refine g_getR (nx := 252) F dX7_reckon_249 rfl fl_RX7_15 rfl (by decide) (by decide) rfl ?_
            refine g_iload (nx := 254) F dX7_reckon_252 rfl rfl ?_
            refine g_iconst (nx := 255) (1) F dX7_reckon_254 rfl rfl ?_
            refine g_isub (nx := 256) F dX7_reckon_255 rfl ?_
            rw [nI_pred]
            refine g_iload (nx := 258) F dX7_reckon_256 rfl rfl ?_
            refine g_aload_n (nx := 259) 0 F dX7_reckon_258 rfl rfl rfl ?_
            refine g_getR (nx := 262) F dX7_reckon_259 rfl fl_RX7_15 rfl (by decide) (by decide) rfl ?_
            refine g_iload (nx := 264) F dX7_reckon_262 rfl rfl ?_
            refine g_iconst (nx := 265) (1) F dX7_reckon_264 rfl rfl ?_
            refine g_isub (nx := 266) F dX7_reckon_265 rfl ?_
            rw [nI_pred]
            refine g_ialdN (nx := 267) (r.length) (x) F dX7_reckon_266 rfl rfl (by omega) (hst.2.1) ?_
            refine g_aload_n (nx := 268) 0 F dX7_reckon_267 rfl rfl rfl ?_
            refine g_getR (nx := 271) F dX7_reckon_268 rfl fl_RX7_15 rfl (by decide) (by decide) rfl ?_
            refine g_iload (nx := 273) F dX7_reckon_271 rfl rfl ?_
            refine g_ialdN (nx := 274) (r.length + 1) (y) F dX7_reckon_273 rfl rfl (by omega) (hst.1) ?_
            refine g_callS (nx := 277) 3 0 [.int (43), .int x, .int y] F dX7_reckon_274 rfl ml_RX7_63 mo_X7_join rfl rfl (Nat.le_of_ble_eq_true rfl) (by first | decide | omega) (c_join_2 x y _ (fun z => absurd z (by decide))) (fun r_274 τ_274 q_274 => ?_)
            obtain ⟨rfl, et_274⟩ := q_274
            have et_274 := et_274.symm
            subst et_274
            dsimp only [Option.toList, List.append, List.cons_append, List.nil_append]
            refine g_iastN (nx := 278) (r.length) F dX7_reckon_277 rfl rfl (by omega) ?_
            refine g_iinc (nx := 281) (1) F dX7_reckon_278 rfl rfl (by decide) (by decide) ?_
            try dsimp only [List.set]
            refine g_goto 24 F dX7_reckon_281 (by decide) ?_
            rw [nI_1, zs_zu]
            refine ih (k + 1) (jn 2 x y :: r) _ _ _ _ (by omega) (by omega) (stk_push hst.2.2) (by show r.length + 1 = _; have : (y :: x :: r).length = r.length + 2 := rfl; omega) (fun z => absurd z (by rw [w4]; decide)) ?_
            rw [← hA]
            simp only [evF, if_neg (show ¬ to ≤ k by omega), ho, List.headD_cons, List.tail_cons]
            rfl
          · refine g_iload (nx := 26) F dX7_reckon_24 rfl rfl ?_
            refine g_iload_n (nx := 27) 3 F dX7_reckon_26 rfl rfl rfl ?_
            refine g_icmp_ge (nx := 30) 284 F dX7_reckon_27 rfl (by decide) (fun c_27 => absurd c_27 (by exact nI_ge hk2 (by omega))) (fun c_27 => ?_)
            refine g_aload_n (nx := 31) 1 F dX7_reckon_30 rfl rfl rfl ?_
            refine g_getR (nx := 34) F dX7_reckon_31 rfl fl_RX7_52 (tx_k ht) (by decide) (by decide) (tx_0 ht) ?_
            refine g_iload (nx := 36) F dX7_reckon_34 rfl rfl ?_
            refine g_ialdN (nx := 37) (k) (nI (256 * vl k + 45)) F dX7_reckon_36 rfl (tx_k1 ht) (by omega) (by rw [zs_ne σ (show t + 1 ≠ 15 by omega), hcode k (by omega), ho]; rfl) ?_
            refine g_sipush (nx := 40) (255) F dX7_reckon_37 rfl (by decide) ?_
            refine g_iand (nx := 41) F dX7_reckon_40 rfl ?_
            refine g_top (45) (cd_kind (c := 45) (by decide) (by omega)) ?_
            refine g_istore (nx := 43) F dX7_reckon_41 rfl (by decide) ?_
            try dsimp only [List.set]
            refine g_aload_n (nx := 44) 1 F dX7_reckon_43 rfl rfl rfl ?_
            refine g_getR (nx := 47) F dX7_reckon_44 rfl fl_RX7_52 (tx_k ht) (by decide) (by decide) (tx_0 ht) ?_
            refine g_iload (nx := 49) F dX7_reckon_47 rfl rfl ?_
            refine g_ialdN (nx := 50) (k) (nI (256 * vl k + 45)) F dX7_reckon_49 rfl (tx_k1 ht) (by omega) (by rw [zs_ne σ (show t + 1 ≠ 15 by omega), hcode k (by omega), ho]; rfl) ?_
            refine g_bipush (nx := 52) (8) F dX7_reckon_50 rfl (by decide) ?_
            refine g_ishr (nx := 53) F dX7_reckon_52 rfl ?_
            refine g_top (nI (vl k)) (cd_more (c := 45) (by decide) (by omega)) ?_
            refine g_istore (nx := 55) F dX7_reckon_53 rfl (by decide) ?_
            try dsimp only [List.set]
            refine g_iload (nx := 57) F dX7_reckon_55 rfl rfl ?_
            refine g_bipush (nx := 59) (48) F dX7_reckon_57 rfl (by decide) ?_
            refine g_icmp_eq (nx := 62) 69 F dX7_reckon_59 rfl (by decide) (fun c_59 => absurd c_59 (by decide)) (fun c_59 => ?_)
            refine g_iload (nx := 64) F dX7_reckon_62 rfl rfl ?_
            refine g_bipush (nx := 66) (97) F dX7_reckon_64 rfl (by decide) ?_
            refine g_icmp_ne (nx := 69) 112 F dX7_reckon_66 rfl (by decide) (fun c_66 => ?_) (fun c_66 => absurd c_66 (by decide))
            refine g_iload (nx := 114) F dX7_reckon_112 rfl rfl ?_
            refine g_iconst (nx := 115) (1) F dX7_reckon_114 rfl rfl ?_
            refine g_icmp_ge (nx := 118) 120 F dX7_reckon_115 rfl (by decide) (fun c_115 => ?_) (fun c_115 => absurd c_115 (by exact fun zq => zq (nI_le (a := 1) (by omega) (by omega))))
            refine g_iload (nx := 122) F dX7_reckon_120 rfl rfl ?_
            refine g_bipush (nx := 124) (33) F dX7_reckon_122 rfl (by decide) ?_
            refine g_icmp_ne (nx := 127) 150 F dX7_reckon_124 rfl (by decide) (fun c_124 => ?_) (fun c_124 => absurd c_124 (by decide))
            refine g_iload (nx := 152) F dX7_reckon_150 rfl rfl ?_
            refine g_bipush (nx := 154) (38) F dX7_reckon_152 rfl (by decide) ?_
            refine g_icmp_eq (nx := 157) 164 F dX7_reckon_154 rfl (by decide) (fun c_154 => absurd c_154 (by decide)) (fun c_154 => ?_)
            refine g_iload (nx := 159) F dX7_reckon_157 rfl rfl ?_
            refine g_bipush (nx := 161) (124) F dX7_reckon_159 rfl (by decide) ?_
            refine g_icmp_ne (nx := 164) 220 F dX7_reckon_161 rfl (by decide) (fun c_161 => ?_) (fun c_161 => absurd c_161 (by decide))
            refine g_iload (nx := 222) F dX7_reckon_220 rfl rfl ?_
            refine g_iconst (nx := 223) (2) F dX7_reckon_222 rfl rfl ?_
            refine g_icmp_lt (nx := 226) 243 F dX7_reckon_223 rfl (by decide) (fun c_223 => absurd c_223 (by exact nI_nlt (b := 2) (by omega) (by omega))) (fun c_223 => ?_)
            refine g_iload (nx := 228) F dX7_reckon_226 rfl rfl ?_
            refine g_aload_n (nx := 229) 0 F dX7_reckon_228 rfl rfl rfl ?_
            refine g_getR (nx := 232) F dX7_reckon_229 rfl fl_RX7_15 rfl (by decide) (by decide) rfl ?_
            refine g_iload (nx := 234) F dX7_reckon_232 rfl rfl ?_
            refine g_iconst (nx := 235) (1) F dX7_reckon_234 rfl rfl ?_
            refine g_isub (nx := 236) F dX7_reckon_235 rfl ?_
            rw [nI_pred]
            refine g_ialdN (nx := 237) (r.length + 1) (y) F dX7_reckon_236 rfl rfl (by omega) (hst.1) ?_
            refine g_callS (nx := 240) 2 0 [.int (45), .int y] F dX7_reckon_237 rfl ml_RX7_59 mo_X7_isRefused rfl rfl (Nat.le_of_ble_eq_true rfl) (by first | decide | omega) (c_isRefused (45) y _) (fun r_237 τ_237 q_237 => ?_)
            obtain ⟨rfl, et_237⟩ := q_237
            have et_237 := et_237.symm
            subst et_237
            dsimp only [Option.toList, List.append, List.cons_append, List.nil_append]
            refine g_if_eq (nx := 243) 245 F dX7_reckon_240 rfl (by decide) (fun c_240 => ?_) (fun c_240 => absurd c_240 (by exact fun zq => zq (bI_f (by rintro ⟨_, z | z⟩ <;> exact absurd z (by decide)))))
            refine g_iinc (nx := 248) (-1) F dX7_reckon_245 rfl rfl (by decide) (by decide) ?_
            try dsimp only [List.set]
            rw [pk_m1]
            refine g_aload_n (nx := 249) 0 F dX7_reckon_248 rfl rfl rfl ?_
            refine g_getR (nx := 252) F dX7_reckon_249 rfl fl_RX7_15 rfl (by decide) (by decide) rfl ?_
            refine g_iload (nx := 254) F dX7_reckon_252 rfl rfl ?_
            refine g_iconst (nx := 255) (1) F dX7_reckon_254 rfl rfl ?_
            refine g_isub (nx := 256) F dX7_reckon_255 rfl ?_
            rw [nI_pred]
            refine g_iload (nx := 258) F dX7_reckon_256 rfl rfl ?_
            refine g_aload_n (nx := 259) 0 F dX7_reckon_258 rfl rfl rfl ?_
            refine g_getR (nx := 262) F dX7_reckon_259 rfl fl_RX7_15 rfl (by decide) (by decide) rfl ?_
            refine g_iload (nx := 264) F dX7_reckon_262 rfl rfl ?_
            refine g_iconst (nx := 265) (1) F dX7_reckon_264 rfl rfl ?_
            refine g_isub (nx := 266) F dX7_reckon_265 rfl ?_
            rw [nI_pred]
            refine g_ialdN (nx := 267) (r.length) (x) F dX7_reckon_266 rfl rfl (by omega) (hst.2.1) ?_
            refine g_aload_n (nx := 268) 0 F dX7_reckon_267 rfl rfl rfl ?_
            refine g_getR (nx := 271) F dX7_reckon_268 rfl fl_RX7_15 rfl (by decide) (by decide) rfl ?_
            refine g_iload (nx := 273) F dX7_reckon_271 rfl rfl ?_
            refine g_ialdN (nx := 274) (r.length + 1) (y) F dX7_reckon_273 rfl rfl (by omega) (hst.1) ?_
            refine g_callS (nx := 277) 3 0 [.int (45), .int x, .int y] F dX7_reckon_274 rfl ml_RX7_63 mo_X7_join rfl rfl (Nat.le_of_ble_eq_true rfl) (by first | decide | omega) (c_join_3 x y _ (fun z => absurd z (by decide))) (fun r_274 τ_274 q_274 => ?_)
            obtain ⟨rfl, et_274⟩ := q_274
            have et_274 := et_274.symm
            subst et_274
            dsimp only [Option.toList, List.append, List.cons_append, List.nil_append]
            refine g_iastN (nx := 278) (r.length) F dX7_reckon_277 rfl rfl (by omega) ?_
            refine g_iinc (nx := 281) (1) F dX7_reckon_278 rfl rfl (by decide) (by decide) ?_
            try dsimp only [List.set]
            refine g_goto 24 F dX7_reckon_281 (by decide) ?_
            rw [nI_1, zs_zu]
            refine ih (k + 1) (jn 3 x y :: r) _ _ _ _ (by omega) (by omega) (stk_push hst.2.2) (by show r.length + 1 = _; have : (y :: x :: r).length = r.length + 2 := rfl; omega) (fun z => absurd z (by rw [w4]; decide)) ?_
            rw [← hA]
            simp only [evF, if_neg (show ¬ to ≤ k by omega), ho, List.headD_cons, List.tail_cons]
            rfl
          · refine g_iload (nx := 26) F dX7_reckon_24 rfl rfl ?_
            refine g_iload_n (nx := 27) 3 F dX7_reckon_26 rfl rfl rfl ?_
            refine g_icmp_ge (nx := 30) 284 F dX7_reckon_27 rfl (by decide) (fun c_27 => absurd c_27 (by exact nI_ge hk2 (by omega))) (fun c_27 => ?_)
            refine g_aload_n (nx := 31) 1 F dX7_reckon_30 rfl rfl rfl ?_
            refine g_getR (nx := 34) F dX7_reckon_31 rfl fl_RX7_52 (tx_k ht) (by decide) (by decide) (tx_0 ht) ?_
            refine g_iload (nx := 36) F dX7_reckon_34 rfl rfl ?_
            refine g_ialdN (nx := 37) (k) (nI (256 * vl k + 42)) F dX7_reckon_36 rfl (tx_k1 ht) (by omega) (by rw [zs_ne σ (show t + 1 ≠ 15 by omega), hcode k (by omega), ho]; rfl) ?_
            refine g_sipush (nx := 40) (255) F dX7_reckon_37 rfl (by decide) ?_
            refine g_iand (nx := 41) F dX7_reckon_40 rfl ?_
            refine g_top (42) (cd_kind (c := 42) (by decide) (by omega)) ?_
            refine g_istore (nx := 43) F dX7_reckon_41 rfl (by decide) ?_
            try dsimp only [List.set]
            refine g_aload_n (nx := 44) 1 F dX7_reckon_43 rfl rfl rfl ?_
            refine g_getR (nx := 47) F dX7_reckon_44 rfl fl_RX7_52 (tx_k ht) (by decide) (by decide) (tx_0 ht) ?_
            refine g_iload (nx := 49) F dX7_reckon_47 rfl rfl ?_
            refine g_ialdN (nx := 50) (k) (nI (256 * vl k + 42)) F dX7_reckon_49 rfl (tx_k1 ht) (by omega) (by rw [zs_ne σ (show t + 1 ≠ 15 by omega), hcode k (by omega), ho]; rfl) ?_
            refine g_bipush (nx := 52) (8) F dX7_reckon_50 rfl (by decide) ?_
            refine g_ishr (nx := 53) F dX7_reckon_52 rfl ?_
            refine g_top (nI (vl k)) (cd_more (c := 42) (by decide) (by omega)) ?_
            refine g_istore (nx := 55) F dX7_reckon_53 rfl (by decide) ?_
            try dsimp only [List.set]
            refine g_iload (nx := 57) F dX7_reckon_55 rfl rfl ?_
            refine g_bipush (nx := 59) (48) F dX7_reckon_57 rfl (by decide) ?_
            refine g_icmp_eq (nx := 62) 69 F dX7_reckon_59 rfl (by decide) (fun c_59 => absurd c_59 (by decide)) (fun c_59 => ?_)
            refine g_iload (nx := 64) F dX7_reckon_62 rfl rfl ?_
            refine g_bipush (nx := 66) (97) F dX7_reckon_64 rfl (by decide) ?_
            refine g_icmp_ne (nx := 69) 112 F dX7_reckon_66 rfl (by decide) (fun c_66 => ?_) (fun c_66 => absurd c_66 (by decide))
            refine g_iload (nx := 114) F dX7_reckon_112 rfl rfl ?_
            refine g_iconst (nx := 115) (1) F dX7_reckon_114 rfl rfl ?_
            refine g_icmp_ge (nx := 118) 120 F dX7_reckon_115 rfl (by decide) (fun c_115 => ?_) (fun c_115 => absurd c_115 (by exact fun zq => zq (nI_le (a := 1) (by omega) (by omega))))
            refine g_iload (nx := 122) F dX7_reckon_120 rfl rfl ?_
            refine g_bipush (nx := 124) (33) F dX7_reckon_122 rfl (by decide) ?_
            refine g_icmp_ne (nx := 127) 150 F dX7_reckon_124 rfl (by decide) (fun c_124 => ?_) (fun c_124 => absurd c_124 (by decide))
            refine g_iload (nx := 152) F dX7_reckon_150 rfl rfl ?_
            refine g_bipush (nx := 154) (38) F dX7_reckon_152 rfl (by decide) ?_
            refine g_icmp_eq (nx := 157) 164 F dX7_reckon_154 rfl (by decide) (fun c_154 => absurd c_154 (by decide)) (fun c_154 => ?_)
            refine g_iload (nx := 159) F dX7_reckon_157 rfl rfl ?_
            refine g_bipush (nx := 161) (124) F dX7_reckon_159 rfl (by decide) ?_
            refine g_icmp_ne (nx := 164) 220 F dX7_reckon_161 rfl (by decide) (fun c_161 => ?_) (fun c_161 => absurd c_161 (by decide))
            refine g_iload (nx := 222) F dX7_reckon_220 rfl rfl ?_
            refine g_iconst (nx := 223) (2) F dX7_reckon_222 rfl rfl ?_
            refine g_icmp_lt (nx := 226) 243 F dX7_reckon_223 rfl (by decide) (fun c_223 => absurd c_223 (by exact nI_nlt (b := 2) (by omega) (by omega))) (fun c_223 => ?_)
            refine g_iload (nx := 228) F dX7_reckon_226 rfl rfl ?_
            refine g_aload_n (nx := 229) 0 F dX7_reckon_228 rfl rfl rfl ?_
            refine g_getR (nx := 232) F dX7_reckon_229 rfl fl_RX7_15 rfl (by decide) (by decide) rfl ?_
            refine g_iload (nx := 234) F dX7_reckon_232 rfl rfl ?_
            refine g_iconst (nx := 235) (1) F dX7_reckon_234 rfl rfl ?_
            refine g_isub (nx := 236) F dX7_reckon_235 rfl ?_
            rw [nI_pred]
            refine g_ialdN (nx := 237) (r.length + 1) (y) F dX7_reckon_236 rfl rfl (by omega) (hst.1) ?_
            refine g_callS (nx := 240) 2 0 [.int (42), .int y] F dX7_reckon_237 rfl ml_RX7_59 mo_X7_isRefused rfl rfl (Nat.le_of_ble_eq_true rfl) (by first | decide | omega) (c_isRefused (42) y _) (fun r_237 τ_237 q_237 => ?_)
            obtain ⟨rfl, et_237⟩ := q_237
            have et_237 := et_237.symm
            subst et_237
            dsimp only [Option.toList, List.append, List.cons_append, List.nil_append]
            refine g_if_eq (nx := 243) 245 F dX7_reckon_240 rfl (by decide) (fun c_240 => ?_) (fun c_240 => absurd c_240 (by exact fun zq => zq (bI_f (by rintro ⟨_, z | z⟩ <;> exact absurd z (by decide)))))
            refine g_iinc (nx := 248) (-1) F dX7_reckon_245 rfl rfl (by decide) (by decide) ?_
            try dsimp only [List.set]
            rw [pk_m1]
            refine g_aload_n (nx := 249) 0 F dX7_reckon_248 rfl rfl rfl ?_
            refine g_getR (nx := 252) F dX7_reckon_249 rfl fl_RX7_15 rfl (by decide) (by decide) rfl ?_
            refine g_iload (nx := 254) F dX7_reckon_252 rfl rfl ?_
            refine g_iconst (nx := 255) (1) F dX7_reckon_254 rfl rfl ?_
            refine g_isub (nx := 256) F dX7_reckon_255 rfl ?_
            rw [nI_pred]
            refine g_iload (nx := 258) F dX7_reckon_256 rfl rfl ?_
            refine g_aload_n (nx := 259) 0 F dX7_reckon_258 rfl rfl rfl ?_
            refine g_getR (nx := 262) F dX7_reckon_259 rfl fl_RX7_15 rfl (by decide) (by decide) rfl ?_
            refine g_iload (nx := 264) F dX7_reckon_262 rfl rfl ?_
            refine g_iconst (nx := 265) (1) F dX7_reckon_264 rfl rfl ?_
            refine g_isub (nx := 266) F dX7_reckon_265 rfl ?_
            rw [nI_pred]
            refine g_ialdN (nx := 267) (r.length) (x) F dX7_reckon_266 rfl rfl (by omega) (hst.2.1) ?_
            refine g_aload_n (nx := 268) 0 F dX7_reckon_267 rfl rfl rfl ?_
            refine g_getR (nx := 271) F dX7_reckon_268 rfl fl_RX7_15 rfl (by decide) (by decide) rfl ?_
            refine g_iload (nx := 273) F dX7_reckon_271 rfl rfl ?_
            refine g_ialdN (nx := 274) (r.length + 1) (y) F dX7_reckon_273 rfl rfl (by omega) (hst.1) ?_
            refine g_callS (nx := 277) 3 0 [.int (42), .int x, .int y] F dX7_reckon_274 rfl ml_RX7_63 mo_X7_join rfl rfl (Nat.le_of_ble_eq_true rfl) (by first | decide | omega) (c_join_4 x y _ (fun z => absurd z (by decide))) (fun r_274 τ_274 q_274 => ?_)
            obtain ⟨rfl, et_274⟩ := q_274
            have et_274 := et_274.symm
            subst et_274
            dsimp only [Option.toList, List.append, List.cons_append, List.nil_append]
            refine g_iastN (nx := 278) (r.length) F dX7_reckon_277 rfl rfl (by omega) ?_
            refine g_iinc (nx := 281) (1) F dX7_reckon_278 rfl rfl (by decide) (by decide) ?_
            try dsimp only [List.set]
            refine g_goto 24 F dX7_reckon_281 (by decide) ?_
            rw [nI_1, zs_zu]
            refine ih (k + 1) (jn 4 x y :: r) _ _ _ _ (by omega) (by omega) (stk_push hst.2.2) (by show r.length + 1 = _; have : (y :: x :: r).length = r.length + 2 := rfl; omega) (fun z => absurd z (by rw [w4]; decide)) ?_
            rw [← hA]
            simp only [evF, if_neg (show ¬ to ≤ k by omega), ho, List.headD_cons, List.tail_cons]
            rfl
          · refine g_iload (nx := 26) F dX7_reckon_24 rfl rfl ?_
            refine g_iload_n (nx := 27) 3 F dX7_reckon_26 rfl rfl rfl ?_
            refine g_icmp_ge (nx := 30) 284 F dX7_reckon_27 rfl (by decide) (fun c_27 => absurd c_27 (by exact nI_ge hk2 (by omega))) (fun c_27 => ?_)
            refine g_aload_n (nx := 31) 1 F dX7_reckon_30 rfl rfl rfl ?_
            refine g_getR (nx := 34) F dX7_reckon_31 rfl fl_RX7_52 (tx_k ht) (by decide) (by decide) (tx_0 ht) ?_
            refine g_iload (nx := 36) F dX7_reckon_34 rfl rfl ?_
            refine g_ialdN (nx := 37) (k) (nI (256 * vl k + 47)) F dX7_reckon_36 rfl (tx_k1 ht) (by omega) (by rw [zs_ne σ (show t + 1 ≠ 15 by omega), hcode k (by omega), ho]; rfl) ?_
            refine g_sipush (nx := 40) (255) F dX7_reckon_37 rfl (by decide) ?_
            refine g_iand (nx := 41) F dX7_reckon_40 rfl ?_
            refine g_top (47) (cd_kind (c := 47) (by decide) (by omega)) ?_
            refine g_istore (nx := 43) F dX7_reckon_41 rfl (by decide) ?_
            try dsimp only [List.set]
            refine g_aload_n (nx := 44) 1 F dX7_reckon_43 rfl rfl rfl ?_
            refine g_getR (nx := 47) F dX7_reckon_44 rfl fl_RX7_52 (tx_k ht) (by decide) (by decide) (tx_0 ht) ?_
            refine g_iload (nx := 49) F dX7_reckon_47 rfl rfl ?_
            refine g_ialdN (nx := 50) (k) (nI (256 * vl k + 47)) F dX7_reckon_49 rfl (tx_k1 ht) (by omega) (by rw [zs_ne σ (show t + 1 ≠ 15 by omega), hcode k (by omega), ho]; rfl) ?_
            refine g_bipush (nx := 52) (8) F dX7_reckon_50 rfl (by decide) ?_
            refine g_ishr (nx := 53) F dX7_reckon_52 rfl ?_
            refine g_top (nI (vl k)) (cd_more (c := 47) (by decide) (by omega)) ?_
            refine g_istore (nx := 55) F dX7_reckon_53 rfl (by decide) ?_
            try dsimp only [List.set]
            refine g_iload (nx := 57) F dX7_reckon_55 rfl rfl ?_
            refine g_bipush (nx := 59) (48) F dX7_reckon_57 rfl (by decide) ?_
            refine g_icmp_eq (nx := 62) 69 F dX7_reckon_59 rfl (by decide) (fun c_59 => absurd c_59 (by decide)) (fun c_59 => ?_)
            refine g_iload (nx := 64) F dX7_reckon_62 rfl rfl ?_
            refine g_bipush (nx := 66) (97) F dX7_reckon_64 rfl (by decide) ?_
            refine g_icmp_ne (nx := 69) 112 F dX7_reckon_66 rfl (by decide) (fun c_66 => ?_) (fun c_66 => absurd c_66 (by decide))
            refine g_iload (nx := 114) F dX7_reckon_112 rfl rfl ?_
            refine g_iconst (nx := 115) (1) F dX7_reckon_114 rfl rfl ?_
            refine g_icmp_ge (nx := 118) 120 F dX7_reckon_115 rfl (by decide) (fun c_115 => ?_) (fun c_115 => absurd c_115 (by exact fun zq => zq (nI_le (a := 1) (by omega) (by omega))))
            refine g_iload (nx := 122) F dX7_reckon_120 rfl rfl ?_
            refine g_bipush (nx := 124) (33) F dX7_reckon_122 rfl (by decide) ?_
            refine g_icmp_ne (nx := 127) 150 F dX7_reckon_124 rfl (by decide) (fun c_124 => ?_) (fun c_124 => absurd c_124 (by decide))
            refine g_iload (nx := 152) F dX7_reckon_150 rfl rfl ?_
            refine g_bipush (nx := 154) (38) F dX7_reckon_152 rfl (by decide) ?_
            refine g_icmp_eq (nx := 157) 164 F dX7_reckon_154 rfl (by decide) (fun c_154 => absurd c_154 (by decide)) (fun c_154 => ?_)
            refine g_iload (nx := 159) F dX7_reckon_157 rfl rfl ?_
            refine g_bipush (nx := 161) (124) F dX7_reckon_159 rfl (by decide) ?_
            refine g_icmp_ne (nx := 164) 220 F dX7_reckon_161 rfl (by decide) (fun c_161 => ?_) (fun c_161 => absurd c_161 (by decide))
            refine g_iload (nx := 222) F dX7_reckon_220 rfl rfl ?_
            refine g_iconst (nx := 223) (2) F dX7_reckon_222 rfl rfl ?_
            refine g_icmp_lt (nx := 226) 243 F dX7_reckon_223 rfl (by decide) (fun c_223 => absurd c_223 (by exact nI_nlt (b := 2) (by omega) (by omega))) (fun c_223 => ?_)
            refine g_iload (nx := 228) F dX7_reckon_226 rfl rfl ?_
            refine g_aload_n (nx := 229) 0 F dX7_reckon_228 rfl rfl rfl ?_
            refine g_getR (nx := 232) F dX7_reckon_229 rfl fl_RX7_15 rfl (by decide) (by decide) rfl ?_
            refine g_iload (nx := 234) F dX7_reckon_232 rfl rfl ?_
            refine g_iconst (nx := 235) (1) F dX7_reckon_234 rfl rfl ?_
            refine g_isub (nx := 236) F dX7_reckon_235 rfl ?_
            rw [nI_pred]
            refine g_ialdN (nx := 237) (r.length + 1) (y) F dX7_reckon_236 rfl rfl (by omega) (hst.1) ?_
            refine g_callS (nx := 240) 2 0 [.int (47), .int y] F dX7_reckon_237 rfl ml_RX7_59 mo_X7_isRefused rfl rfl (Nat.le_of_ble_eq_true rfl) (by first | decide | omega) (c_isRefused (47) y _) (fun r_237 τ_237 q_237 => ?_)
            obtain ⟨rfl, et_237⟩ := q_237
            have et_237 := et_237.symm
            subst et_237
            dsimp only [Option.toList, List.append, List.cons_append, List.nil_append]
            refine g_if_eq (nx := 243) 245 F dX7_reckon_240 rfl (by decide) (fun c_240 => ?_) (fun c_240 => ?_)
            · refine g_iinc (nx := 248) (-1) F dX7_reckon_245 rfl rfl (by decide) (by decide) ?_
              try dsimp only [List.set]
              rw [pk_m1]
              refine g_aload_n (nx := 249) 0 F dX7_reckon_248 rfl rfl rfl ?_
              refine g_getR (nx := 252) F dX7_reckon_249 rfl fl_RX7_15 rfl (by decide) (by decide) rfl ?_
              refine g_iload (nx := 254) F dX7_reckon_252 rfl rfl ?_
              refine g_iconst (nx := 255) (1) F dX7_reckon_254 rfl rfl ?_
              refine g_isub (nx := 256) F dX7_reckon_255 rfl ?_
              rw [nI_pred]
              refine g_iload (nx := 258) F dX7_reckon_256 rfl rfl ?_
              refine g_aload_n (nx := 259) 0 F dX7_reckon_258 rfl rfl rfl ?_
              refine g_getR (nx := 262) F dX7_reckon_259 rfl fl_RX7_15 rfl (by decide) (by decide) rfl ?_
              refine g_iload (nx := 264) F dX7_reckon_262 rfl rfl ?_
              refine g_iconst (nx := 265) (1) F dX7_reckon_264 rfl rfl ?_
              refine g_isub (nx := 266) F dX7_reckon_265 rfl ?_
              rw [nI_pred]
              refine g_ialdN (nx := 267) (r.length) (x) F dX7_reckon_266 rfl rfl (by omega) (hst.2.1) ?_
              refine g_aload_n (nx := 268) 0 F dX7_reckon_267 rfl rfl rfl ?_
              refine g_getR (nx := 271) F dX7_reckon_268 rfl fl_RX7_15 rfl (by decide) (by decide) rfl ?_
              refine g_iload (nx := 273) F dX7_reckon_271 rfl rfl ?_
              refine g_ialdN (nx := 274) (r.length + 1) (y) F dX7_reckon_273 rfl rfl (by omega) (hst.1) ?_
              refine g_callS (nx := 277) 3 0 [.int (47), .int x, .int y] F dX7_reckon_274 rfl ml_RX7_63 mo_X7_join rfl rfl (Nat.le_of_ble_eq_true rfl) (by first | decide | omega) (c_join_5 x y _ (fun _ zq => absurd (bI_0.mp c_240) (fun z => z ⟨zq, Or.inl rfl⟩))) (fun r_274 τ_274 q_274 => ?_)
              obtain ⟨rfl, et_274⟩ := q_274
              have et_274 := et_274.symm
              subst et_274
              dsimp only [Option.toList, List.append, List.cons_append, List.nil_append]
              refine g_iastN (nx := 278) (r.length) F dX7_reckon_277 rfl rfl (by omega) ?_
              refine g_iinc (nx := 281) (1) F dX7_reckon_278 rfl rfl (by decide) (by decide) ?_
              try dsimp only [List.set]
              refine g_goto 24 F dX7_reckon_281 (by decide) ?_
              have hy : ¬ y = 0 := fun zq => absurd (bI_0.mp c_240) (fun z => z ⟨zq, Or.inl rfl⟩)
              rw [nI_1, zs_zu]
              refine ih (k + 1) (jn 5 x y :: r) _ _ _ _ (by omega) (by omega) (stk_push hst.2.2) (by show r.length + 1 = _; have : (y :: x :: r).length = r.length + 2 := rfl; omega) (fun z => absurd z (by rw [w4]; decide)) ?_
              rw [← hA]
              simp only [evF, if_neg (show ¬ to ≤ k by omega), ho, List.headD_cons, List.tail_cons, hy]
              rfl
            · refine g_iconst (nx := 244) (0) F dX7_reckon_243 rfl rfl ?_
              refine g_iret F E dX7_reckon_244 ?_
              have hy := (Decidable.not_not.mp (mt bI_0.mpr c_240)).1
              refine ⟨⟨g, rfl⟩, congrArg (fun z => some (Value.int z)) ?_⟩
              rw [← hA]
              simp only [evF, if_neg (show ¬ to ≤ k by omega), ho, List.headD_cons, hy]
              rfl
          · refine g_iload (nx := 26) F dX7_reckon_24 rfl rfl ?_
            refine g_iload_n (nx := 27) 3 F dX7_reckon_26 rfl rfl rfl ?_
            refine g_icmp_ge (nx := 30) 284 F dX7_reckon_27 rfl (by decide) (fun c_27 => absurd c_27 (by exact nI_ge hk2 (by omega))) (fun c_27 => ?_)
            refine g_aload_n (nx := 31) 1 F dX7_reckon_30 rfl rfl rfl ?_
            refine g_getR (nx := 34) F dX7_reckon_31 rfl fl_RX7_52 (tx_k ht) (by decide) (by decide) (tx_0 ht) ?_
            refine g_iload (nx := 36) F dX7_reckon_34 rfl rfl ?_
            refine g_ialdN (nx := 37) (k) (nI (256 * vl k + 37)) F dX7_reckon_36 rfl (tx_k1 ht) (by omega) (by rw [zs_ne σ (show t + 1 ≠ 15 by omega), hcode k (by omega), ho]; rfl) ?_
            refine g_sipush (nx := 40) (255) F dX7_reckon_37 rfl (by decide) ?_
            refine g_iand (nx := 41) F dX7_reckon_40 rfl ?_
            refine g_top (37) (cd_kind (c := 37) (by decide) (by omega)) ?_
            refine g_istore (nx := 43) F dX7_reckon_41 rfl (by decide) ?_
            try dsimp only [List.set]
            refine g_aload_n (nx := 44) 1 F dX7_reckon_43 rfl rfl rfl ?_
            refine g_getR (nx := 47) F dX7_reckon_44 rfl fl_RX7_52 (tx_k ht) (by decide) (by decide) (tx_0 ht) ?_
            refine g_iload (nx := 49) F dX7_reckon_47 rfl rfl ?_
            refine g_ialdN (nx := 50) (k) (nI (256 * vl k + 37)) F dX7_reckon_49 rfl (tx_k1 ht) (by omega) (by rw [zs_ne σ (show t + 1 ≠ 15 by omega), hcode k (by omega), ho]; rfl) ?_
            refine g_bipush (nx := 52) (8) F dX7_reckon_50 rfl (by decide) ?_
            refine g_ishr (nx := 53) F dX7_reckon_52 rfl ?_
            refine g_top (nI (vl k)) (cd_more (c := 37) (by decide) (by omega)) ?_
            refine g_istore (nx := 55) F dX7_reckon_53 rfl (by decide) ?_
            try dsimp only [List.set]
            refine g_iload (nx := 57) F dX7_reckon_55 rfl rfl ?_
            refine g_bipush (nx := 59) (48) F dX7_reckon_57 rfl (by decide) ?_
            refine g_icmp_eq (nx := 62) 69 F dX7_reckon_59 rfl (by decide) (fun c_59 => absurd c_59 (by decide)) (fun c_59 => ?_)
            refine g_iload (nx := 64) F dX7_reckon_62 rfl rfl ?_
            refine g_bipush (nx := 66) (97) F dX7_reckon_64 rfl (by decide) ?_
            refine g_icmp_ne (nx := 69) 112 F dX7_reckon_66 rfl (by decide) (fun c_66 => ?_) (fun c_66 => absurd c_66 (by decide))
            refine g_iload (nx := 114) F dX7_reckon_112 rfl rfl ?_
            refine g_iconst (nx := 115) (1) F dX7_reckon_114 rfl rfl ?_
            refine g_icmp_ge (nx := 118) 120 F dX7_reckon_115 rfl (by decide) (fun c_115 => ?_) (fun c_115 => absurd c_115 (by exact fun zq => zq (nI_le (a := 1) (by omega) (by omega))))
            refine g_iload (nx := 122) F dX7_reckon_120 rfl rfl ?_
            refine g_bipush (nx := 124) (33) F dX7_reckon_122 rfl (by decide) ?_
            refine g_icmp_ne (nx := 127) 150 F dX7_reckon_124 rfl (by decide) (fun c_124 => ?_) (fun c_124 => absurd c_124 (by decide))
            refine g_iload (nx := 152) F dX7_reckon_150 rfl rfl ?_
            refine g_bipush (nx := 154) (38) F dX7_reckon_152 rfl (by decide) ?_
            refine g_icmp_eq (nx := 157) 164 F dX7_reckon_154 rfl (by decide) (fun c_154 => absurd c_154 (by decide)) (fun c_154 => ?_)
            refine g_iload (nx := 159) F dX7_reckon_157 rfl rfl ?_
            refine g_bipush (nx := 161) (124) F dX7_reckon_159 rfl (by decide) ?_
            refine g_icmp_ne (nx := 164) 220 F dX7_reckon_161 rfl (by decide) (fun c_161 => ?_) (fun c_161 => absurd c_161 (by decide))
            refine g_iload (nx := 222) F dX7_reckon_220 rfl rfl ?_
            refine g_iconst (nx := 223) (2) F dX7_reckon_222 rfl rfl ?_
            refine g_icmp_lt (nx := 226) 243 F dX7_reckon_223 rfl (by decide) (fun c_223 => absurd c_223 (by exact nI_nlt (b := 2) (by omega) (by omega))) (fun c_223 => ?_)
            refine g_iload (nx := 228) F dX7_reckon_226 rfl rfl ?_
            refine g_aload_n (nx := 229) 0 F dX7_reckon_228 rfl rfl rfl ?_
            refine g_getR (nx := 232) F dX7_reckon_229 rfl fl_RX7_15 rfl (by decide) (by decide) rfl ?_
            refine g_iload (nx := 234) F dX7_reckon_232 rfl rfl ?_
            refine g_iconst (nx := 235) (1) F dX7_reckon_234 rfl rfl ?_
            refine g_isub (nx := 236) F dX7_reckon_235 rfl ?_
            rw [nI_pred]
            refine g_ialdN (nx := 237) (r.length + 1) (y) F dX7_reckon_236 rfl rfl (by omega) (hst.1) ?_
            refine g_callS (nx := 240) 2 0 [.int (37), .int y] F dX7_reckon_237 rfl ml_RX7_59 mo_X7_isRefused rfl rfl (Nat.le_of_ble_eq_true rfl) (by first | decide | omega) (c_isRefused (37) y _) (fun r_237 τ_237 q_237 => ?_)
            obtain ⟨rfl, et_237⟩ := q_237
            have et_237 := et_237.symm
            subst et_237
            dsimp only [Option.toList, List.append, List.cons_append, List.nil_append]
            refine g_if_eq (nx := 243) 245 F dX7_reckon_240 rfl (by decide) (fun c_240 => ?_) (fun c_240 => ?_)
            · refine g_iinc (nx := 248) (-1) F dX7_reckon_245 rfl rfl (by decide) (by decide) ?_
              try dsimp only [List.set]
              rw [pk_m1]
              refine g_aload_n (nx := 249) 0 F dX7_reckon_248 rfl rfl rfl ?_
              refine g_getR (nx := 252) F dX7_reckon_249 rfl fl_RX7_15 rfl (by decide) (by decide) rfl ?_
              refine g_iload (nx := 254) F dX7_reckon_252 rfl rfl ?_
              refine g_iconst (nx := 255) (1) F dX7_reckon_254 rfl rfl ?_
              refine g_isub (nx := 256) F dX7_reckon_255 rfl ?_
              rw [nI_pred]
              refine g_iload (nx := 258) F dX7_reckon_256 rfl rfl ?_
              refine g_aload_n (nx := 259) 0 F dX7_reckon_258 rfl rfl rfl ?_
              refine g_getR (nx := 262) F dX7_reckon_259 rfl fl_RX7_15 rfl (by decide) (by decide) rfl ?_
              refine g_iload (nx := 264) F dX7_reckon_262 rfl rfl ?_
              refine g_iconst (nx := 265) (1) F dX7_reckon_264 rfl rfl ?_
              refine g_isub (nx := 266) F dX7_reckon_265 rfl ?_
              rw [nI_pred]
              refine g_ialdN (nx := 267) (r.length) (x) F dX7_reckon_266 rfl rfl (by omega) (hst.2.1) ?_
              refine g_aload_n (nx := 268) 0 F dX7_reckon_267 rfl rfl rfl ?_
              refine g_getR (nx := 271) F dX7_reckon_268 rfl fl_RX7_15 rfl (by decide) (by decide) rfl ?_
              refine g_iload (nx := 273) F dX7_reckon_271 rfl rfl ?_
              refine g_ialdN (nx := 274) (r.length + 1) (y) F dX7_reckon_273 rfl rfl (by omega) (hst.1) ?_
              refine g_callS (nx := 277) 3 0 [.int (37), .int x, .int y] F dX7_reckon_274 rfl ml_RX7_63 mo_X7_join rfl rfl (Nat.le_of_ble_eq_true rfl) (by first | decide | omega) (c_join_6 x y _ (fun _ zq => absurd (bI_0.mp c_240) (fun z => z ⟨zq, Or.inr rfl⟩))) (fun r_274 τ_274 q_274 => ?_)
              obtain ⟨rfl, et_274⟩ := q_274
              have et_274 := et_274.symm
              subst et_274
              dsimp only [Option.toList, List.append, List.cons_append, List.nil_append]
              refine g_iastN (nx := 278) (r.length) F dX7_reckon_277 rfl rfl (by omega) ?_
              refine g_iinc (nx := 281) (1) F dX7_reckon_278 rfl rfl (by decide) (by decide) ?_
              try dsimp only [List.set]
              refine g_goto 24 F dX7_reckon_281 (by decide) ?_
              have hy : ¬ y = 0 := fun zq => absurd (bI_0.mp c_240) (fun z => z ⟨zq, Or.inr rfl⟩)
              rw [nI_1, zs_zu]
              refine ih (k + 1) (jn 6 x y :: r) _ _ _ _ (by omega) (by omega) (stk_push hst.2.2) (by show r.length + 1 = _; have : (y :: x :: r).length = r.length + 2 := rfl; omega) (fun z => absurd z (by rw [w4]; decide)) ?_
              rw [← hA]
              simp only [evF, if_neg (show ¬ to ≤ k by omega), ho, List.headD_cons, List.tail_cons, hy]
              rfl
            · refine g_iconst (nx := 244) (0) F dX7_reckon_243 rfl rfl ?_
              refine g_iret F E dX7_reckon_244 ?_
              have hy := (Decidable.not_not.mp (mt bI_0.mpr c_240)).1
              refine ⟨⟨g, rfl⟩, congrArg (fun z => some (Value.int z)) ?_⟩
              rw [← hA]
              simp only [evF, if_neg (show ¬ to ≤ k by omega), ho, List.headD_cons, hy]
              rfl
        · obtain ⟨y, x, r, rfl⟩ : ∃ y x r, st = y :: x :: r := by
            match st, hlen with
            | y :: x :: r, _ => exact ⟨y, x, r, rfl⟩
            | [_], h => have : (1 : Nat) = dp k := h; omega
            | [], h => have : (0 : Nat) = dp k := h; omega
          have hlr : r.length + 2 = dp k := hlen
          have hst : g (r.length + 1) = y ∧ g r.length = x ∧ stk g r := hst
          have hst : stk g (y :: x :: r) := hst
          have hvl : vl k < 1000000 := hvl k (by omega)
          show Gs X 24 [.ref 13, .ref t, .int (nI fr), .int (nI to), .int (nI (r.length + 1 + 1)), .int (nI k), z6, z7, z8] [] (zs σ 15 g)
          rcases (show op k = 7 ∨ op k = 8 ∨ op k = 9 by omega) with ho | ho | ho
          · refine g_iload (nx := 26) F dX7_reckon_24 rfl rfl ?_
            refine g_iload_n (nx := 27) 3 F dX7_reckon_26 rfl rfl rfl ?_
            refine g_icmp_ge (nx := 30) 284 F dX7_reckon_27 rfl (by decide) (fun c_27 => absurd c_27 (by exact nI_ge hk2 (by omega))) (fun c_27 => ?_)
            refine g_aload_n (nx := 31) 1 F dX7_reckon_30 rfl rfl rfl ?_
            refine g_getR (nx := 34) F dX7_reckon_31 rfl fl_RX7_52 (tx_k ht) (by decide) (by decide) (tx_0 ht) ?_
            refine g_iload (nx := 36) F dX7_reckon_34 rfl rfl ?_
            refine g_ialdN (nx := 37) (k) (nI (256 * vl k + 60)) F dX7_reckon_36 rfl (tx_k1 ht) (by omega) (by rw [zs_ne σ (show t + 1 ≠ 15 by omega), hcode k (by omega), ho]; rfl) ?_
            refine g_sipush (nx := 40) (255) F dX7_reckon_37 rfl (by decide) ?_
            refine g_iand (nx := 41) F dX7_reckon_40 rfl ?_
            refine g_top (60) (cd_kind (c := 60) (by decide) (by omega)) ?_
            refine g_istore (nx := 43) F dX7_reckon_41 rfl (by decide) ?_
            try dsimp only [List.set]
            refine g_aload_n (nx := 44) 1 F dX7_reckon_43 rfl rfl rfl ?_
            refine g_getR (nx := 47) F dX7_reckon_44 rfl fl_RX7_52 (tx_k ht) (by decide) (by decide) (tx_0 ht) ?_
            refine g_iload (nx := 49) F dX7_reckon_47 rfl rfl ?_
            refine g_ialdN (nx := 50) (k) (nI (256 * vl k + 60)) F dX7_reckon_49 rfl (tx_k1 ht) (by omega) (by rw [zs_ne σ (show t + 1 ≠ 15 by omega), hcode k (by omega), ho]; rfl) ?_
            refine g_bipush (nx := 52) (8) F dX7_reckon_50 rfl (by decide) ?_
            refine g_ishr (nx := 53) F dX7_reckon_52 rfl ?_
            refine g_top (nI (vl k)) (cd_more (c := 60) (by decide) (by omega)) ?_
            refine g_istore (nx := 55) F dX7_reckon_53 rfl (by decide) ?_
            try dsimp only [List.set]
            refine g_iload (nx := 57) F dX7_reckon_55 rfl rfl ?_
            refine g_bipush (nx := 59) (48) F dX7_reckon_57 rfl (by decide) ?_
            refine g_icmp_eq (nx := 62) 69 F dX7_reckon_59 rfl (by decide) (fun c_59 => absurd c_59 (by decide)) (fun c_59 => ?_)
            refine g_iload (nx := 64) F dX7_reckon_62 rfl rfl ?_
            refine g_bipush (nx := 66) (97) F dX7_reckon_64 rfl (by decide) ?_
            refine g_icmp_ne (nx := 69) 112 F dX7_reckon_66 rfl (by decide) (fun c_66 => ?_) (fun c_66 => absurd c_66 (by decide))
            refine g_iload (nx := 114) F dX7_reckon_112 rfl rfl ?_
            refine g_iconst (nx := 115) (1) F dX7_reckon_114 rfl rfl ?_
            refine g_icmp_ge (nx := 118) 120 F dX7_reckon_115 rfl (by decide) (fun c_115 => ?_) (fun c_115 => absurd c_115 (by exact fun zq => zq (nI_le (a := 1) (by omega) (by omega))))
            refine g_iload (nx := 122) F dX7_reckon_120 rfl rfl ?_
            refine g_bipush (nx := 124) (33) F dX7_reckon_122 rfl (by decide) ?_
            refine g_icmp_ne (nx := 127) 150 F dX7_reckon_124 rfl (by decide) (fun c_124 => ?_) (fun c_124 => absurd c_124 (by decide))
            refine g_iload (nx := 152) F dX7_reckon_150 rfl rfl ?_
            refine g_bipush (nx := 154) (38) F dX7_reckon_152 rfl (by decide) ?_
            refine g_icmp_eq (nx := 157) 164 F dX7_reckon_154 rfl (by decide) (fun c_154 => absurd c_154 (by decide)) (fun c_154 => ?_)
            refine g_iload (nx := 159) F dX7_reckon_157 rfl rfl ?_
            refine g_bipush (nx := 161) (124) F dX7_reckon_159 rfl (by decide) ?_
            refine g_icmp_ne (nx := 164) 220 F dX7_reckon_161 rfl (by decide) (fun c_161 => ?_) (fun c_161 => absurd c_161 (by decide))
            refine g_iload (nx := 222) F dX7_reckon_220 rfl rfl ?_
            refine g_iconst (nx := 223) (2) F dX7_reckon_222 rfl rfl ?_
            refine g_icmp_lt (nx := 226) 243 F dX7_reckon_223 rfl (by decide) (fun c_223 => absurd c_223 (by exact nI_nlt (b := 2) (by omega) (by omega))) (fun c_223 => ?_)
            refine g_iload (nx := 228) F dX7_reckon_226 rfl rfl ?_
            refine g_aload_n (nx := 229) 0 F dX7_reckon_228 rfl rfl rfl ?_
            refine g_getR (nx := 232) F dX7_reckon_229 rfl fl_RX7_15 rfl (by decide) (by decide) rfl ?_
            refine g_iload (nx := 234) F dX7_reckon_232 rfl rfl ?_
            refine g_iconst (nx := 235) (1) F dX7_reckon_234 rfl rfl ?_
            refine g_isub (nx := 236) F dX7_reckon_235 rfl ?_
            rw [nI_pred]
            refine g_ialdN (nx := 237) (r.length + 1) (y) F dX7_reckon_236 rfl rfl (by omega) (hst.1) ?_
            refine g_callS (nx := 240) 2 0 [.int (60), .int y] F dX7_reckon_237 rfl ml_RX7_59 mo_X7_isRefused rfl rfl (Nat.le_of_ble_eq_true rfl) (by first | decide | omega) (c_isRefused (60) y _) (fun r_237 τ_237 q_237 => ?_)
            obtain ⟨rfl, et_237⟩ := q_237
            have et_237 := et_237.symm
            subst et_237
            dsimp only [Option.toList, List.append, List.cons_append, List.nil_append]
            refine g_if_eq (nx := 243) 245 F dX7_reckon_240 rfl (by decide) (fun c_240 => ?_) (fun c_240 => absurd c_240 (by exact fun zq => zq (bI_f (by rintro ⟨_, z | z⟩ <;> exact absurd z (by decide)))))
            refine g_iinc (nx := 248) (-1) F dX7_reckon_245 rfl rfl (by decide) (by decide) ?_
            try dsimp only [List.set]
            rw [pk_m1]
            refine g_aload_n (nx := 249) 0 F dX7_reckon_248 rfl rfl rfl ?_
            refine g_getR (nx := 252) F dX7_reckon_249 rfl fl_RX7_15 rfl (by decide) (by decide) rfl ?_
            refine g_iload (nx := 254) F dX7_reckon_252 rfl rfl ?_
            refine g_iconst (nx := 255) (1) F dX7_reckon_254 rfl rfl ?_
            refine g_isub (nx := 256) F dX7_reckon_255 rfl ?_
            rw [nI_pred]
            refine g_iload (nx := 258) F dX7_reckon_256 rfl rfl ?_
            refine g_aload_n (nx := 259) 0 F dX7_reckon_258 rfl rfl rfl ?_
            refine g_getR (nx := 262) F dX7_reckon_259 rfl fl_RX7_15 rfl (by decide) (by decide) rfl ?_
            refine g_iload (nx := 264) F dX7_reckon_262 rfl rfl ?_
            refine g_iconst (nx := 265) (1) F dX7_reckon_264 rfl rfl ?_
            refine g_isub (nx := 266) F dX7_reckon_265 rfl ?_
            rw [nI_pred]
            refine g_ialdN (nx := 267) (r.length) (x) F dX7_reckon_266 rfl rfl (by omega) (hst.2.1) ?_
            refine g_aload_n (nx := 268) 0 F dX7_reckon_267 rfl rfl rfl ?_
            refine g_getR (nx := 271) F dX7_reckon_268 rfl fl_RX7_15 rfl (by decide) (by decide) rfl ?_
            refine g_iload (nx := 273) F dX7_reckon_271 rfl rfl ?_
            refine g_ialdN (nx := 274) (r.length + 1) (y) F dX7_reckon_273 rfl rfl (by omega) (hst.1) ?_
            refine g_callS (nx := 277) 3 0 [.int (60), .int x, .int y] F dX7_reckon_274 rfl ml_RX7_63 mo_X7_join rfl rfl (Nat.le_of_ble_eq_true rfl) (by first | decide | omega) (c_join_7 x y _ (fun z => absurd z (by decide))) (fun r_274 τ_274 q_274 => ?_)
            obtain ⟨rfl, et_274⟩ := q_274
            have et_274 := et_274.symm
            subst et_274
            dsimp only [Option.toList, List.append, List.cons_append, List.nil_append]
            refine g_iastN (nx := 278) (r.length) F dX7_reckon_277 rfl rfl (by omega) ?_
            refine g_iinc (nx := 281) (1) F dX7_reckon_278 rfl rfl (by decide) (by decide) ?_
            try dsimp only [List.set]
            refine g_goto 24 F dX7_reckon_281 (by decide) ?_
            rw [nI_1, zs_zu]
            refine ih (k + 1) (jn 7 x y :: r) _ _ _ _ (by omega) (by omega) (stk_push hst.2.2) (by show r.length + 1 = _; have : (y :: x :: r).length = r.length + 2 := rfl; omega) (fun _ => by exact bI_or) ?_
            rw [← hA]
            simp only [evF, if_neg (show ¬ to ≤ k by omega), ho, List.headD_cons, List.tail_cons]
            rfl
          · refine g_iload (nx := 26) F dX7_reckon_24 rfl rfl ?_
            refine g_iload_n (nx := 27) 3 F dX7_reckon_26 rfl rfl rfl ?_
            refine g_icmp_ge (nx := 30) 284 F dX7_reckon_27 rfl (by decide) (fun c_27 => absurd c_27 (by exact nI_ge hk2 (by omega))) (fun c_27 => ?_)
            refine g_aload_n (nx := 31) 1 F dX7_reckon_30 rfl rfl rfl ?_
            refine g_getR (nx := 34) F dX7_reckon_31 rfl fl_RX7_52 (tx_k ht) (by decide) (by decide) (tx_0 ht) ?_
            refine g_iload (nx := 36) F dX7_reckon_34 rfl rfl ?_
            refine g_ialdN (nx := 37) (k) (nI (256 * vl k + 62)) F dX7_reckon_36 rfl (tx_k1 ht) (by omega) (by rw [zs_ne σ (show t + 1 ≠ 15 by omega), hcode k (by omega), ho]; rfl) ?_
            refine g_sipush (nx := 40) (255) F dX7_reckon_37 rfl (by decide) ?_
            refine g_iand (nx := 41) F dX7_reckon_40 rfl ?_
            refine g_top (62) (cd_kind (c := 62) (by decide) (by omega)) ?_
            refine g_istore (nx := 43) F dX7_reckon_41 rfl (by decide) ?_
            try dsimp only [List.set]
            refine g_aload_n (nx := 44) 1 F dX7_reckon_43 rfl rfl rfl ?_
            refine g_getR (nx := 47) F dX7_reckon_44 rfl fl_RX7_52 (tx_k ht) (by decide) (by decide) (tx_0 ht) ?_
            refine g_iload (nx := 49) F dX7_reckon_47 rfl rfl ?_
            refine g_ialdN (nx := 50) (k) (nI (256 * vl k + 62)) F dX7_reckon_49 rfl (tx_k1 ht) (by omega) (by rw [zs_ne σ (show t + 1 ≠ 15 by omega), hcode k (by omega), ho]; rfl) ?_
            refine g_bipush (nx := 52) (8) F dX7_reckon_50 rfl (by decide) ?_
            refine g_ishr (nx := 53) F dX7_reckon_52 rfl ?_
            refine g_top (nI (vl k)) (cd_more (c := 62) (by decide) (by omega)) ?_
            refine g_istore (nx := 55) F dX7_reckon_53 rfl (by decide) ?_
            try dsimp only [List.set]
            refine g_iload (nx := 57) F dX7_reckon_55 rfl rfl ?_
            refine g_bipush (nx := 59) (48) F dX7_reckon_57 rfl (by decide) ?_
            refine g_icmp_eq (nx := 62) 69 F dX7_reckon_59 rfl (by decide) (fun c_59 => absurd c_59 (by decide)) (fun c_59 => ?_)
            refine g_iload (nx := 64) F dX7_reckon_62 rfl rfl ?_
            refine g_bipush (nx := 66) (97) F dX7_reckon_64 rfl (by decide) ?_
            refine g_icmp_ne (nx := 69) 112 F dX7_reckon_66 rfl (by decide) (fun c_66 => ?_) (fun c_66 => absurd c_66 (by decide))
            refine g_iload (nx := 114) F dX7_reckon_112 rfl rfl ?_
            refine g_iconst (nx := 115) (1) F dX7_reckon_114 rfl rfl ?_
            refine g_icmp_ge (nx := 118) 120 F dX7_reckon_115 rfl (by decide) (fun c_115 => ?_) (fun c_115 => absurd c_115 (by exact fun zq => zq (nI_le (a := 1) (by omega) (by omega))))
            refine g_iload (nx := 122) F dX7_reckon_120 rfl rfl ?_
            refine g_bipush (nx := 124) (33) F dX7_reckon_122 rfl (by decide) ?_
            refine g_icmp_ne (nx := 127) 150 F dX7_reckon_124 rfl (by decide) (fun c_124 => ?_) (fun c_124 => absurd c_124 (by decide))
            refine g_iload (nx := 152) F dX7_reckon_150 rfl rfl ?_
            refine g_bipush (nx := 154) (38) F dX7_reckon_152 rfl (by decide) ?_
            refine g_icmp_eq (nx := 157) 164 F dX7_reckon_154 rfl (by decide) (fun c_154 => absurd c_154 (by decide)) (fun c_154 => ?_)
            refine g_iload (nx := 159) F dX7_reckon_157 rfl rfl ?_
            refine g_bipush (nx := 161) (124) F dX7_reckon_159 rfl (by decide) ?_
            refine g_icmp_ne (nx := 164) 220 F dX7_reckon_161 rfl (by decide) (fun c_161 => ?_) (fun c_161 => absurd c_161 (by decide))
            refine g_iload (nx := 222) F dX7_reckon_220 rfl rfl ?_
            refine g_iconst (nx := 223) (2) F dX7_reckon_222 rfl rfl ?_
            refine g_icmp_lt (nx := 226) 243 F dX7_reckon_223 rfl (by decide) (fun c_223 => absurd c_223 (by exact nI_nlt (b := 2) (by omega) (by omega))) (fun c_223 => ?_)
            refine g_iload (nx := 228) F dX7_reckon_226 rfl rfl ?_
            refine g_aload_n (nx := 229) 0 F dX7_reckon_228 rfl rfl rfl ?_
            refine g_getR (nx := 232) F dX7_reckon_229 rfl fl_RX7_15 rfl (by decide) (by decide) rfl ?_
            refine g_iload (nx := 234) F dX7_reckon_232 rfl rfl ?_
            refine g_iconst (nx := 235) (1) F dX7_reckon_234 rfl rfl ?_
            refine g_isub (nx := 236) F dX7_reckon_235 rfl ?_
            rw [nI_pred]
            refine g_ialdN (nx := 237) (r.length + 1) (y) F dX7_reckon_236 rfl rfl (by omega) (hst.1) ?_
            refine g_callS (nx := 240) 2 0 [.int (62), .int y] F dX7_reckon_237 rfl ml_RX7_59 mo_X7_isRefused rfl rfl (Nat.le_of_ble_eq_true rfl) (by first | decide | omega) (c_isRefused (62) y _) (fun r_237 τ_237 q_237 => ?_)
            obtain ⟨rfl, et_237⟩ := q_237
            have et_237 := et_237.symm
            subst et_237
            dsimp only [Option.toList, List.append, List.cons_append, List.nil_append]
            refine g_if_eq (nx := 243) 245 F dX7_reckon_240 rfl (by decide) (fun c_240 => ?_) (fun c_240 => absurd c_240 (by exact fun zq => zq (bI_f (by rintro ⟨_, z | z⟩ <;> exact absurd z (by decide)))))
            refine g_iinc (nx := 248) (-1) F dX7_reckon_245 rfl rfl (by decide) (by decide) ?_
            try dsimp only [List.set]
            rw [pk_m1]
            refine g_aload_n (nx := 249) 0 F dX7_reckon_248 rfl rfl rfl ?_
            refine g_getR (nx := 252) F dX7_reckon_249 rfl fl_RX7_15 rfl (by decide) (by decide) rfl ?_
            refine g_iload (nx := 254) F dX7_reckon_252 rfl rfl ?_
            refine g_iconst (nx := 255) (1) F dX7_reckon_254 rfl rfl ?_
            refine g_isub (nx := 256) F dX7_reckon_255 rfl ?_
            rw [nI_pred]
            refine g_iload (nx := 258) F dX7_reckon_256 rfl rfl ?_
            refine g_aload_n (nx := 259) 0 F dX7_reckon_258 rfl rfl rfl ?_
            refine g_getR (nx := 262) F dX7_reckon_259 rfl fl_RX7_15 rfl (by decide) (by decide) rfl ?_
            refine g_iload (nx := 264) F dX7_reckon_262 rfl rfl ?_
            refine g_iconst (nx := 265) (1) F dX7_reckon_264 rfl rfl ?_
            refine g_isub (nx := 266) F dX7_reckon_265 rfl ?_
            rw [nI_pred]
            refine g_ialdN (nx := 267) (r.length) (x) F dX7_reckon_266 rfl rfl (by omega) (hst.2.1) ?_
            refine g_aload_n (nx := 268) 0 F dX7_reckon_267 rfl rfl rfl ?_
            refine g_getR (nx := 271) F dX7_reckon_268 rfl fl_RX7_15 rfl (by decide) (by decide) rfl ?_
            refine g_iload (nx := 273) F dX7_reckon_271 rfl rfl ?_
            refine g_ialdN (nx := 274) (r.length + 1) (y) F dX7_reckon_273 rfl rfl (by omega) (hst.1) ?_
            refine g_callS (nx := 277) 3 0 [.int (62), .int x, .int y] F dX7_reckon_274 rfl ml_RX7_63 mo_X7_join rfl rfl (Nat.le_of_ble_eq_true rfl) (by first | decide | omega) (c_join_8 x y _ (fun z => absurd z (by decide))) (fun r_274 τ_274 q_274 => ?_)
            obtain ⟨rfl, et_274⟩ := q_274
            have et_274 := et_274.symm
            subst et_274
            dsimp only [Option.toList, List.append, List.cons_append, List.nil_append]
            refine g_iastN (nx := 278) (r.length) F dX7_reckon_277 rfl rfl (by omega) ?_
            refine g_iinc (nx := 281) (1) F dX7_reckon_278 rfl rfl (by decide) (by decide) ?_
            try dsimp only [List.set]
            refine g_goto 24 F dX7_reckon_281 (by decide) ?_
            rw [nI_1, zs_zu]
            refine ih (k + 1) (jn 8 x y :: r) _ _ _ _ (by omega) (by omega) (stk_push hst.2.2) (by show r.length + 1 = _; have : (y :: x :: r).length = r.length + 2 := rfl; omega) (fun _ => by exact bI_or) ?_
            rw [← hA]
            simp only [evF, if_neg (show ¬ to ≤ k by omega), ho, List.headD_cons, List.tail_cons]
            rfl
          · refine g_iload (nx := 26) F dX7_reckon_24 rfl rfl ?_
            refine g_iload_n (nx := 27) 3 F dX7_reckon_26 rfl rfl rfl ?_
            refine g_icmp_ge (nx := 30) 284 F dX7_reckon_27 rfl (by decide) (fun c_27 => absurd c_27 (by exact nI_ge hk2 (by omega))) (fun c_27 => ?_)
            refine g_aload_n (nx := 31) 1 F dX7_reckon_30 rfl rfl rfl ?_
            refine g_getR (nx := 34) F dX7_reckon_31 rfl fl_RX7_52 (tx_k ht) (by decide) (by decide) (tx_0 ht) ?_
            refine g_iload (nx := 36) F dX7_reckon_34 rfl rfl ?_
            refine g_ialdN (nx := 37) (k) (nI (256 * vl k + 61)) F dX7_reckon_36 rfl (tx_k1 ht) (by omega) (by rw [zs_ne σ (show t + 1 ≠ 15 by omega), hcode k (by omega), ho]; rfl) ?_
            refine g_sipush (nx := 40) (255) F dX7_reckon_37 rfl (by decide) ?_
            refine g_iand (nx := 41) F dX7_reckon_40 rfl ?_
            refine g_top (61) (cd_kind (c := 61) (by decide) (by omega)) ?_
            refine g_istore (nx := 43) F dX7_reckon_41 rfl (by decide) ?_
            try dsimp only [List.set]
            refine g_aload_n (nx := 44) 1 F dX7_reckon_43 rfl rfl rfl ?_
            refine g_getR (nx := 47) F dX7_reckon_44 rfl fl_RX7_52 (tx_k ht) (by decide) (by decide) (tx_0 ht) ?_
            refine g_iload (nx := 49) F dX7_reckon_47 rfl rfl ?_
            refine g_ialdN (nx := 50) (k) (nI (256 * vl k + 61)) F dX7_reckon_49 rfl (tx_k1 ht) (by omega) (by rw [zs_ne σ (show t + 1 ≠ 15 by omega), hcode k (by omega), ho]; rfl) ?_
            refine g_bipush (nx := 52) (8) F dX7_reckon_50 rfl (by decide) ?_
            refine g_ishr (nx := 53) F dX7_reckon_52 rfl ?_
            refine g_top (nI (vl k)) (cd_more (c := 61) (by decide) (by omega)) ?_
            refine g_istore (nx := 55) F dX7_reckon_53 rfl (by decide) ?_
            try dsimp only [List.set]
            refine g_iload (nx := 57) F dX7_reckon_55 rfl rfl ?_
            refine g_bipush (nx := 59) (48) F dX7_reckon_57 rfl (by decide) ?_
            refine g_icmp_eq (nx := 62) 69 F dX7_reckon_59 rfl (by decide) (fun c_59 => absurd c_59 (by decide)) (fun c_59 => ?_)
            refine g_iload (nx := 64) F dX7_reckon_62 rfl rfl ?_
            refine g_bipush (nx := 66) (97) F dX7_reckon_64 rfl (by decide) ?_
            refine g_icmp_ne (nx := 69) 112 F dX7_reckon_66 rfl (by decide) (fun c_66 => ?_) (fun c_66 => absurd c_66 (by decide))
            refine g_iload (nx := 114) F dX7_reckon_112 rfl rfl ?_
            refine g_iconst (nx := 115) (1) F dX7_reckon_114 rfl rfl ?_
            refine g_icmp_ge (nx := 118) 120 F dX7_reckon_115 rfl (by decide) (fun c_115 => ?_) (fun c_115 => absurd c_115 (by exact fun zq => zq (nI_le (a := 1) (by omega) (by omega))))
            refine g_iload (nx := 122) F dX7_reckon_120 rfl rfl ?_
            refine g_bipush (nx := 124) (33) F dX7_reckon_122 rfl (by decide) ?_
            refine g_icmp_ne (nx := 127) 150 F dX7_reckon_124 rfl (by decide) (fun c_124 => ?_) (fun c_124 => absurd c_124 (by decide))
            refine g_iload (nx := 152) F dX7_reckon_150 rfl rfl ?_
            refine g_bipush (nx := 154) (38) F dX7_reckon_152 rfl (by decide) ?_
            refine g_icmp_eq (nx := 157) 164 F dX7_reckon_154 rfl (by decide) (fun c_154 => absurd c_154 (by decide)) (fun c_154 => ?_)
            refine g_iload (nx := 159) F dX7_reckon_157 rfl rfl ?_
            refine g_bipush (nx := 161) (124) F dX7_reckon_159 rfl (by decide) ?_
            refine g_icmp_ne (nx := 164) 220 F dX7_reckon_161 rfl (by decide) (fun c_161 => ?_) (fun c_161 => absurd c_161 (by decide))
            refine g_iload (nx := 222) F dX7_reckon_220 rfl rfl ?_
            refine g_iconst (nx := 223) (2) F dX7_reckon_222 rfl rfl ?_
            refine g_icmp_lt (nx := 226) 243 F dX7_reckon_223 rfl (by decide) (fun c_223 => absurd c_223 (by exact nI_nlt (b := 2) (by omega) (by omega))) (fun c_223 => ?_)
            refine g_iload (nx := 228) F dX7_reckon_226 rfl rfl ?_
            refine g_aload_n (nx := 229) 0 F dX7_reckon_228 rfl rfl rfl ?_
            refine g_getR (nx := 232) F dX7_reckon_229 rfl fl_RX7_15 rfl (by decide) (by decide) rfl ?_
            refine g_iload (nx := 234) F dX7_reckon_232 rfl rfl ?_
            refine g_iconst (nx := 235) (1) F dX7_reckon_234 rfl rfl ?_
            refine g_isub (nx := 236) F dX7_reckon_235 rfl ?_
            rw [nI_pred]
            refine g_ialdN (nx := 237) (r.length + 1) (y) F dX7_reckon_236 rfl rfl (by omega) (hst.1) ?_
            refine g_callS (nx := 240) 2 0 [.int (61), .int y] F dX7_reckon_237 rfl ml_RX7_59 mo_X7_isRefused rfl rfl (Nat.le_of_ble_eq_true rfl) (by first | decide | omega) (c_isRefused (61) y _) (fun r_237 τ_237 q_237 => ?_)
            obtain ⟨rfl, et_237⟩ := q_237
            have et_237 := et_237.symm
            subst et_237
            dsimp only [Option.toList, List.append, List.cons_append, List.nil_append]
            refine g_if_eq (nx := 243) 245 F dX7_reckon_240 rfl (by decide) (fun c_240 => ?_) (fun c_240 => absurd c_240 (by exact fun zq => zq (bI_f (by rintro ⟨_, z | z⟩ <;> exact absurd z (by decide)))))
            refine g_iinc (nx := 248) (-1) F dX7_reckon_245 rfl rfl (by decide) (by decide) ?_
            try dsimp only [List.set]
            rw [pk_m1]
            refine g_aload_n (nx := 249) 0 F dX7_reckon_248 rfl rfl rfl ?_
            refine g_getR (nx := 252) F dX7_reckon_249 rfl fl_RX7_15 rfl (by decide) (by decide) rfl ?_
            refine g_iload (nx := 254) F dX7_reckon_252 rfl rfl ?_
            refine g_iconst (nx := 255) (1) F dX7_reckon_254 rfl rfl ?_
            refine g_isub (nx := 256) F dX7_reckon_255 rfl ?_
            rw [nI_pred]
            refine g_iload (nx := 258) F dX7_reckon_256 rfl rfl ?_
            refine g_aload_n (nx := 259) 0 F dX7_reckon_258 rfl rfl rfl ?_
            refine g_getR (nx := 262) F dX7_reckon_259 rfl fl_RX7_15 rfl (by decide) (by decide) rfl ?_
            refine g_iload (nx := 264) F dX7_reckon_262 rfl rfl ?_
            refine g_iconst (nx := 265) (1) F dX7_reckon_264 rfl rfl ?_
            refine g_isub (nx := 266) F dX7_reckon_265 rfl ?_
            rw [nI_pred]
            refine g_ialdN (nx := 267) (r.length) (x) F dX7_reckon_266 rfl rfl (by omega) (hst.2.1) ?_
            refine g_aload_n (nx := 268) 0 F dX7_reckon_267 rfl rfl rfl ?_
            refine g_getR (nx := 271) F dX7_reckon_268 rfl fl_RX7_15 rfl (by decide) (by decide) rfl ?_
            refine g_iload (nx := 273) F dX7_reckon_271 rfl rfl ?_
            refine g_ialdN (nx := 274) (r.length + 1) (y) F dX7_reckon_273 rfl rfl (by omega) (hst.1) ?_
            refine g_callS (nx := 277) 3 0 [.int (61), .int x, .int y] F dX7_reckon_274 rfl ml_RX7_63 mo_X7_join rfl rfl (Nat.le_of_ble_eq_true rfl) (by first | decide | omega) (c_join_9 x y _ (fun z => absurd z (by decide))) (fun r_274 τ_274 q_274 => ?_)
            obtain ⟨rfl, et_274⟩ := q_274
            have et_274 := et_274.symm
            subst et_274
            dsimp only [Option.toList, List.append, List.cons_append, List.nil_append]
            refine g_iastN (nx := 278) (r.length) F dX7_reckon_277 rfl rfl (by omega) ?_
            refine g_iinc (nx := 281) (1) F dX7_reckon_278 rfl rfl (by decide) (by decide) ?_
            try dsimp only [List.set]
            refine g_goto 24 F dX7_reckon_281 (by decide) ?_
            rw [nI_1, zs_zu]
            refine ih (k + 1) (jn 9 x y :: r) _ _ _ _ (by omega) (by omega) (stk_push hst.2.2) (by show r.length + 1 = _; have : (y :: x :: r).length = r.length + 2 := rfl; omega) (fun _ => by exact bI_or) ?_
            rw [← hA]
            simp only [evF, if_neg (show ¬ to ≤ k by omega), ho, List.headD_cons, List.tail_cons]
            rfl
        · obtain ⟨x, rfl⟩ : ∃ x, st = [x] := by
            match st, hlen with
            | [x], _ => exact ⟨x, rfl⟩
            | [], h => have : (0 : Nat) = dp k := h; omega
            | _ :: _ :: r, h => have : r.length + 2 = dp k := h; omega
          have hbl : x = 0 ∨ x = 1 := hbl w2
          have hst : g 0 = x ∧ True := hst
          have hvl : vl k < 1000000 := hvl k (by omega)
          show Gs X 24 [.ref 13, .ref t, .int (nI fr), .int (nI to), .int (nI 1), .int (nI k), z6, z7, z8] [] (zs σ 15 g)
          refine g_iload (nx := 26) F dX7_reckon_24 rfl rfl ?_
          refine g_iload_n (nx := 27) 3 F dX7_reckon_26 rfl rfl rfl ?_
          refine g_icmp_ge (nx := 30) 284 F dX7_reckon_27 rfl (by decide) (fun c_27 => absurd c_27 (by exact nI_ge hk2 (by omega))) (fun c_27 => ?_)
          refine g_aload_n (nx := 31) 1 F dX7_reckon_30 rfl rfl rfl ?_
          refine g_getR (nx := 34) F dX7_reckon_31 rfl fl_RX7_52 (tx_k ht) (by decide) (by decide) (tx_0 ht) ?_
          refine g_iload (nx := 36) F dX7_reckon_34 rfl rfl ?_
          refine g_ialdN (nx := 37) (k) (nI (256 * vl k + 33)) F dX7_reckon_36 rfl (tx_k1 ht) (by omega) (by rw [zs_ne σ (show t + 1 ≠ 15 by omega), hcode k (by omega), ho]; rfl) ?_
          refine g_sipush (nx := 40) (255) F dX7_reckon_37 rfl (by decide) ?_
          refine g_iand (nx := 41) F dX7_reckon_40 rfl ?_
          refine g_top (33) (cd_kind (c := 33) (by decide) (by omega)) ?_
          refine g_istore (nx := 43) F dX7_reckon_41 rfl (by decide) ?_
          try dsimp only [List.set]
          refine g_aload_n (nx := 44) 1 F dX7_reckon_43 rfl rfl rfl ?_
          refine g_getR (nx := 47) F dX7_reckon_44 rfl fl_RX7_52 (tx_k ht) (by decide) (by decide) (tx_0 ht) ?_
          refine g_iload (nx := 49) F dX7_reckon_47 rfl rfl ?_
          refine g_ialdN (nx := 50) (k) (nI (256 * vl k + 33)) F dX7_reckon_49 rfl (tx_k1 ht) (by omega) (by rw [zs_ne σ (show t + 1 ≠ 15 by omega), hcode k (by omega), ho]; rfl) ?_
          refine g_bipush (nx := 52) (8) F dX7_reckon_50 rfl (by decide) ?_
          refine g_ishr (nx := 53) F dX7_reckon_52 rfl ?_
          refine g_top (nI (vl k)) (cd_more (c := 33) (by decide) (by omega)) ?_
          refine g_istore (nx := 55) F dX7_reckon_53 rfl (by decide) ?_
          try dsimp only [List.set]
          refine g_iload (nx := 57) F dX7_reckon_55 rfl rfl ?_
          refine g_bipush (nx := 59) (48) F dX7_reckon_57 rfl (by decide) ?_
          refine g_icmp_eq (nx := 62) 69 F dX7_reckon_59 rfl (by decide) (fun c_59 => absurd c_59 (by decide)) (fun c_59 => ?_)
          refine g_iload (nx := 64) F dX7_reckon_62 rfl rfl ?_
          refine g_bipush (nx := 66) (97) F dX7_reckon_64 rfl (by decide) ?_
          refine g_icmp_ne (nx := 69) 112 F dX7_reckon_66 rfl (by decide) (fun c_66 => ?_) (fun c_66 => absurd c_66 (by decide))
          refine g_iload (nx := 114) F dX7_reckon_112 rfl rfl ?_
          refine g_iconst (nx := 115) (1) F dX7_reckon_114 rfl rfl ?_
          refine g_icmp_ge (nx := 118) 120 F dX7_reckon_115 rfl (by decide) (fun c_115 => ?_) (fun c_115 => absurd c_115 (by exact fun zq => zq (nI_le (a := 1) (by omega) (by omega))))
          refine g_iload (nx := 122) F dX7_reckon_120 rfl rfl ?_
          refine g_bipush (nx := 124) (33) F dX7_reckon_122 rfl (by decide) ?_
          refine g_icmp_ne (nx := 127) 150 F dX7_reckon_124 rfl (by decide) (fun c_124 => absurd c_124 (by decide)) (fun c_124 => ?_)
          refine g_aload_n (nx := 128) 0 F dX7_reckon_127 rfl rfl rfl ?_
          refine g_getR (nx := 131) F dX7_reckon_128 rfl fl_RX7_15 rfl (by decide) (by decide) rfl ?_
          refine g_iload (nx := 133) F dX7_reckon_131 rfl rfl ?_
          refine g_iconst (nx := 134) (1) F dX7_reckon_133 rfl rfl ?_
          skip
          refine g_isub (nx := 135) F dX7_reckon_134 rfl ?_
          refine g_iconst (nx := 136) (1) F dX7_reckon_135 rfl rfl ?_
          refine g_aload_n (nx := 137) 0 F dX7_reckon_136 rfl rfl rfl ?_
          refine g_getR (nx := 140) F dX7_reckon_137 rfl fl_RX7_15 rfl (by decide) (by decide) rfl ?_
          refine g_iload (nx := 142) F dX7_reckon_140 rfl rfl ?_
          refine g_iconst (nx := 143) (1) F dX7_reckon_142 rfl rfl ?_
          refine g_isub (nx := 144) F dX7_reckon_143 rfl ?_
          show Gs X 144 _ (.int (nI 0) :: .ref 15 :: .int 1 :: .int (nI 0) :: .ref 15 :: []) _
          refine g_ialdN (nx := 145) (0) (x) F dX7_reckon_144 rfl rfl (by omega) (hst.1) ?_
          refine g_isub (nx := 146) F dX7_reckon_145 rfl ?_
          refine g_iastN (nx := 147) (0) F dX7_reckon_146 rfl rfl (by omega) ?_
          refine g_goto 278 F dX7_reckon_147 (by decide) ?_
          refine g_iinc (nx := 281) (1) F dX7_reckon_278 rfl rfl (by decide) (by decide) ?_
          try dsimp only [List.set]
          refine g_goto 24 F dX7_reckon_281 (by decide) ?_
          rw [nI_1, zs_zu]
          refine ih (k + 1) [1 - x] _ _ _ _ (by omega) (by omega) ⟨if_pos rfl, trivial⟩ (by show 1 = _; omega) (fun _ => by rcases hbl with e | e <;> rw [e] <;> simp) ?_
          rw [← hA]
          simp only [evF, if_neg (show ¬ to ≤ k by omega), ho]
          rfl
        · obtain ⟨x, rfl⟩ : ∃ x, st = [x] := by
            match st, hlen with
            | [x], _ => exact ⟨x, rfl⟩
            | [], h => have : (0 : Nat) = dp k := h; omega
            | _ :: _ :: r, h => have : r.length + 2 = dp k := h; omega
          have hbl : x = 0 ∨ x = 1 := hbl w2
          have hst : g 0 = x ∧ True := hst
          have hvl : vl k < 1000000 := hvl k (by omega)
          show Gs X 24 [.ref 13, .ref t, .int (nI fr), .int (nI to), .int (nI 1), .int (nI k), z6, z7, z8] [] (zs σ 15 g)
          rcases o1 with ho | ho
          · rcases hbl with rfl | rfl
            · refine g_iload (nx := 26) F dX7_reckon_24 rfl rfl ?_
              refine g_iload_n (nx := 27) 3 F dX7_reckon_26 rfl rfl rfl ?_
              refine g_icmp_ge (nx := 30) 284 F dX7_reckon_27 rfl (by decide) (fun c_27 => absurd c_27 (by exact nI_ge hk2 (by omega))) (fun c_27 => ?_)
              refine g_aload_n (nx := 31) 1 F dX7_reckon_30 rfl rfl rfl ?_
              refine g_getR (nx := 34) F dX7_reckon_31 rfl fl_RX7_52 (tx_k ht) (by decide) (by decide) (tx_0 ht) ?_
              refine g_iload (nx := 36) F dX7_reckon_34 rfl rfl ?_
              refine g_ialdN (nx := 37) (k) (nI (256 * vl k + 38)) F dX7_reckon_36 rfl (tx_k1 ht) (by omega) (by rw [zs_ne σ (show t + 1 ≠ 15 by omega), hcode k (by omega), ho]; rfl) ?_
              refine g_sipush (nx := 40) (255) F dX7_reckon_37 rfl (by decide) ?_
              refine g_iand (nx := 41) F dX7_reckon_40 rfl ?_
              refine g_top (38) (cd_kind (c := 38) (by decide) (by omega)) ?_
              refine g_istore (nx := 43) F dX7_reckon_41 rfl (by decide) ?_
              try dsimp only [List.set]
              refine g_aload_n (nx := 44) 1 F dX7_reckon_43 rfl rfl rfl ?_
              refine g_getR (nx := 47) F dX7_reckon_44 rfl fl_RX7_52 (tx_k ht) (by decide) (by decide) (tx_0 ht) ?_
              refine g_iload (nx := 49) F dX7_reckon_47 rfl rfl ?_
              refine g_ialdN (nx := 50) (k) (nI (256 * vl k + 38)) F dX7_reckon_49 rfl (tx_k1 ht) (by omega) (by rw [zs_ne σ (show t + 1 ≠ 15 by omega), hcode k (by omega), ho]; rfl) ?_
              refine g_bipush (nx := 52) (8) F dX7_reckon_50 rfl (by decide) ?_
              refine g_ishr (nx := 53) F dX7_reckon_52 rfl ?_
              refine g_top (nI (vl k)) (cd_more (c := 38) (by decide) (by omega)) ?_
              refine g_istore (nx := 55) F dX7_reckon_53 rfl (by decide) ?_
              try dsimp only [List.set]
              refine g_iload (nx := 57) F dX7_reckon_55 rfl rfl ?_
              refine g_bipush (nx := 59) (48) F dX7_reckon_57 rfl (by decide) ?_
              refine g_icmp_eq (nx := 62) 69 F dX7_reckon_59 rfl (by decide) (fun c_59 => absurd c_59 (by decide)) (fun c_59 => ?_)
              refine g_iload (nx := 64) F dX7_reckon_62 rfl rfl ?_
              refine g_bipush (nx := 66) (97) F dX7_reckon_64 rfl (by decide) ?_
              refine g_icmp_ne (nx := 69) 112 F dX7_reckon_66 rfl (by decide) (fun c_66 => ?_) (fun c_66 => absurd c_66 (by decide))
              refine g_iload (nx := 114) F dX7_reckon_112 rfl rfl ?_
              refine g_iconst (nx := 115) (1) F dX7_reckon_114 rfl rfl ?_
              refine g_icmp_ge (nx := 118) 120 F dX7_reckon_115 rfl (by decide) (fun c_115 => ?_) (fun c_115 => absurd c_115 (by exact fun zq => zq (nI_le (a := 1) (by omega) (by omega))))
              refine g_iload (nx := 122) F dX7_reckon_120 rfl rfl ?_
              refine g_bipush (nx := 124) (33) F dX7_reckon_122 rfl (by decide) ?_
              refine g_icmp_ne (nx := 127) 150 F dX7_reckon_124 rfl (by decide) (fun c_124 => ?_) (fun c_124 => absurd c_124 (by decide))
              refine g_iload (nx := 152) F dX7_reckon_150 rfl rfl ?_
              refine g_bipush (nx := 154) (38) F dX7_reckon_152 rfl (by decide) ?_
              refine g_icmp_eq (nx := 157) 164 F dX7_reckon_154 rfl (by decide) (fun c_154 => ?_) (fun c_154 => absurd c_154 (by decide))
              refine g_aload_n (nx := 165) 0 F dX7_reckon_164 rfl rfl rfl ?_
              refine g_getR (nx := 168) F dX7_reckon_165 rfl fl_RX7_15 rfl (by decide) (by decide) rfl ?_
              refine g_iload (nx := 170) F dX7_reckon_168 rfl rfl ?_
              refine g_iconst (nx := 171) (1) F dX7_reckon_170 rfl rfl ?_
              refine g_isub (nx := 172) F dX7_reckon_171 rfl ?_
              show Gs X 172 _ (.int (nI 0) :: .ref 15 :: []) _
              refine g_ialdN (nx := 173) (0) (0) F dX7_reckon_172 rfl rfl (by omega) (hst.1) ?_
              refine g_if_eq (nx := 176) 180 F dX7_reckon_173 rfl (by decide) (fun c_173 => ?_) (fun c_173 => absurd c_173 (by decide))
              refine g_iconst (nx := 181) (0) F dX7_reckon_180 rfl rfl ?_
              refine g_istore (nx := 183) F dX7_reckon_181 rfl (by decide) ?_
              try dsimp only [List.set]
              refine g_iload (nx := 185) F dX7_reckon_183 rfl rfl ?_
              refine g_iload (nx := 187) F dX7_reckon_185 rfl rfl ?_
              refine g_bipush (nx := 189) (124) F dX7_reckon_187 rfl (by decide) ?_
              refine g_icmp_ne (nx := 192) 196 F dX7_reckon_189 rfl (by decide) (fun c_189 => ?_) (fun c_189 => absurd c_189 (by decide))
              refine g_iconst (nx := 197) (0) F dX7_reckon_196 rfl rfl ?_
              refine g_icmp_ne (nx := 200) 214 F dX7_reckon_197 rfl (by decide) (fun c_197 => absurd c_197 (by decide)) (fun c_197 => ?_)
              refine g_iload (nx := 202) F dX7_reckon_200 rfl rfl ?_
              refine g_iload (nx := 204) F dX7_reckon_202 rfl rfl ?_
              refine g_iconst (nx := 205) (1) F dX7_reckon_204 rfl rfl ?_
              refine g_isub (nx := 206) F dX7_reckon_205 rfl ?_
              rw [show (1 : Int32) = nI 1 from rfl, pk_sub (by omega)]
              refine g_mmax (nx := 209) F dX7_reckon_206 rfl mm_Reckoner_46 (by omega) (Nat.le_of_ble_eq_true rfl) ?_
              refine g_top (nI (vl k - 1)) (by rcases Nat.lt_or_ge k (vl k - 1) with z | z; rw [if_pos (nI_lt z (by omega))]; rw [if_neg (nI_nlt z (by omega))]; exact congrArg nI (show k = vl k - 1 by omega)) ?_
              refine g_istore (nx := 211) F dX7_reckon_209 rfl (by decide) ?_
              try dsimp only [List.set]
              refine g_goto 217 F dX7_reckon_211 (by decide) ?_
              refine g_goto 278 F dX7_reckon_217 (by decide) ?_
              refine g_iinc (nx := 281) (1) F dX7_reckon_278 rfl rfl (by decide) (by decide) ?_
              try dsimp only [List.set]
              refine g_goto 24 F dX7_reckon_281 (by decide) ?_
              rw [nI_1, show vl k - 1 + 1 = vl k by omega]
              refine ih (vl k) [0] _ _ _ _ (by omega) (by omega) hst (by show 1 = _; omega) (fun _ => by simp) ?_
              rw [← hA]
              simp only [evF, if_neg (show ¬ to ≤ k by omega), ho]
              rfl
            · refine g_iload (nx := 26) F dX7_reckon_24 rfl rfl ?_
              refine g_iload_n (nx := 27) 3 F dX7_reckon_26 rfl rfl rfl ?_
              refine g_icmp_ge (nx := 30) 284 F dX7_reckon_27 rfl (by decide) (fun c_27 => absurd c_27 (by exact nI_ge hk2 (by omega))) (fun c_27 => ?_)
              refine g_aload_n (nx := 31) 1 F dX7_reckon_30 rfl rfl rfl ?_
              refine g_getR (nx := 34) F dX7_reckon_31 rfl fl_RX7_52 (tx_k ht) (by decide) (by decide) (tx_0 ht) ?_
              refine g_iload (nx := 36) F dX7_reckon_34 rfl rfl ?_
              refine g_ialdN (nx := 37) (k) (nI (256 * vl k + 38)) F dX7_reckon_36 rfl (tx_k1 ht) (by omega) (by rw [zs_ne σ (show t + 1 ≠ 15 by omega), hcode k (by omega), ho]; rfl) ?_
              refine g_sipush (nx := 40) (255) F dX7_reckon_37 rfl (by decide) ?_
              refine g_iand (nx := 41) F dX7_reckon_40 rfl ?_
              refine g_top (38) (cd_kind (c := 38) (by decide) (by omega)) ?_
              refine g_istore (nx := 43) F dX7_reckon_41 rfl (by decide) ?_
              try dsimp only [List.set]
              refine g_aload_n (nx := 44) 1 F dX7_reckon_43 rfl rfl rfl ?_
              refine g_getR (nx := 47) F dX7_reckon_44 rfl fl_RX7_52 (tx_k ht) (by decide) (by decide) (tx_0 ht) ?_
              refine g_iload (nx := 49) F dX7_reckon_47 rfl rfl ?_
              refine g_ialdN (nx := 50) (k) (nI (256 * vl k + 38)) F dX7_reckon_49 rfl (tx_k1 ht) (by omega) (by rw [zs_ne σ (show t + 1 ≠ 15 by omega), hcode k (by omega), ho]; rfl) ?_
              refine g_bipush (nx := 52) (8) F dX7_reckon_50 rfl (by decide) ?_
              refine g_ishr (nx := 53) F dX7_reckon_52 rfl ?_
              refine g_top (nI (vl k)) (cd_more (c := 38) (by decide) (by omega)) ?_
              refine g_istore (nx := 55) F dX7_reckon_53 rfl (by decide) ?_
              try dsimp only [List.set]
              refine g_iload (nx := 57) F dX7_reckon_55 rfl rfl ?_
              refine g_bipush (nx := 59) (48) F dX7_reckon_57 rfl (by decide) ?_
              refine g_icmp_eq (nx := 62) 69 F dX7_reckon_59 rfl (by decide) (fun c_59 => absurd c_59 (by decide)) (fun c_59 => ?_)
              refine g_iload (nx := 64) F dX7_reckon_62 rfl rfl ?_
              refine g_bipush (nx := 66) (97) F dX7_reckon_64 rfl (by decide) ?_
              refine g_icmp_ne (nx := 69) 112 F dX7_reckon_66 rfl (by decide) (fun c_66 => ?_) (fun c_66 => absurd c_66 (by decide))
              refine g_iload (nx := 114) F dX7_reckon_112 rfl rfl ?_
              refine g_iconst (nx := 115) (1) F dX7_reckon_114 rfl rfl ?_
              refine g_icmp_ge (nx := 118) 120 F dX7_reckon_115 rfl (by decide) (fun c_115 => ?_) (fun c_115 => absurd c_115 (by exact fun zq => zq (nI_le (a := 1) (by omega) (by omega))))
              refine g_iload (nx := 122) F dX7_reckon_120 rfl rfl ?_
              refine g_bipush (nx := 124) (33) F dX7_reckon_122 rfl (by decide) ?_
              refine g_icmp_ne (nx := 127) 150 F dX7_reckon_124 rfl (by decide) (fun c_124 => ?_) (fun c_124 => absurd c_124 (by decide))
              refine g_iload (nx := 152) F dX7_reckon_150 rfl rfl ?_
              refine g_bipush (nx := 154) (38) F dX7_reckon_152 rfl (by decide) ?_
              refine g_icmp_eq (nx := 157) 164 F dX7_reckon_154 rfl (by decide) (fun c_154 => ?_) (fun c_154 => absurd c_154 (by decide))
              refine g_aload_n (nx := 165) 0 F dX7_reckon_164 rfl rfl rfl ?_
              refine g_getR (nx := 168) F dX7_reckon_165 rfl fl_RX7_15 rfl (by decide) (by decide) rfl ?_
              refine g_iload (nx := 170) F dX7_reckon_168 rfl rfl ?_
              refine g_iconst (nx := 171) (1) F dX7_reckon_170 rfl rfl ?_
              refine g_isub (nx := 172) F dX7_reckon_171 rfl ?_
              show Gs X 172 _ (.int (nI 0) :: .ref 15 :: []) _
              refine g_ialdN (nx := 173) (0) (1) F dX7_reckon_172 rfl rfl (by omega) (hst.1) ?_
              refine g_if_eq (nx := 176) 180 F dX7_reckon_173 rfl (by decide) (fun c_173 => absurd c_173 (by decide)) (fun c_173 => ?_)
              refine g_iconst (nx := 177) (1) F dX7_reckon_176 rfl rfl ?_
              refine g_goto 181 F dX7_reckon_177 (by decide) ?_
              refine g_istore (nx := 183) F dX7_reckon_181 rfl (by decide) ?_
              try dsimp only [List.set]
              refine g_iload (nx := 185) F dX7_reckon_183 rfl rfl ?_
              refine g_iload (nx := 187) F dX7_reckon_185 rfl rfl ?_
              refine g_bipush (nx := 189) (124) F dX7_reckon_187 rfl (by decide) ?_
              refine g_icmp_ne (nx := 192) 196 F dX7_reckon_189 rfl (by decide) (fun c_189 => ?_) (fun c_189 => absurd c_189 (by decide))
              refine g_iconst (nx := 197) (0) F dX7_reckon_196 rfl rfl ?_
              refine g_icmp_ne (nx := 200) 214 F dX7_reckon_197 rfl (by decide) (fun c_197 => ?_) (fun c_197 => absurd c_197 (by decide))
              refine g_iinc (nx := 217) (-1) F dX7_reckon_214 rfl rfl (by decide) (by decide) ?_
              try dsimp only [List.set]
              refine g_goto 278 F dX7_reckon_217 (by decide) ?_
              refine g_iinc (nx := 281) (1) F dX7_reckon_278 rfl rfl (by decide) (by decide) ?_
              try dsimp only [List.set]
              refine g_goto 24 F dX7_reckon_281 (by decide) ?_
              rw [nI_1, show nI 1 + -1 = nI 0 from rfl]
              refine ih (k + 1) [] _ _ _ _ (by omega) (by omega) trivial (by show 0 = _; omega) (fun z => absurd z (by rw [w4]; decide)) ?_
              rw [← hA]
              simp only [evF, if_neg (show ¬ to ≤ k by omega), ho]
              rfl
          · rcases hbl with rfl | rfl
            · refine g_iload (nx := 26) F dX7_reckon_24 rfl rfl ?_
              refine g_iload_n (nx := 27) 3 F dX7_reckon_26 rfl rfl rfl ?_
              refine g_icmp_ge (nx := 30) 284 F dX7_reckon_27 rfl (by decide) (fun c_27 => absurd c_27 (by exact nI_ge hk2 (by omega))) (fun c_27 => ?_)
              refine g_aload_n (nx := 31) 1 F dX7_reckon_30 rfl rfl rfl ?_
              refine g_getR (nx := 34) F dX7_reckon_31 rfl fl_RX7_52 (tx_k ht) (by decide) (by decide) (tx_0 ht) ?_
              refine g_iload (nx := 36) F dX7_reckon_34 rfl rfl ?_
              refine g_ialdN (nx := 37) (k) (nI (256 * vl k + 124)) F dX7_reckon_36 rfl (tx_k1 ht) (by omega) (by rw [zs_ne σ (show t + 1 ≠ 15 by omega), hcode k (by omega), ho]; rfl) ?_
              refine g_sipush (nx := 40) (255) F dX7_reckon_37 rfl (by decide) ?_
              refine g_iand (nx := 41) F dX7_reckon_40 rfl ?_
              refine g_top (124) (cd_kind (c := 124) (by decide) (by omega)) ?_
              refine g_istore (nx := 43) F dX7_reckon_41 rfl (by decide) ?_
              try dsimp only [List.set]
              refine g_aload_n (nx := 44) 1 F dX7_reckon_43 rfl rfl rfl ?_
              refine g_getR (nx := 47) F dX7_reckon_44 rfl fl_RX7_52 (tx_k ht) (by decide) (by decide) (tx_0 ht) ?_
              refine g_iload (nx := 49) F dX7_reckon_47 rfl rfl ?_
              refine g_ialdN (nx := 50) (k) (nI (256 * vl k + 124)) F dX7_reckon_49 rfl (tx_k1 ht) (by omega) (by rw [zs_ne σ (show t + 1 ≠ 15 by omega), hcode k (by omega), ho]; rfl) ?_
              refine g_bipush (nx := 52) (8) F dX7_reckon_50 rfl (by decide) ?_
              refine g_ishr (nx := 53) F dX7_reckon_52 rfl ?_
              refine g_top (nI (vl k)) (cd_more (c := 124) (by decide) (by omega)) ?_
              refine g_istore (nx := 55) F dX7_reckon_53 rfl (by decide) ?_
              try dsimp only [List.set]
              refine g_iload (nx := 57) F dX7_reckon_55 rfl rfl ?_
              refine g_bipush (nx := 59) (48) F dX7_reckon_57 rfl (by decide) ?_
              refine g_icmp_eq (nx := 62) 69 F dX7_reckon_59 rfl (by decide) (fun c_59 => absurd c_59 (by decide)) (fun c_59 => ?_)
              refine g_iload (nx := 64) F dX7_reckon_62 rfl rfl ?_
              refine g_bipush (nx := 66) (97) F dX7_reckon_64 rfl (by decide) ?_
              refine g_icmp_ne (nx := 69) 112 F dX7_reckon_66 rfl (by decide) (fun c_66 => ?_) (fun c_66 => absurd c_66 (by decide))
              refine g_iload (nx := 114) F dX7_reckon_112 rfl rfl ?_
              refine g_iconst (nx := 115) (1) F dX7_reckon_114 rfl rfl ?_
              refine g_icmp_ge (nx := 118) 120 F dX7_reckon_115 rfl (by decide) (fun c_115 => ?_) (fun c_115 => absurd c_115 (by exact fun zq => zq (nI_le (a := 1) (by omega) (by omega))))
              refine g_iload (nx := 122) F dX7_reckon_120 rfl rfl ?_
              refine g_bipush (nx := 124) (33) F dX7_reckon_122 rfl (by decide) ?_
              refine g_icmp_ne (nx := 127) 150 F dX7_reckon_124 rfl (by decide) (fun c_124 => ?_) (fun c_124 => absurd c_124 (by decide))
              refine g_iload (nx := 152) F dX7_reckon_150 rfl rfl ?_
              refine g_bipush (nx := 154) (38) F dX7_reckon_152 rfl (by decide) ?_
              refine g_icmp_eq (nx := 157) 164 F dX7_reckon_154 rfl (by decide) (fun c_154 => absurd c_154 (by decide)) (fun c_154 => ?_)
              refine g_iload (nx := 159) F dX7_reckon_157 rfl rfl ?_
              refine g_bipush (nx := 161) (124) F dX7_reckon_159 rfl (by decide) ?_
              refine g_icmp_ne (nx := 164) 220 F dX7_reckon_161 rfl (by decide) (fun c_161 => absurd c_161 (by decide)) (fun c_161 => ?_)
              refine g_aload_n (nx := 165) 0 F dX7_reckon_164 rfl rfl rfl ?_
              refine g_getR (nx := 168) F dX7_reckon_165 rfl fl_RX7_15 rfl (by decide) (by decide) rfl ?_
              refine g_iload (nx := 170) F dX7_reckon_168 rfl rfl ?_
              refine g_iconst (nx := 171) (1) F dX7_reckon_170 rfl rfl ?_
              refine g_isub (nx := 172) F dX7_reckon_171 rfl ?_
              show Gs X 172 _ (.int (nI 0) :: .ref 15 :: []) _
              refine g_ialdN (nx := 173) (0) (0) F dX7_reckon_172 rfl rfl (by omega) (hst.1) ?_
              refine g_if_eq (nx := 176) 180 F dX7_reckon_173 rfl (by decide) (fun c_173 => ?_) (fun c_173 => absurd c_173 (by decide))
              refine g_iconst (nx := 181) (0) F dX7_reckon_180 rfl rfl ?_
              refine g_istore (nx := 183) F dX7_reckon_181 rfl (by decide) ?_
              try dsimp only [List.set]
              refine g_iload (nx := 185) F dX7_reckon_183 rfl rfl ?_
              refine g_iload (nx := 187) F dX7_reckon_185 rfl rfl ?_
              refine g_bipush (nx := 189) (124) F dX7_reckon_187 rfl (by decide) ?_
              refine g_icmp_ne (nx := 192) 196 F dX7_reckon_189 rfl (by decide) (fun c_189 => absurd c_189 (by decide)) (fun c_189 => ?_)
              refine g_iconst (nx := 193) (1) F dX7_reckon_192 rfl rfl ?_
              refine g_goto 197 F dX7_reckon_193 (by decide) ?_
              refine g_icmp_ne (nx := 200) 214 F dX7_reckon_197 rfl (by decide) (fun c_197 => ?_) (fun c_197 => absurd c_197 (by decide))
              refine g_iinc (nx := 217) (-1) F dX7_reckon_214 rfl rfl (by decide) (by decide) ?_
              try dsimp only [List.set]
              refine g_goto 278 F dX7_reckon_217 (by decide) ?_
              refine g_iinc (nx := 281) (1) F dX7_reckon_278 rfl rfl (by decide) (by decide) ?_
              try dsimp only [List.set]
              refine g_goto 24 F dX7_reckon_281 (by decide) ?_
              rw [nI_1, show nI 1 + -1 = nI 0 from rfl]
              refine ih (k + 1) [] _ _ _ _ (by omega) (by omega) trivial (by show 0 = _; omega) (fun z => absurd z (by rw [w4]; decide)) ?_
              rw [← hA]
              simp only [evF, if_neg (show ¬ to ≤ k by omega), ho]
              rfl
            · refine g_iload (nx := 26) F dX7_reckon_24 rfl rfl ?_
              refine g_iload_n (nx := 27) 3 F dX7_reckon_26 rfl rfl rfl ?_
              refine g_icmp_ge (nx := 30) 284 F dX7_reckon_27 rfl (by decide) (fun c_27 => absurd c_27 (by exact nI_ge hk2 (by omega))) (fun c_27 => ?_)
              refine g_aload_n (nx := 31) 1 F dX7_reckon_30 rfl rfl rfl ?_
              refine g_getR (nx := 34) F dX7_reckon_31 rfl fl_RX7_52 (tx_k ht) (by decide) (by decide) (tx_0 ht) ?_
              refine g_iload (nx := 36) F dX7_reckon_34 rfl rfl ?_
              refine g_ialdN (nx := 37) (k) (nI (256 * vl k + 124)) F dX7_reckon_36 rfl (tx_k1 ht) (by omega) (by rw [zs_ne σ (show t + 1 ≠ 15 by omega), hcode k (by omega), ho]; rfl) ?_
              refine g_sipush (nx := 40) (255) F dX7_reckon_37 rfl (by decide) ?_
              refine g_iand (nx := 41) F dX7_reckon_40 rfl ?_
              refine g_top (124) (cd_kind (c := 124) (by decide) (by omega)) ?_
              refine g_istore (nx := 43) F dX7_reckon_41 rfl (by decide) ?_
              try dsimp only [List.set]
              refine g_aload_n (nx := 44) 1 F dX7_reckon_43 rfl rfl rfl ?_
              refine g_getR (nx := 47) F dX7_reckon_44 rfl fl_RX7_52 (tx_k ht) (by decide) (by decide) (tx_0 ht) ?_
              refine g_iload (nx := 49) F dX7_reckon_47 rfl rfl ?_
              refine g_ialdN (nx := 50) (k) (nI (256 * vl k + 124)) F dX7_reckon_49 rfl (tx_k1 ht) (by omega) (by rw [zs_ne σ (show t + 1 ≠ 15 by omega), hcode k (by omega), ho]; rfl) ?_
              refine g_bipush (nx := 52) (8) F dX7_reckon_50 rfl (by decide) ?_
              refine g_ishr (nx := 53) F dX7_reckon_52 rfl ?_
              refine g_top (nI (vl k)) (cd_more (c := 124) (by decide) (by omega)) ?_
              refine g_istore (nx := 55) F dX7_reckon_53 rfl (by decide) ?_
              try dsimp only [List.set]
              refine g_iload (nx := 57) F dX7_reckon_55 rfl rfl ?_
              refine g_bipush (nx := 59) (48) F dX7_reckon_57 rfl (by decide) ?_
              refine g_icmp_eq (nx := 62) 69 F dX7_reckon_59 rfl (by decide) (fun c_59 => absurd c_59 (by decide)) (fun c_59 => ?_)
              refine g_iload (nx := 64) F dX7_reckon_62 rfl rfl ?_
              refine g_bipush (nx := 66) (97) F dX7_reckon_64 rfl (by decide) ?_
              refine g_icmp_ne (nx := 69) 112 F dX7_reckon_66 rfl (by decide) (fun c_66 => ?_) (fun c_66 => absurd c_66 (by decide))
              refine g_iload (nx := 114) F dX7_reckon_112 rfl rfl ?_
              refine g_iconst (nx := 115) (1) F dX7_reckon_114 rfl rfl ?_
              refine g_icmp_ge (nx := 118) 120 F dX7_reckon_115 rfl (by decide) (fun c_115 => ?_) (fun c_115 => absurd c_115 (by exact fun zq => zq (nI_le (a := 1) (by omega) (by omega))))
              refine g_iload (nx := 122) F dX7_reckon_120 rfl rfl ?_
              refine g_bipush (nx := 124) (33) F dX7_reckon_122 rfl (by decide) ?_
              refine g_icmp_ne (nx := 127) 150 F dX7_reckon_124 rfl (by decide) (fun c_124 => ?_) (fun c_124 => absurd c_124 (by decide))
              refine g_iload (nx := 152) F dX7_reckon_150 rfl rfl ?_
              refine g_bipush (nx := 154) (38) F dX7_reckon_152 rfl (by decide) ?_
              refine g_icmp_eq (nx := 157) 164 F dX7_reckon_154 rfl (by decide) (fun c_154 => absurd c_154 (by decide)) (fun c_154 => ?_)
              refine g_iload (nx := 159) F dX7_reckon_157 rfl rfl ?_
              refine g_bipush (nx := 161) (124) F dX7_reckon_159 rfl (by decide) ?_
              refine g_icmp_ne (nx := 164) 220 F dX7_reckon_161 rfl (by decide) (fun c_161 => absurd c_161 (by decide)) (fun c_161 => ?_)
              refine g_aload_n (nx := 165) 0 F dX7_reckon_164 rfl rfl rfl ?_
              refine g_getR (nx := 168) F dX7_reckon_165 rfl fl_RX7_15 rfl (by decide) (by decide) rfl ?_
              refine g_iload (nx := 170) F dX7_reckon_168 rfl rfl ?_
              refine g_iconst (nx := 171) (1) F dX7_reckon_170 rfl rfl ?_
              refine g_isub (nx := 172) F dX7_reckon_171 rfl ?_
              show Gs X 172 _ (.int (nI 0) :: .ref 15 :: []) _
              refine g_ialdN (nx := 173) (0) (1) F dX7_reckon_172 rfl rfl (by omega) (hst.1) ?_
              refine g_if_eq (nx := 176) 180 F dX7_reckon_173 rfl (by decide) (fun c_173 => absurd c_173 (by decide)) (fun c_173 => ?_)
              refine g_iconst (nx := 177) (1) F dX7_reckon_176 rfl rfl ?_
              refine g_goto 181 F dX7_reckon_177 (by decide) ?_
              refine g_istore (nx := 183) F dX7_reckon_181 rfl (by decide) ?_
              try dsimp only [List.set]
              refine g_iload (nx := 185) F dX7_reckon_183 rfl rfl ?_
              refine g_iload (nx := 187) F dX7_reckon_185 rfl rfl ?_
              refine g_bipush (nx := 189) (124) F dX7_reckon_187 rfl (by decide) ?_
              refine g_icmp_ne (nx := 192) 196 F dX7_reckon_189 rfl (by decide) (fun c_189 => absurd c_189 (by decide)) (fun c_189 => ?_)
              refine g_iconst (nx := 193) (1) F dX7_reckon_192 rfl rfl ?_
              refine g_goto 197 F dX7_reckon_193 (by decide) ?_
              refine g_icmp_ne (nx := 200) 214 F dX7_reckon_197 rfl (by decide) (fun c_197 => absurd c_197 (by decide)) (fun c_197 => ?_)
              refine g_iload (nx := 202) F dX7_reckon_200 rfl rfl ?_
              refine g_iload (nx := 204) F dX7_reckon_202 rfl rfl ?_
              refine g_iconst (nx := 205) (1) F dX7_reckon_204 rfl rfl ?_
              refine g_isub (nx := 206) F dX7_reckon_205 rfl ?_
              rw [show (1 : Int32) = nI 1 from rfl, pk_sub (by omega)]
              refine g_mmax (nx := 209) F dX7_reckon_206 rfl mm_Reckoner_46 (by omega) (Nat.le_of_ble_eq_true rfl) ?_
              refine g_top (nI (vl k - 1)) (by rcases Nat.lt_or_ge k (vl k - 1) with z | z; rw [if_pos (nI_lt z (by omega))]; rw [if_neg (nI_nlt z (by omega))]; exact congrArg nI (show k = vl k - 1 by omega)) ?_
              refine g_istore (nx := 211) F dX7_reckon_209 rfl (by decide) ?_
              try dsimp only [List.set]
              refine g_goto 217 F dX7_reckon_211 (by decide) ?_
              refine g_goto 278 F dX7_reckon_217 (by decide) ?_
              refine g_iinc (nx := 281) (1) F dX7_reckon_278 rfl rfl (by decide) (by decide) ?_
              try dsimp only [List.set]
              refine g_goto 24 F dX7_reckon_281 (by decide) ?_
              rw [nI_1, show vl k - 1 + 1 = vl k by omega]
              refine ih (vl k) [1] _ _ _ _ (by omega) (by omega) hst (by show 1 = _; omega) (fun _ => by simp) ?_
              rw [← hA]
              simp only [evF, if_neg (show ¬ to ≤ k by omega), ho]
              rfl
      · have hkt : k = to := by omega
        obtain ⟨x, rfl⟩ : ∃ x, st = [x] := by
          match st, hlen with
          | [x], _ => exact ⟨x, rfl⟩
          | [], h => rw [hkt, hw.2.2.2.1] at h; exact absurd h (by decide)
          | _ :: _ :: _, h => rw [hkt, hw.2.2.2.1] at h; simp at h
        show Gs X 24 [.ref 13, .ref t, .int (nI fr), .int (nI to), .int (nI 1), .int (nI k), z6, z7, z8] [] (zs σ 15 g)
        refine g_iload (nx := 26) F dX7_reckon_24 rfl rfl ?_
        refine g_iload_n (nx := 27) 3 F dX7_reckon_26 rfl rfl rfl ?_
        refine g_icmp_ge (nx := 30) 284 F dX7_reckon_27 rfl (by decide) (fun c_27 => ?_) (fun c_27 => absurd c_27 (by exact fun zq => zq (nI_le (by omega) (by omega))))
        refine g_iload (nx := 286) F dX7_reckon_284 rfl rfl ?_
        refine g_if_le (nx := 289) 301 F dX7_reckon_286 rfl (by decide) (fun c_286 => absurd c_286 (by decide)) (fun c_286 => ?_)
        refine g_aload_n (nx := 290) 0 F dX7_reckon_289 rfl rfl rfl ?_
        refine g_getR (nx := 293) F dX7_reckon_290 rfl fl_RX7_15 rfl (by decide) (by decide) rfl ?_
        refine g_iload (nx := 295) F dX7_reckon_293 rfl rfl ?_
        refine g_iconst (nx := 296) (1) F dX7_reckon_295 rfl rfl ?_
        refine g_isub (nx := 297) F dX7_reckon_296 rfl ?_
        show Gs X 297 _ (.int (nI 0) :: .ref 15 :: []) _
        refine g_ialdN (nx := 298) (0) (x) F dX7_reckon_297 rfl rfl (by omega) (hst.1) ?_
        refine g_goto 302 F dX7_reckon_298 (by decide) ?_
        refine g_iret F E dX7_reckon_302 ?_
        exact ⟨⟨g, rfl⟩, by rw [← hA]; simp [evF, hkt]⟩
  refine g_aload_n (nx := 1) 1 F dX7_reckon_0 rfl rfl rfl ?_
  refine g_ifnull (nx := 4) F dX7_reckon_1 rfl ?_
  refine g_iload_n (nx := 5) 2 F dX7_reckon_4 rfl rfl rfl ?_
  refine g_if_lt (nx := 8) 16 F dX7_reckon_5 rfl (by decide) (fun c_5 => absurd c_5 (by exact nI_pos (by omega))) (fun c_5 => ?_)
  refine g_iload_n (nx := 9) 3 F dX7_reckon_8 rfl rfl rfl ?_
  refine g_aload_n (nx := 10) 1 F dX7_reckon_9 rfl rfl rfl ?_
  refine g_getV (nx := 13) (nI len) F dX7_reckon_10 rfl fl_RX7_49 (tx_k ht) (by decide) (by decide) (tx_1 ht) rfl (hl) ?_
  refine g_icmp_le (nx := 16) 18 F dX7_reckon_13 rfl (by decide) (fun c_13 => ?_) (fun c_13 => absurd c_13 (by exact fun zq => zq (nI_le (a := to) (b := len) (by omega) (by omega))))
  refine g_iconst (nx := 19) (0) F dX7_reckon_18 rfl rfl ?_
  refine g_istore (nx := 21) F dX7_reckon_19 rfl (by decide) ?_
  try dsimp only [List.set]
  refine g_iload_n (nx := 22) 2 F dX7_reckon_21 rfl rfl rfl ?_
  refine g_istore (nx := 24) F dX7_reckon_22 rfl (by decide) ?_
  try dsimp only [List.set]
  refine g_st (zs σ 15 (σ 15)) (zs_id σ 15 _ rfl).symm ?_
  exact L (to - fr) fr [] (σ 15) _ _ _ (Nat.le_refl fr) ⟨hw.1, Nat.le_refl _⟩ trivial hw.2.1.symm (fun z => absurd z (by rw [hw.2.2.1]; decide)) rfl
