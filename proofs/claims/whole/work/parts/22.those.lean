set_option maxHeartbeats 4000000 in
set_option maxRecDepth 100000 in
theorem c_those (n m k th what : Int32) (σ : zSt) : Con mX11_those 2 [.ref 0, .int n, .int m, .int k, .int th, .int what] σ (fun r τ => r = some (.int (thR n m k th what)) ∧ τ = σ) := by
  refine Con.of (lv := [.ref 0, .int n, .int m, .int k, .int th, .int what, .long 0, .long 0, .long 0]) mk_X11_those rfl (Nat.le_of_ble_eq_true rfl) rfl (fun X F E => ?_)
  by_cases hA : thA n m k th what
  · simp only [thA] at hA
    obtain ⟨⟨a1, a2, a3, a4, a5, a6⟩, ⟨a7, a8⟩, a9, a10⟩ := id hA
    obtain ⟨N, hN, eN⟩ := nI_rng (n := 10) (x := n) (by omega) (by omega)
    obtain ⟨M, hM, eM⟩ := nI_rng (n := 10) (x := m) (by omega) (by omega)
    obtain ⟨K, hK, eK⟩ := nI_rng (n := 10) (x := k) (by omega) (by omega)
    subst eN eM eK
    have e1 : (nI N).toInt = N := nI_toInt (by omega)
    have e2 : (nI M).toInt = M := nI_toInt (by omega)
    have e3 : (nI K).toInt = K := nI_toInt (by omega)
    have hR : thR (nI N) (nI M) (nI K) th what = thL N M K th what (N + 1) := by
      rw [thR, if_pos hA, e1, e2, e3]
      rfl
    have L : ∀ (f t : Nat) (z : Value), t + f = N + 1 → Gs X 41 [.ref 0, .int (nI N), .int (nI M), .int (nI K), .int th, .int what, .int (thL N M K th what t), .int (nI t), z] [] σ := by
      intro f
      induction f with
      | zero =>
        intro t z ht
        refine g_iload (nx := 43) F dX11_those_41 rfl rfl ?_
        refine g_iload_n (nx := 44) 1 F dX11_those_43 rfl rfl rfl ?_
        refine g_icmp_gt (nx := 47) 105 F dX11_those_44 rfl (by decide) (fun c_44 => ?_) (fun c_44 => absurd c_44 (by exact fun q => q (nI_lt (by omega) (by omega))))
        refine g_iload (nx := 107) F dX11_those_105 rfl rfl ?_
        refine g_iret F E dX11_those_107 ?_
        have e : t = N + 1 := ht
        subst e
        exact ⟨by rw [hR], rfl⟩
      | succ f ih =>
        intro t z ht
        refine g_iload (nx := 43) F dX11_those_41 rfl rfl ?_
        refine g_iload_n (nx := 44) 1 F dX11_those_43 rfl rfl rfl ?_
        refine g_icmp_gt (nx := 47) 105 F dX11_those_44 rfl (by decide) (fun c_44 => absurd c_44 (by exact nI_nlt (by omega) (by omega))) (fun c_44 => ?_)
        refine g_iload_n (nx := 48) 1 F dX11_those_47 rfl rfl rfl ?_
        refine g_iload_n (nx := 49) 2 F dX11_those_48 rfl rfl rfl ?_
        refine g_iload_n (nx := 50) 3 F dX11_those_49 rfl rfl rfl ?_
        refine g_iload (nx := 52) F dX11_those_50 rfl rfl ?_
        refine g_callS (nx := 55) 4 1 [.int (nI N), .int (nI M), .int (nI K), .int (nI t)] F dX11_those_52 rfl ml_RX11_306 mo_X3_above rfl rfl (Nat.le_of_ble_eq_true rfl) (by first | decide | omega) (c_above N M K t hN (by omega) (by omega) (by omega) _) (fun r_52 τ_52 q_52 => ?_)
        obtain ⟨rfl, et_52⟩ := q_52
        have et_52 := et_52.symm
        subst et_52
        dsimp only [Option.toList, List.append, List.cons_append, List.nil_append]
        refine g_sipush (nx := 58) (1000) F dX11_those_55 rfl (by decide) ?_
        refine g_imul (nx := 59) F dX11_those_58 rfl ?_
        refine g_iload (nx := 61) F dX11_those_59 rfl rfl ?_
        refine g_iload_n (nx := 62) 1 F dX11_those_61 rfl rfl rfl ?_
        refine g_iload_n (nx := 63) 2 F dX11_those_62 rfl rfl rfl ?_
        refine g_callS (nx := 66) 2 0 [.int (nI N), .int (nI M)] F dX11_those_63 rfl ml_RX11_309 mo_X3_choose rfl rfl (Nat.le_of_ble_eq_true rfl) (by first | decide | omega) (c_choose N M hN hM _) (fun r_63 τ_63 q_63 => ?_)
        obtain ⟨rfl, et_63⟩ := q_63
        have et_63 := et_63.symm
        subst et_63
        dsimp only [Option.toList, List.append, List.cons_append, List.nil_append]
        refine g_imul (nx := 67) F dX11_those_66 rfl ?_
        refine g_icmp_lt (nx := 70) 74 F dX11_those_67 rfl (by decide) (fun c_67 => ?_) (fun c_67 => ?_)
        · refine g_iconst (nx := 75) (0) F dX11_those_74 rfl rfl ?_
          refine g_istore (nx := 77) F dX11_those_75 rfl (by decide) ?_
          try dsimp only [List.set]
          refine g_iload (nx := 79) F dX11_those_77 rfl rfl ?_
          refine g_if_eq (nx := 82) 99 F dX11_those_79 rfl (by decide) (fun c_79 => ?_) (fun c_79 => ?_)
          · refine g_iinc (nx := 102) (1) F dX11_those_99 rfl rfl (by decide) (by decide) ?_
            try dsimp only [List.set]
            refine g_goto 41 F dX11_those_102 (by decide) ?_
            rw [nI_1]
            have hh := fun z => ih (t + 1) z (by omega)
            simp only [thL] at hh
            by_cases hc : ¬ (chF t K * chF (N - t) (M - K)) * 1000 < th * chF N M ∧ (thL N M K th what t = -2 ∨ what = 1)
            · simp only [if_pos hc] at hh
              first | exact hh _ | exact hh (.int 0) | (exfalso; clear F E ih hh; simp_all; done)
            · simp only [if_neg hc] at hh
              first | exact hh _ | exact hh (.int 0) | (exfalso; clear F E ih hh; simp_all; done)
          · refine g_iload (nx := 84) F dX11_those_82 rfl rfl ?_
            refine g_bipush (nx := 86) (-2) F dX11_those_84 rfl (by decide) ?_
            refine g_icmp_eq (nx := 89) 95 F dX11_those_86 rfl (by decide) (fun c_86 => ?_) (fun c_86 => ?_)
            · refine g_iload (nx := 97) F dX11_those_95 rfl rfl ?_
              refine g_istore (nx := 99) F dX11_those_97 rfl (by decide) ?_
              try dsimp only [List.set]
              refine g_iinc (nx := 102) (1) F dX11_those_99 rfl rfl (by decide) (by decide) ?_
              try dsimp only [List.set]
              refine g_goto 41 F dX11_those_102 (by decide) ?_
              rw [nI_1]
              have hh := fun z => ih (t + 1) z (by omega)
              simp only [thL] at hh
              by_cases hc : ¬ (chF t K * chF (N - t) (M - K)) * 1000 < th * chF N M ∧ (thL N M K th what t = -2 ∨ what = 1)
              · simp only [if_pos hc] at hh
                first | exact hh _ | exact hh (.int 0) | (exfalso; clear F E ih hh; simp_all; done)
              · simp only [if_neg hc] at hh
                first | exact hh _ | exact hh (.int 0) | (exfalso; clear F E ih hh; simp_all; done)
            · refine g_iload (nx := 91) F dX11_those_89 rfl rfl ?_
              refine g_iconst (nx := 92) (1) F dX11_those_91 rfl rfl ?_
              refine g_icmp_ne (nx := 95) 99 F dX11_those_92 rfl (by decide) (fun c_92 => ?_) (fun c_92 => ?_)
              · refine g_iinc (nx := 102) (1) F dX11_those_99 rfl rfl (by decide) (by decide) ?_
                try dsimp only [List.set]
                refine g_goto 41 F dX11_those_102 (by decide) ?_
                rw [nI_1]
                have hh := fun z => ih (t + 1) z (by omega)
                simp only [thL] at hh
                by_cases hc : ¬ (chF t K * chF (N - t) (M - K)) * 1000 < th * chF N M ∧ (thL N M K th what t = -2 ∨ what = 1)
                · simp only [if_pos hc] at hh
                  first | exact hh _ | exact hh (.int 0) | (exfalso; clear F E ih hh; simp_all; done)
                · simp only [if_neg hc] at hh
                  first | exact hh _ | exact hh (.int 0) | (exfalso; clear F E ih hh; simp_all; done)
              · refine g_iload (nx := 97) F dX11_those_95 rfl rfl ?_
                refine g_istore (nx := 99) F dX11_those_97 rfl (by decide) ?_
                try dsimp only [List.set]
                refine g_iinc (nx := 102) (1) F dX11_those_99 rfl rfl (by decide) (by decide) ?_
                try dsimp only [List.set]
                refine g_goto 41 F dX11_those_102 (by decide) ?_
                rw [nI_1]
                have hh := fun z => ih (t + 1) z (by omega)
                simp only [thL] at hh
                by_cases hc : ¬ (chF t K * chF (N - t) (M - K)) * 1000 < th * chF N M ∧ (thL N M K th what t = -2 ∨ what = 1)
                · simp only [if_pos hc] at hh
                  first | exact hh _ | exact hh (.int 0) | (exfalso; clear F E ih hh; simp_all; done)
                · simp only [if_neg hc] at hh
                  first | exact hh _ | exact hh (.int 0) | (exfalso; clear F E ih hh; simp_all; done)
        · refine g_iconst (nx := 71) (1) F dX11_those_70 rfl rfl ?_
          refine g_goto 75 F dX11_those_71 (by decide) ?_
          refine g_istore (nx := 77) F dX11_those_75 rfl (by decide) ?_
          try dsimp only [List.set]
          refine g_iload (nx := 79) F dX11_those_77 rfl rfl ?_
          refine g_if_eq (nx := 82) 99 F dX11_those_79 rfl (by decide) (fun c_79 => ?_) (fun c_79 => ?_)
          · refine g_iinc (nx := 102) (1) F dX11_those_99 rfl rfl (by decide) (by decide) ?_
            try dsimp only [List.set]
            refine g_goto 41 F dX11_those_102 (by decide) ?_
            rw [nI_1]
            have hh := fun z => ih (t + 1) z (by omega)
            simp only [thL] at hh
            by_cases hc : ¬ (chF t K * chF (N - t) (M - K)) * 1000 < th * chF N M ∧ (thL N M K th what t = -2 ∨ what = 1)
            · simp only [if_pos hc] at hh
              first | exact hh _ | exact hh (.int 0) | (exfalso; clear F E ih hh; simp_all; done)
            · simp only [if_neg hc] at hh
              first | exact hh _ | exact hh (.int 0) | (exfalso; clear F E ih hh; simp_all; done)
          · refine g_iload (nx := 84) F dX11_those_82 rfl rfl ?_
            refine g_bipush (nx := 86) (-2) F dX11_those_84 rfl (by decide) ?_
            refine g_icmp_eq (nx := 89) 95 F dX11_those_86 rfl (by decide) (fun c_86 => ?_) (fun c_86 => ?_)
            · refine g_iload (nx := 97) F dX11_those_95 rfl rfl ?_
              refine g_istore (nx := 99) F dX11_those_97 rfl (by decide) ?_
              try dsimp only [List.set]
              refine g_iinc (nx := 102) (1) F dX11_those_99 rfl rfl (by decide) (by decide) ?_
              try dsimp only [List.set]
              refine g_goto 41 F dX11_those_102 (by decide) ?_
              rw [nI_1]
              have hh := fun z => ih (t + 1) z (by omega)
              simp only [thL] at hh
              by_cases hc : ¬ (chF t K * chF (N - t) (M - K)) * 1000 < th * chF N M ∧ (thL N M K th what t = -2 ∨ what = 1)
              · simp only [if_pos hc] at hh
                first | exact hh _ | exact hh (.int 0) | (exfalso; clear F E ih hh; simp_all; done)
              · simp only [if_neg hc] at hh
                first | exact hh _ | exact hh (.int 0) | (exfalso; clear F E ih hh; simp_all; done)
            · refine g_iload (nx := 91) F dX11_those_89 rfl rfl ?_
              refine g_iconst (nx := 92) (1) F dX11_those_91 rfl rfl ?_
              refine g_icmp_ne (nx := 95) 99 F dX11_those_92 rfl (by decide) (fun c_92 => ?_) (fun c_92 => ?_)
              · refine g_iinc (nx := 102) (1) F dX11_those_99 rfl rfl (by decide) (by decide) ?_
                try dsimp only [List.set]
                refine g_goto 41 F dX11_those_102 (by decide) ?_
                rw [nI_1]
                have hh := fun z => ih (t + 1) z (by omega)
                simp only [thL] at hh
                by_cases hc : ¬ (chF t K * chF (N - t) (M - K)) * 1000 < th * chF N M ∧ (thL N M K th what t = -2 ∨ what = 1)
                · simp only [if_pos hc] at hh
                  first | exact hh _ | exact hh (.int 0) | (exfalso; clear F E ih hh; simp_all; done)
                · simp only [if_neg hc] at hh
                  first | exact hh _ | exact hh (.int 0) | (exfalso; clear F E ih hh; simp_all; done)
              · refine g_iload (nx := 97) F dX11_those_95 rfl rfl ?_
                refine g_istore (nx := 99) F dX11_those_97 rfl (by decide) ?_
                try dsimp only [List.set]
                refine g_iinc (nx := 102) (1) F dX11_those_99 rfl rfl (by decide) (by decide) ?_
                try dsimp only [List.set]
                refine g_goto 41 F dX11_those_102 (by decide) ?_
                rw [nI_1]
                have hh := fun z => ih (t + 1) z (by omega)
                simp only [thL] at hh
                by_cases hc : ¬ (chF t K * chF (N - t) (M - K)) * 1000 < th * chF N M ∧ (thL N M K th what t = -2 ∨ what = 1)
                · simp only [if_pos hc] at hh
                  first | exact hh _ | exact hh (.int 0) | (exfalso; clear F E ih hh; simp_all; done)
                · simp only [if_neg hc] at hh
                  first | exact hh _ | exact hh (.int 0) | (exfalso; clear F E ih hh; simp_all; done)
    refine g_iload_n (nx := 1) 1 F dX11_those_0 rfl rfl rfl ?_
    refine g_iload_n (nx := 2) 2 F dX11_those_1 rfl rfl rfl ?_
    refine g_iload_n (nx := 3) 3 F dX11_those_2 rfl rfl rfl ?_
    refine g_callS (nx := 6) 3 0 [.int (nI N), .int (nI M), .int (nI K)] F dX11_those_3 rfl ml_RX11_300 mo_X3_isTry rfl rfl (Nat.le_of_ble_eq_true rfl) (by first | decide | omega) (c_isTry _ _ _ _) (fun r_3 τ_3 q_3 => ?_)
    obtain ⟨rfl, et_3⟩ := q_3
    have et_3 := et_3.symm
    subst et_3
    dsimp only [Option.toList, List.append, List.cons_append, List.nil_append]
    refine g_if_eq (nx := 9) 32 F dX11_those_6 rfl (by decide) (fun c_6 => absurd c_6 (by exact bI_n0.mpr (by omega))) (fun c_6 => ?_)
    refine g_iload (nx := 11) F dX11_those_9 rfl rfl ?_
    refine g_iconst (nx := 12) (1) F dX11_those_11 rfl rfl ?_
    refine g_icmp_lt (nx := 15) 32 F dX11_those_12 rfl (by decide) (fun c_12 => absurd c_12 (by simp only [fa_lt, Int32.reduceToInt]; omega)) (fun c_12 => ?_)
    refine g_iload (nx := 17) F dX11_those_15 rfl rfl ?_
    refine g_sipush (nx := 20) (1000) F dX11_those_17 rfl (by decide) ?_
    refine g_icmp_gt (nx := 23) 32 F dX11_those_20 rfl (by decide) (fun c_20 => absurd c_20 (by simp only [fa_lt, Int32.reduceToInt]; omega)) (fun c_20 => ?_)
    refine g_iload (nx := 25) F dX11_those_23 rfl rfl ?_
    refine g_iconst (nx := 26) (1) F dX11_those_25 rfl rfl ?_
    refine g_callS (nx := 29) 2 0 [.int what, .int 1] F dX11_those_26 rfl ml_RX11_79 mo_X11_isOutside rfl rfl (Nat.le_of_ble_eq_true rfl) (by first | decide | omega) (c_isOutside what 1 _) (fun r_26 τ_26 q_26 => ?_)
    obtain ⟨rfl, et_26⟩ := q_26
    have et_26 := et_26.symm
    subst et_26
    dsimp only [Option.toList, List.append, List.cons_append, List.nil_append]
    refine g_if_eq (nx := 32) 34 F dX11_those_29 rfl (by decide) (fun c_29 => ?_) (fun c_29 => absurd c_29 (by exact fun q => q (bI_f (by simp only [Int32.reduceToInt]; omega))))
    refine g_bipush (nx := 36) (-2) F dX11_those_34 rfl (by decide) ?_
    refine g_istore (nx := 38) F dX11_those_36 rfl (by decide) ?_
    try dsimp only [List.set]
    refine g_iconst (nx := 39) (0) F dX11_those_38 rfl rfl ?_
    refine g_istore (nx := 41) F dX11_those_39 rfl (by decide) ?_
    try dsimp only [List.set]
    exact L (N + 1) 0 _ (by omega)
  · refine g_iload_n (nx := 1) 1 F dX11_those_0 rfl rfl rfl ?_
    refine g_iload_n (nx := 2) 2 F dX11_those_1 rfl rfl rfl ?_
    refine g_iload_n (nx := 3) 3 F dX11_those_2 rfl rfl rfl ?_
    refine g_callS (nx := 6) 3 0 [.int n, .int m, .int k] F dX11_those_3 rfl ml_RX11_300 mo_X3_isTry rfl rfl (Nat.le_of_ble_eq_true rfl) (by first | decide | omega) (c_isTry _ _ _ _) (fun r_3 τ_3 q_3 => ?_)
    obtain ⟨rfl, et_3⟩ := q_3
    have et_3 := et_3.symm
    subst et_3
    dsimp only [Option.toList, List.append, List.cons_append, List.nil_append]
    refine g_if_eq (nx := 9) 32 F dX11_those_6 rfl (by decide) (fun c_6 => ?_) (fun c_6 => ?_)
    · refine g_iconst (nx := 33) (-1) F dX11_those_32 rfl rfl ?_
      refine g_iret F E dX11_those_33 ?_
      exact ⟨by rw [thR, if_neg hA], rfl⟩
    · refine g_iload (nx := 11) F dX11_those_9 rfl rfl ?_
      refine g_iconst (nx := 12) (1) F dX11_those_11 rfl rfl ?_
      refine g_icmp_lt (nx := 15) 32 F dX11_those_12 rfl (by decide) (fun c_12 => ?_) (fun c_12 => ?_)
      · refine g_iconst (nx := 33) (-1) F dX11_those_32 rfl rfl ?_
        refine g_iret F E dX11_those_33 ?_
        exact ⟨by rw [thR, if_neg hA], rfl⟩
      · refine g_iload (nx := 17) F dX11_those_15 rfl rfl ?_
        refine g_sipush (nx := 20) (1000) F dX11_those_17 rfl (by decide) ?_
        refine g_icmp_gt (nx := 23) 32 F dX11_those_20 rfl (by decide) (fun c_20 => ?_) (fun c_20 => ?_)
        · refine g_iconst (nx := 33) (-1) F dX11_those_32 rfl rfl ?_
          refine g_iret F E dX11_those_33 ?_
          exact ⟨by rw [thR, if_neg hA], rfl⟩
        · refine g_iload (nx := 25) F dX11_those_23 rfl rfl ?_
          refine g_iconst (nx := 26) (1) F dX11_those_25 rfl rfl ?_
          refine g_callS (nx := 29) 2 0 [.int what, .int 1] F dX11_those_26 rfl ml_RX11_79 mo_X11_isOutside rfl rfl (Nat.le_of_ble_eq_true rfl) (by first | decide | omega) (c_isOutside what 1 _) (fun r_26 τ_26 q_26 => ?_)
          obtain ⟨rfl, et_26⟩ := q_26
          have et_26 := et_26.symm
          subst et_26
          dsimp only [Option.toList, List.append, List.cons_append, List.nil_append]
          refine g_if_eq (nx := 32) 34 F dX11_those_29 rfl (by decide) (fun c_29 => ?_) (fun c_29 => ?_)
          · exfalso
            clear F E
            simp only [thA, bI_0, bI_n0, ne_eq, fa_lt, fa_le, Int32.reduceToInt, Int32.toInt_zero, Decidable.not_not] at *
            omega
          · refine g_iconst (nx := 33) (-1) F dX11_those_32 rfl rfl ?_
            refine g_iret F E dX11_those_33 ?_
            exact ⟨by rw [thR, if_neg hA], rfl⟩
set_option maxHeartbeats 4000000 in
set_option maxRecDepth 100000 in
theorem k_those (n m k th what : Int32) (σ : zSt) : Con mX12_those 2 [.ref 145, .int n, .int m, .int k, .int th, .int what] σ (fun r τ => r = some (.int (thR n m k th what)) ∧ τ = σ) := by
  refine Con.of (lv := [.ref 145, .int n, .int m, .int k, .int th, .int what, .long 0, .long 0]) mk_X12_those rfl (Nat.le_of_ble_eq_true rfl) rfl (fun X F E => ?_)
  by_cases hA : thA n m k th what
  · simp only [thA] at hA
    obtain ⟨⟨a1, a2, a3, a4, a5, a6⟩, ⟨a7, a8⟩, a9, a10⟩ := id hA
    obtain ⟨N, hN, eN⟩ := nI_rng (n := 10) (x := n) (by omega) (by omega)
    obtain ⟨M, hM, eM⟩ := nI_rng (n := 10) (x := m) (by omega) (by omega)
    obtain ⟨K, hK, eK⟩ := nI_rng (n := 10) (x := k) (by omega) (by omega)
    subst eN eM eK
    have e1 : (nI N).toInt = N := nI_toInt (by omega)
    have e2 : (nI M).toInt = M := nI_toInt (by omega)
    have e3 : (nI K).toInt = K := nI_toInt (by omega)
    have hR : thR (nI N) (nI M) (nI K) th what = thL N M K th what (N + 1) := by
      rw [thR, if_pos hA, e1, e2, e3]
      rfl
    have hmul : ∀ t, 1000 * chF t K * chF (N - t) (M - K) = chF t K * chF (N - t) (M - K) * 1000 := fun t => by rw [Int32.mul_assoc, Int32.mul_comm]
    have L : ∀ (f t : Nat) (z : Value), t + f = N + 1 → Gs X 40 [.ref 145, .int (nI N), .int (nI M), .int (nI K), .int th, .int what, .int (thL N M K th what t), .int (nI t)] [] σ := by
      intro f
      induction f with
      | zero =>
        intro t z ht
        refine g_iload (nx := 42) F dX12_those_40 rfl rfl ?_
        refine g_iload_n (nx := 43) 1 F dX12_those_42 rfl rfl rfl ?_
        refine g_icmp_gt (nx := 46) 104 F dX12_those_43 rfl (by decide) (fun c_43 => ?_) (fun c_43 => absurd c_43 (by exact fun q => q (nI_lt (by omega) (by omega))))
        refine g_iload (nx := 106) F dX12_those_104 rfl rfl ?_
        refine g_iret F E dX12_those_106 ?_
        have e : t = N + 1 := ht
        subst e
        exact ⟨by rw [hR], rfl⟩
      | succ f ih =>
        intro t z ht
        refine g_iload (nx := 42) F dX12_those_40 rfl rfl ?_
        refine g_iload_n (nx := 43) 1 F dX12_those_42 rfl rfl rfl ?_
        refine g_icmp_gt (nx := 46) 104 F dX12_those_43 rfl (by decide) (fun c_43 => absurd c_43 (by exact nI_nlt (by omega) (by omega))) (fun c_43 => ?_)
        refine g_sipush (nx := 49) (1000) F dX12_those_46 rfl (by decide) ?_
        refine g_iload (nx := 51) F dX12_those_49 rfl rfl ?_
        refine g_iload_n (nx := 52) 3 F dX12_those_51 rfl rfl rfl ?_
        refine g_callS (nx := 55) 2 0 [.int (nI t), .int (nI K)] F dX12_those_52 rfl ml_RX12_407 mo_X12_choose rfl rfl (Nat.le_of_ble_eq_true rfl) (by first | decide | omega) (k_choose t K (by omega) hK _) (fun r_52 τ_52 q_52 => ?_)
        obtain ⟨rfl, et_52⟩ := q_52
        have et_52 := et_52.symm
        subst et_52
        dsimp only [Option.toList, List.append, List.cons_append, List.nil_append]
        refine g_imul (nx := 56) F dX12_those_55 rfl ?_
        refine g_iload_n (nx := 57) 1 F dX12_those_56 rfl rfl rfl ?_
        refine g_iload (nx := 59) F dX12_those_57 rfl rfl ?_
        refine g_isub (nx := 60) F dX12_those_59 rfl ?_
        refine g_iload_n (nx := 61) 2 F dX12_those_60 rfl rfl rfl ?_
        refine g_iload_n (nx := 62) 3 F dX12_those_61 rfl rfl rfl ?_
        refine g_isub (nx := 63) F dX12_those_62 rfl ?_
        rw [pk_sub (by omega), pk_sub (by omega)]
        refine g_callS (nx := 66) 2 0 [.int (nI (N - t)), .int (nI (M - K))] F dX12_those_63 rfl ml_RX12_407 mo_X12_choose rfl rfl (Nat.le_of_ble_eq_true rfl) (by first | decide | omega) (k_choose (N - t) (M - K) (by omega) (by omega) _) (fun r_63 τ_63 q_63 => ?_)
        obtain ⟨rfl, et_63⟩ := q_63
        have et_63 := et_63.symm
        subst et_63
        dsimp only [Option.toList, List.append, List.cons_append, List.nil_append]
        refine g_imul (nx := 67) F dX12_those_66 rfl ?_
        rw [hmul]
        refine g_iload (nx := 69) F dX12_those_67 rfl rfl ?_
        refine g_iload_n (nx := 70) 1 F dX12_those_69 rfl rfl rfl ?_
        refine g_iload_n (nx := 71) 2 F dX12_those_70 rfl rfl rfl ?_
        refine g_callS (nx := 74) 2 0 [.int (nI N), .int (nI M)] F dX12_those_71 rfl ml_RX12_407 mo_X12_choose rfl rfl (Nat.le_of_ble_eq_true rfl) (by first | decide | omega) (k_choose N M hN hM _) (fun r_71 τ_71 q_71 => ?_)
        obtain ⟨rfl, et_71⟩ := q_71
        have et_71 := et_71.symm
        subst et_71
        dsimp only [Option.toList, List.append, List.cons_append, List.nil_append]
        refine g_imul (nx := 75) F dX12_those_74 rfl ?_
        refine g_icmp_ge (nx := 78) 81 F dX12_those_75 rfl (by decide) (fun c_75 => ?_) (fun c_75 => ?_)
        · refine g_iload (nx := 83) F dX12_those_81 rfl rfl ?_
          refine g_iconst (nx := 84) (1) F dX12_those_83 rfl rfl ?_
          refine g_icmp_eq (nx := 87) 94 F dX12_those_84 rfl (by decide) (fun c_84 => ?_) (fun c_84 => ?_)
          · refine g_iload (nx := 96) F dX12_those_94 rfl rfl ?_
            refine g_istore (nx := 98) F dX12_those_96 rfl (by decide) ?_
            try dsimp only [List.set]
            refine g_iinc (nx := 101) (1) F dX12_those_98 rfl rfl (by decide) (by decide) ?_
            try dsimp only [List.set]
            refine g_goto 40 F dX12_those_101 (by decide) ?_
            try rw [not_le_I] at c_75
            try rw [← not_lt_I] at c_75
            rw [nI_1]
            have hh := fun z => ih (t + 1) z (by omega)
            simp only [thL] at hh
            by_cases hc : ¬ (chF t K * chF (N - t) (M - K)) * 1000 < th * chF N M ∧ (thL N M K th what t = -2 ∨ what = 1)
            · simp only [if_pos hc] at hh
              first | exact hh _ | exact hh (.int 0) | (exfalso; clear F E ih hh; simp_all; done)
            · simp only [if_neg hc] at hh
              first | exact hh _ | exact hh (.int 0) | (exfalso; clear F E ih hh; simp_all; done)
          · refine g_iload (nx := 89) F dX12_those_87 rfl rfl ?_
            refine g_bipush (nx := 91) (-2) F dX12_those_89 rfl (by decide) ?_
            refine g_icmp_ne (nx := 94) 98 F dX12_those_91 rfl (by decide) (fun c_91 => ?_) (fun c_91 => ?_)
            · refine g_iinc (nx := 101) (1) F dX12_those_98 rfl rfl (by decide) (by decide) ?_
              try dsimp only [List.set]
              refine g_goto 40 F dX12_those_101 (by decide) ?_
              try rw [not_le_I] at c_75
              try rw [← not_lt_I] at c_75
              rw [nI_1]
              have hh := fun z => ih (t + 1) z (by omega)
              simp only [thL] at hh
              by_cases hc : ¬ (chF t K * chF (N - t) (M - K)) * 1000 < th * chF N M ∧ (thL N M K th what t = -2 ∨ what = 1)
              · simp only [if_pos hc] at hh
                first | exact hh _ | exact hh (.int 0) | (exfalso; clear F E ih hh; simp_all; done)
              · simp only [if_neg hc] at hh
                first | exact hh _ | exact hh (.int 0) | (exfalso; clear F E ih hh; simp_all; done)
            · refine g_iload (nx := 96) F dX12_those_94 rfl rfl ?_
              refine g_istore (nx := 98) F dX12_those_96 rfl (by decide) ?_
              try dsimp only [List.set]
              refine g_iinc (nx := 101) (1) F dX12_those_98 rfl rfl (by decide) (by decide) ?_
              try dsimp only [List.set]
              refine g_goto 40 F dX12_those_101 (by decide) ?_
              try rw [not_le_I] at c_75
              try rw [← not_lt_I] at c_75
              rw [nI_1]
              have hh := fun z => ih (t + 1) z (by omega)
              simp only [thL] at hh
              by_cases hc : ¬ (chF t K * chF (N - t) (M - K)) * 1000 < th * chF N M ∧ (thL N M K th what t = -2 ∨ what = 1)
              · simp only [if_pos hc] at hh
                first | exact hh _ | exact hh (.int 0) | (exfalso; clear F E ih hh; simp_all; done)
              · simp only [if_neg hc] at hh
                first | exact hh _ | exact hh (.int 0) | (exfalso; clear F E ih hh; simp_all; done)
        · refine g_goto 98 F dX12_those_78 (by decide) ?_
          refine g_iinc (nx := 101) (1) F dX12_those_98 rfl rfl (by decide) (by decide) ?_
          try dsimp only [List.set]
          refine g_goto 40 F dX12_those_101 (by decide) ?_
          try rw [not_le_I] at c_75
          try rw [← not_lt_I] at c_75
          rw [nI_1]
          have hh := fun z => ih (t + 1) z (by omega)
          simp only [thL] at hh
          by_cases hc : ¬ (chF t K * chF (N - t) (M - K)) * 1000 < th * chF N M ∧ (thL N M K th what t = -2 ∨ what = 1)
          · simp only [if_pos hc] at hh
            first | exact hh _ | exact hh (.int 0) | (exfalso; clear F E ih hh; simp_all; done)
          · simp only [if_neg hc] at hh
            first | exact hh _ | exact hh (.int 0) | (exfalso; clear F E ih hh; simp_all; done)
    refine g_iload_n (nx := 1) 1 F dX12_those_0 rfl rfl rfl ?_
    refine g_iload_n (nx := 2) 2 F dX12_those_1 rfl rfl rfl ?_
    refine g_iload_n (nx := 3) 3 F dX12_those_2 rfl rfl rfl ?_
    refine g_callS (nx := 6) 3 1 [.int (nI N), .int (nI M), .int (nI K)] F dX12_those_3 rfl ml_RX12_404 mo_X12_areSent rfl rfl (Nat.le_of_ble_eq_true rfl) (by first | decide | omega) (k_areSent _ _ _ _) (fun r_3 τ_3 q_3 => ?_)
    obtain ⟨rfl, et_3⟩ := q_3
    have et_3 := et_3.symm
    subst et_3
    dsimp only [Option.toList, List.append, List.cons_append, List.nil_append]
    refine g_if_eq (nx := 9) 31 F dX12_those_6 rfl (by decide) (fun c_6 => absurd c_6 (by exact bI_n0.mpr (by omega))) (fun c_6 => ?_)
    refine g_iload (nx := 11) F dX12_those_9 rfl rfl ?_
    refine g_iconst (nx := 12) (1) F dX12_those_11 rfl rfl ?_
    refine g_sipush (nx := 15) (1000) F dX12_those_12 rfl (by decide) ?_
    refine g_callS (nx := 18) 3 0 [.int th, .int 1, .int 1000] F dX12_those_15 rfl ml_RX12_174 mo_X12_in rfl rfl (Nat.le_of_ble_eq_true rfl) (by first | decide | omega) (k_in _ _ _ _) (fun r_15 τ_15 q_15 => ?_)
    obtain ⟨rfl, et_15⟩ := q_15
    have et_15 := et_15.symm
    subst et_15
    dsimp only [Option.toList, List.append, List.cons_append, List.nil_append]
    refine g_if_eq (nx := 21) 31 F dX12_those_18 rfl (by decide) (fun c_18 => absurd c_18 (by exact bI_n0.mpr (by simp only [Int32.reduceToInt]; omega))) (fun c_18 => ?_)
    refine g_iload (nx := 23) F dX12_those_21 rfl rfl ?_
    refine g_iconst (nx := 24) (0) F dX12_those_23 rfl rfl ?_
    refine g_iconst (nx := 25) (1) F dX12_those_24 rfl rfl ?_
    refine g_callS (nx := 28) 3 0 [.int what, .int 0, .int 1] F dX12_those_25 rfl ml_RX12_174 mo_X12_in rfl rfl (Nat.le_of_ble_eq_true rfl) (by first | decide | omega) (k_in what 0 1 _) (fun r_25 τ_25 q_25 => ?_)
    obtain ⟨rfl, et_25⟩ := q_25
    have et_25 := et_25.symm
    subst et_25
    dsimp only [Option.toList, List.append, List.cons_append, List.nil_append]
    refine g_if_ne (nx := 31) 33 F dX12_those_28 rfl (by decide) (fun c_28 => ?_) (fun c_28 => absurd c_28 (by exact bI_n0.mpr (by simp only [Int32.reduceToInt]; omega)))
    refine g_bipush (nx := 35) (-2) F dX12_those_33 rfl (by decide) ?_
    refine g_istore (nx := 37) F dX12_those_35 rfl (by decide) ?_
    try dsimp only [List.set]
    refine g_iconst (nx := 38) (0) F dX12_those_37 rfl rfl ?_
    refine g_istore (nx := 40) F dX12_those_38 rfl (by decide) ?_
    try dsimp only [List.set]
    exact L (N + 1) 0 (.int 0) (by omega)
  · refine g_iload_n (nx := 1) 1 F dX12_those_0 rfl rfl rfl ?_
    refine g_iload_n (nx := 2) 2 F dX12_those_1 rfl rfl rfl ?_
    refine g_iload_n (nx := 3) 3 F dX12_those_2 rfl rfl rfl ?_
    refine g_callS (nx := 6) 3 1 [.int n, .int m, .int k] F dX12_those_3 rfl ml_RX12_404 mo_X12_areSent rfl rfl (Nat.le_of_ble_eq_true rfl) (by first | decide | omega) (k_areSent _ _ _ _) (fun r_3 τ_3 q_3 => ?_)
    obtain ⟨rfl, et_3⟩ := q_3
    have et_3 := et_3.symm
    subst et_3
    dsimp only [Option.toList, List.append, List.cons_append, List.nil_append]
    refine g_if_eq (nx := 9) 31 F dX12_those_6 rfl (by decide) (fun c_6 => ?_) (fun c_6 => ?_)
    · refine g_iconst (nx := 32) (-1) F dX12_those_31 rfl rfl ?_
      refine g_iret F E dX12_those_32 ?_
      exact ⟨by rw [thR, if_neg hA], rfl⟩
    · refine g_iload (nx := 11) F dX12_those_9 rfl rfl ?_
      refine g_iconst (nx := 12) (1) F dX12_those_11 rfl rfl ?_
      refine g_sipush (nx := 15) (1000) F dX12_those_12 rfl (by decide) ?_
      refine g_callS (nx := 18) 3 0 [.int th, .int 1, .int 1000] F dX12_those_15 rfl ml_RX12_174 mo_X12_in rfl rfl (Nat.le_of_ble_eq_true rfl) (by first | decide | omega) (k_in _ _ _ _) (fun r_15 τ_15 q_15 => ?_)
      obtain ⟨rfl, et_15⟩ := q_15
      have et_15 := et_15.symm
      subst et_15
      dsimp only [Option.toList, List.append, List.cons_append, List.nil_append]
      refine g_if_eq (nx := 21) 31 F dX12_those_18 rfl (by decide) (fun c_18 => ?_) (fun c_18 => ?_)
      · refine g_iconst (nx := 32) (-1) F dX12_those_31 rfl rfl ?_
        refine g_iret F E dX12_those_32 ?_
        exact ⟨by rw [thR, if_neg hA], rfl⟩
      · refine g_iload (nx := 23) F dX12_those_21 rfl rfl ?_
        refine g_iconst (nx := 24) (0) F dX12_those_23 rfl rfl ?_
        refine g_iconst (nx := 25) (1) F dX12_those_24 rfl rfl ?_
        refine g_callS (nx := 28) 3 0 [.int what, .int 0, .int 1] F dX12_those_25 rfl ml_RX12_174 mo_X12_in rfl rfl (Nat.le_of_ble_eq_true rfl) (by first | decide | omega) (k_in what 0 1 _) (fun r_25 τ_25 q_25 => ?_)
        obtain ⟨rfl, et_25⟩ := q_25
        have et_25 := et_25.symm
        subst et_25
        dsimp only [Option.toList, List.append, List.cons_append, List.nil_append]
        refine g_if_ne (nx := 31) 33 F dX12_those_28 rfl (by decide) (fun c_28 => ?_) (fun c_28 => ?_)
        · exfalso
          clear F E
          simp only [thA, bI_0, bI_n0, ne_eq, fa_lt, fa_le, Int32.reduceToInt, Int32.toInt_zero, Decidable.not_not] at *
          omega
        · refine g_iconst (nx := 32) (-1) F dX12_those_31 rfl rfl ?_
          refine g_iret F E dX12_those_32 ?_
          exact ⟨by rw [thR, if_neg hA], rfl⟩
