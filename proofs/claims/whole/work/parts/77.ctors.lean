theorem df_X0 : ∀ j, j < 7 → defaultValue (tyX0 j) = vp_V [.null, .null, .null, .int 0, .null, .null, .int 0] j := by
  intro j hj
  rcases (show j = 0 ∨ j = 1 ∨ j = 2 ∨ j = 3 ∨ j = 4 ∨ j = 5 ∨ j = 6 by omega) with rfl | rfl | rfl | rfl | rfl | rfl | rfl <;> rfl
theorem df_X1 : ∀ j, j < 3 → defaultValue (tyX1 j) = vp_V [.null, .int 0, .null] j := by
  intro j hj
  rcases (show j = 0 ∨ j = 1 ∨ j = 2 by omega) with rfl | rfl | rfl <;> rfl
theorem df_X2 : ∀ j, j < 15 → defaultValue (tyX2 j) = vp_V [.null, .null, .null, .int 0, .null, .null, .int 0, .null, .null, .null, .null, .int 0, .null, .int 0, .null] j := by
  intro j hj
  rcases (show j = 0 ∨ j = 1 ∨ j = 2 ∨ j = 3 ∨ j = 4 ∨ j = 5 ∨ j = 6 ∨ j = 7 ∨ j = 8 ∨ j = 9 ∨ j = 10 ∨ j = 11 ∨ j = 12 ∨ j = 13 ∨ j = 14 by omega) with rfl | rfl | rfl | rfl | rfl | rfl | rfl | rfl | rfl | rfl | rfl | rfl | rfl | rfl | rfl <;> rfl
theorem df_X4 : ∀ j, j < 3 → defaultValue (tyX4 j) = vp_V [.null, .null, .int 0] j := by
  intro j hj
  rcases (show j = 0 ∨ j = 1 ∨ j = 2 by omega) with rfl | rfl | rfl <;> rfl
theorem df_X5 : ∀ j, j < 7 → defaultValue (tyX5 j) = vp_V [.null, .null, .int 0, .int 0, .int 0, .int 0, .int 0] j := by
  intro j hj
  rcases (show j = 0 ∨ j = 1 ∨ j = 2 ∨ j = 3 ∨ j = 4 ∨ j = 5 ∨ j = 6 by omega) with rfl | rfl | rfl | rfl | rfl | rfl | rfl <;> rfl
theorem df_X6 : ∀ j, j < 18 → defaultValue (tyX6 j) = vp_V [.null, .null, .null, .null, .null, .null, .null, .null, .int 0, .null, .null, .null, .int 0, .int 0, .int 0, .int 0, .int 0, .int 0] j := by
  intro j hj
  rcases (show j = 0 ∨ j = 1 ∨ j = 2 ∨ j = 3 ∨ j = 4 ∨ j = 5 ∨ j = 6 ∨ j = 7 ∨ j = 8 ∨ j = 9 ∨ j = 10 ∨ j = 11 ∨ j = 12 ∨ j = 13 ∨ j = 14 ∨ j = 15 ∨ j = 16 ∨ j = 17 by omega) with rfl | rfl | rfl | rfl | rfl | rfl | rfl | rfl | rfl | rfl | rfl | rfl | rfl | rfl | rfl | rfl | rfl | rfl <;> rfl
theorem df_X7 : ∀ j, j < 2 → defaultValue (tyX7 j) = vp_V [.null, .null] j := by
  intro j hj
  rcases (show j = 0 ∨ j = 1 by omega) with rfl | rfl <;> rfl
theorem df_X8 : ∀ j, j < 7 → defaultValue (tyX8 j) = vp_V [.null, .null, .null, .int 0, .null, .null, .int 0] j := by
  intro j hj
  rcases (show j = 0 ∨ j = 1 ∨ j = 2 ∨ j = 3 ∨ j = 4 ∨ j = 5 ∨ j = 6 by omega) with rfl | rfl | rfl | rfl | rfl | rfl | rfl <;> rfl
theorem df_X9 : ∀ j, j < 2 → defaultValue (tyX9 j) = vp_V [.null, .int 0] j := by
  intro j hj
  rcases (show j = 0 ∨ j = 1 by omega) with rfl | rfl <;> rfl
theorem df_X10 : ∀ j, j < 7 → defaultValue (tyX10 j) = vp_V [.null, .int 0, .null, .null, .null, .null, .int 0] j := by
  intro j hj
  rcases (show j = 0 ∨ j = 1 ∨ j = 2 ∨ j = 3 ∨ j = 4 ∨ j = 5 ∨ j = 6 by omega) with rfl | rfl | rfl | rfl | rfl | rfl | rfl <;> rfl
theorem df_X11 : ∀ j, j < 10 → defaultValue (tyX11 j) = vp_V [.null, .null, .null, .null, .null, .null, .null, .null, .null, .null] j := by
  intro j hj
  rcases (show j = 0 ∨ j = 1 ∨ j = 2 ∨ j = 3 ∨ j = 4 ∨ j = 5 ∨ j = 6 ∨ j = 7 ∨ j = 8 ∨ j = 9 by omega) with rfl | rfl | rfl | rfl | rfl | rfl | rfl | rfl | rfl | rfl <;> rfl
theorem df_X12 : ∀ j, j < 72 → defaultValue (tyX12 j) = vp_V [.int 0, .int 0, .int 0, .int 0, .int 0, .int 0, .int 0, .null, .null, .null, .null, .null, .null, .null, .null, .null, .null, .null, .null, .null, .null, .null, .null, .null, .int 0, .int 0, .int 0, .int 0, .int 0, .int 0, .int 0, .int 0, .int 0, .null, .null, .null, .null, .null, .null, .null, .null, .null, .null, .null, .null, .null, .null, .int 0, .int 0, .int 0, .int 0, .int 0, .int 0, .int 0, .null, .null, .null, .null, .null, .null, .null, .null, .null, .null, .null, .null, .null, .null, .null, .null, .null, .null] j := by
  intro j hj
  rcases (show j = 0 ∨ j = 1 ∨ j = 2 ∨ j = 3 ∨ j = 4 ∨ j = 5 ∨ j = 6 ∨ j = 7 ∨ j = 8 ∨ j = 9 ∨ j = 10 ∨ j = 11 ∨ j = 12 ∨ j = 13 ∨ j = 14 ∨ j = 15 ∨ j = 16 ∨ j = 17 ∨ j = 18 ∨ j = 19 ∨ j = 20 ∨ j = 21 ∨ j = 22 ∨ j = 23 ∨ j = 24 ∨ j = 25 ∨ j = 26 ∨ j = 27 ∨ j = 28 ∨ j = 29 ∨ j = 30 ∨ j = 31 ∨ j = 32 ∨ j = 33 ∨ j = 34 ∨ j = 35 ∨ j = 36 ∨ j = 37 ∨ j = 38 ∨ j = 39 ∨ j = 40 ∨ j = 41 ∨ j = 42 ∨ j = 43 ∨ j = 44 ∨ j = 45 ∨ j = 46 ∨ j = 47 ∨ j = 48 ∨ j = 49 ∨ j = 50 ∨ j = 51 ∨ j = 52 ∨ j = 53 ∨ j = 54 ∨ j = 55 ∨ j = 56 ∨ j = 57 ∨ j = 58 ∨ j = 59 ∨ j = 60 ∨ j = 61 ∨ j = 62 ∨ j = 63 ∨ j = 64 ∨ j = 65 ∨ j = 66 ∨ j = 67 ∨ j = 68 ∨ j = 69 ∨ j = 70 ∨ j = 71 by omega) with rfl | rfl | rfl | rfl | rfl | rfl | rfl | rfl | rfl | rfl | rfl | rfl | rfl | rfl | rfl | rfl | rfl | rfl | rfl | rfl | rfl | rfl | rfl | rfl | rfl | rfl | rfl | rfl | rfl | rfl | rfl | rfl | rfl | rfl | rfl | rfl | rfl | rfl | rfl | rfl | rfl | rfl | rfl | rfl | rfl | rfl | rfl | rfl | rfl | rfl | rfl | rfl | rfl | rfl | rfl | rfl | rfl | rfl | rfl | rfl | rfl | rfl | rfl | rfl | rfl | rfl | rfl | rfl | rfl | rfl | rfl | rfl <;> rfl
abbrev mX0_init : ZM := (yX0_init, cX0_init, 1, none)
theorem mk_X0_init : zMk mX0_init 0 := ⟨tb_of 436 (by decide +kernel) rfl, tb_of 89 (by decide +kernel) rfl, by decide +kernel, by decide +kernel, by decide +kernel, by decide +kernel, by decide⟩
abbrev mX1_init : ZM := (yX1_init, cX1_init, 1, none)
theorem mk_X1_init : zMk mX1_init 0 := ⟨tb_of 402 (by decide +kernel) rfl, tb_of 87 (by decide +kernel) rfl, by decide +kernel, by decide +kernel, by decide +kernel, by decide +kernel, by decide⟩
abbrev mX2_init : ZM := (yX2_init, cX2_init, 2, none)
theorem mk_X2_init : zMk mX2_init 0 := ⟨tb_of 127 (by decide +kernel) rfl, tb_of 81 (by decide +kernel) rfl, by decide +kernel, by decide +kernel, by decide +kernel, by decide +kernel, by decide⟩
abbrev mX4_init : ZM := (yX4_init, cX4_init, 1, none)
theorem mk_X4_init : zMk mX4_init 0 := ⟨tb_of 419 (by decide +kernel) rfl, tb_of 88 (by decide +kernel) rfl, by decide +kernel, by decide +kernel, by decide +kernel, by decide +kernel, by decide⟩
abbrev mX5_init : ZM := (yX5_init, cX5_init, 2, none)
theorem mk_X5_init : zMk mX5_init 1 := ⟨tb_of 264 (by decide +kernel) rfl, tb_of 84 (by decide +kernel) rfl, by decide +kernel, by decide +kernel, by decide +kernel, by decide +kernel, by decide⟩
abbrev mX6_init : ZM := (yX6_init, cX6_init, 3, none)
theorem mk_X6_init : zMk mX6_init 2 := ⟨tb_of 294 (by decide +kernel) rfl, tb_of 85 (by decide +kernel) rfl, by decide +kernel, by decide +kernel, by decide +kernel, by decide +kernel, by decide⟩
abbrev mX7_init : ZM := (yX7_init, cX7_init, 1, none)
theorem mk_X7_init : zMk mX7_init 0 := ⟨tb_of 249 (by decide +kernel) rfl, tb_of 83 (by decide +kernel) rfl, by decide +kernel, by decide +kernel, by decide +kernel, by decide +kernel, by decide⟩
abbrev mX8_init : ZM := (yX8_init, cX8_init, 3, none)
theorem mk_X8_init : zMk mX8_init 2 := ⟨tb_of 368 (by decide +kernel) rfl, tb_of 86 (by decide +kernel) rfl, by decide +kernel, by decide +kernel, by decide +kernel, by decide +kernel, by decide⟩
abbrev mX9_init : ZM := (yX9_init, cX9_init, 1, none)
theorem mk_X9_init : zMk mX9_init 0 := ⟨tb_of 112 (by decide +kernel) rfl, tb_of 80 (by decide +kernel) rfl, by decide +kernel, by decide +kernel, by decide +kernel, by decide +kernel, by decide⟩
abbrev mX10_init : ZM := (yX10_init, cX10_init, 1, none)
theorem mk_X10_init : zMk mX10_init 0 := ⟨tb_of 134 (by decide +kernel) rfl, tb_of 82 (by decide +kernel) rfl, by decide +kernel, by decide +kernel, by decide +kernel, by decide +kernel, by decide⟩
abbrev mX11_init : ZM := (yX11_init, cX11_init, 1, none)
theorem mk_X11_init : zMk mX11_init 0 := ⟨tb_of 104 (by decide +kernel) rfl, tb_of 79 (by decide +kernel) rfl, by decide +kernel, by decide +kernel, by decide +kernel, by decide +kernel, by decide⟩
abbrev mX12_init : ZM := (yX12_init, cX12_init, 1, none)
theorem mk_X12_init : zMk mX12_init 0 := ⟨tb_of 1099 (by decide +kernel) rfl, tb_of 91 (by decide +kernel) rfl, by decide +kernel, by decide +kernel, by decide +kernel, by decide +kernel, by decide⟩
theorem n_lv {X : NX} {pc cells slots : Nat} {lv st : List Value} {us : List va_E} (lv2 : List Value) (h : lv = lv2) (K : Gn X pc lv2 st us cells slots) : Gn X pc lv st us cells slots := by rw [h]; exact K
theorem n_us {X : NX} {pc cells slots : Nat} {lv st : List Value} {us : List va_E} (us2 : List va_E) (h : us = us2) (K : Gn X pc lv st us2 cells slots) : Gn X pc lv st us cells slots := by rw [h]; exact K
def L_f0 : (Nat → ClassId) → Nat → List va_E := fun tc a0 => [.inr (0, [.ref (a0 + 1), .ref (a0 + 2), .ref (a0 + 3), .int 0, .ref (a0 + 4), .ref (a0 + 5), .int 0]), .inl (tc 13, 8, .inl (fun _ => 0)), .inl (tc 13, 8, .inl (fun _ => 0)), .inl (tc 13, 8, .inl (fun _ => 0)), .inl (tc 13, 10, .inl (fun _ => 0)), .inl (tc 13, 10, .inl (fun _ => 0))]
def L_f1 : (Nat → ClassId) → Nat → List va_E := fun tc a0 => [.inr (0, [.ref (a0 + 1), .ref (a0 + 2), .ref (a0 + 3), .int 0, .ref (a0 + 4), .ref (a0 + 5), .int 0]), .inl (tc 13, 8, .inl (fun _ => 0)), .inl (tc 13, 8, .inl (fun _ => 0)), .inl (tc 13, 8, .inl (fun _ => 0)), .inl (tc 13, 10, .inl (fun _ => 0)), .inl (tc 13, 10, .inl (upd (upd (upd (upd (upd (upd (upd (upd (upd (upd (fun _ => 0) 0 10000) 1 10000) 2 10000) 3 10000) 4 10000) 5 10000) 6 10000) 7 10000) 8 10000) 9 10000))]
set_option maxHeartbeats 4000000 in
set_option maxRecDepth 100000 in
theorem c_fill : Cn mJ7_fill_53178 0 0 0 (fun a0 => [.ref (a0 + 5), .int 10000]) L_f0 L_f1 := by
  refine Cn.of (lv := fun a0 => [.ref (a0 + 5), .int 10000, .long 0, .long 0]) mk_J7_fill_53178 rfl (fun _ => rfl) (fun _ => Nat.le_of_ble_eq_true rfl) (fun _ => rfl) (fun p l e R s m args below meth c Q D tc a0 hname F E => ?_)
  refine n_iconst (nx := 1) (0) F dJ7_fill_53178_0 rfl rfl ?_
  refine n_istore_n (nx := 2) 2 F dJ7_fill_53178_1 rfl rfl (by decide) ?_
  try dsimp only [List.set, List.cons_append, List.nil_append]
  refine n_aload_n (nx := 3) 0 F dJ7_fill_53178_2 rfl rfl rfl ?_
  refine n_alen (nx := 4) (j := 5) (n := 10) (t0 := 1) F dJ7_fill_53178_3 rfl rfl rfl rfl rfl ?_
  refine n_istore_n (nx := 5) 3 F dJ7_fill_53178_4 rfl rfl (by decide) ?_
  try dsimp only [List.set, List.cons_append, List.nil_append]
  refine n_iload_n (nx := 6) 2 F dJ7_fill_53178_5 rfl rfl rfl ?_
  refine n_iload_n (nx := 7) 3 F dJ7_fill_53178_6 rfl rfl rfl ?_
  refine n_icmp_ge (nx := 10) 20 F dJ7_fill_53178_7 rfl (by decide) (fun h => absurd h (by decide)) (fun _ => ?_)
  refine n_aload_n (nx := 11) 0 F dJ7_fill_53178_10 rfl rfl rfl ?_
  refine n_iload_n (nx := 12) 2 F dJ7_fill_53178_11 rfl rfl rfl ?_
  refine n_iload_n (nx := 13) 1 F dJ7_fill_53178_12 rfl rfl rfl ?_
  refine n_iast (nx := 14) (j := 5) (n := 10) F dJ7_fill_53178_13 rfl rfl rfl (by exact vp_in_nI (n := 0) (by decide) (by decide)) ?_
  try dsimp only [List.set, List.cons_append, List.nil_append]
  refine n_iinc (nx := 17) (1) F dJ7_fill_53178_14 rfl rfl (by decide) (by decide) ?_
  try dsimp only [List.set, List.cons_append, List.nil_append]
  refine n_lv [.ref (a0 + 5), .int 10000, .int 1, .int (nI 10)] rfl ?_
  refine n_goto 5 F dJ7_fill_53178_17 (by decide) ?_
  refine n_iload_n (nx := 6) 2 F dJ7_fill_53178_5 rfl rfl rfl ?_
  refine n_iload_n (nx := 7) 3 F dJ7_fill_53178_6 rfl rfl rfl ?_
  refine n_icmp_ge (nx := 10) 20 F dJ7_fill_53178_7 rfl (by decide) (fun h => absurd h (by decide)) (fun _ => ?_)
  refine n_aload_n (nx := 11) 0 F dJ7_fill_53178_10 rfl rfl rfl ?_
  refine n_iload_n (nx := 12) 2 F dJ7_fill_53178_11 rfl rfl rfl ?_
  refine n_iload_n (nx := 13) 1 F dJ7_fill_53178_12 rfl rfl rfl ?_
  refine n_iast (nx := 14) (j := 5) (n := 10) F dJ7_fill_53178_13 rfl rfl rfl (by exact vp_in_nI (n := 1) (by decide) (by decide)) ?_
  try dsimp only [List.set, List.cons_append, List.nil_append]
  refine n_iinc (nx := 17) (1) F dJ7_fill_53178_14 rfl rfl (by decide) (by decide) ?_
  try dsimp only [List.set, List.cons_append, List.nil_append]
  refine n_lv [.ref (a0 + 5), .int 10000, .int 2, .int (nI 10)] rfl ?_
  refine n_goto 5 F dJ7_fill_53178_17 (by decide) ?_
  refine n_iload_n (nx := 6) 2 F dJ7_fill_53178_5 rfl rfl rfl ?_
  refine n_iload_n (nx := 7) 3 F dJ7_fill_53178_6 rfl rfl rfl ?_
  refine n_icmp_ge (nx := 10) 20 F dJ7_fill_53178_7 rfl (by decide) (fun h => absurd h (by decide)) (fun _ => ?_)
  refine n_aload_n (nx := 11) 0 F dJ7_fill_53178_10 rfl rfl rfl ?_
  refine n_iload_n (nx := 12) 2 F dJ7_fill_53178_11 rfl rfl rfl ?_
  refine n_iload_n (nx := 13) 1 F dJ7_fill_53178_12 rfl rfl rfl ?_
  refine n_iast (nx := 14) (j := 5) (n := 10) F dJ7_fill_53178_13 rfl rfl rfl (by exact vp_in_nI (n := 2) (by decide) (by decide)) ?_
  try dsimp only [List.set, List.cons_append, List.nil_append]
  refine n_iinc (nx := 17) (1) F dJ7_fill_53178_14 rfl rfl (by decide) (by decide) ?_
  try dsimp only [List.set, List.cons_append, List.nil_append]
  refine n_lv [.ref (a0 + 5), .int 10000, .int 3, .int (nI 10)] rfl ?_
  refine n_goto 5 F dJ7_fill_53178_17 (by decide) ?_
  refine n_iload_n (nx := 6) 2 F dJ7_fill_53178_5 rfl rfl rfl ?_
  refine n_iload_n (nx := 7) 3 F dJ7_fill_53178_6 rfl rfl rfl ?_
  refine n_icmp_ge (nx := 10) 20 F dJ7_fill_53178_7 rfl (by decide) (fun h => absurd h (by decide)) (fun _ => ?_)
  refine n_aload_n (nx := 11) 0 F dJ7_fill_53178_10 rfl rfl rfl ?_
  refine n_iload_n (nx := 12) 2 F dJ7_fill_53178_11 rfl rfl rfl ?_
  refine n_iload_n (nx := 13) 1 F dJ7_fill_53178_12 rfl rfl rfl ?_
  refine n_iast (nx := 14) (j := 5) (n := 10) F dJ7_fill_53178_13 rfl rfl rfl (by exact vp_in_nI (n := 3) (by decide) (by decide)) ?_
  try dsimp only [List.set, List.cons_append, List.nil_append]
  refine n_iinc (nx := 17) (1) F dJ7_fill_53178_14 rfl rfl (by decide) (by decide) ?_
  try dsimp only [List.set, List.cons_append, List.nil_append]
  refine n_lv [.ref (a0 + 5), .int 10000, .int 4, .int (nI 10)] rfl ?_
  refine n_goto 5 F dJ7_fill_53178_17 (by decide) ?_
  refine n_iload_n (nx := 6) 2 F dJ7_fill_53178_5 rfl rfl rfl ?_
  refine n_iload_n (nx := 7) 3 F dJ7_fill_53178_6 rfl rfl rfl ?_
  refine n_icmp_ge (nx := 10) 20 F dJ7_fill_53178_7 rfl (by decide) (fun h => absurd h (by decide)) (fun _ => ?_)
  refine n_aload_n (nx := 11) 0 F dJ7_fill_53178_10 rfl rfl rfl ?_
  refine n_iload_n (nx := 12) 2 F dJ7_fill_53178_11 rfl rfl rfl ?_
  refine n_iload_n (nx := 13) 1 F dJ7_fill_53178_12 rfl rfl rfl ?_
  refine n_iast (nx := 14) (j := 5) (n := 10) F dJ7_fill_53178_13 rfl rfl rfl (by exact vp_in_nI (n := 4) (by decide) (by decide)) ?_
  try dsimp only [List.set, List.cons_append, List.nil_append]
  refine n_iinc (nx := 17) (1) F dJ7_fill_53178_14 rfl rfl (by decide) (by decide) ?_
  try dsimp only [List.set, List.cons_append, List.nil_append]
  refine n_lv [.ref (a0 + 5), .int 10000, .int 5, .int (nI 10)] rfl ?_
  refine n_goto 5 F dJ7_fill_53178_17 (by decide) ?_
  refine n_iload_n (nx := 6) 2 F dJ7_fill_53178_5 rfl rfl rfl ?_
  refine n_iload_n (nx := 7) 3 F dJ7_fill_53178_6 rfl rfl rfl ?_
  refine n_icmp_ge (nx := 10) 20 F dJ7_fill_53178_7 rfl (by decide) (fun h => absurd h (by decide)) (fun _ => ?_)
  refine n_aload_n (nx := 11) 0 F dJ7_fill_53178_10 rfl rfl rfl ?_
  refine n_iload_n (nx := 12) 2 F dJ7_fill_53178_11 rfl rfl rfl ?_
  refine n_iload_n (nx := 13) 1 F dJ7_fill_53178_12 rfl rfl rfl ?_
  refine n_iast (nx := 14) (j := 5) (n := 10) F dJ7_fill_53178_13 rfl rfl rfl (by exact vp_in_nI (n := 5) (by decide) (by decide)) ?_
  try dsimp only [List.set, List.cons_append, List.nil_append]
  refine n_iinc (nx := 17) (1) F dJ7_fill_53178_14 rfl rfl (by decide) (by decide) ?_
  try dsimp only [List.set, List.cons_append, List.nil_append]
  refine n_lv [.ref (a0 + 5), .int 10000, .int 6, .int (nI 10)] rfl ?_
  refine n_goto 5 F dJ7_fill_53178_17 (by decide) ?_
  refine n_iload_n (nx := 6) 2 F dJ7_fill_53178_5 rfl rfl rfl ?_
  refine n_iload_n (nx := 7) 3 F dJ7_fill_53178_6 rfl rfl rfl ?_
  refine n_icmp_ge (nx := 10) 20 F dJ7_fill_53178_7 rfl (by decide) (fun h => absurd h (by decide)) (fun _ => ?_)
  refine n_aload_n (nx := 11) 0 F dJ7_fill_53178_10 rfl rfl rfl ?_
  refine n_iload_n (nx := 12) 2 F dJ7_fill_53178_11 rfl rfl rfl ?_
  refine n_iload_n (nx := 13) 1 F dJ7_fill_53178_12 rfl rfl rfl ?_
  refine n_iast (nx := 14) (j := 5) (n := 10) F dJ7_fill_53178_13 rfl rfl rfl (by exact vp_in_nI (n := 6) (by decide) (by decide)) ?_
  try dsimp only [List.set, List.cons_append, List.nil_append]
  refine n_iinc (nx := 17) (1) F dJ7_fill_53178_14 rfl rfl (by decide) (by decide) ?_
  try dsimp only [List.set, List.cons_append, List.nil_append]
  refine n_lv [.ref (a0 + 5), .int 10000, .int 7, .int (nI 10)] rfl ?_
  refine n_goto 5 F dJ7_fill_53178_17 (by decide) ?_
  refine n_iload_n (nx := 6) 2 F dJ7_fill_53178_5 rfl rfl rfl ?_
  refine n_iload_n (nx := 7) 3 F dJ7_fill_53178_6 rfl rfl rfl ?_
  refine n_icmp_ge (nx := 10) 20 F dJ7_fill_53178_7 rfl (by decide) (fun h => absurd h (by decide)) (fun _ => ?_)
  refine n_aload_n (nx := 11) 0 F dJ7_fill_53178_10 rfl rfl rfl ?_
  refine n_iload_n (nx := 12) 2 F dJ7_fill_53178_11 rfl rfl rfl ?_
  refine n_iload_n (nx := 13) 1 F dJ7_fill_53178_12 rfl rfl rfl ?_
  refine n_iast (nx := 14) (j := 5) (n := 10) F dJ7_fill_53178_13 rfl rfl rfl (by exact vp_in_nI (n := 7) (by decide) (by decide)) ?_
  try dsimp only [List.set, List.cons_append, List.nil_append]
  refine n_iinc (nx := 17) (1) F dJ7_fill_53178_14 rfl rfl (by decide) (by decide) ?_
  try dsimp only [List.set, List.cons_append, List.nil_append]
  refine n_lv [.ref (a0 + 5), .int 10000, .int 8, .int (nI 10)] rfl ?_
  refine n_goto 5 F dJ7_fill_53178_17 (by decide) ?_
  refine n_iload_n (nx := 6) 2 F dJ7_fill_53178_5 rfl rfl rfl ?_
  refine n_iload_n (nx := 7) 3 F dJ7_fill_53178_6 rfl rfl rfl ?_
  refine n_icmp_ge (nx := 10) 20 F dJ7_fill_53178_7 rfl (by decide) (fun h => absurd h (by decide)) (fun _ => ?_)
  refine n_aload_n (nx := 11) 0 F dJ7_fill_53178_10 rfl rfl rfl ?_
  refine n_iload_n (nx := 12) 2 F dJ7_fill_53178_11 rfl rfl rfl ?_
  refine n_iload_n (nx := 13) 1 F dJ7_fill_53178_12 rfl rfl rfl ?_
  refine n_iast (nx := 14) (j := 5) (n := 10) F dJ7_fill_53178_13 rfl rfl rfl (by exact vp_in_nI (n := 8) (by decide) (by decide)) ?_
  try dsimp only [List.set, List.cons_append, List.nil_append]
  refine n_iinc (nx := 17) (1) F dJ7_fill_53178_14 rfl rfl (by decide) (by decide) ?_
  try dsimp only [List.set, List.cons_append, List.nil_append]
  refine n_lv [.ref (a0 + 5), .int 10000, .int 9, .int (nI 10)] rfl ?_
  refine n_goto 5 F dJ7_fill_53178_17 (by decide) ?_
  refine n_iload_n (nx := 6) 2 F dJ7_fill_53178_5 rfl rfl rfl ?_
  refine n_iload_n (nx := 7) 3 F dJ7_fill_53178_6 rfl rfl rfl ?_
  refine n_icmp_ge (nx := 10) 20 F dJ7_fill_53178_7 rfl (by decide) (fun h => absurd h (by decide)) (fun _ => ?_)
  refine n_aload_n (nx := 11) 0 F dJ7_fill_53178_10 rfl rfl rfl ?_
  refine n_iload_n (nx := 12) 2 F dJ7_fill_53178_11 rfl rfl rfl ?_
  refine n_iload_n (nx := 13) 1 F dJ7_fill_53178_12 rfl rfl rfl ?_
  refine n_iast (nx := 14) (j := 5) (n := 10) F dJ7_fill_53178_13 rfl rfl rfl (by exact vp_in_nI (n := 9) (by decide) (by decide)) ?_
  try dsimp only [List.set, List.cons_append, List.nil_append]
  refine n_iinc (nx := 17) (1) F dJ7_fill_53178_14 rfl rfl (by decide) (by decide) ?_
  try dsimp only [List.set, List.cons_append, List.nil_append]
  refine n_lv [.ref (a0 + 5), .int 10000, .int 10, .int (nI 10)] rfl ?_
  refine n_goto 5 F dJ7_fill_53178_17 (by decide) ?_
  refine n_iload_n (nx := 6) 2 F dJ7_fill_53178_5 rfl rfl rfl ?_
  refine n_iload_n (nx := 7) 3 F dJ7_fill_53178_6 rfl rfl rfl ?_
  refine n_icmp_ge (nx := 10) 20 F dJ7_fill_53178_7 rfl (by decide) (fun _ => ?_) (fun h => absurd (by decide) h)
  exact n_vret F E dJ7_fill_53178_20 rfl rfl rfl
def L_X9 (tc : Nat → ClassId) (a0 : Nat) : List va_E := [.inr (8, [.ref (a0 + 1), .int 0]), .inl (tc 12, 200, .inl (fun _ => 0))]
set_option maxHeartbeats 4000000 in
set_option maxRecDepth 100000 in
theorem c_X9_init : Cn mX9_init 1 1 200 (fun a0 => [.ref a0]) (fun _ _ => [.inr (8, [.null, .int 0])]) (L_X9) := by
  refine Cn.of (lv := fun a0 => [.ref a0]) mk_X9_init rfl (fun _ => rfl) (fun _ => Nat.le_of_ble_eq_true rfl) (fun _ => rfl) (fun p l e R s m args below meth c Q D tc a0 hname F E => ?_)
  have hname : meth.name = "<init>" := hname
  refine n_aload_n (nx := 1) 0 F dX9_init_0 rfl rfl rfl ?_
  refine n_objInit (nx := 4) F dX9_init_1 rfl (tb_of 113 (by decide +kernel) rfl) (by decide) (Nat.le_of_ble_eq_true rfl) ?_
  refine n_aload_n (nx := 5) 0 F dX9_init_4 rfl rfl rfl ?_
  refine n_sipush (nx := 8) (200) F dX9_init_5 rfl (by decide) ?_
  refine n_newa (nx := 10) 200 12 F dX9_init_8 rfl rfl (tb_of 122 (by decide +kernel) rfl) (Or.inl ⟨rfl, rfl⟩) (by decide) rfl (by decide) (by decide) (by decide) (fun a_8 e_8 => ?_)
  obtain rfl : a_8 = a0 + 1 := e_8
  try dsimp only [List.set, List.cons_append, List.nil_append]
  refine n_put (nx := 13) (ci := 8) (k := 0) (j := 0) (C := RX9) (T := TX9) (N := 2) (fty := tyX9 0) tyX9 F (fun _ => hname) dX9_init_10 rfl (tb_of 114 (by decide +kernel) rfl) rfl rfl rfl (by decide) tyX9_ok nmX9 (tyX9_ok 0 (by decide)) rfl rfl (Nat.le_of_ble_eq_true rfl) rfl rfl ?_
  try dsimp only [List.set, List.cons_append, List.nil_append]
  exact n_vret F E dX9_init_13 rfl rfl rfl
def L_X10 (tc : Nat → ClassId) (a0 : Nat) : List va_E := [.inr (9, [.ref (a0 + 1), .int 0, .ref (a0 + 2), .ref (a0 + 3), .ref (a0 + 4), .ref (a0 + 5), .int 0]), .inl (tc 13, 160, .inl (fun _ => 0)), .inl (tc 13, 12, .inl (fun _ => 0)), .inl (tc 13, 12, .inl (fun _ => 0)), .inl (tc 13, 12, .inl (fun _ => 0)), .inl (tc 13, 12, .inl (fun _ => 0))]
set_option maxHeartbeats 4000000 in
set_option maxRecDepth 100000 in
theorem c_X10_init : Cn mX10_init 1 5 208 (fun a0 => [.ref a0]) (fun _ _ => [.inr (9, [.null, .int 0, .null, .null, .null, .null, .int 0])]) (L_X10) := by
  refine Cn.of (lv := fun a0 => [.ref a0]) mk_X10_init rfl (fun _ => rfl) (fun _ => Nat.le_of_ble_eq_true rfl) (fun _ => rfl) (fun p l e R s m args below meth c Q D tc a0 hname F E => ?_)
  have hname : meth.name = "<init>" := hname
  refine n_aload_n (nx := 1) 0 F dX10_init_0 rfl rfl rfl ?_
  refine n_objInit (nx := 4) F dX10_init_1 rfl (tb_of 135 (by decide +kernel) rfl) (by decide) (Nat.le_of_ble_eq_true rfl) ?_
  refine n_aload_n (nx := 5) 0 F dX10_init_4 rfl rfl rfl ?_
  refine n_sipush (nx := 8) (160) F dX10_init_5 rfl (by decide) ?_
  refine n_newa (nx := 10) 160 13 F dX10_init_8 rfl rfl (tb_of 173 (by decide +kernel) rfl) (Or.inr ⟨rfl, rfl⟩) (by decide) rfl (by decide) (by decide) (by decide) (fun a_8 e_8 => ?_)
  obtain rfl : a_8 = a0 + 1 := e_8
  try dsimp only [List.set, List.cons_append, List.nil_append]
  refine n_put (nx := 13) (ci := 9) (k := 0) (j := 0) (C := RX10) (T := TX10) (N := 7) (fty := tyX10 0) tyX10 F (fun _ => hname) dX10_init_10 rfl (tb_of 136 (by decide +kernel) rfl) rfl rfl rfl (by decide) tyX10_ok nmX10 (tyX10_ok 0 (by decide)) rfl rfl (Nat.le_of_ble_eq_true rfl) rfl rfl ?_
  try dsimp only [List.set, List.cons_append, List.nil_append]
  refine n_aload_n (nx := 14) 0 F dX10_init_13 rfl rfl rfl ?_
  refine n_bipush (nx := 16) (12) F dX10_init_14 rfl (by decide) ?_
  refine n_newa (nx := 18) 12 13 F dX10_init_16 rfl rfl (tb_of 173 (by decide +kernel) rfl) (Or.inr ⟨rfl, rfl⟩) (by decide) rfl (by decide) (by decide) (by decide) (fun a_16 e_16 => ?_)
  obtain rfl : a_16 = a0 + 2 := e_16
  try dsimp only [List.set, List.cons_append, List.nil_append]
  refine n_put (nx := 21) (ci := 9) (k := 2) (j := 0) (C := RX10) (T := TX10) (N := 7) (fty := tyX10 2) tyX10 F (fun _ => hname) dX10_init_18 rfl (tb_of 142 (by decide +kernel) rfl) rfl rfl rfl (by decide) tyX10_ok nmX10 (tyX10_ok 2 (by decide)) rfl rfl (Nat.le_of_ble_eq_true rfl) rfl rfl ?_
  try dsimp only [List.set, List.cons_append, List.nil_append]
  refine n_aload_n (nx := 22) 0 F dX10_init_21 rfl rfl rfl ?_
  refine n_bipush (nx := 24) (12) F dX10_init_22 rfl (by decide) ?_
  refine n_newa (nx := 26) 12 13 F dX10_init_24 rfl rfl (tb_of 173 (by decide +kernel) rfl) (Or.inr ⟨rfl, rfl⟩) (by decide) rfl (by decide) (by decide) (by decide) (fun a_24 e_24 => ?_)
  obtain rfl : a_24 = a0 + 3 := e_24
  try dsimp only [List.set, List.cons_append, List.nil_append]
  refine n_put (nx := 29) (ci := 9) (k := 3) (j := 0) (C := RX10) (T := TX10) (N := 7) (fty := tyX10 3) tyX10 F (fun _ => hname) dX10_init_26 rfl (tb_of 145 (by decide +kernel) rfl) rfl rfl rfl (by decide) tyX10_ok nmX10 (tyX10_ok 3 (by decide)) rfl rfl (Nat.le_of_ble_eq_true rfl) rfl rfl ?_
  try dsimp only [List.set, List.cons_append, List.nil_append]
  refine n_aload_n (nx := 30) 0 F dX10_init_29 rfl rfl rfl ?_
  refine n_bipush (nx := 32) (12) F dX10_init_30 rfl (by decide) ?_
  refine n_newa (nx := 34) 12 13 F dX10_init_32 rfl rfl (tb_of 173 (by decide +kernel) rfl) (Or.inr ⟨rfl, rfl⟩) (by decide) rfl (by decide) (by decide) (by decide) (fun a_32 e_32 => ?_)
  obtain rfl : a_32 = a0 + 4 := e_32
  try dsimp only [List.set, List.cons_append, List.nil_append]
  refine n_put (nx := 37) (ci := 9) (k := 4) (j := 0) (C := RX10) (T := TX10) (N := 7) (fty := tyX10 4) tyX10 F (fun _ => hname) dX10_init_34 rfl (tb_of 148 (by decide +kernel) rfl) rfl rfl rfl (by decide) tyX10_ok nmX10 (tyX10_ok 4 (by decide)) rfl rfl (Nat.le_of_ble_eq_true rfl) rfl rfl ?_
  try dsimp only [List.set, List.cons_append, List.nil_append]
  refine n_aload_n (nx := 38) 0 F dX10_init_37 rfl rfl rfl ?_
  refine n_bipush (nx := 40) (12) F dX10_init_38 rfl (by decide) ?_
  refine n_newa (nx := 42) 12 13 F dX10_init_40 rfl rfl (tb_of 173 (by decide +kernel) rfl) (Or.inr ⟨rfl, rfl⟩) (by decide) rfl (by decide) (by decide) (by decide) (fun a_40 e_40 => ?_)
  obtain rfl : a_40 = a0 + 5 := e_40
  try dsimp only [List.set, List.cons_append, List.nil_append]
  refine n_put (nx := 45) (ci := 9) (k := 5) (j := 0) (C := RX10) (T := TX10) (N := 7) (fty := tyX10 5) tyX10 F (fun _ => hname) dX10_init_42 rfl (tb_of 151 (by decide +kernel) rfl) rfl rfl rfl (by decide) tyX10_ok nmX10 (tyX10_ok 5 (by decide)) rfl rfl (Nat.le_of_ble_eq_true rfl) rfl rfl ?_
  try dsimp only [List.set, List.cons_append, List.nil_append]
  exact n_vret F E dX10_init_45 rfl rfl rfl
def L_X7 (tc : Nat → ClassId) (a0 : Nat) : List va_E := [.inr (6, [.ref (a0 + 1), .ref (a0 + 2)]), .inl (tc 13, 12, .inl (fun _ => 0)), .inl (tc 13, 32, .inl (fun _ => 0))]
set_option maxHeartbeats 4000000 in
set_option maxRecDepth 100000 in
theorem c_X7_init : Cn mX7_init 1 2 44 (fun a0 => [.ref a0]) (fun _ _ => [.inr (6, [.null, .null])]) (L_X7) := by
  refine Cn.of (lv := fun a0 => [.ref a0]) mk_X7_init rfl (fun _ => rfl) (fun _ => Nat.le_of_ble_eq_true rfl) (fun _ => rfl) (fun p l e R s m args below meth c Q D tc a0 hname F E => ?_)
  have hname : meth.name = "<init>" := hname
  refine n_aload_n (nx := 1) 0 F dX7_init_0 rfl rfl rfl ?_
  refine n_objInit (nx := 4) F dX7_init_1 rfl (tb_of 250 (by decide +kernel) rfl) (by decide) (Nat.le_of_ble_eq_true rfl) ?_
  refine n_aload_n (nx := 5) 0 F dX7_init_4 rfl rfl rfl ?_
  refine n_bipush (nx := 7) (12) F dX7_init_5 rfl (by decide) ?_
  refine n_newa (nx := 9) 12 13 F dX7_init_7 rfl rfl (tb_of 173 (by decide +kernel) rfl) (Or.inr ⟨rfl, rfl⟩) (by decide) rfl (by decide) (by decide) (by decide) (fun a_7 e_7 => ?_)
  obtain rfl : a_7 = a0 + 1 := e_7
  try dsimp only [List.set, List.cons_append, List.nil_append]
  refine n_put (nx := 12) (ci := 6) (k := 0) (j := 0) (C := RX7) (T := TX7) (N := 2) (fty := tyX7 0) tyX7 F (fun _ => hname) dX7_init_9 rfl (tb_of 251 (by decide +kernel) rfl) rfl rfl rfl (by decide) tyX7_ok nmX7 (tyX7_ok 0 (by decide)) rfl rfl (Nat.le_of_ble_eq_true rfl) rfl rfl ?_
  try dsimp only [List.set, List.cons_append, List.nil_append]
  refine n_aload_n (nx := 13) 0 F dX7_init_12 rfl rfl rfl ?_
  refine n_bipush (nx := 15) (32) F dX7_init_13 rfl (by decide) ?_
  refine n_newa (nx := 17) 32 13 F dX7_init_15 rfl rfl (tb_of 173 (by decide +kernel) rfl) (Or.inr ⟨rfl, rfl⟩) (by decide) rfl (by decide) (by decide) (by decide) (fun a_15 e_15 => ?_)
  obtain rfl : a_15 = a0 + 2 := e_15
  try dsimp only [List.set, List.cons_append, List.nil_append]
  refine n_put (nx := 20) (ci := 6) (k := 1) (j := 0) (C := RX7) (T := TX7) (N := 2) (fty := tyX7 1) tyX7 F (fun _ => hname) dX7_init_17 rfl (tb_of 254 (by decide +kernel) rfl) rfl rfl rfl (by decide) tyX7_ok nmX7 (tyX7_ok 1 (by decide)) rfl rfl (Nat.le_of_ble_eq_true rfl) rfl rfl ?_
  try dsimp only [List.set, List.cons_append, List.nil_append]
  exact n_vret F E dX7_init_20 rfl rfl rfl
def L_X1 (tc : Nat → ClassId) (a0 : Nat) : List va_E := [.inr (1, [.ref (a0 + 1), .int 0, .ref (a0 + 2)]), .inl (tc 13, 20, .inl (fun _ => 0)), .inl (tc 13, 11, .inl (fun _ => 0))]
set_option maxHeartbeats 4000000 in
set_option maxRecDepth 100000 in
theorem c_X1_init : Cn mX1_init 1 2 31 (fun a0 => [.ref a0]) (fun _ _ => [.inr (1, [.null, .int 0, .null])]) (L_X1) := by
  refine Cn.of (lv := fun a0 => [.ref a0]) mk_X1_init rfl (fun _ => rfl) (fun _ => Nat.le_of_ble_eq_true rfl) (fun _ => rfl) (fun p l e R s m args below meth c Q D tc a0 hname F E => ?_)
  have hname : meth.name = "<init>" := hname
  refine n_aload_n (nx := 1) 0 F dX1_init_0 rfl rfl rfl ?_
  refine n_objInit (nx := 4) F dX1_init_1 rfl (tb_of 403 (by decide +kernel) rfl) (by decide) (Nat.le_of_ble_eq_true rfl) ?_
  refine n_aload_n (nx := 5) 0 F dX1_init_4 rfl rfl rfl ?_
  refine n_bipush (nx := 7) (20) F dX1_init_5 rfl (by decide) ?_
  refine n_newa (nx := 9) 20 13 F dX1_init_7 rfl rfl (tb_of 173 (by decide +kernel) rfl) (Or.inr ⟨rfl, rfl⟩) (by decide) rfl (by decide) (by decide) (by decide) (fun a_7 e_7 => ?_)
  obtain rfl : a_7 = a0 + 1 := e_7
  try dsimp only [List.set, List.cons_append, List.nil_append]
  refine n_put (nx := 12) (ci := 1) (k := 0) (j := 0) (C := RX1) (T := TX1) (N := 3) (fty := tyX1 0) tyX1 F (fun _ => hname) dX1_init_9 rfl (tb_of 404 (by decide +kernel) rfl) rfl rfl rfl (by decide) tyX1_ok nmX1 (tyX1_ok 0 (by decide)) rfl rfl (Nat.le_of_ble_eq_true rfl) rfl rfl ?_
  try dsimp only [List.set, List.cons_append, List.nil_append]
  refine n_aload_n (nx := 13) 0 F dX1_init_12 rfl rfl rfl ?_
  refine n_bipush (nx := 15) (11) F dX1_init_13 rfl (by decide) ?_
  refine n_newa (nx := 17) 11 13 F dX1_init_15 rfl rfl (tb_of 173 (by decide +kernel) rfl) (Or.inr ⟨rfl, rfl⟩) (by decide) rfl (by decide) (by decide) (by decide) (fun a_15 e_15 => ?_)
  obtain rfl : a_15 = a0 + 2 := e_15
  try dsimp only [List.set, List.cons_append, List.nil_append]
  refine n_put (nx := 20) (ci := 1) (k := 2) (j := 0) (C := RX1) (T := TX1) (N := 3) (fty := tyX1 2) tyX1 F (fun _ => hname) dX1_init_17 rfl (tb_of 407 (by decide +kernel) rfl) rfl rfl rfl (by decide) tyX1_ok nmX1 (tyX1_ok 2 (by decide)) rfl rfl (Nat.le_of_ble_eq_true rfl) rfl rfl ?_
  try dsimp only [List.set, List.cons_append, List.nil_append]
  exact n_vret F E dX1_init_20 rfl rfl rfl
def L_X4 (tc : Nat → ClassId) (a0 : Nat) : List va_E := [.inr (3, [.ref (a0 + 1), .ref (a0 + 2), .int 0]), .inl (tc 13, 60, .inl (fun _ => 0)), .inl (tc 13, 60, .inl (fun _ => 0))]
set_option maxHeartbeats 4000000 in
set_option maxRecDepth 100000 in
theorem c_X4_init : Cn mX4_init 1 2 120 (fun a0 => [.ref a0]) (fun _ _ => [.inr (3, [.null, .null, .int 0])]) (L_X4) := by
  refine Cn.of (lv := fun a0 => [.ref a0]) mk_X4_init rfl (fun _ => rfl) (fun _ => Nat.le_of_ble_eq_true rfl) (fun _ => rfl) (fun p l e R s m args below meth c Q D tc a0 hname F E => ?_)
  have hname : meth.name = "<init>" := hname
  refine n_aload_n (nx := 1) 0 F dX4_init_0 rfl rfl rfl ?_
  refine n_objInit (nx := 4) F dX4_init_1 rfl (tb_of 420 (by decide +kernel) rfl) (by decide) (Nat.le_of_ble_eq_true rfl) ?_
  refine n_aload_n (nx := 5) 0 F dX4_init_4 rfl rfl rfl ?_
  refine n_bipush (nx := 7) (60) F dX4_init_5 rfl (by decide) ?_
  refine n_newa (nx := 9) 60 13 F dX4_init_7 rfl rfl (tb_of 173 (by decide +kernel) rfl) (Or.inr ⟨rfl, rfl⟩) (by decide) rfl (by decide) (by decide) (by decide) (fun a_7 e_7 => ?_)
  obtain rfl : a_7 = a0 + 1 := e_7
  try dsimp only [List.set, List.cons_append, List.nil_append]
  refine n_put (nx := 12) (ci := 3) (k := 0) (j := 0) (C := RX4) (T := TX4) (N := 3) (fty := tyX4 0) tyX4 F (fun _ => hname) dX4_init_9 rfl (tb_of 421 (by decide +kernel) rfl) rfl rfl rfl (by decide) tyX4_ok nmX4 (tyX4_ok 0 (by decide)) rfl rfl (Nat.le_of_ble_eq_true rfl) rfl rfl ?_
  try dsimp only [List.set, List.cons_append, List.nil_append]
  refine n_aload_n (nx := 13) 0 F dX4_init_12 rfl rfl rfl ?_
  refine n_bipush (nx := 15) (60) F dX4_init_13 rfl (by decide) ?_
  refine n_newa (nx := 17) 60 13 F dX4_init_15 rfl rfl (tb_of 173 (by decide +kernel) rfl) (Or.inr ⟨rfl, rfl⟩) (by decide) rfl (by decide) (by decide) (by decide) (fun a_15 e_15 => ?_)
  obtain rfl : a_15 = a0 + 2 := e_15
  try dsimp only [List.set, List.cons_append, List.nil_append]
  refine n_put (nx := 20) (ci := 3) (k := 1) (j := 0) (C := RX4) (T := TX4) (N := 3) (fty := tyX4 1) tyX4 F (fun _ => hname) dX4_init_17 rfl (tb_of 422 (by decide +kernel) rfl) rfl rfl rfl (by decide) tyX4_ok nmX4 (tyX4_ok 1 (by decide)) rfl rfl (Nat.le_of_ble_eq_true rfl) rfl rfl ?_
  try dsimp only [List.set, List.cons_append, List.nil_append]
  exact n_vret F E dX4_init_20 rfl rfl rfl
def L_X0 (tc : Nat → ClassId) (a0 : Nat) : List va_E := [.inr (0, [.ref (a0 + 1), .ref (a0 + 2), .ref (a0 + 3), .int 0, .ref (a0 + 4), .ref (a0 + 5), .int 0]), .inl (tc 13, 8, .inl (fun _ => 0)), .inl (tc 13, 8, .inl (fun _ => 0)), .inl (tc 13, 8, .inl (fun _ => 0)), .inl (tc 13, 10, .inl (fun _ => 0)), .inl (tc 13, 10, .inl (upd (upd (upd (upd (upd (upd (upd (upd (upd (upd (fun _ => 0) 0 10000) 1 10000) 2 10000) 3 10000) 4 10000) 5 10000) 6 10000) 7 10000) 8 10000) 9 10000))]
set_option maxHeartbeats 4000000 in
set_option maxRecDepth 100000 in
theorem c_X0_init : Cn mX0_init 1 5 44 (fun a0 => [.ref a0]) (fun _ _ => [.inr (0, [.null, .null, .null, .int 0, .null, .null, .int 0])]) (L_X0) := by
  refine Cn.of (lv := fun a0 => [.ref a0]) mk_X0_init rfl (fun _ => rfl) (fun _ => Nat.le_of_ble_eq_true rfl) (fun _ => rfl) (fun p l e R s m args below meth c Q D tc a0 hname F E => ?_)
  have hname : meth.name = "<init>" := hname
  refine n_aload_n (nx := 1) 0 F dX0_init_0 rfl rfl rfl ?_
  refine n_objInit (nx := 4) F dX0_init_1 rfl (tb_of 437 (by decide +kernel) rfl) (by decide) (Nat.le_of_ble_eq_true rfl) ?_
  refine n_aload_n (nx := 5) 0 F dX0_init_4 rfl rfl rfl ?_
  refine n_bipush (nx := 7) (8) F dX0_init_5 rfl (by decide) ?_
  refine n_newa (nx := 9) 8 13 F dX0_init_7 rfl rfl (tb_of 173 (by decide +kernel) rfl) (Or.inr ⟨rfl, rfl⟩) (by decide) rfl (by decide) (by decide) (by decide) (fun a_7 e_7 => ?_)
  obtain rfl : a_7 = a0 + 1 := e_7
  try dsimp only [List.set, List.cons_append, List.nil_append]
  refine n_put (nx := 12) (ci := 0) (k := 0) (j := 0) (C := RX0) (T := TX0) (N := 7) (fty := tyX0 0) tyX0 F (fun _ => hname) dX0_init_9 rfl (tb_of 441 (by decide +kernel) rfl) rfl rfl rfl (by decide) tyX0_ok nmX0 (tyX0_ok 0 (by decide)) rfl rfl (Nat.le_of_ble_eq_true rfl) rfl rfl ?_
  try dsimp only [List.set, List.cons_append, List.nil_append]
  refine n_aload_n (nx := 13) 0 F dX0_init_12 rfl rfl rfl ?_
  refine n_bipush (nx := 15) (8) F dX0_init_13 rfl (by decide) ?_
  refine n_newa (nx := 17) 8 13 F dX0_init_15 rfl rfl (tb_of 173 (by decide +kernel) rfl) (Or.inr ⟨rfl, rfl⟩) (by decide) rfl (by decide) (by decide) (by decide) (fun a_15 e_15 => ?_)
  obtain rfl : a_15 = a0 + 2 := e_15
  try dsimp only [List.set, List.cons_append, List.nil_append]
  refine n_put (nx := 20) (ci := 0) (k := 1) (j := 0) (C := RX0) (T := TX0) (N := 7) (fty := tyX0 1) tyX0 F (fun _ => hname) dX0_init_17 rfl (tb_of 442 (by decide +kernel) rfl) rfl rfl rfl (by decide) tyX0_ok nmX0 (tyX0_ok 1 (by decide)) rfl rfl (Nat.le_of_ble_eq_true rfl) rfl rfl ?_
  try dsimp only [List.set, List.cons_append, List.nil_append]
  refine n_aload_n (nx := 21) 0 F dX0_init_20 rfl rfl rfl ?_
  refine n_bipush (nx := 23) (8) F dX0_init_21 rfl (by decide) ?_
  refine n_newa (nx := 25) 8 13 F dX0_init_23 rfl rfl (tb_of 173 (by decide +kernel) rfl) (Or.inr ⟨rfl, rfl⟩) (by decide) rfl (by decide) (by decide) (by decide) (fun a_23 e_23 => ?_)
  obtain rfl : a_23 = a0 + 3 := e_23
  try dsimp only [List.set, List.cons_append, List.nil_append]
  refine n_put (nx := 28) (ci := 0) (k := 2) (j := 0) (C := RX0) (T := TX0) (N := 7) (fty := tyX0 2) tyX0 F (fun _ => hname) dX0_init_25 rfl (tb_of 443 (by decide +kernel) rfl) rfl rfl rfl (by decide) tyX0_ok nmX0 (tyX0_ok 2 (by decide)) rfl rfl (Nat.le_of_ble_eq_true rfl) rfl rfl ?_
  try dsimp only [List.set, List.cons_append, List.nil_append]
  refine n_aload_n (nx := 29) 0 F dX0_init_28 rfl rfl rfl ?_
  refine n_bipush (nx := 31) (10) F dX0_init_29 rfl (by decide) ?_
  refine n_newa (nx := 33) 10 13 F dX0_init_31 rfl rfl (tb_of 173 (by decide +kernel) rfl) (Or.inr ⟨rfl, rfl⟩) (by decide) rfl (by decide) (by decide) (by decide) (fun a_31 e_31 => ?_)
  obtain rfl : a_31 = a0 + 4 := e_31
  try dsimp only [List.set, List.cons_append, List.nil_append]
  refine n_put (nx := 36) (ci := 0) (k := 4) (j := 0) (C := RX0) (T := TX0) (N := 7) (fty := tyX0 4) tyX0 F (fun _ => hname) dX0_init_33 rfl (tb_of 446 (by decide +kernel) rfl) rfl rfl rfl (by decide) tyX0_ok nmX0 (tyX0_ok 4 (by decide)) rfl rfl (Nat.le_of_ble_eq_true rfl) rfl rfl ?_
  try dsimp only [List.set, List.cons_append, List.nil_append]
  refine n_aload_n (nx := 37) 0 F dX0_init_36 rfl rfl rfl ?_
  refine n_bipush (nx := 39) (10) F dX0_init_37 rfl (by decide) ?_
  refine n_newa (nx := 41) 10 13 F dX0_init_39 rfl rfl (tb_of 173 (by decide +kernel) rfl) (Or.inr ⟨rfl, rfl⟩) (by decide) rfl (by decide) (by decide) (by decide) (fun a_39 e_39 => ?_)
  obtain rfl : a_39 = a0 + 5 := e_39
  try dsimp only [List.set, List.cons_append, List.nil_append]
  refine n_put (nx := 44) (ci := 0) (k := 5) (j := 0) (C := RX0) (T := TX0) (N := 7) (fty := tyX0 5) tyX0 F (fun _ => hname) dX0_init_41 rfl (tb_of 448 (by decide +kernel) rfl) rfl rfl rfl (by decide) tyX0_ok nmX0 (tyX0_ok 5 (by decide)) rfl rfl (Nat.le_of_ble_eq_true rfl) rfl rfl ?_
  try dsimp only [List.set, List.cons_append, List.nil_append]
  refine n_aload_n (nx := 45) 0 F dX0_init_44 rfl rfl rfl ?_
  refine n_get (nx := 48) (ci := 0) (k := 5) (j := 0) (C := RX0) (T := TX0) (N := 7) F dX0_init_45 rfl (tb_of 448 (by decide +kernel) rfl) rfl rfl (by decide) rfl rfl rfl ?_
  refine n_sipush (nx := 51) (10000) F dX0_init_48 rfl (by decide) ?_
  refine n_callS (usF := L_f0) (vs := L_f1) (nx := 54) (cells := 5) (slots := 44) 2 0 [.ref (a0 + 5), .int 10000] F dX0_init_51 rfl ml_RX0_27 mo_J7_fill_53178 rfl rfl rfl (fun _ _ => rfl) (Nat.le_of_ble_eq_true rfl) (by decide) (by decide) (by decide) c_fill _ rfl ?_
  exact n_vret F E dX0_init_54 rfl rfl rfl
def L_X6 (x1 : Nat) (x2 : Nat) (tc : Nat → ClassId) (a0 : Nat) : List va_E := [.inr (5, [.ref x1, .ref x2, .ref (a0 + 1), .ref (a0 + 2), .ref (a0 + 3), .ref (a0 + 4), .ref (a0 + 5), .ref (a0 + 6), .int 0, .ref (a0 + 7), .ref (a0 + 8), .ref (a0 + 9), .int 0, .int 1, .int 0, .int 0, .int 0, .int 0]), .inl (tc 13, 40, .inl (fun _ => 0)), .inl (tc 13, 40, .inl (fun _ => 0)), .inl (tc 13, 40, .inl (fun _ => 0)), .inl (tc 13, 40, .inl (fun _ => 0)), .inl (tc 13, 40, .inl (fun _ => 0)), .inl (tc 13, 40, .inl (fun _ => 0)), .inl (tc 13, 10, .inl (fun _ => 0)), .inl (tc 13, 10, .inl (fun _ => 0)), .inl (tc 13, 9, .inl (fun _ => 0))]
set_option maxHeartbeats 4000000 in
set_option maxRecDepth 100000 in
theorem c_X6_init (x1 : Nat) (x2 : Nat) : Cn mX6_init 1 9 269 (fun a0 => [.ref a0, .ref x1, .ref x2]) (fun _ _ => [.inr (5, [.null, .null, .null, .null, .null, .null, .null, .null, .int 0, .null, .null, .null, .int 0, .int 0, .int 0, .int 0, .int 0, .int 0])]) (L_X6 x1 x2) := by
  refine Cn.of (lv := fun a0 => [.ref a0, .ref x1, .ref x2]) mk_X6_init rfl (fun _ => rfl) (fun _ => Nat.le_of_ble_eq_true rfl) (fun _ => rfl) (fun p l e R s m args below meth c Q D tc a0 hname F E => ?_)
  have hname : meth.name = "<init>" := hname
  refine n_aload_n (nx := 1) 0 F dX6_init_0 rfl rfl rfl ?_
  refine n_objInit (nx := 4) F dX6_init_1 rfl (tb_of 295 (by decide +kernel) rfl) (by decide) (Nat.le_of_ble_eq_true rfl) ?_
  refine n_aload_n (nx := 5) 0 F dX6_init_4 rfl rfl rfl ?_
  refine n_bipush (nx := 7) (40) F dX6_init_5 rfl (by decide) ?_
  refine n_newa (nx := 9) 40 13 F dX6_init_7 rfl rfl (tb_of 173 (by decide +kernel) rfl) (Or.inr ⟨rfl, rfl⟩) (by decide) rfl (by decide) (by decide) (by decide) (fun a_7 e_7 => ?_)
  obtain rfl : a_7 = a0 + 1 := e_7
  try dsimp only [List.set, List.cons_append, List.nil_append]
  refine n_put (nx := 12) (ci := 5) (k := 2) (j := 0) (C := RX6) (T := TX6) (N := 18) (fty := tyX6 2) tyX6 F (fun _ => hname) dX6_init_9 rfl (tb_of 298 (by decide +kernel) rfl) rfl rfl rfl (by decide) tyX6_ok nmX6 (tyX6_ok 2 (by decide)) rfl rfl (Nat.le_of_ble_eq_true rfl) rfl rfl ?_
  try dsimp only [List.set, List.cons_append, List.nil_append]
  refine n_aload_n (nx := 13) 0 F dX6_init_12 rfl rfl rfl ?_
  refine n_bipush (nx := 15) (40) F dX6_init_13 rfl (by decide) ?_
  refine n_newa (nx := 17) 40 13 F dX6_init_15 rfl rfl (tb_of 173 (by decide +kernel) rfl) (Or.inr ⟨rfl, rfl⟩) (by decide) rfl (by decide) (by decide) (by decide) (fun a_15 e_15 => ?_)
  obtain rfl : a_15 = a0 + 2 := e_15
  try dsimp only [List.set, List.cons_append, List.nil_append]
  refine n_put (nx := 20) (ci := 5) (k := 3) (j := 0) (C := RX6) (T := TX6) (N := 18) (fty := tyX6 3) tyX6 F (fun _ => hname) dX6_init_17 rfl (tb_of 300 (by decide +kernel) rfl) rfl rfl rfl (by decide) tyX6_ok nmX6 (tyX6_ok 3 (by decide)) rfl rfl (Nat.le_of_ble_eq_true rfl) rfl rfl ?_
  try dsimp only [List.set, List.cons_append, List.nil_append]
  refine n_aload_n (nx := 21) 0 F dX6_init_20 rfl rfl rfl ?_
  refine n_bipush (nx := 23) (40) F dX6_init_21 rfl (by decide) ?_
  refine n_newa (nx := 25) 40 13 F dX6_init_23 rfl rfl (tb_of 173 (by decide +kernel) rfl) (Or.inr ⟨rfl, rfl⟩) (by decide) rfl (by decide) (by decide) (by decide) (fun a_23 e_23 => ?_)
  obtain rfl : a_23 = a0 + 3 := e_23
  try dsimp only [List.set, List.cons_append, List.nil_append]
  refine n_put (nx := 28) (ci := 5) (k := 4) (j := 0) (C := RX6) (T := TX6) (N := 18) (fty := tyX6 4) tyX6 F (fun _ => hname) dX6_init_25 rfl (tb_of 302 (by decide +kernel) rfl) rfl rfl rfl (by decide) tyX6_ok nmX6 (tyX6_ok 4 (by decide)) rfl rfl (Nat.le_of_ble_eq_true rfl) rfl rfl ?_
  try dsimp only [List.set, List.cons_append, List.nil_append]
  refine n_aload_n (nx := 29) 0 F dX6_init_28 rfl rfl rfl ?_
  refine n_bipush (nx := 31) (40) F dX6_init_29 rfl (by decide) ?_
  refine n_newa (nx := 33) 40 13 F dX6_init_31 rfl rfl (tb_of 173 (by decide +kernel) rfl) (Or.inr ⟨rfl, rfl⟩) (by decide) rfl (by decide) (by decide) (by decide) (fun a_31 e_31 => ?_)
  obtain rfl : a_31 = a0 + 4 := e_31
  try dsimp only [List.set, List.cons_append, List.nil_append]
  refine n_put (nx := 36) (ci := 5) (k := 5) (j := 0) (C := RX6) (T := TX6) (N := 18) (fty := tyX6 5) tyX6 F (fun _ => hname) dX6_init_33 rfl (tb_of 304 (by decide +kernel) rfl) rfl rfl rfl (by decide) tyX6_ok nmX6 (tyX6_ok 5 (by decide)) rfl rfl (Nat.le_of_ble_eq_true rfl) rfl rfl ?_
  try dsimp only [List.set, List.cons_append, List.nil_append]
  refine n_aload_n (nx := 37) 0 F dX6_init_36 rfl rfl rfl ?_
  refine n_bipush (nx := 39) (40) F dX6_init_37 rfl (by decide) ?_
  refine n_newa (nx := 41) 40 13 F dX6_init_39 rfl rfl (tb_of 173 (by decide +kernel) rfl) (Or.inr ⟨rfl, rfl⟩) (by decide) rfl (by decide) (by decide) (by decide) (fun a_39 e_39 => ?_)
  obtain rfl : a_39 = a0 + 5 := e_39
  try dsimp only [List.set, List.cons_append, List.nil_append]
  refine n_put (nx := 44) (ci := 5) (k := 6) (j := 0) (C := RX6) (T := TX6) (N := 18) (fty := tyX6 6) tyX6 F (fun _ => hname) dX6_init_41 rfl (tb_of 306 (by decide +kernel) rfl) rfl rfl rfl (by decide) tyX6_ok nmX6 (tyX6_ok 6 (by decide)) rfl rfl (Nat.le_of_ble_eq_true rfl) rfl rfl ?_
  try dsimp only [List.set, List.cons_append, List.nil_append]
  refine n_aload_n (nx := 45) 0 F dX6_init_44 rfl rfl rfl ?_
  refine n_bipush (nx := 47) (40) F dX6_init_45 rfl (by decide) ?_
  refine n_newa (nx := 49) 40 13 F dX6_init_47 rfl rfl (tb_of 173 (by decide +kernel) rfl) (Or.inr ⟨rfl, rfl⟩) (by decide) rfl (by decide) (by decide) (by decide) (fun a_47 e_47 => ?_)
  obtain rfl : a_47 = a0 + 6 := e_47
  try dsimp only [List.set, List.cons_append, List.nil_append]
  refine n_put (nx := 52) (ci := 5) (k := 7) (j := 0) (C := RX6) (T := TX6) (N := 18) (fty := tyX6 7) tyX6 F (fun _ => hname) dX6_init_49 rfl (tb_of 308 (by decide +kernel) rfl) rfl rfl rfl (by decide) tyX6_ok nmX6 (tyX6_ok 7 (by decide)) rfl rfl (Nat.le_of_ble_eq_true rfl) rfl rfl ?_
  try dsimp only [List.set, List.cons_append, List.nil_append]
  refine n_aload_n (nx := 53) 0 F dX6_init_52 rfl rfl rfl ?_
  refine n_bipush (nx := 55) (10) F dX6_init_53 rfl (by decide) ?_
  refine n_newa (nx := 57) 10 13 F dX6_init_55 rfl rfl (tb_of 173 (by decide +kernel) rfl) (Or.inr ⟨rfl, rfl⟩) (by decide) rfl (by decide) (by decide) (by decide) (fun a_55 e_55 => ?_)
  obtain rfl : a_55 = a0 + 7 := e_55
  try dsimp only [List.set, List.cons_append, List.nil_append]
  refine n_put (nx := 60) (ci := 5) (k := 9) (j := 0) (C := RX6) (T := TX6) (N := 18) (fty := tyX6 9) tyX6 F (fun _ => hname) dX6_init_57 rfl (tb_of 311 (by decide +kernel) rfl) rfl rfl rfl (by decide) tyX6_ok nmX6 (tyX6_ok 9 (by decide)) rfl rfl (Nat.le_of_ble_eq_true rfl) rfl rfl ?_
  try dsimp only [List.set, List.cons_append, List.nil_append]
  refine n_aload_n (nx := 61) 0 F dX6_init_60 rfl rfl rfl ?_
  refine n_bipush (nx := 63) (10) F dX6_init_61 rfl (by decide) ?_
  refine n_newa (nx := 65) 10 13 F dX6_init_63 rfl rfl (tb_of 173 (by decide +kernel) rfl) (Or.inr ⟨rfl, rfl⟩) (by decide) rfl (by decide) (by decide) (by decide) (fun a_63 e_63 => ?_)
  obtain rfl : a_63 = a0 + 8 := e_63
  try dsimp only [List.set, List.cons_append, List.nil_append]
  refine n_put (nx := 68) (ci := 5) (k := 10) (j := 0) (C := RX6) (T := TX6) (N := 18) (fty := tyX6 10) tyX6 F (fun _ => hname) dX6_init_65 rfl (tb_of 313 (by decide +kernel) rfl) rfl rfl rfl (by decide) tyX6_ok nmX6 (tyX6_ok 10 (by decide)) rfl rfl (Nat.le_of_ble_eq_true rfl) rfl rfl ?_
  try dsimp only [List.set, List.cons_append, List.nil_append]
  refine n_aload_n (nx := 69) 0 F dX6_init_68 rfl rfl rfl ?_
  refine n_bipush (nx := 71) (9) F dX6_init_69 rfl (by decide) ?_
  refine n_newa (nx := 73) 9 13 F dX6_init_71 rfl rfl (tb_of 173 (by decide +kernel) rfl) (Or.inr ⟨rfl, rfl⟩) (by decide) rfl (by decide) (by decide) (by decide) (fun a_71 e_71 => ?_)
  obtain rfl : a_71 = a0 + 9 := e_71
  try dsimp only [List.set, List.cons_append, List.nil_append]
  refine n_put (nx := 76) (ci := 5) (k := 11) (j := 0) (C := RX6) (T := TX6) (N := 18) (fty := tyX6 11) tyX6 F (fun _ => hname) dX6_init_73 rfl (tb_of 315 (by decide +kernel) rfl) rfl rfl rfl (by decide) tyX6_ok nmX6 (tyX6_ok 11 (by decide)) rfl rfl (Nat.le_of_ble_eq_true rfl) rfl rfl ?_
  try dsimp only [List.set, List.cons_append, List.nil_append]
  refine n_aload_n (nx := 77) 0 F dX6_init_76 rfl rfl rfl ?_
  refine n_iconst (nx := 78) (1) F dX6_init_77 rfl rfl ?_
  refine n_put (nx := 81) (ci := 5) (k := 13) (j := 0) (C := RX6) (T := TX6) (N := 18) (fty := tyX6 13) tyX6 F (fun _ => hname) dX6_init_78 rfl (tb_of 318 (by decide +kernel) rfl) rfl rfl rfl (by decide) tyX6_ok nmX6 (tyX6_ok 13 (by decide)) rfl rfl (Nat.le_of_ble_eq_true rfl) rfl rfl ?_
  try dsimp only [List.set, List.cons_append, List.nil_append]
  refine n_aload_n (nx := 82) 0 F dX6_init_81 rfl rfl rfl ?_
  refine n_aload_n (nx := 83) 1 F dX6_init_82 rfl rfl rfl ?_
  refine n_put (nx := 86) (ci := 5) (k := 0) (j := 0) (C := RX6) (T := TX6) (N := 18) (fty := tyX6 0) tyX6 F (fun _ => hname) dX6_init_83 rfl (tb_of 296 (by decide +kernel) rfl) rfl rfl rfl (by decide) tyX6_ok nmX6 (tyX6_ok 0 (by decide)) rfl rfl (Nat.le_of_ble_eq_true rfl) rfl rfl ?_
  try dsimp only [List.set, List.cons_append, List.nil_append]
  refine n_aload_n (nx := 87) 0 F dX6_init_86 rfl rfl rfl ?_
  refine n_aload_n (nx := 88) 2 F dX6_init_87 rfl rfl rfl ?_
  refine n_put (nx := 91) (ci := 5) (k := 1) (j := 0) (C := RX6) (T := TX6) (N := 18) (fty := tyX6 1) tyX6 F (fun _ => hname) dX6_init_88 rfl (tb_of 297 (by decide +kernel) rfl) rfl rfl rfl (by decide) tyX6_ok nmX6 (tyX6_ok 1 (by decide)) rfl rfl (Nat.le_of_ble_eq_true rfl) rfl rfl ?_
  try dsimp only [List.set, List.cons_append, List.nil_append]
  exact n_vret F E dX6_init_91 rfl rfl rfl
def L_X5 (x1 : Nat) (tc : Nat → ClassId) (a0 : Nat) : List va_E := [.inr (4, [.ref x1, .ref (a0 + 1), .int 0, .int 0, .int 0, .int 0, .int 0]), .inr (9, [.ref (a0 + 2), .int 0, .ref (a0 + 3), .ref (a0 + 4), .ref (a0 + 5), .ref (a0 + 6), .int 0]), .inl (tc 13, 160, .inl (fun _ => 0)), .inl (tc 13, 12, .inl (fun _ => 0)), .inl (tc 13, 12, .inl (fun _ => 0)), .inl (tc 13, 12, .inl (fun _ => 0)), .inl (tc 13, 12, .inl (fun _ => 0))]
set_option maxHeartbeats 4000000 in
set_option maxRecDepth 100000 in
theorem c_X5_init (x1 : Nat) : Cn mX5_init 2 6 215 (fun a0 => [.ref a0, .ref x1]) (fun _ _ => [.inr (4, [.null, .null, .int 0, .int 0, .int 0, .int 0, .int 0])]) (L_X5 x1) := by
  refine Cn.of (lv := fun a0 => [.ref a0, .ref x1]) mk_X5_init rfl (fun _ => rfl) (fun _ => Nat.le_of_ble_eq_true rfl) (fun _ => rfl) (fun p l e R s m args below meth c Q D tc a0 hname F E => ?_)
  have hname : meth.name = "<init>" := hname
  refine n_aload_n (nx := 1) 0 F dX5_init_0 rfl rfl rfl ?_
  refine n_objInit (nx := 4) F dX5_init_1 rfl (tb_of 265 (by decide +kernel) rfl) (by decide) (Nat.le_of_ble_eq_true rfl) ?_
  refine n_aload_n (nx := 5) 0 F dX5_init_4 rfl rfl rfl ?_
  refine n_new (nx := 8) (ci := 9) (T := TX10) (N := 7) tyX10 [.null, .int 0, .null, .null, .null, .null, .int 0] F dX5_init_5 rfl (tb_of 266 (by decide +kernel) rfl) (tb_of 131 (by decide +kernel) rfl) (tb_of 82 (by decide +kernel) rfl) rfl tyX10_ok df_X10 (by decide) (by decide) (fun a_5 e_5 => ?_)
  obtain rfl : a_5 = a0 + 1 := e_5
  refine n_dup (nx := 9) F dX5_init_8 rfl rfl ?_
  refine n_callI (nx := 12) 0 1 5 208 [] F dX5_init_9 rfl (Or.inr (by decide)) mk_X10_init (tb_of 133 (by decide +kernel) rfl) rfl rfl rfl rfl rfl rfl (Nat.le_of_ble_eq_true rfl) (by decide) (by decide) (by decide) (c_X10_init) (fun tc => by show 0 < _; exact Nat.zero_lt_succ _) _ rfl ?_
  refine n_put (nx := 15) (ci := 4) (k := 1) (j := 0) (C := RX5) (T := TX5) (N := 7) (fty := tyX5 1) tyX5 F (fun _ => hname) dX5_init_12 rfl (tb_of 269 (by decide +kernel) rfl) rfl rfl rfl (by decide) tyX5_ok nmX5 (tyX5_ok 1 (by decide)) rfl rfl (Nat.le_of_ble_eq_true rfl) rfl rfl ?_
  try dsimp only [List.set, List.cons_append, List.nil_append]
  refine n_aload_n (nx := 16) 0 F dX5_init_15 rfl rfl rfl ?_
  refine n_aload_n (nx := 17) 1 F dX5_init_16 rfl rfl rfl ?_
  refine n_put (nx := 20) (ci := 4) (k := 0) (j := 0) (C := RX5) (T := TX5) (N := 7) (fty := tyX5 0) tyX5 F (fun _ => hname) dX5_init_17 rfl (tb_of 268 (by decide +kernel) rfl) rfl rfl rfl (by decide) tyX5_ok nmX5 (tyX5_ok 0 (by decide)) rfl rfl (Nat.le_of_ble_eq_true rfl) rfl rfl ?_
  try dsimp only [List.set, List.cons_append, List.nil_append]
  exact n_vret F E dX5_init_20 rfl rfl rfl
def L_X8 (x1 : Nat) (x2 : Nat) (tc : Nat → ClassId) (a0 : Nat) : List va_E := [.inr (7, [.ref x1, .ref x2, .ref (a0 + 1), .int 0, .ref (a0 + 7), .ref (a0 + 18), .int (-1)]), .inr (9, [.ref (a0 + 2), .int 0, .ref (a0 + 3), .ref (a0 + 4), .ref (a0 + 5), .ref (a0 + 6), .int 0]), .inl (tc 13, 160, .inl (fun _ => 0)), .inl (tc 13, 12, .inl (fun _ => 0)), .inl (tc 13, 12, .inl (fun _ => 0)), .inl (tc 13, 12, .inl (fun _ => 0)), .inl (tc 13, 12, .inl (fun _ => 0)), .inl (tc 15, 10, .inr (.inr (.inr (.inr (fun i => some (a0 + 7 + 1 + i)))))), .inl (tc 13, 10, .inl (fun _ => 0)), .inl (tc 13, 10, .inl (fun _ => 0)), .inl (tc 13, 10, .inl (fun _ => 0)), .inl (tc 13, 10, .inl (fun _ => 0)), .inl (tc 13, 10, .inl (fun _ => 0)), .inl (tc 13, 10, .inl (fun _ => 0)), .inl (tc 13, 10, .inl (fun _ => 0)), .inl (tc 13, 10, .inl (fun _ => 0)), .inl (tc 13, 10, .inl (fun _ => 0)), .inl (tc 13, 10, .inl (fun _ => 0)), .inl (tc 13, 1024, .inl (fun _ => 0))]
set_option maxHeartbeats 4000000 in
set_option maxRecDepth 100000 in
theorem c_X8_init (x1 : Nat) (x2 : Nat) : Cn mX8_init 2 18 1349 (fun a0 => [.ref a0, .ref x1, .ref x2]) (fun _ _ => [.inr (7, [.null, .null, .null, .int 0, .null, .null, .int 0])]) (L_X8 x1 x2) := by
  refine Cn.of (lv := fun a0 => [.ref a0, .ref x1, .ref x2]) mk_X8_init rfl (fun _ => rfl) (fun _ => Nat.le_of_ble_eq_true rfl) (fun _ => rfl) (fun p l e R s m args below meth c Q D tc a0 hname F E => ?_)
  have hname : meth.name = "<init>" := hname
  refine n_aload_n (nx := 1) 0 F dX8_init_0 rfl rfl rfl ?_
  refine n_objInit (nx := 4) F dX8_init_1 rfl (tb_of 369 (by decide +kernel) rfl) (by decide) (Nat.le_of_ble_eq_true rfl) ?_
  refine n_aload_n (nx := 5) 0 F dX8_init_4 rfl rfl rfl ?_
  refine n_new (nx := 8) (ci := 9) (T := TX10) (N := 7) tyX10 [.null, .int 0, .null, .null, .null, .null, .int 0] F dX8_init_5 rfl (tb_of 370 (by decide +kernel) rfl) (tb_of 131 (by decide +kernel) rfl) (tb_of 82 (by decide +kernel) rfl) rfl tyX10_ok df_X10 (by decide) (by decide) (fun a_5 e_5 => ?_)
  obtain rfl : a_5 = a0 + 1 := e_5
  refine n_dup (nx := 9) F dX8_init_8 rfl rfl ?_
  refine n_callI (nx := 12) 0 1 5 208 [] F dX8_init_9 rfl (Or.inr (by decide)) mk_X10_init (tb_of 133 (by decide +kernel) rfl) rfl rfl rfl rfl rfl rfl (Nat.le_of_ble_eq_true rfl) (by decide) (by decide) (by decide) (c_X10_init) (fun tc => by show 0 < _; exact Nat.zero_lt_succ _) _ rfl ?_
  refine n_put (nx := 15) (ci := 7) (k := 2) (j := 0) (C := RX8) (T := TX8) (N := 7) (fty := tyX8 2) tyX8 F (fun _ => hname) dX8_init_12 rfl (tb_of 376 (by decide +kernel) rfl) rfl rfl rfl (by decide) tyX8_ok nmX8 (tyX8_ok 2 (by decide)) rfl rfl (Nat.le_of_ble_eq_true rfl) rfl rfl ?_
  try dsimp only [List.set, List.cons_append, List.nil_append]
  refine n_aload_n (nx := 16) 0 F dX8_init_15 rfl rfl rfl ?_
  refine n_bipush (nx := 18) (10) F dX8_init_16 rfl (by decide) ?_
  refine n_bipush (nx := 20) (10) F dX8_init_18 rfl (by decide) ?_
  refine n_multi (nx := 24) F dX8_init_20 rfl (tb_of 372 (by decide +kernel) rfl) (tb_of 173 (by decide +kernel) rfl) (by decide) (by decide) (fun a_20 e_20 => ?_)
  obtain rfl : a_20 = a0 + 7 := e_20
  try dsimp only [List.set, List.cons_append, List.nil_append]
  refine n_put (nx := 27) (ci := 7) (k := 4) (j := 0) (C := RX8) (T := TX8) (N := 7) (fty := tyX8 4) tyX8 F (fun _ => hname) dX8_init_24 rfl (tb_of 380 (by decide +kernel) rfl) rfl rfl rfl (by decide) tyX8_ok nmX8 (tyX8_ok 4 (by decide)) rfl rfl (Nat.le_of_ble_eq_true rfl) rfl rfl ?_
  try dsimp only [List.set, List.cons_append, List.nil_append]
  refine n_aload_n (nx := 28) 0 F dX8_init_27 rfl rfl rfl ?_
  refine n_sipush (nx := 31) (1024) F dX8_init_28 rfl (by decide) ?_
  refine n_newa (nx := 33) 1024 13 F dX8_init_31 rfl rfl (tb_of 173 (by decide +kernel) rfl) (Or.inr ⟨rfl, rfl⟩) (by decide) rfl (by decide) (by decide) (by decide) (fun a_31 e_31 => ?_)
  obtain rfl : a_31 = a0 + 18 := e_31
  try dsimp only [List.set, List.cons_append, List.nil_append]
  refine n_put (nx := 36) (ci := 7) (k := 5) (j := 0) (C := RX8) (T := TX8) (N := 7) (fty := tyX8 5) tyX8 F (fun _ => hname) dX8_init_33 rfl (tb_of 381 (by decide +kernel) rfl) rfl rfl rfl (by decide) tyX8_ok nmX8 (tyX8_ok 5 (by decide)) rfl rfl (Nat.le_of_ble_eq_true rfl) rfl rfl ?_
  try dsimp only [List.set, List.cons_append, List.nil_append]
  refine n_aload_n (nx := 37) 0 F dX8_init_36 rfl rfl rfl ?_
  refine n_iconst (nx := 38) (-1) F dX8_init_37 rfl rfl ?_
  refine n_put (nx := 41) (ci := 7) (k := 6) (j := 0) (C := RX8) (T := TX8) (N := 7) (fty := tyX8 6) tyX8 F (fun _ => hname) dX8_init_38 rfl (tb_of 382 (by decide +kernel) rfl) rfl rfl rfl (by decide) tyX8_ok nmX8 (tyX8_ok 6 (by decide)) rfl rfl (Nat.le_of_ble_eq_true rfl) rfl rfl ?_
  try dsimp only [List.set, List.cons_append, List.nil_append]
  refine n_aload_n (nx := 42) 0 F dX8_init_41 rfl rfl rfl ?_
  refine n_aload_n (nx := 43) 1 F dX8_init_42 rfl rfl rfl ?_
  refine n_put (nx := 46) (ci := 7) (k := 0) (j := 0) (C := RX8) (T := TX8) (N := 7) (fty := tyX8 0) tyX8 F (fun _ => hname) dX8_init_43 rfl (tb_of 374 (by decide +kernel) rfl) rfl rfl rfl (by decide) tyX8_ok nmX8 (tyX8_ok 0 (by decide)) rfl rfl (Nat.le_of_ble_eq_true rfl) rfl rfl ?_
  try dsimp only [List.set, List.cons_append, List.nil_append]
  refine n_aload_n (nx := 47) 0 F dX8_init_46 rfl rfl rfl ?_
  refine n_aload_n (nx := 48) 2 F dX8_init_47 rfl rfl rfl ?_
  refine n_put (nx := 51) (ci := 7) (k := 1) (j := 0) (C := RX8) (T := TX8) (N := 7) (fty := tyX8 1) tyX8 F (fun _ => hname) dX8_init_48 rfl (tb_of 375 (by decide +kernel) rfl) rfl rfl rfl (by decide) tyX8_ok nmX8 (tyX8_ok 1 (by decide)) rfl rfl (Nat.le_of_ble_eq_true rfl) rfl rfl ?_
  try dsimp only [List.set, List.cons_append, List.nil_append]
  exact n_vret F E dX8_init_51 rfl rfl rfl
def L_X2 (tc : Nat → ClassId) (a0 : Nat) : List va_E := [.inr (2, [.ref (a0 + 1), .ref (a0 + 2), .ref (a0 + 3), .int 0, .ref (a0 + 4), .ref (a0 + 5), .int 0, .ref (a0 + 6), .ref (a0 + 7), .ref (a0 + 8), .ref (a0 + 9), .int 0, .ref (a0 + 10), .int 1, .ref (a0 + 16)]), .inl (tc 13, 10, .inl (fun _ => 0)), .inl (tc 13, 10, .inl (fun _ => 0)), .inl (tc 14, 10, .inr (.inr (.inr (.inr (va_up (va_up (va_up (va_up (va_up (va_up (va_up (va_up (va_up (va_up (fun _ => none) 0 (some (a0 + 22))) 1 (some (a0 + 28))) 2 (some (a0 + 34))) 3 (some (a0 + 40))) 4 (some (a0 + 46))) 5 (some (a0 + 52))) 6 (some (a0 + 58))) 7 (some (a0 + 64))) 8 (some (a0 + 70))) 9 (some (a0 + 76))))))), .inl (tc 13, 8, .inl (fun _ => 0)), .inl (tc 13, 8, .inl (fun _ => 0)), .inl (tc 13, 40, .inl (fun _ => 0)), .inl (tc 13, 40, .inl (fun _ => 0)), .inl (tc 13, 40, .inl (fun _ => 0)), .inl (tc 13, 40, .inl (fun _ => 0)), .inr (9, [.ref (a0 + 11), .int 0, .ref (a0 + 12), .ref (a0 + 13), .ref (a0 + 14), .ref (a0 + 15), .int 0]), .inl (tc 13, 160, .inl (fun _ => 0)), .inl (tc 13, 12, .inl (fun _ => 0)), .inl (tc 13, 12, .inl (fun _ => 0)), .inl (tc 13, 12, .inl (fun _ => 0)), .inl (tc 13, 12, .inl (fun _ => 0)), .inr (9, [.ref (a0 + 17), .int 0, .ref (a0 + 18), .ref (a0 + 19), .ref (a0 + 20), .ref (a0 + 21), .int 0]), .inl (tc 13, 160, .inl (fun _ => 0)), .inl (tc 13, 12, .inl (fun _ => 0)), .inl (tc 13, 12, .inl (fun _ => 0)), .inl (tc 13, 12, .inl (fun _ => 0)), .inl (tc 13, 12, .inl (fun _ => 0)), .inr (9, [.ref (a0 + 23), .int 0, .ref (a0 + 24), .ref (a0 + 25), .ref (a0 + 26), .ref (a0 + 27), .int 0]), .inl (tc 13, 160, .inl (fun _ => 0)), .inl (tc 13, 12, .inl (fun _ => 0)), .inl (tc 13, 12, .inl (fun _ => 0)), .inl (tc 13, 12, .inl (fun _ => 0)), .inl (tc 13, 12, .inl (fun _ => 0)), .inr (9, [.ref (a0 + 29), .int 0, .ref (a0 + 30), .ref (a0 + 31), .ref (a0 + 32), .ref (a0 + 33), .int 0]), .inl (tc 13, 160, .inl (fun _ => 0)), .inl (tc 13, 12, .inl (fun _ => 0)), .inl (tc 13, 12, .inl (fun _ => 0)), .inl (tc 13, 12, .inl (fun _ => 0)), .inl (tc 13, 12, .inl (fun _ => 0)), .inr (9, [.ref (a0 + 35), .int 0, .ref (a0 + 36), .ref (a0 + 37), .ref (a0 + 38), .ref (a0 + 39), .int 0]), .inl (tc 13, 160, .inl (fun _ => 0)), .inl (tc 13, 12, .inl (fun _ => 0)), .inl (tc 13, 12, .inl (fun _ => 0)), .inl (tc 13, 12, .inl (fun _ => 0)), .inl (tc 13, 12, .inl (fun _ => 0)), .inr (9, [.ref (a0 + 41), .int 0, .ref (a0 + 42), .ref (a0 + 43), .ref (a0 + 44), .ref (a0 + 45), .int 0]), .inl (tc 13, 160, .inl (fun _ => 0)), .inl (tc 13, 12, .inl (fun _ => 0)), .inl (tc 13, 12, .inl (fun _ => 0)), .inl (tc 13, 12, .inl (fun _ => 0)), .inl (tc 13, 12, .inl (fun _ => 0)), .inr (9, [.ref (a0 + 47), .int 0, .ref (a0 + 48), .ref (a0 + 49), .ref (a0 + 50), .ref (a0 + 51), .int 0]), .inl (tc 13, 160, .inl (fun _ => 0)), .inl (tc 13, 12, .inl (fun _ => 0)), .inl (tc 13, 12, .inl (fun _ => 0)), .inl (tc 13, 12, .inl (fun _ => 0)), .inl (tc 13, 12, .inl (fun _ => 0)), .inr (9, [.ref (a0 + 53), .int 0, .ref (a0 + 54), .ref (a0 + 55), .ref (a0 + 56), .ref (a0 + 57), .int 0]), .inl (tc 13, 160, .inl (fun _ => 0)), .inl (tc 13, 12, .inl (fun _ => 0)), .inl (tc 13, 12, .inl (fun _ => 0)), .inl (tc 13, 12, .inl (fun _ => 0)), .inl (tc 13, 12, .inl (fun _ => 0)), .inr (9, [.ref (a0 + 59), .int 0, .ref (a0 + 60), .ref (a0 + 61), .ref (a0 + 62), .ref (a0 + 63), .int 0]), .inl (tc 13, 160, .inl (fun _ => 0)), .inl (tc 13, 12, .inl (fun _ => 0)), .inl (tc 13, 12, .inl (fun _ => 0)), .inl (tc 13, 12, .inl (fun _ => 0)), .inl (tc 13, 12, .inl (fun _ => 0)), .inr (9, [.ref (a0 + 65), .int 0, .ref (a0 + 66), .ref (a0 + 67), .ref (a0 + 68), .ref (a0 + 69), .int 0]), .inl (tc 13, 160, .inl (fun _ => 0)), .inl (tc 13, 12, .inl (fun _ => 0)), .inl (tc 13, 12, .inl (fun _ => 0)), .inl (tc 13, 12, .inl (fun _ => 0)), .inl (tc 13, 12, .inl (fun _ => 0)), .inr (9, [.ref (a0 + 71), .int 0, .ref (a0 + 72), .ref (a0 + 73), .ref (a0 + 74), .ref (a0 + 75), .int 0]), .inl (tc 13, 160, .inl (fun _ => 0)), .inl (tc 13, 12, .inl (fun _ => 0)), .inl (tc 13, 12, .inl (fun _ => 0)), .inl (tc 13, 12, .inl (fun _ => 0)), .inl (tc 13, 12, .inl (fun _ => 0)), .inr (9, [.ref (a0 + 77), .int 0, .ref (a0 + 78), .ref (a0 + 79), .ref (a0 + 80), .ref (a0 + 81), .int 0]), .inl (tc 13, 160, .inl (fun _ => 0)), .inl (tc 13, 12, .inl (fun _ => 0)), .inl (tc 13, 12, .inl (fun _ => 0)), .inl (tc 13, 12, .inl (fun _ => 0)), .inl (tc 13, 12, .inl (fun _ => 0))]
set_option maxHeartbeats 4000000 in
set_option maxRecDepth 100000 in
theorem c_X2_init : Cn mX2_init 2 81 2786 (fun a0 => [.ref a0]) (fun _ _ => [.inr (2, [.null, .null, .null, .int 0, .null, .null, .int 0, .null, .null, .null, .null, .int 0, .null, .int 0, .null])]) (L_X2) := by
  refine Cn.of (lv := fun a0 => [.ref a0, .long 0]) mk_X2_init rfl (fun _ => rfl) (fun _ => Nat.le_of_ble_eq_true rfl) (fun _ => rfl) (fun p l e R s m args below meth c Q D tc a0 hname F E => ?_)
  have hname : meth.name = "<init>" := hname
  refine n_aload_n (nx := 1) 0 F dX2_init_0 rfl rfl rfl ?_
  refine n_objInit (nx := 4) F dX2_init_1 rfl (tb_of 128 (by decide +kernel) rfl) (by decide) (Nat.le_of_ble_eq_true rfl) ?_
  refine n_aload_n (nx := 5) 0 F dX2_init_4 rfl rfl rfl ?_
  refine n_bipush (nx := 7) (10) F dX2_init_5 rfl (by decide) ?_
  refine n_newa (nx := 9) 10 13 F dX2_init_7 rfl rfl (tb_of 173 (by decide +kernel) rfl) (Or.inr ⟨rfl, rfl⟩) (by decide) rfl (by decide) (by decide) (by decide) (fun a_7 e_7 => ?_)
  obtain rfl : a_7 = a0 + 1 := e_7
  try dsimp only [List.set, List.cons_append, List.nil_append]
  refine n_put (nx := 12) (ci := 2) (k := 0) (j := 0) (C := RX2) (T := TX2) (N := 15) (fty := tyX2 0) tyX2 F (fun _ => hname) dX2_init_9 rfl (tb_of 174 (by decide +kernel) rfl) rfl rfl rfl (by decide) tyX2_ok nmX2 (tyX2_ok 0 (by decide)) rfl rfl (Nat.le_of_ble_eq_true rfl) rfl rfl ?_
  try dsimp only [List.set, List.cons_append, List.nil_append]
  refine n_aload_n (nx := 13) 0 F dX2_init_12 rfl rfl rfl ?_
  refine n_bipush (nx := 15) (10) F dX2_init_13 rfl (by decide) ?_
  refine n_newa (nx := 17) 10 13 F dX2_init_15 rfl rfl (tb_of 173 (by decide +kernel) rfl) (Or.inr ⟨rfl, rfl⟩) (by decide) rfl (by decide) (by decide) (by decide) (fun a_15 e_15 => ?_)
  obtain rfl : a_15 = a0 + 2 := e_15
  try dsimp only [List.set, List.cons_append, List.nil_append]
  refine n_put (nx := 20) (ci := 2) (k := 1) (j := 0) (C := RX2) (T := TX2) (N := 15) (fty := tyX2 1) tyX2 F (fun _ => hname) dX2_init_17 rfl (tb_of 178 (by decide +kernel) rfl) rfl rfl rfl (by decide) tyX2_ok nmX2 (tyX2_ok 1 (by decide)) rfl rfl (Nat.le_of_ble_eq_true rfl) rfl rfl ?_
  try dsimp only [List.set, List.cons_append, List.nil_append]
  refine n_aload_n (nx := 21) 0 F dX2_init_20 rfl rfl rfl ?_
  refine n_bipush (nx := 23) (10) F dX2_init_21 rfl (by decide) ?_
  refine n_anew (nx := 26) 10 F dX2_init_23 rfl (tb_of 129 (by decide +kernel) rfl) (by decide) rfl (by decide) (by decide) (by decide) (fun a_23 e_23 => ?_)
  obtain rfl : a_23 = a0 + 3 := e_23
  try dsimp only [List.set, List.cons_append, List.nil_append]
  refine n_put (nx := 29) (ci := 2) (k := 2) (j := 0) (C := RX2) (T := TX2) (N := 15) (fty := tyX2 2) tyX2 F (fun _ => hname) dX2_init_26 rfl (tb_of 182 (by decide +kernel) rfl) rfl rfl rfl (by decide) tyX2_ok nmX2 (tyX2_ok 2 (by decide)) rfl rfl (Nat.le_of_ble_eq_true rfl) rfl rfl ?_
  try dsimp only [List.set, List.cons_append, List.nil_append]
  refine n_aload_n (nx := 30) 0 F dX2_init_29 rfl rfl rfl ?_
  refine n_bipush (nx := 32) (8) F dX2_init_30 rfl (by decide) ?_
  refine n_newa (nx := 34) 8 13 F dX2_init_32 rfl rfl (tb_of 173 (by decide +kernel) rfl) (Or.inr ⟨rfl, rfl⟩) (by decide) rfl (by decide) (by decide) (by decide) (fun a_32 e_32 => ?_)
  obtain rfl : a_32 = a0 + 4 := e_32
  try dsimp only [List.set, List.cons_append, List.nil_append]
  refine n_put (nx := 37) (ci := 2) (k := 4) (j := 0) (C := RX2) (T := TX2) (N := 15) (fty := tyX2 4) tyX2 F (fun _ => hname) dX2_init_34 rfl (tb_of 187 (by decide +kernel) rfl) rfl rfl rfl (by decide) tyX2_ok nmX2 (tyX2_ok 4 (by decide)) rfl rfl (Nat.le_of_ble_eq_true rfl) rfl rfl ?_
  try dsimp only [List.set, List.cons_append, List.nil_append]
  refine n_aload_n (nx := 38) 0 F dX2_init_37 rfl rfl rfl ?_
  refine n_bipush (nx := 40) (8) F dX2_init_38 rfl (by decide) ?_
  refine n_newa (nx := 42) 8 13 F dX2_init_40 rfl rfl (tb_of 173 (by decide +kernel) rfl) (Or.inr ⟨rfl, rfl⟩) (by decide) rfl (by decide) (by decide) (by decide) (fun a_40 e_40 => ?_)
  obtain rfl : a_40 = a0 + 5 := e_40
  try dsimp only [List.set, List.cons_append, List.nil_append]
  refine n_put (nx := 45) (ci := 2) (k := 5) (j := 0) (C := RX2) (T := TX2) (N := 15) (fty := tyX2 5) tyX2 F (fun _ => hname) dX2_init_42 rfl (tb_of 190 (by decide +kernel) rfl) rfl rfl rfl (by decide) tyX2_ok nmX2 (tyX2_ok 5 (by decide)) rfl rfl (Nat.le_of_ble_eq_true rfl) rfl rfl ?_
  try dsimp only [List.set, List.cons_append, List.nil_append]
  refine n_aload_n (nx := 46) 0 F dX2_init_45 rfl rfl rfl ?_
  refine n_bipush (nx := 48) (40) F dX2_init_46 rfl (by decide) ?_
  refine n_newa (nx := 50) 40 13 F dX2_init_48 rfl rfl (tb_of 173 (by decide +kernel) rfl) (Or.inr ⟨rfl, rfl⟩) (by decide) rfl (by decide) (by decide) (by decide) (fun a_48 e_48 => ?_)
  obtain rfl : a_48 = a0 + 6 := e_48
  try dsimp only [List.set, List.cons_append, List.nil_append]
  refine n_put (nx := 53) (ci := 2) (k := 7) (j := 0) (C := RX2) (T := TX2) (N := 15) (fty := tyX2 7) tyX2 F (fun _ => hname) dX2_init_50 rfl (tb_of 195 (by decide +kernel) rfl) rfl rfl rfl (by decide) tyX2_ok nmX2 (tyX2_ok 7 (by decide)) rfl rfl (Nat.le_of_ble_eq_true rfl) rfl rfl ?_
  try dsimp only [List.set, List.cons_append, List.nil_append]
  refine n_aload_n (nx := 54) 0 F dX2_init_53 rfl rfl rfl ?_
  refine n_bipush (nx := 56) (40) F dX2_init_54 rfl (by decide) ?_
  refine n_newa (nx := 58) 40 13 F dX2_init_56 rfl rfl (tb_of 173 (by decide +kernel) rfl) (Or.inr ⟨rfl, rfl⟩) (by decide) rfl (by decide) (by decide) (by decide) (fun a_56 e_56 => ?_)
  obtain rfl : a_56 = a0 + 7 := e_56
  try dsimp only [List.set, List.cons_append, List.nil_append]
  refine n_put (nx := 61) (ci := 2) (k := 8) (j := 0) (C := RX2) (T := TX2) (N := 15) (fty := tyX2 8) tyX2 F (fun _ => hname) dX2_init_58 rfl (tb_of 197 (by decide +kernel) rfl) rfl rfl rfl (by decide) tyX2_ok nmX2 (tyX2_ok 8 (by decide)) rfl rfl (Nat.le_of_ble_eq_true rfl) rfl rfl ?_
  try dsimp only [List.set, List.cons_append, List.nil_append]
  refine n_aload_n (nx := 62) 0 F dX2_init_61 rfl rfl rfl ?_
  refine n_bipush (nx := 64) (40) F dX2_init_62 rfl (by decide) ?_
  refine n_newa (nx := 66) 40 13 F dX2_init_64 rfl rfl (tb_of 173 (by decide +kernel) rfl) (Or.inr ⟨rfl, rfl⟩) (by decide) rfl (by decide) (by decide) (by decide) (fun a_64 e_64 => ?_)
  obtain rfl : a_64 = a0 + 8 := e_64
  try dsimp only [List.set, List.cons_append, List.nil_append]
  refine n_put (nx := 69) (ci := 2) (k := 9) (j := 0) (C := RX2) (T := TX2) (N := 15) (fty := tyX2 9) tyX2 F (fun _ => hname) dX2_init_66 rfl (tb_of 199 (by decide +kernel) rfl) rfl rfl rfl (by decide) tyX2_ok nmX2 (tyX2_ok 9 (by decide)) rfl rfl (Nat.le_of_ble_eq_true rfl) rfl rfl ?_
  try dsimp only [List.set, List.cons_append, List.nil_append]
  refine n_aload_n (nx := 70) 0 F dX2_init_69 rfl rfl rfl ?_
  refine n_bipush (nx := 72) (40) F dX2_init_70 rfl (by decide) ?_
  refine n_newa (nx := 74) 40 13 F dX2_init_72 rfl rfl (tb_of 173 (by decide +kernel) rfl) (Or.inr ⟨rfl, rfl⟩) (by decide) rfl (by decide) (by decide) (by decide) (fun a_72 e_72 => ?_)
  obtain rfl : a_72 = a0 + 9 := e_72
  try dsimp only [List.set, List.cons_append, List.nil_append]
  refine n_put (nx := 77) (ci := 2) (k := 10) (j := 0) (C := RX2) (T := TX2) (N := 15) (fty := tyX2 10) tyX2 F (fun _ => hname) dX2_init_74 rfl (tb_of 201 (by decide +kernel) rfl) rfl rfl rfl (by decide) tyX2_ok nmX2 (tyX2_ok 10 (by decide)) rfl rfl (Nat.le_of_ble_eq_true rfl) rfl rfl ?_
  try dsimp only [List.set, List.cons_append, List.nil_append]
  refine n_aload_n (nx := 78) 0 F dX2_init_77 rfl rfl rfl ?_
  refine n_new (nx := 81) (ci := 9) (T := TX10) (N := 7) tyX10 [.null, .int 0, .null, .null, .null, .null, .int 0] F dX2_init_78 rfl (tb_of 129 (by decide +kernel) rfl) (tb_of 131 (by decide +kernel) rfl) (tb_of 82 (by decide +kernel) rfl) rfl tyX10_ok df_X10 (by decide) (by decide) (fun a_78 e_78 => ?_)
  obtain rfl : a_78 = a0 + 10 := e_78
  refine n_dup (nx := 82) F dX2_init_81 rfl rfl ?_
  refine n_callI (nx := 85) 0 1 5 208 [] F dX2_init_82 rfl (Or.inr (by decide)) mk_X10_init (tb_of 133 (by decide +kernel) rfl) rfl rfl rfl rfl rfl rfl (Nat.le_of_ble_eq_true rfl) (by decide) (by decide) (by decide) (c_X10_init) (fun tc => by show 0 < _; exact Nat.zero_lt_succ _) _ rfl ?_
  refine n_put (nx := 88) (ci := 2) (k := 12) (j := 0) (C := RX2) (T := TX2) (N := 15) (fty := tyX2 12) tyX2 F (fun _ => hname) dX2_init_85 rfl (tb_of 207 (by decide +kernel) rfl) rfl rfl rfl (by decide) tyX2_ok nmX2 (tyX2_ok 12 (by decide)) rfl rfl (Nat.le_of_ble_eq_true rfl) rfl rfl ?_
  try dsimp only [List.set, List.cons_append, List.nil_append]
  refine n_aload_n (nx := 89) 0 F dX2_init_88 rfl rfl rfl ?_
  refine n_iconst (nx := 90) (1) F dX2_init_89 rfl rfl ?_
  refine n_put (nx := 93) (ci := 2) (k := 13) (j := 0) (C := RX2) (T := TX2) (N := 15) (fty := tyX2 13) tyX2 F (fun _ => hname) dX2_init_90 rfl (tb_of 210 (by decide +kernel) rfl) rfl rfl rfl (by decide) tyX2_ok nmX2 (tyX2_ok 13 (by decide)) rfl rfl (Nat.le_of_ble_eq_true rfl) rfl rfl ?_
  try dsimp only [List.set, List.cons_append, List.nil_append]
  refine n_aload_n (nx := 94) 0 F dX2_init_93 rfl rfl rfl ?_
  refine n_new (nx := 97) (ci := 9) (T := TX10) (N := 7) tyX10 [.null, .int 0, .null, .null, .null, .null, .int 0] F dX2_init_94 rfl (tb_of 129 (by decide +kernel) rfl) (tb_of 131 (by decide +kernel) rfl) (tb_of 82 (by decide +kernel) rfl) rfl tyX10_ok df_X10 (by decide) (by decide) (fun a_94 e_94 => ?_)
  obtain rfl : a_94 = a0 + 16 := e_94
  refine n_dup (nx := 98) F dX2_init_97 rfl rfl ?_
  refine n_callI (nx := 101) 0 1 5 208 [] F dX2_init_98 rfl (Or.inr (by decide)) mk_X10_init (tb_of 133 (by decide +kernel) rfl) rfl rfl rfl rfl rfl rfl (Nat.le_of_ble_eq_true rfl) (by decide) (by decide) (by decide) (c_X10_init) (fun tc => by show 0 < _; exact Nat.zero_lt_succ _) _ rfl ?_
  refine n_put (nx := 104) (ci := 2) (k := 14) (j := 0) (C := RX2) (T := TX2) (N := 15) (fty := tyX2 14) tyX2 F (fun _ => hname) dX2_init_101 rfl (tb_of 213 (by decide +kernel) rfl) rfl rfl rfl (by decide) tyX2_ok nmX2 (tyX2_ok 14 (by decide)) rfl rfl (Nat.le_of_ble_eq_true rfl) rfl rfl ?_
  try dsimp only [List.set, List.cons_append, List.nil_append]
  refine n_iconst (nx := 105) (0) F dX2_init_104 rfl rfl ?_
  refine n_istore_n (nx := 106) 1 F dX2_init_105 rfl rfl (by decide) ?_
  try dsimp only [List.set, List.cons_append, List.nil_append]
  refine n_iload_n (nx := 107) 1 F dX2_init_106 rfl rfl rfl ?_
  refine n_aload_n (nx := 108) 0 F dX2_init_107 rfl rfl rfl ?_
  refine n_get (nx := 111) (ci := 2) (k := 2) (j := 0) (C := RX2) (T := TX2) (N := 15) F dX2_init_108 rfl (tb_of 182 (by decide +kernel) rfl) rfl rfl (by decide) rfl rfl rfl ?_
  refine n_alen (nx := 112) (j := 3) (n := 10) (t0 := 2) F dX2_init_111 rfl rfl rfl rfl rfl ?_
  refine n_icmp_ge (nx := 115) 134 F dX2_init_112 rfl (by decide) (fun h => absurd h (by decide)) (fun _ => ?_)
  refine n_aload_n (nx := 116) 0 F dX2_init_115 rfl rfl rfl ?_
  refine n_get (nx := 119) (ci := 2) (k := 2) (j := 0) (C := RX2) (T := TX2) (N := 15) F dX2_init_116 rfl (tb_of 182 (by decide +kernel) rfl) rfl rfl (by decide) rfl rfl rfl ?_
  refine n_iload_n (nx := 120) 1 F dX2_init_119 rfl rfl rfl ?_
  refine n_new (nx := 123) (ci := 9) (T := TX10) (N := 7) tyX10 [.null, .int 0, .null, .null, .null, .null, .int 0] F dX2_init_120 rfl (tb_of 129 (by decide +kernel) rfl) (tb_of 131 (by decide +kernel) rfl) (tb_of 82 (by decide +kernel) rfl) rfl tyX10_ok df_X10 (by decide) (by decide) (fun a_120 e_120 => ?_)
  obtain rfl : a_120 = a0 + 22 := e_120
  refine n_dup (nx := 124) F dX2_init_123 rfl rfl ?_
  refine n_callI (nx := 127) 0 1 5 208 [] F dX2_init_124 rfl (Or.inr (by decide)) mk_X10_init (tb_of 133 (by decide +kernel) rfl) rfl rfl rfl rfl rfl rfl (Nat.le_of_ble_eq_true rfl) (by decide) (by decide) (by decide) (c_X10_init) (fun tc => by show 0 < _; exact Nat.zero_lt_succ _) _ rfl ?_
  refine n_aast (nx := 128) (j := 3) (k := 22) F dX2_init_127 rfl rfl rfl rfl rfl (by exact vp_in_nI (n := 0) (by decide) (by decide)) ?_
  try dsimp only [List.set, List.cons_append, List.nil_append]
  refine n_iinc (nx := 131) (1) F dX2_init_128 rfl rfl (by decide) (by decide) ?_
  try dsimp only [List.set, List.cons_append, List.nil_append]
  refine n_lv [.ref a0, .int 1] rfl ?_
  refine n_goto 106 F dX2_init_131 (by decide) ?_
  refine n_iload_n (nx := 107) 1 F dX2_init_106 rfl rfl rfl ?_
  refine n_aload_n (nx := 108) 0 F dX2_init_107 rfl rfl rfl ?_
  refine n_get (nx := 111) (ci := 2) (k := 2) (j := 0) (C := RX2) (T := TX2) (N := 15) F dX2_init_108 rfl (tb_of 182 (by decide +kernel) rfl) rfl rfl (by decide) rfl rfl rfl ?_
  refine n_alen (nx := 112) (j := 3) (n := 10) (t0 := 2) F dX2_init_111 rfl rfl rfl rfl rfl ?_
  refine n_icmp_ge (nx := 115) 134 F dX2_init_112 rfl (by decide) (fun h => absurd h (by decide)) (fun _ => ?_)
  refine n_aload_n (nx := 116) 0 F dX2_init_115 rfl rfl rfl ?_
  refine n_get (nx := 119) (ci := 2) (k := 2) (j := 0) (C := RX2) (T := TX2) (N := 15) F dX2_init_116 rfl (tb_of 182 (by decide +kernel) rfl) rfl rfl (by decide) rfl rfl rfl ?_
  refine n_iload_n (nx := 120) 1 F dX2_init_119 rfl rfl rfl ?_
  refine n_new (nx := 123) (ci := 9) (T := TX10) (N := 7) tyX10 [.null, .int 0, .null, .null, .null, .null, .int 0] F dX2_init_120 rfl (tb_of 129 (by decide +kernel) rfl) (tb_of 131 (by decide +kernel) rfl) (tb_of 82 (by decide +kernel) rfl) rfl tyX10_ok df_X10 (by decide) (by decide) (fun a_120 e_120 => ?_)
  obtain rfl : a_120 = a0 + 28 := e_120
  refine n_dup (nx := 124) F dX2_init_123 rfl rfl ?_
  refine n_callI (nx := 127) 0 1 5 208 [] F dX2_init_124 rfl (Or.inr (by decide)) mk_X10_init (tb_of 133 (by decide +kernel) rfl) rfl rfl rfl rfl rfl rfl (Nat.le_of_ble_eq_true rfl) (by decide) (by decide) (by decide) (c_X10_init) (fun tc => by show 0 < _; exact Nat.zero_lt_succ _) _ rfl ?_
  refine n_aast (nx := 128) (j := 3) (k := 28) F dX2_init_127 rfl rfl rfl rfl rfl (by exact vp_in_nI (n := 1) (by decide) (by decide)) ?_
  try dsimp only [List.set, List.cons_append, List.nil_append]
  refine n_iinc (nx := 131) (1) F dX2_init_128 rfl rfl (by decide) (by decide) ?_
  try dsimp only [List.set, List.cons_append, List.nil_append]
  refine n_lv [.ref a0, .int 2] rfl ?_
  refine n_goto 106 F dX2_init_131 (by decide) ?_
  refine n_iload_n (nx := 107) 1 F dX2_init_106 rfl rfl rfl ?_
  refine n_aload_n (nx := 108) 0 F dX2_init_107 rfl rfl rfl ?_
  refine n_get (nx := 111) (ci := 2) (k := 2) (j := 0) (C := RX2) (T := TX2) (N := 15) F dX2_init_108 rfl (tb_of 182 (by decide +kernel) rfl) rfl rfl (by decide) rfl rfl rfl ?_
  refine n_alen (nx := 112) (j := 3) (n := 10) (t0 := 2) F dX2_init_111 rfl rfl rfl rfl rfl ?_
  refine n_icmp_ge (nx := 115) 134 F dX2_init_112 rfl (by decide) (fun h => absurd h (by decide)) (fun _ => ?_)
  refine n_aload_n (nx := 116) 0 F dX2_init_115 rfl rfl rfl ?_
  refine n_get (nx := 119) (ci := 2) (k := 2) (j := 0) (C := RX2) (T := TX2) (N := 15) F dX2_init_116 rfl (tb_of 182 (by decide +kernel) rfl) rfl rfl (by decide) rfl rfl rfl ?_
  refine n_iload_n (nx := 120) 1 F dX2_init_119 rfl rfl rfl ?_
  refine n_new (nx := 123) (ci := 9) (T := TX10) (N := 7) tyX10 [.null, .int 0, .null, .null, .null, .null, .int 0] F dX2_init_120 rfl (tb_of 129 (by decide +kernel) rfl) (tb_of 131 (by decide +kernel) rfl) (tb_of 82 (by decide +kernel) rfl) rfl tyX10_ok df_X10 (by decide) (by decide) (fun a_120 e_120 => ?_)
  obtain rfl : a_120 = a0 + 34 := e_120
  refine n_dup (nx := 124) F dX2_init_123 rfl rfl ?_
  refine n_callI (nx := 127) 0 1 5 208 [] F dX2_init_124 rfl (Or.inr (by decide)) mk_X10_init (tb_of 133 (by decide +kernel) rfl) rfl rfl rfl rfl rfl rfl (Nat.le_of_ble_eq_true rfl) (by decide) (by decide) (by decide) (c_X10_init) (fun tc => by show 0 < _; exact Nat.zero_lt_succ _) _ rfl ?_
  refine n_aast (nx := 128) (j := 3) (k := 34) F dX2_init_127 rfl rfl rfl rfl rfl (by exact vp_in_nI (n := 2) (by decide) (by decide)) ?_
  try dsimp only [List.set, List.cons_append, List.nil_append]
  refine n_iinc (nx := 131) (1) F dX2_init_128 rfl rfl (by decide) (by decide) ?_
  try dsimp only [List.set, List.cons_append, List.nil_append]
  refine n_lv [.ref a0, .int 3] rfl ?_
  refine n_goto 106 F dX2_init_131 (by decide) ?_
  refine n_iload_n (nx := 107) 1 F dX2_init_106 rfl rfl rfl ?_
  refine n_aload_n (nx := 108) 0 F dX2_init_107 rfl rfl rfl ?_
  refine n_get (nx := 111) (ci := 2) (k := 2) (j := 0) (C := RX2) (T := TX2) (N := 15) F dX2_init_108 rfl (tb_of 182 (by decide +kernel) rfl) rfl rfl (by decide) rfl rfl rfl ?_
  refine n_alen (nx := 112) (j := 3) (n := 10) (t0 := 2) F dX2_init_111 rfl rfl rfl rfl rfl ?_
  refine n_icmp_ge (nx := 115) 134 F dX2_init_112 rfl (by decide) (fun h => absurd h (by decide)) (fun _ => ?_)
  refine n_aload_n (nx := 116) 0 F dX2_init_115 rfl rfl rfl ?_
  refine n_get (nx := 119) (ci := 2) (k := 2) (j := 0) (C := RX2) (T := TX2) (N := 15) F dX2_init_116 rfl (tb_of 182 (by decide +kernel) rfl) rfl rfl (by decide) rfl rfl rfl ?_
  refine n_iload_n (nx := 120) 1 F dX2_init_119 rfl rfl rfl ?_
  refine n_new (nx := 123) (ci := 9) (T := TX10) (N := 7) tyX10 [.null, .int 0, .null, .null, .null, .null, .int 0] F dX2_init_120 rfl (tb_of 129 (by decide +kernel) rfl) (tb_of 131 (by decide +kernel) rfl) (tb_of 82 (by decide +kernel) rfl) rfl tyX10_ok df_X10 (by decide) (by decide) (fun a_120 e_120 => ?_)
  obtain rfl : a_120 = a0 + 40 := e_120
  refine n_dup (nx := 124) F dX2_init_123 rfl rfl ?_
  refine n_callI (nx := 127) 0 1 5 208 [] F dX2_init_124 rfl (Or.inr (by decide)) mk_X10_init (tb_of 133 (by decide +kernel) rfl) rfl rfl rfl rfl rfl rfl (Nat.le_of_ble_eq_true rfl) (by decide) (by decide) (by decide) (c_X10_init) (fun tc => by show 0 < _; exact Nat.zero_lt_succ _) _ rfl ?_
  refine n_aast (nx := 128) (j := 3) (k := 40) F dX2_init_127 rfl rfl rfl rfl rfl (by exact vp_in_nI (n := 3) (by decide) (by decide)) ?_
  try dsimp only [List.set, List.cons_append, List.nil_append]
  refine n_iinc (nx := 131) (1) F dX2_init_128 rfl rfl (by decide) (by decide) ?_
  try dsimp only [List.set, List.cons_append, List.nil_append]
  refine n_lv [.ref a0, .int 4] rfl ?_
  refine n_goto 106 F dX2_init_131 (by decide) ?_
  refine n_iload_n (nx := 107) 1 F dX2_init_106 rfl rfl rfl ?_
  refine n_aload_n (nx := 108) 0 F dX2_init_107 rfl rfl rfl ?_
  refine n_get (nx := 111) (ci := 2) (k := 2) (j := 0) (C := RX2) (T := TX2) (N := 15) F dX2_init_108 rfl (tb_of 182 (by decide +kernel) rfl) rfl rfl (by decide) rfl rfl rfl ?_
  refine n_alen (nx := 112) (j := 3) (n := 10) (t0 := 2) F dX2_init_111 rfl rfl rfl rfl rfl ?_
  refine n_icmp_ge (nx := 115) 134 F dX2_init_112 rfl (by decide) (fun h => absurd h (by decide)) (fun _ => ?_)
  refine n_aload_n (nx := 116) 0 F dX2_init_115 rfl rfl rfl ?_
  refine n_get (nx := 119) (ci := 2) (k := 2) (j := 0) (C := RX2) (T := TX2) (N := 15) F dX2_init_116 rfl (tb_of 182 (by decide +kernel) rfl) rfl rfl (by decide) rfl rfl rfl ?_
  refine n_iload_n (nx := 120) 1 F dX2_init_119 rfl rfl rfl ?_
  refine n_new (nx := 123) (ci := 9) (T := TX10) (N := 7) tyX10 [.null, .int 0, .null, .null, .null, .null, .int 0] F dX2_init_120 rfl (tb_of 129 (by decide +kernel) rfl) (tb_of 131 (by decide +kernel) rfl) (tb_of 82 (by decide +kernel) rfl) rfl tyX10_ok df_X10 (by decide) (by decide) (fun a_120 e_120 => ?_)
  obtain rfl : a_120 = a0 + 46 := e_120
  refine n_dup (nx := 124) F dX2_init_123 rfl rfl ?_
  refine n_callI (nx := 127) 0 1 5 208 [] F dX2_init_124 rfl (Or.inr (by decide)) mk_X10_init (tb_of 133 (by decide +kernel) rfl) rfl rfl rfl rfl rfl rfl (Nat.le_of_ble_eq_true rfl) (by decide) (by decide) (by decide) (c_X10_init) (fun tc => by show 0 < _; exact Nat.zero_lt_succ _) _ rfl ?_
  refine n_aast (nx := 128) (j := 3) (k := 46) F dX2_init_127 rfl rfl rfl rfl rfl (by exact vp_in_nI (n := 4) (by decide) (by decide)) ?_
  try dsimp only [List.set, List.cons_append, List.nil_append]
  refine n_iinc (nx := 131) (1) F dX2_init_128 rfl rfl (by decide) (by decide) ?_
  try dsimp only [List.set, List.cons_append, List.nil_append]
  refine n_lv [.ref a0, .int 5] rfl ?_
  refine n_goto 106 F dX2_init_131 (by decide) ?_
  refine n_iload_n (nx := 107) 1 F dX2_init_106 rfl rfl rfl ?_
  refine n_aload_n (nx := 108) 0 F dX2_init_107 rfl rfl rfl ?_
  refine n_get (nx := 111) (ci := 2) (k := 2) (j := 0) (C := RX2) (T := TX2) (N := 15) F dX2_init_108 rfl (tb_of 182 (by decide +kernel) rfl) rfl rfl (by decide) rfl rfl rfl ?_
  refine n_alen (nx := 112) (j := 3) (n := 10) (t0 := 2) F dX2_init_111 rfl rfl rfl rfl rfl ?_
  refine n_icmp_ge (nx := 115) 134 F dX2_init_112 rfl (by decide) (fun h => absurd h (by decide)) (fun _ => ?_)
  refine n_aload_n (nx := 116) 0 F dX2_init_115 rfl rfl rfl ?_
  refine n_get (nx := 119) (ci := 2) (k := 2) (j := 0) (C := RX2) (T := TX2) (N := 15) F dX2_init_116 rfl (tb_of 182 (by decide +kernel) rfl) rfl rfl (by decide) rfl rfl rfl ?_
  refine n_iload_n (nx := 120) 1 F dX2_init_119 rfl rfl rfl ?_
  refine n_new (nx := 123) (ci := 9) (T := TX10) (N := 7) tyX10 [.null, .int 0, .null, .null, .null, .null, .int 0] F dX2_init_120 rfl (tb_of 129 (by decide +kernel) rfl) (tb_of 131 (by decide +kernel) rfl) (tb_of 82 (by decide +kernel) rfl) rfl tyX10_ok df_X10 (by decide) (by decide) (fun a_120 e_120 => ?_)
  obtain rfl : a_120 = a0 + 52 := e_120
  refine n_dup (nx := 124) F dX2_init_123 rfl rfl ?_
  refine n_callI (nx := 127) 0 1 5 208 [] F dX2_init_124 rfl (Or.inr (by decide)) mk_X10_init (tb_of 133 (by decide +kernel) rfl) rfl rfl rfl rfl rfl rfl (Nat.le_of_ble_eq_true rfl) (by decide) (by decide) (by decide) (c_X10_init) (fun tc => by show 0 < _; exact Nat.zero_lt_succ _) _ rfl ?_
  refine n_aast (nx := 128) (j := 3) (k := 52) F dX2_init_127 rfl rfl rfl rfl rfl (by exact vp_in_nI (n := 5) (by decide) (by decide)) ?_
  try dsimp only [List.set, List.cons_append, List.nil_append]
  refine n_iinc (nx := 131) (1) F dX2_init_128 rfl rfl (by decide) (by decide) ?_
  try dsimp only [List.set, List.cons_append, List.nil_append]
  refine n_lv [.ref a0, .int 6] rfl ?_
  refine n_goto 106 F dX2_init_131 (by decide) ?_
  refine n_iload_n (nx := 107) 1 F dX2_init_106 rfl rfl rfl ?_
  refine n_aload_n (nx := 108) 0 F dX2_init_107 rfl rfl rfl ?_
  refine n_get (nx := 111) (ci := 2) (k := 2) (j := 0) (C := RX2) (T := TX2) (N := 15) F dX2_init_108 rfl (tb_of 182 (by decide +kernel) rfl) rfl rfl (by decide) rfl rfl rfl ?_
  refine n_alen (nx := 112) (j := 3) (n := 10) (t0 := 2) F dX2_init_111 rfl rfl rfl rfl rfl ?_
  refine n_icmp_ge (nx := 115) 134 F dX2_init_112 rfl (by decide) (fun h => absurd h (by decide)) (fun _ => ?_)
  refine n_aload_n (nx := 116) 0 F dX2_init_115 rfl rfl rfl ?_
  refine n_get (nx := 119) (ci := 2) (k := 2) (j := 0) (C := RX2) (T := TX2) (N := 15) F dX2_init_116 rfl (tb_of 182 (by decide +kernel) rfl) rfl rfl (by decide) rfl rfl rfl ?_
  refine n_iload_n (nx := 120) 1 F dX2_init_119 rfl rfl rfl ?_
  refine n_new (nx := 123) (ci := 9) (T := TX10) (N := 7) tyX10 [.null, .int 0, .null, .null, .null, .null, .int 0] F dX2_init_120 rfl (tb_of 129 (by decide +kernel) rfl) (tb_of 131 (by decide +kernel) rfl) (tb_of 82 (by decide +kernel) rfl) rfl tyX10_ok df_X10 (by decide) (by decide) (fun a_120 e_120 => ?_)
  obtain rfl : a_120 = a0 + 58 := e_120
  refine n_dup (nx := 124) F dX2_init_123 rfl rfl ?_
  refine n_callI (nx := 127) 0 1 5 208 [] F dX2_init_124 rfl (Or.inr (by decide)) mk_X10_init (tb_of 133 (by decide +kernel) rfl) rfl rfl rfl rfl rfl rfl (Nat.le_of_ble_eq_true rfl) (by decide) (by decide) (by decide) (c_X10_init) (fun tc => by show 0 < _; exact Nat.zero_lt_succ _) _ rfl ?_
  refine n_aast (nx := 128) (j := 3) (k := 58) F dX2_init_127 rfl rfl rfl rfl rfl (by exact vp_in_nI (n := 6) (by decide) (by decide)) ?_
  try dsimp only [List.set, List.cons_append, List.nil_append]
  refine n_iinc (nx := 131) (1) F dX2_init_128 rfl rfl (by decide) (by decide) ?_
  try dsimp only [List.set, List.cons_append, List.nil_append]
  refine n_lv [.ref a0, .int 7] rfl ?_
  refine n_goto 106 F dX2_init_131 (by decide) ?_
  refine n_iload_n (nx := 107) 1 F dX2_init_106 rfl rfl rfl ?_
  refine n_aload_n (nx := 108) 0 F dX2_init_107 rfl rfl rfl ?_
  refine n_get (nx := 111) (ci := 2) (k := 2) (j := 0) (C := RX2) (T := TX2) (N := 15) F dX2_init_108 rfl (tb_of 182 (by decide +kernel) rfl) rfl rfl (by decide) rfl rfl rfl ?_
  refine n_alen (nx := 112) (j := 3) (n := 10) (t0 := 2) F dX2_init_111 rfl rfl rfl rfl rfl ?_
  refine n_icmp_ge (nx := 115) 134 F dX2_init_112 rfl (by decide) (fun h => absurd h (by decide)) (fun _ => ?_)
  refine n_aload_n (nx := 116) 0 F dX2_init_115 rfl rfl rfl ?_
  refine n_get (nx := 119) (ci := 2) (k := 2) (j := 0) (C := RX2) (T := TX2) (N := 15) F dX2_init_116 rfl (tb_of 182 (by decide +kernel) rfl) rfl rfl (by decide) rfl rfl rfl ?_
  refine n_iload_n (nx := 120) 1 F dX2_init_119 rfl rfl rfl ?_
  refine n_new (nx := 123) (ci := 9) (T := TX10) (N := 7) tyX10 [.null, .int 0, .null, .null, .null, .null, .int 0] F dX2_init_120 rfl (tb_of 129 (by decide +kernel) rfl) (tb_of 131 (by decide +kernel) rfl) (tb_of 82 (by decide +kernel) rfl) rfl tyX10_ok df_X10 (by decide) (by decide) (fun a_120 e_120 => ?_)
  obtain rfl : a_120 = a0 + 64 := e_120
  refine n_dup (nx := 124) F dX2_init_123 rfl rfl ?_
  refine n_callI (nx := 127) 0 1 5 208 [] F dX2_init_124 rfl (Or.inr (by decide)) mk_X10_init (tb_of 133 (by decide +kernel) rfl) rfl rfl rfl rfl rfl rfl (Nat.le_of_ble_eq_true rfl) (by decide) (by decide) (by decide) (c_X10_init) (fun tc => by show 0 < _; exact Nat.zero_lt_succ _) _ rfl ?_
  refine n_aast (nx := 128) (j := 3) (k := 64) F dX2_init_127 rfl rfl rfl rfl rfl (by exact vp_in_nI (n := 7) (by decide) (by decide)) ?_
  try dsimp only [List.set, List.cons_append, List.nil_append]
  refine n_iinc (nx := 131) (1) F dX2_init_128 rfl rfl (by decide) (by decide) ?_
  try dsimp only [List.set, List.cons_append, List.nil_append]
  refine n_lv [.ref a0, .int 8] rfl ?_
  refine n_goto 106 F dX2_init_131 (by decide) ?_
  refine n_iload_n (nx := 107) 1 F dX2_init_106 rfl rfl rfl ?_
  refine n_aload_n (nx := 108) 0 F dX2_init_107 rfl rfl rfl ?_
  refine n_get (nx := 111) (ci := 2) (k := 2) (j := 0) (C := RX2) (T := TX2) (N := 15) F dX2_init_108 rfl (tb_of 182 (by decide +kernel) rfl) rfl rfl (by decide) rfl rfl rfl ?_
  refine n_alen (nx := 112) (j := 3) (n := 10) (t0 := 2) F dX2_init_111 rfl rfl rfl rfl rfl ?_
  refine n_icmp_ge (nx := 115) 134 F dX2_init_112 rfl (by decide) (fun h => absurd h (by decide)) (fun _ => ?_)
  refine n_aload_n (nx := 116) 0 F dX2_init_115 rfl rfl rfl ?_
  refine n_get (nx := 119) (ci := 2) (k := 2) (j := 0) (C := RX2) (T := TX2) (N := 15) F dX2_init_116 rfl (tb_of 182 (by decide +kernel) rfl) rfl rfl (by decide) rfl rfl rfl ?_
  refine n_iload_n (nx := 120) 1 F dX2_init_119 rfl rfl rfl ?_
  refine n_new (nx := 123) (ci := 9) (T := TX10) (N := 7) tyX10 [.null, .int 0, .null, .null, .null, .null, .int 0] F dX2_init_120 rfl (tb_of 129 (by decide +kernel) rfl) (tb_of 131 (by decide +kernel) rfl) (tb_of 82 (by decide +kernel) rfl) rfl tyX10_ok df_X10 (by decide) (by decide) (fun a_120 e_120 => ?_)
  obtain rfl : a_120 = a0 + 70 := e_120
  refine n_dup (nx := 124) F dX2_init_123 rfl rfl ?_
  refine n_callI (nx := 127) 0 1 5 208 [] F dX2_init_124 rfl (Or.inr (by decide)) mk_X10_init (tb_of 133 (by decide +kernel) rfl) rfl rfl rfl rfl rfl rfl (Nat.le_of_ble_eq_true rfl) (by decide) (by decide) (by decide) (c_X10_init) (fun tc => by show 0 < _; exact Nat.zero_lt_succ _) _ rfl ?_
  refine n_aast (nx := 128) (j := 3) (k := 70) F dX2_init_127 rfl rfl rfl rfl rfl (by exact vp_in_nI (n := 8) (by decide) (by decide)) ?_
  try dsimp only [List.set, List.cons_append, List.nil_append]
  refine n_iinc (nx := 131) (1) F dX2_init_128 rfl rfl (by decide) (by decide) ?_
  try dsimp only [List.set, List.cons_append, List.nil_append]
  refine n_lv [.ref a0, .int 9] rfl ?_
  refine n_goto 106 F dX2_init_131 (by decide) ?_
  refine n_iload_n (nx := 107) 1 F dX2_init_106 rfl rfl rfl ?_
  refine n_aload_n (nx := 108) 0 F dX2_init_107 rfl rfl rfl ?_
  refine n_get (nx := 111) (ci := 2) (k := 2) (j := 0) (C := RX2) (T := TX2) (N := 15) F dX2_init_108 rfl (tb_of 182 (by decide +kernel) rfl) rfl rfl (by decide) rfl rfl rfl ?_
  refine n_alen (nx := 112) (j := 3) (n := 10) (t0 := 2) F dX2_init_111 rfl rfl rfl rfl rfl ?_
  refine n_icmp_ge (nx := 115) 134 F dX2_init_112 rfl (by decide) (fun h => absurd h (by decide)) (fun _ => ?_)
  refine n_aload_n (nx := 116) 0 F dX2_init_115 rfl rfl rfl ?_
  refine n_get (nx := 119) (ci := 2) (k := 2) (j := 0) (C := RX2) (T := TX2) (N := 15) F dX2_init_116 rfl (tb_of 182 (by decide +kernel) rfl) rfl rfl (by decide) rfl rfl rfl ?_
  refine n_iload_n (nx := 120) 1 F dX2_init_119 rfl rfl rfl ?_
  refine n_new (nx := 123) (ci := 9) (T := TX10) (N := 7) tyX10 [.null, .int 0, .null, .null, .null, .null, .int 0] F dX2_init_120 rfl (tb_of 129 (by decide +kernel) rfl) (tb_of 131 (by decide +kernel) rfl) (tb_of 82 (by decide +kernel) rfl) rfl tyX10_ok df_X10 (by decide) (by decide) (fun a_120 e_120 => ?_)
  obtain rfl : a_120 = a0 + 76 := e_120
  refine n_dup (nx := 124) F dX2_init_123 rfl rfl ?_
  refine n_callI (nx := 127) 0 1 5 208 [] F dX2_init_124 rfl (Or.inr (by decide)) mk_X10_init (tb_of 133 (by decide +kernel) rfl) rfl rfl rfl rfl rfl rfl (Nat.le_of_ble_eq_true rfl) (by decide) (by decide) (by decide) (c_X10_init) (fun tc => by show 0 < _; exact Nat.zero_lt_succ _) _ rfl ?_
  refine n_aast (nx := 128) (j := 3) (k := 76) F dX2_init_127 rfl rfl rfl rfl rfl (by exact vp_in_nI (n := 9) (by decide) (by decide)) ?_
  try dsimp only [List.set, List.cons_append, List.nil_append]
  refine n_iinc (nx := 131) (1) F dX2_init_128 rfl rfl (by decide) (by decide) ?_
  try dsimp only [List.set, List.cons_append, List.nil_append]
  refine n_lv [.ref a0, .int 10] rfl ?_
  refine n_goto 106 F dX2_init_131 (by decide) ?_
  refine n_iload_n (nx := 107) 1 F dX2_init_106 rfl rfl rfl ?_
  refine n_aload_n (nx := 108) 0 F dX2_init_107 rfl rfl rfl ?_
  refine n_get (nx := 111) (ci := 2) (k := 2) (j := 0) (C := RX2) (T := TX2) (N := 15) F dX2_init_108 rfl (tb_of 182 (by decide +kernel) rfl) rfl rfl (by decide) rfl rfl rfl ?_
  refine n_alen (nx := 112) (j := 3) (n := 10) (t0 := 2) F dX2_init_111 rfl rfl rfl rfl rfl ?_
  refine n_icmp_ge (nx := 115) 134 F dX2_init_112 rfl (by decide) (fun _ => ?_) (fun h => absurd (by decide) h)
  exact n_vret F E dX2_init_134 rfl rfl rfl
