def L_X11 (tc : Nat → ClassId) (a0 : Nat) : List va_E := [.inr (10, [.ref (a0 + 1), .ref (a0 + 3), .ref (a0 + 85), .ref (a0 + 88), .ref (a0 + 95), .ref (a0 + 105), .ref (a0 + 115), .ref (a0 + 134), .ref (a0 + 137), .ref (a0 + 140)]), .inr (8, [.ref (a0 + 2), .int 0]), .inl (tc 12, 200, .inl (fun _ => 0)), .inr (2, [.ref (a0 + 4), .ref (a0 + 5), .ref (a0 + 6), .int 0, .ref (a0 + 7), .ref (a0 + 8), .int 0, .ref (a0 + 9), .ref (a0 + 10), .ref (a0 + 11), .ref (a0 + 12), .int 0, .ref (a0 + 13), .int 1, .ref (a0 + 19)]), .inl (tc 13, 10, .inl (fun _ => 0)), .inl (tc 13, 10, .inl (fun _ => 0)), .inl (tc 14, 10, .inr (.inr (.inr (.inr (va_up (va_up (va_up (va_up (va_up (va_up (va_up (va_up (va_up (va_up (fun _ => none) 0 (some (a0 + 25))) 1 (some (a0 + 31))) 2 (some (a0 + 37))) 3 (some (a0 + 43))) 4 (some (a0 + 49))) 5 (some (a0 + 55))) 6 (some (a0 + 61))) 7 (some (a0 + 67))) 8 (some (a0 + 73))) 9 (some (a0 + 79))))))), .inl (tc 13, 8, .inl (fun _ => 0)), .inl (tc 13, 8, .inl (fun _ => 0)), .inl (tc 13, 40, .inl (fun _ => 0)), .inl (tc 13, 40, .inl (fun _ => 0)), .inl (tc 13, 40, .inl (fun _ => 0)), .inl (tc 13, 40, .inl (fun _ => 0)), .inr (9, [.ref (a0 + 14), .int 0, .ref (a0 + 15), .ref (a0 + 16), .ref (a0 + 17), .ref (a0 + 18), .int 0]), .inl (tc 13, 160, .inl (fun _ => 0)), .inl (tc 13, 12, .inl (fun _ => 0)), .inl (tc 13, 12, .inl (fun _ => 0)), .inl (tc 13, 12, .inl (fun _ => 0)), .inl (tc 13, 12, .inl (fun _ => 0)), .inr (9, [.ref (a0 + 20), .int 0, .ref (a0 + 21), .ref (a0 + 22), .ref (a0 + 23), .ref (a0 + 24), .int 0]), .inl (tc 13, 160, .inl (fun _ => 0)), .inl (tc 13, 12, .inl (fun _ => 0)), .inl (tc 13, 12, .inl (fun _ => 0)), .inl (tc 13, 12, .inl (fun _ => 0)), .inl (tc 13, 12, .inl (fun _ => 0)), .inr (9, [.ref (a0 + 26), .int 0, .ref (a0 + 27), .ref (a0 + 28), .ref (a0 + 29), .ref (a0 + 30), .int 0]), .inl (tc 13, 160, .inl (fun _ => 0)), .inl (tc 13, 12, .inl (fun _ => 0)), .inl (tc 13, 12, .inl (fun _ => 0)), .inl (tc 13, 12, .inl (fun _ => 0)), .inl (tc 13, 12, .inl (fun _ => 0)), .inr (9, [.ref (a0 + 32), .int 0, .ref (a0 + 33), .ref (a0 + 34), .ref (a0 + 35), .ref (a0 + 36), .int 0]), .inl (tc 13, 160, .inl (fun _ => 0)), .inl (tc 13, 12, .inl (fun _ => 0)), .inl (tc 13, 12, .inl (fun _ => 0)), .inl (tc 13, 12, .inl (fun _ => 0)), .inl (tc 13, 12, .inl (fun _ => 0)), .inr (9, [.ref (a0 + 38), .int 0, .ref (a0 + 39), .ref (a0 + 40), .ref (a0 + 41), .ref (a0 + 42), .int 0]), .inl (tc 13, 160, .inl (fun _ => 0)), .inl (tc 13, 12, .inl (fun _ => 0)), .inl (tc 13, 12, .inl (fun _ => 0)), .inl (tc 13, 12, .inl (fun _ => 0)), .inl (tc 13, 12, .inl (fun _ => 0)), .inr (9, [.ref (a0 + 44), .int 0, .ref (a0 + 45), .ref (a0 + 46), .ref (a0 + 47), .ref (a0 + 48), .int 0]), .inl (tc 13, 160, .inl (fun _ => 0)), .inl (tc 13, 12, .inl (fun _ => 0)), .inl (tc 13, 12, .inl (fun _ => 0)), .inl (tc 13, 12, .inl (fun _ => 0)), .inl (tc 13, 12, .inl (fun _ => 0)), .inr (9, [.ref (a0 + 50), .int 0, .ref (a0 + 51), .ref (a0 + 52), .ref (a0 + 53), .ref (a0 + 54), .int 0]), .inl (tc 13, 160, .inl (fun _ => 0)), .inl (tc 13, 12, .inl (fun _ => 0)), .inl (tc 13, 12, .inl (fun _ => 0)), .inl (tc 13, 12, .inl (fun _ => 0)), .inl (tc 13, 12, .inl (fun _ => 0)), .inr (9, [.ref (a0 + 56), .int 0, .ref (a0 + 57), .ref (a0 + 58), .ref (a0 + 59), .ref (a0 + 60), .int 0]), .inl (tc 13, 160, .inl (fun _ => 0)), .inl (tc 13, 12, .inl (fun _ => 0)), .inl (tc 13, 12, .inl (fun _ => 0)), .inl (tc 13, 12, .inl (fun _ => 0)), .inl (tc 13, 12, .inl (fun _ => 0)), .inr (9, [.ref (a0 + 62), .int 0, .ref (a0 + 63), .ref (a0 + 64), .ref (a0 + 65), .ref (a0 + 66), .int 0]), .inl (tc 13, 160, .inl (fun _ => 0)), .inl (tc 13, 12, .inl (fun _ => 0)), .inl (tc 13, 12, .inl (fun _ => 0)), .inl (tc 13, 12, .inl (fun _ => 0)), .inl (tc 13, 12, .inl (fun _ => 0)), .inr (9, [.ref (a0 + 68), .int 0, .ref (a0 + 69), .ref (a0 + 70), .ref (a0 + 71), .ref (a0 + 72), .int 0]), .inl (tc 13, 160, .inl (fun _ => 0)), .inl (tc 13, 12, .inl (fun _ => 0)), .inl (tc 13, 12, .inl (fun _ => 0)), .inl (tc 13, 12, .inl (fun _ => 0)), .inl (tc 13, 12, .inl (fun _ => 0)), .inr (9, [.ref (a0 + 74), .int 0, .ref (a0 + 75), .ref (a0 + 76), .ref (a0 + 77), .ref (a0 + 78), .int 0]), .inl (tc 13, 160, .inl (fun _ => 0)), .inl (tc 13, 12, .inl (fun _ => 0)), .inl (tc 13, 12, .inl (fun _ => 0)), .inl (tc 13, 12, .inl (fun _ => 0)), .inl (tc 13, 12, .inl (fun _ => 0)), .inr (9, [.ref (a0 + 80), .int 0, .ref (a0 + 81), .ref (a0 + 82), .ref (a0 + 83), .ref (a0 + 84), .int 0]), .inl (tc 13, 160, .inl (fun _ => 0)), .inl (tc 13, 12, .inl (fun _ => 0)), .inl (tc 13, 12, .inl (fun _ => 0)), .inl (tc 13, 12, .inl (fun _ => 0)), .inl (tc 13, 12, .inl (fun _ => 0)), .inr (6, [.ref (a0 + 86), .ref (a0 + 87)]), .inl (tc 13, 12, .inl (fun _ => 0)), .inl (tc 13, 32, .inl (fun _ => 0)), .inr (4, [.ref (a0 + 1), .ref (a0 + 89), .int 0, .int 0, .int 0, .int 0, .int 0]), .inr (9, [.ref (a0 + 90), .int 0, .ref (a0 + 91), .ref (a0 + 92), .ref (a0 + 93), .ref (a0 + 94), .int 0]), .inl (tc 13, 160, .inl (fun _ => 0)), .inl (tc 13, 12, .inl (fun _ => 0)), .inl (tc 13, 12, .inl (fun _ => 0)), .inl (tc 13, 12, .inl (fun _ => 0)), .inl (tc 13, 12, .inl (fun _ => 0)), .inr (5, [.ref (a0 + 3), .ref (a0 + 85), .ref (a0 + 96), .ref (a0 + 97), .ref (a0 + 98), .ref (a0 + 99), .ref (a0 + 100), .ref (a0 + 101), .int 0, .ref (a0 + 102), .ref (a0 + 103), .ref (a0 + 104), .int 0, .int 1, .int 0, .int 0, .int 0, .int 0]), .inl (tc 13, 40, .inl (fun _ => 0)), .inl (tc 13, 40, .inl (fun _ => 0)), .inl (tc 13, 40, .inl (fun _ => 0)), .inl (tc 13, 40, .inl (fun _ => 0)), .inl (tc 13, 40, .inl (fun _ => 0)), .inl (tc 13, 40, .inl (fun _ => 0)), .inl (tc 13, 10, .inl (fun _ => 0)), .inl (tc 13, 10, .inl (fun _ => 0)), .inl (tc 13, 9, .inl (fun _ => 0)), .inr (5, [.ref (a0 + 3), .ref (a0 + 85), .ref (a0 + 106), .ref (a0 + 107), .ref (a0 + 108), .ref (a0 + 109), .ref (a0 + 110), .ref (a0 + 111), .int 0, .ref (a0 + 112), .ref (a0 + 113), .ref (a0 + 114), .int 0, .int 1, .int 0, .int 0, .int 0, .int 0]), .inl (tc 13, 40, .inl (fun _ => 0)), .inl (tc 13, 40, .inl (fun _ => 0)), .inl (tc 13, 40, .inl (fun _ => 0)), .inl (tc 13, 40, .inl (fun _ => 0)), .inl (tc 13, 40, .inl (fun _ => 0)), .inl (tc 13, 40, .inl (fun _ => 0)), .inl (tc 13, 10, .inl (fun _ => 0)), .inl (tc 13, 10, .inl (fun _ => 0)), .inl (tc 13, 9, .inl (fun _ => 0)), .inr (7, [.ref (a0 + 3), .ref (a0 + 85), .ref (a0 + 116), .int 0, .ref (a0 + 122), .ref (a0 + 133), .int (-1)]), .inr (9, [.ref (a0 + 117), .int 0, .ref (a0 + 118), .ref (a0 + 119), .ref (a0 + 120), .ref (a0 + 121), .int 0]), .inl (tc 13, 160, .inl (fun _ => 0)), .inl (tc 13, 12, .inl (fun _ => 0)), .inl (tc 13, 12, .inl (fun _ => 0)), .inl (tc 13, 12, .inl (fun _ => 0)), .inl (tc 13, 12, .inl (fun _ => 0)), .inl (tc 15, 10, .inr (.inr (.inr (.inr (fun i => some (a0 + 122 + 1 + i)))))), .inl (tc 13, 10, .inl (fun _ => 0)), .inl (tc 13, 10, .inl (fun _ => 0)), .inl (tc 13, 10, .inl (fun _ => 0)), .inl (tc 13, 10, .inl (fun _ => 0)), .inl (tc 13, 10, .inl (fun _ => 0)), .inl (tc 13, 10, .inl (fun _ => 0)), .inl (tc 13, 10, .inl (fun _ => 0)), .inl (tc 13, 10, .inl (fun _ => 0)), .inl (tc 13, 10, .inl (fun _ => 0)), .inl (tc 13, 10, .inl (fun _ => 0)), .inl (tc 13, 1024, .inl (fun _ => 0)), .inr (1, [.ref (a0 + 135), .int 0, .ref (a0 + 136)]), .inl (tc 13, 20, .inl (fun _ => 0)), .inl (tc 13, 11, .inl (fun _ => 0)), .inr (3, [.ref (a0 + 138), .ref (a0 + 139), .int 0]), .inl (tc 13, 60, .inl (fun _ => 0)), .inl (tc 13, 60, .inl (fun _ => 0)), .inr (0, [.ref (a0 + 141), .ref (a0 + 142), .ref (a0 + 143), .int 0, .ref (a0 + 144), .ref (a0 + 145), .int 0]), .inl (tc 13, 8, .inl (fun _ => 0)), .inl (tc 13, 8, .inl (fun _ => 0)), .inl (tc 13, 8, .inl (fun _ => 0)), .inl (tc 13, 10, .inl (fun _ => 0)), .inl (tc 13, 10, .inl (upd (upd (upd (upd (upd (upd (upd (upd (upd (upd (fun _ => 0) 0 10000) 1 10000) 2 10000) 3 10000) 4 10000) 5 10000) 6 10000) 7 10000) 8 10000) 9 10000))]
set_option maxHeartbeats 4000000 in
set_option maxRecDepth 100000 in
theorem c_X11_init : Cn mX11_init 3 145 5409 (fun a0 => [.ref a0]) (fun _ _ => [.inr (10, [.null, .null, .null, .null, .null, .null, .null, .null, .null, .null])]) (L_X11) := by
  refine Cn.of (lv := fun a0 => [.ref a0]) mk_X11_init rfl (fun _ => rfl) (fun _ => Nat.le_of_ble_eq_true rfl) (fun _ => rfl) (fun p l e R s m args below meth c Q D tc a0 hname F E => ?_)
  have hname : meth.name = "<init>" := hname
  refine n_aload_n (nx := 1) 0 F dX11_init_0 rfl rfl rfl ?_
  refine n_objInit (nx := 4) F dX11_init_1 rfl (tb_of 105 (by decide +kernel) rfl) (by decide) (Nat.le_of_ble_eq_true rfl) ?_
  refine n_aload_n (nx := 5) 0 F dX11_init_4 rfl rfl rfl ?_
  refine n_new (nx := 8) (ci := 8) (T := TX9) (N := 2) tyX9 [.null, .int 0] F dX11_init_5 rfl (tb_of 108 (by decide +kernel) rfl) (tb_of 109 (by decide +kernel) rfl) (tb_of 80 (by decide +kernel) rfl) rfl tyX9_ok df_X9 (by decide) (by decide) (fun a_5 e_5 => ?_)
  obtain rfl : a_5 = a0 + 1 := e_5
  refine n_dup (nx := 9) F dX11_init_8 rfl rfl ?_
  refine n_callI (nx := 12) 0 1 1 200 [] F dX11_init_9 rfl (Or.inr (by decide)) mk_X9_init (tb_of 111 (by decide +kernel) rfl) rfl rfl rfl rfl rfl rfl (Nat.le_of_ble_eq_true rfl) (by decide) (by decide) (by decide) (c_X9_init) (fun tc => by show 0 < _; exact Nat.zero_lt_succ _) _ rfl ?_
  refine n_put (nx := 15) (ci := 10) (k := 0) (j := 0) (C := RX11) (T := TX11) (N := 10) (fty := tyX11 0) tyX11 F (fun _ => hname) dX11_init_12 rfl (tb_of 467 (by decide +kernel) rfl) rfl rfl rfl (by decide) tyX11_ok nmX11 (tyX11_ok 0 (by decide)) rfl rfl (Nat.le_of_ble_eq_true rfl) rfl rfl ?_
  try dsimp only [List.set, List.cons_append, List.nil_append]
  refine n_aload_n (nx := 16) 0 F dX11_init_15 rfl rfl rfl ?_
  refine n_new (nx := 19) (ci := 2) (T := TX2) (N := 15) tyX2 [.null, .null, .null, .int 0, .null, .null, .int 0, .null, .null, .null, .null, .int 0, .null, .int 0, .null] F dX11_init_16 rfl (tb_of 123 (by decide +kernel) rfl) (tb_of 124 (by decide +kernel) rfl) (tb_of 81 (by decide +kernel) rfl) rfl tyX2_ok df_X2 (by decide) (by decide) (fun a_16 e_16 => ?_)
  obtain rfl : a_16 = a0 + 3 := e_16
  refine n_dup (nx := 20) F dX11_init_19 rfl rfl ?_
  refine n_callI (nx := 23) 0 2 81 2786 [] F dX11_init_20 rfl (Or.inl (tb_of 125 (by decide +kernel) rfl)) mk_X2_init (tb_of 126 (by decide +kernel) rfl) rfl rfl rfl rfl rfl rfl (Nat.le_of_ble_eq_true rfl) (by decide) (by decide) (by decide) (c_X2_init) (fun tc => by show 0 < _; exact Nat.zero_lt_succ _) _ rfl ?_
  refine n_put (nx := 26) (ci := 10) (k := 1) (j := 0) (C := RX11) (T := TX11) (N := 10) (fty := tyX11 1) tyX11 F (fun _ => hname) dX11_init_23 rfl (tb_of 468 (by decide +kernel) rfl) rfl rfl rfl (by decide) tyX11_ok nmX11 (tyX11_ok 1 (by decide)) rfl rfl (Nat.le_of_ble_eq_true rfl) rfl rfl ?_
  try dsimp only [List.set, List.cons_append, List.nil_append]
  refine n_aload_n (nx := 27) 0 F dX11_init_26 rfl rfl rfl ?_
  refine n_new (nx := 30) (ci := 6) (T := TX7) (N := 2) tyX7 [.null, .null] F dX11_init_27 rfl (tb_of 245 (by decide +kernel) rfl) (tb_of 246 (by decide +kernel) rfl) (tb_of 83 (by decide +kernel) rfl) rfl tyX7_ok df_X7 (by decide) (by decide) (fun a_27 e_27 => ?_)
  obtain rfl : a_27 = a0 + 85 := e_27
  refine n_dup (nx := 31) F dX11_init_30 rfl rfl ?_
  refine n_callI (nx := 34) 0 1 2 44 [] F dX11_init_31 rfl (Or.inr (by decide)) mk_X7_init (tb_of 248 (by decide +kernel) rfl) rfl rfl rfl rfl rfl rfl (Nat.le_of_ble_eq_true rfl) (by decide) (by decide) (by decide) (c_X7_init) (fun tc => by show 0 < _; exact Nat.zero_lt_succ _) _ rfl ?_
  refine n_put (nx := 37) (ci := 10) (k := 2) (j := 0) (C := RX11) (T := TX11) (N := 10) (fty := tyX11 2) tyX11 F (fun _ => hname) dX11_init_34 rfl (tb_of 469 (by decide +kernel) rfl) rfl rfl rfl (by decide) tyX11_ok nmX11 (tyX11_ok 2 (by decide)) rfl rfl (Nat.le_of_ble_eq_true rfl) rfl rfl ?_
  try dsimp only [List.set, List.cons_append, List.nil_append]
  refine n_aload_n (nx := 38) 0 F dX11_init_37 rfl rfl rfl ?_
  refine n_new (nx := 41) (ci := 4) (T := TX5) (N := 7) tyX5 [.null, .null, .int 0, .int 0, .int 0, .int 0, .int 0] F dX11_init_38 rfl (tb_of 260 (by decide +kernel) rfl) (tb_of 261 (by decide +kernel) rfl) (tb_of 84 (by decide +kernel) rfl) rfl tyX5_ok df_X5 (by decide) (by decide) (fun a_38 e_38 => ?_)
  obtain rfl : a_38 = a0 + 88 := e_38
  refine n_dup (nx := 42) F dX11_init_41 rfl rfl ?_
  refine n_aload_n (nx := 43) 0 F dX11_init_42 rfl rfl rfl ?_
  refine n_get (nx := 46) (ci := 10) (k := 0) (j := 0) (C := RX11) (T := TX11) (N := 10) F dX11_init_43 rfl (tb_of 467 (by decide +kernel) rfl) rfl rfl (by decide) rfl rfl rfl ?_
  refine n_callI (nx := 49) 1 2 6 215 [.ref (a0 + 1)] F dX11_init_46 rfl (Or.inl (tb_of 262 (by decide +kernel) rfl)) mk_X5_init (tb_of 263 (by decide +kernel) rfl) rfl rfl rfl rfl rfl rfl (Nat.le_of_ble_eq_true rfl) (by decide) (by decide) (by decide) (c_X5_init (a0 + 1)) (fun tc => by show 0 < _; exact Nat.zero_lt_succ _) _ rfl ?_
  refine n_put (nx := 52) (ci := 10) (k := 3) (j := 0) (C := RX11) (T := TX11) (N := 10) (fty := tyX11 3) tyX11 F (fun _ => hname) dX11_init_49 rfl (tb_of 470 (by decide +kernel) rfl) rfl rfl rfl (by decide) tyX11_ok nmX11 (tyX11_ok 3 (by decide)) rfl rfl (Nat.le_of_ble_eq_true rfl) rfl rfl ?_
  try dsimp only [List.set, List.cons_append, List.nil_append]
  refine n_aload_n (nx := 53) 0 F dX11_init_52 rfl rfl rfl ?_
  refine n_new (nx := 56) (ci := 5) (T := TX6) (N := 18) tyX6 [.null, .null, .null, .null, .null, .null, .null, .null, .int 0, .null, .null, .null, .int 0, .int 0, .int 0, .int 0, .int 0, .int 0] F dX11_init_53 rfl (tb_of 290 (by decide +kernel) rfl) (tb_of 291 (by decide +kernel) rfl) (tb_of 85 (by decide +kernel) rfl) rfl tyX6_ok df_X6 (by decide) (by decide) (fun a_53 e_53 => ?_)
  obtain rfl : a_53 = a0 + 95 := e_53
  refine n_dup (nx := 57) F dX11_init_56 rfl rfl ?_
  refine n_aload_n (nx := 58) 0 F dX11_init_57 rfl rfl rfl ?_
  refine n_get (nx := 61) (ci := 10) (k := 1) (j := 0) (C := RX11) (T := TX11) (N := 10) F dX11_init_58 rfl (tb_of 468 (by decide +kernel) rfl) rfl rfl (by decide) rfl rfl rfl ?_
  refine n_aload_n (nx := 62) 0 F dX11_init_61 rfl rfl rfl ?_
  refine n_get (nx := 65) (ci := 10) (k := 2) (j := 0) (C := RX11) (T := TX11) (N := 10) F dX11_init_62 rfl (tb_of 469 (by decide +kernel) rfl) rfl rfl (by decide) rfl rfl rfl ?_
  refine n_callI (nx := 68) 2 1 9 269 [.ref (a0 + 3), .ref (a0 + 85)] F dX11_init_65 rfl (Or.inl (tb_of 292 (by decide +kernel) rfl)) mk_X6_init (tb_of 293 (by decide +kernel) rfl) rfl rfl rfl rfl rfl rfl (Nat.le_of_ble_eq_true rfl) (by decide) (by decide) (by decide) (c_X6_init (a0 + 3) (a0 + 85)) (fun tc => by show 0 < _; exact Nat.zero_lt_succ _) _ rfl ?_
  refine n_put (nx := 71) (ci := 10) (k := 4) (j := 0) (C := RX11) (T := TX11) (N := 10) (fty := tyX11 4) tyX11 F (fun _ => hname) dX11_init_68 rfl (tb_of 471 (by decide +kernel) rfl) rfl rfl rfl (by decide) tyX11_ok nmX11 (tyX11_ok 4 (by decide)) rfl rfl (Nat.le_of_ble_eq_true rfl) rfl rfl ?_
  try dsimp only [List.set, List.cons_append, List.nil_append]
  refine n_aload_n (nx := 72) 0 F dX11_init_71 rfl rfl rfl ?_
  refine n_new (nx := 75) (ci := 5) (T := TX6) (N := 18) tyX6 [.null, .null, .null, .null, .null, .null, .null, .null, .int 0, .null, .null, .null, .int 0, .int 0, .int 0, .int 0, .int 0, .int 0] F dX11_init_72 rfl (tb_of 290 (by decide +kernel) rfl) (tb_of 291 (by decide +kernel) rfl) (tb_of 85 (by decide +kernel) rfl) rfl tyX6_ok df_X6 (by decide) (by decide) (fun a_72 e_72 => ?_)
  obtain rfl : a_72 = a0 + 105 := e_72
  refine n_dup (nx := 76) F dX11_init_75 rfl rfl ?_
  refine n_aload_n (nx := 77) 0 F dX11_init_76 rfl rfl rfl ?_
  refine n_get (nx := 80) (ci := 10) (k := 1) (j := 0) (C := RX11) (T := TX11) (N := 10) F dX11_init_77 rfl (tb_of 468 (by decide +kernel) rfl) rfl rfl (by decide) rfl rfl rfl ?_
  refine n_aload_n (nx := 81) 0 F dX11_init_80 rfl rfl rfl ?_
  refine n_get (nx := 84) (ci := 10) (k := 2) (j := 0) (C := RX11) (T := TX11) (N := 10) F dX11_init_81 rfl (tb_of 469 (by decide +kernel) rfl) rfl rfl (by decide) rfl rfl rfl ?_
  refine n_callI (nx := 87) 2 1 9 269 [.ref (a0 + 3), .ref (a0 + 85)] F dX11_init_84 rfl (Or.inl (tb_of 292 (by decide +kernel) rfl)) mk_X6_init (tb_of 293 (by decide +kernel) rfl) rfl rfl rfl rfl rfl rfl (Nat.le_of_ble_eq_true rfl) (by decide) (by decide) (by decide) (c_X6_init (a0 + 3) (a0 + 85)) (fun tc => by show 0 < _; exact Nat.zero_lt_succ _) _ rfl ?_
  refine n_put (nx := 90) (ci := 10) (k := 5) (j := 0) (C := RX11) (T := TX11) (N := 10) (fty := tyX11 5) tyX11 F (fun _ => hname) dX11_init_87 rfl (tb_of 472 (by decide +kernel) rfl) rfl rfl rfl (by decide) tyX11_ok nmX11 (tyX11_ok 5 (by decide)) rfl rfl (Nat.le_of_ble_eq_true rfl) rfl rfl ?_
  try dsimp only [List.set, List.cons_append, List.nil_append]
  refine n_aload_n (nx := 91) 0 F dX11_init_90 rfl rfl rfl ?_
  refine n_new (nx := 94) (ci := 7) (T := TX8) (N := 7) tyX8 [.null, .null, .null, .int 0, .null, .null, .int 0] F dX11_init_91 rfl (tb_of 364 (by decide +kernel) rfl) (tb_of 365 (by decide +kernel) rfl) (tb_of 86 (by decide +kernel) rfl) rfl tyX8_ok df_X8 (by decide) (by decide) (fun a_91 e_91 => ?_)
  obtain rfl : a_91 = a0 + 115 := e_91
  refine n_dup (nx := 95) F dX11_init_94 rfl rfl ?_
  refine n_aload_n (nx := 96) 0 F dX11_init_95 rfl rfl rfl ?_
  refine n_get (nx := 99) (ci := 10) (k := 1) (j := 0) (C := RX11) (T := TX11) (N := 10) F dX11_init_96 rfl (tb_of 468 (by decide +kernel) rfl) rfl rfl (by decide) rfl rfl rfl ?_
  refine n_aload_n (nx := 100) 0 F dX11_init_99 rfl rfl rfl ?_
  refine n_get (nx := 103) (ci := 10) (k := 2) (j := 0) (C := RX11) (T := TX11) (N := 10) F dX11_init_100 rfl (tb_of 469 (by decide +kernel) rfl) rfl rfl (by decide) rfl rfl rfl ?_
  refine n_callI (nx := 106) 2 2 18 1349 [.ref (a0 + 3), .ref (a0 + 85)] F dX11_init_103 rfl (Or.inl (tb_of 366 (by decide +kernel) rfl)) mk_X8_init (tb_of 367 (by decide +kernel) rfl) rfl rfl rfl rfl rfl rfl (Nat.le_of_ble_eq_true rfl) (by decide) (by decide) (by decide) (c_X8_init (a0 + 3) (a0 + 85)) (fun tc => by show 0 < _; exact Nat.zero_lt_succ _) _ rfl ?_
  refine n_put (nx := 109) (ci := 10) (k := 6) (j := 0) (C := RX11) (T := TX11) (N := 10) (fty := tyX11 6) tyX11 F (fun _ => hname) dX11_init_106 rfl (tb_of 473 (by decide +kernel) rfl) rfl rfl rfl (by decide) tyX11_ok nmX11 (tyX11_ok 6 (by decide)) rfl rfl (Nat.le_of_ble_eq_true rfl) rfl rfl ?_
  try dsimp only [List.set, List.cons_append, List.nil_append]
  refine n_aload_n (nx := 110) 0 F dX11_init_109 rfl rfl rfl ?_
  refine n_new (nx := 113) (ci := 1) (T := TX1) (N := 3) tyX1 [.null, .int 0, .null] F dX11_init_110 rfl (tb_of 398 (by decide +kernel) rfl) (tb_of 399 (by decide +kernel) rfl) (tb_of 87 (by decide +kernel) rfl) rfl tyX1_ok df_X1 (by decide) (by decide) (fun a_110 e_110 => ?_)
  obtain rfl : a_110 = a0 + 134 := e_110
  refine n_dup (nx := 114) F dX11_init_113 rfl rfl ?_
  refine n_callI (nx := 117) 0 1 2 31 [] F dX11_init_114 rfl (Or.inr (by decide)) mk_X1_init (tb_of 401 (by decide +kernel) rfl) rfl rfl rfl rfl rfl rfl (Nat.le_of_ble_eq_true rfl) (by decide) (by decide) (by decide) (c_X1_init) (fun tc => by show 0 < _; exact Nat.zero_lt_succ _) _ rfl ?_
  refine n_put (nx := 120) (ci := 10) (k := 7) (j := 0) (C := RX11) (T := TX11) (N := 10) (fty := tyX11 7) tyX11 F (fun _ => hname) dX11_init_117 rfl (tb_of 474 (by decide +kernel) rfl) rfl rfl rfl (by decide) tyX11_ok nmX11 (tyX11_ok 7 (by decide)) rfl rfl (Nat.le_of_ble_eq_true rfl) rfl rfl ?_
  try dsimp only [List.set, List.cons_append, List.nil_append]
  refine n_aload_n (nx := 121) 0 F dX11_init_120 rfl rfl rfl ?_
  refine n_new (nx := 124) (ci := 3) (T := TX4) (N := 3) tyX4 [.null, .null, .int 0] F dX11_init_121 rfl (tb_of 415 (by decide +kernel) rfl) (tb_of 416 (by decide +kernel) rfl) (tb_of 88 (by decide +kernel) rfl) rfl tyX4_ok df_X4 (by decide) (by decide) (fun a_121 e_121 => ?_)
  obtain rfl : a_121 = a0 + 137 := e_121
  refine n_dup (nx := 125) F dX11_init_124 rfl rfl ?_
  refine n_callI (nx := 128) 0 1 2 120 [] F dX11_init_125 rfl (Or.inr (by decide)) mk_X4_init (tb_of 418 (by decide +kernel) rfl) rfl rfl rfl rfl rfl rfl (Nat.le_of_ble_eq_true rfl) (by decide) (by decide) (by decide) (c_X4_init) (fun tc => by show 0 < _; exact Nat.zero_lt_succ _) _ rfl ?_
  refine n_put (nx := 131) (ci := 10) (k := 8) (j := 0) (C := RX11) (T := TX11) (N := 10) (fty := tyX11 8) tyX11 F (fun _ => hname) dX11_init_128 rfl (tb_of 475 (by decide +kernel) rfl) rfl rfl rfl (by decide) tyX11_ok nmX11 (tyX11_ok 8 (by decide)) rfl rfl (Nat.le_of_ble_eq_true rfl) rfl rfl ?_
  try dsimp only [List.set, List.cons_append, List.nil_append]
  refine n_aload_n (nx := 132) 0 F dX11_init_131 rfl rfl rfl ?_
  refine n_new (nx := 135) (ci := 0) (T := TX0) (N := 7) tyX0 [.null, .null, .null, .int 0, .null, .null, .int 0] F dX11_init_132 rfl (tb_of 432 (by decide +kernel) rfl) (tb_of 433 (by decide +kernel) rfl) (tb_of 89 (by decide +kernel) rfl) rfl tyX0_ok df_X0 (by decide) (by decide) (fun a_132 e_132 => ?_)
  obtain rfl : a_132 = a0 + 140 := e_132
  refine n_dup (nx := 136) F dX11_init_135 rfl rfl ?_
  refine n_callI (nx := 139) 0 1 5 44 [] F dX11_init_136 rfl (Or.inl (tb_of 434 (by decide +kernel) rfl)) mk_X0_init (tb_of 435 (by decide +kernel) rfl) rfl rfl rfl rfl rfl rfl (Nat.le_of_ble_eq_true rfl) (by decide) (by decide) (by decide) (c_X0_init) (fun tc => by show 0 < _; exact Nat.zero_lt_succ _) _ rfl ?_
  refine n_put (nx := 142) (ci := 10) (k := 9) (j := 0) (C := RX11) (T := TX11) (N := 10) (fty := tyX11 9) tyX11 F (fun _ => hname) dX11_init_139 rfl (tb_of 476 (by decide +kernel) rfl) rfl rfl rfl (by decide) tyX11_ok nmX11 (tyX11_ok 9 (by decide)) rfl rfl (Nat.le_of_ble_eq_true rfl) rfl rfl ?_
  try dsimp only [List.set, List.cons_append, List.nil_append]
  exact n_vret F E dX11_init_142 rfl rfl rfl
def L_X12 (tc : Nat → ClassId) (a0 : Nat) : List va_E := [.inr (11, [.int 0, .int 0, .int 0, .int 0, .int 1, .int 1, .int 0, .ref (a0 + 1), .ref (a0 + 2), .ref (a0 + 3), .ref (a0 + 4), .ref (a0 + 5), .ref (a0 + 6), .ref (a0 + 7), .ref (a0 + 8), .ref (a0 + 9), .ref (a0 + 10), .ref (a0 + 11), .ref (a0 + 12), .ref (a0 + 13), .ref (a0 + 14), .ref (a0 + 15), .ref (a0 + 16), .ref (a0 + 17), .int 0, .int 0, .int 0, .int 0, .int 0, .int 0, .int 0, .int 0, .int 0, .ref (a0 + 18), .ref (a0 + 19), .ref (a0 + 20), .ref (a0 + 21), .ref (a0 + 22), .ref (a0 + 23), .ref (a0 + 24), .ref (a0 + 25), .ref (a0 + 26), .ref (a0 + 27), .ref (a0 + 28), .ref (a0 + 29), .ref (a0 + 30), .ref (a0 + 31), .int 0, .int 0, .int 0, .int 0, .int 0, .int 0, .int 0, .ref (a0 + 32), .ref (a0 + 33), .ref (a0 + 34), .ref (a0 + 35), .ref (a0 + 36), .ref (a0 + 37), .ref (a0 + 38), .ref (a0 + 39), .ref (a0 + 40), .ref (a0 + 41), .ref (a0 + 42), .ref (a0 + 43), .ref (a0 + 44), .ref (a0 + 45), .ref (a0 + 46), .ref (a0 + 47), .ref (a0 + 48), .ref (a0 + 49)]), .inl (tc 13, 10, .inl (fun _ => 0)), .inl (tc 13, 10, .inl (fun _ => 0)), .inl (tc 13, 10, .inl (fun _ => 0)), .inl (tc 13, 10, .inl (fun _ => 0)), .inl (tc 13, 8, .inl (fun _ => 0)), .inl (tc 13, 8, .inl (fun _ => 0)), .inl (tc 13, 40, .inl (fun _ => 0)), .inl (tc 13, 40, .inl (fun _ => 0)), .inl (tc 13, 40, .inl (fun _ => 0)), .inl (tc 13, 40, .inl (fun _ => 0)), .inl (tc 13, 40, .inl (fun _ => 0)), .inl (tc 13, 40, .inl (fun _ => 0)), .inl (tc 13, 40, .inl (fun _ => 0)), .inl (tc 13, 40, .inl (fun _ => 0)), .inl (tc 13, 40, .inl (fun _ => 0)), .inl (tc 13, 40, .inl (fun _ => 0)), .inl (tc 12, 200, .inl (fun _ => 0)), .inl (tc 13, 180, .inl (fun _ => 0)), .inl (tc 13, 180, .inl (fun _ => 0)), .inl (tc 13, 12, .inl (fun _ => 0)), .inl (tc 13, 12, .inl (fun _ => 0)), .inl (tc 13, 12, .inl (fun _ => 0)), .inl (tc 13, 12, .inl (fun _ => 0)), .inl (tc 13, 2160, .inl (fun _ => 0)), .inl (tc 13, 12, .inl (fun _ => 0)), .inl (tc 13, 144, .inl (fun _ => 0)), .inl (tc 13, 144, .inl (fun _ => 0)), .inl (tc 13, 144, .inl (fun _ => 0)), .inl (tc 13, 144, .inl (fun _ => 0)), .inl (tc 13, 180, .inl (fun _ => 0)), .inl (tc 13, 12, .inl (fun _ => 0)), .inl (tc 13, 20, .inl (fun _ => 0)), .inl (tc 13, 60, .inl (fun _ => 0)), .inl (tc 13, 60, .inl (fun _ => 0)), .inl (tc 13, 8, .inl (fun _ => 0)), .inl (tc 13, 8, .inl (fun _ => 0)), .inl (tc 13, 8, .inl (fun _ => 0)), .inl (tc 13, 8, .inl (fun _ => 0)), .inl (tc 13, 11, .inl (fun _ => 0)), .inl (tc 13, 10, .inl (fun _ => 0)), .inl (tc 13, 10, .inl (fun _ => 0)), .inl (tc 13, 40, .inl (fun _ => 0)), .inl (tc 13, 40, .inl (fun _ => 0)), .inl (tc 13, 40, .inl (fun _ => 0)), .inl (tc 13, 40, .inl (fun _ => 0)), .inl (tc 13, 40, .inl (fun _ => 0)), .inl (tc 13, 40, .inl (fun _ => 0)), .inl (tc 13, 10, .inl (fun _ => 0)), .inl (tc 13, 10, .inl (fun _ => 0))]
set_option maxHeartbeats 4000000 in
set_option maxRecDepth 100000 in
theorem c_X12_init : Cn mX12_init 1 49 4467 (fun a0 => [.ref a0]) (fun _ _ => [.inr (11, [.int 0, .int 0, .int 0, .int 0, .int 0, .int 0, .int 0, .null, .null, .null, .null, .null, .null, .null, .null, .null, .null, .null, .null, .null, .null, .null, .null, .null, .int 0, .int 0, .int 0, .int 0, .int 0, .int 0, .int 0, .int 0, .int 0, .null, .null, .null, .null, .null, .null, .null, .null, .null, .null, .null, .null, .null, .null, .int 0, .int 0, .int 0, .int 0, .int 0, .int 0, .int 0, .null, .null, .null, .null, .null, .null, .null, .null, .null, .null, .null, .null, .null, .null, .null, .null, .null, .null])]) (L_X12) := by
  refine Cn.of (lv := fun a0 => [.ref a0]) mk_X12_init rfl (fun _ => rfl) (fun _ => Nat.le_of_ble_eq_true rfl) (fun _ => rfl) (fun p l e R s m args below meth c Q D tc a0 hname F E => ?_)
  have hname : meth.name = "<init>" := hname
  refine n_aload_n (nx := 1) 0 F dX12_init_0 rfl rfl rfl ?_
  refine n_objInit (nx := 4) F dX12_init_1 rfl (tb_of 1100 (by decide +kernel) rfl) (by decide) (Nat.le_of_ble_eq_true rfl) ?_
  refine n_aload_n (nx := 5) 0 F dX12_init_4 rfl rfl rfl ?_
  refine n_bipush (nx := 7) (10) F dX12_init_5 rfl (by decide) ?_
  refine n_newa (nx := 9) 10 13 F dX12_init_7 rfl rfl (tb_of 173 (by decide +kernel) rfl) (Or.inr ⟨rfl, rfl⟩) (by decide) rfl (by decide) (by decide) (by decide) (fun a_7 e_7 => ?_)
  obtain rfl : a_7 = a0 + 1 := e_7
  try dsimp only [List.set, List.cons_append, List.nil_append]
  refine n_put (nx := 12) (ci := 11) (k := 7) (j := 0) (C := RX12) (T := TX12) (N := 72) (fty := tyX12 7) tyX12 F (fun _ => hname) dX12_init_9 rfl (tb_of 1108 (by decide +kernel) rfl) rfl rfl rfl (by decide) tyX12_ok nmX12 (tyX12_ok 7 (by decide)) rfl rfl (Nat.le_of_ble_eq_true rfl) rfl rfl ?_
  try dsimp only [List.set, List.cons_append, List.nil_append]
  refine n_aload_n (nx := 13) 0 F dX12_init_12 rfl rfl rfl ?_
  refine n_bipush (nx := 15) (10) F dX12_init_13 rfl (by decide) ?_
  refine n_newa (nx := 17) 10 13 F dX12_init_15 rfl rfl (tb_of 173 (by decide +kernel) rfl) (Or.inr ⟨rfl, rfl⟩) (by decide) rfl (by decide) (by decide) (by decide) (fun a_15 e_15 => ?_)
  obtain rfl : a_15 = a0 + 2 := e_15
  try dsimp only [List.set, List.cons_append, List.nil_append]
  refine n_put (nx := 20) (ci := 11) (k := 8) (j := 0) (C := RX12) (T := TX12) (N := 72) (fty := tyX12 8) tyX12 F (fun _ => hname) dX12_init_17 rfl (tb_of 1109 (by decide +kernel) rfl) rfl rfl rfl (by decide) tyX12_ok nmX12 (tyX12_ok 8 (by decide)) rfl rfl (Nat.le_of_ble_eq_true rfl) rfl rfl ?_
  try dsimp only [List.set, List.cons_append, List.nil_append]
  refine n_aload_n (nx := 21) 0 F dX12_init_20 rfl rfl rfl ?_
  refine n_bipush (nx := 23) (10) F dX12_init_21 rfl (by decide) ?_
  refine n_newa (nx := 25) 10 13 F dX12_init_23 rfl rfl (tb_of 173 (by decide +kernel) rfl) (Or.inr ⟨rfl, rfl⟩) (by decide) rfl (by decide) (by decide) (by decide) (fun a_23 e_23 => ?_)
  obtain rfl : a_23 = a0 + 3 := e_23
  try dsimp only [List.set, List.cons_append, List.nil_append]
  refine n_put (nx := 28) (ci := 11) (k := 9) (j := 0) (C := RX12) (T := TX12) (N := 72) (fty := tyX12 9) tyX12 F (fun _ => hname) dX12_init_25 rfl (tb_of 1110 (by decide +kernel) rfl) rfl rfl rfl (by decide) tyX12_ok nmX12 (tyX12_ok 9 (by decide)) rfl rfl (Nat.le_of_ble_eq_true rfl) rfl rfl ?_
  try dsimp only [List.set, List.cons_append, List.nil_append]
  refine n_aload_n (nx := 29) 0 F dX12_init_28 rfl rfl rfl ?_
  refine n_bipush (nx := 31) (10) F dX12_init_29 rfl (by decide) ?_
  refine n_newa (nx := 33) 10 13 F dX12_init_31 rfl rfl (tb_of 173 (by decide +kernel) rfl) (Or.inr ⟨rfl, rfl⟩) (by decide) rfl (by decide) (by decide) (by decide) (fun a_31 e_31 => ?_)
  obtain rfl : a_31 = a0 + 4 := e_31
  try dsimp only [List.set, List.cons_append, List.nil_append]
  refine n_put (nx := 36) (ci := 11) (k := 10) (j := 0) (C := RX12) (T := TX12) (N := 72) (fty := tyX12 10) tyX12 F (fun _ => hname) dX12_init_33 rfl (tb_of 1111 (by decide +kernel) rfl) rfl rfl rfl (by decide) tyX12_ok nmX12 (tyX12_ok 10 (by decide)) rfl rfl (Nat.le_of_ble_eq_true rfl) rfl rfl ?_
  try dsimp only [List.set, List.cons_append, List.nil_append]
  refine n_aload_n (nx := 37) 0 F dX12_init_36 rfl rfl rfl ?_
  refine n_bipush (nx := 39) (8) F dX12_init_37 rfl (by decide) ?_
  refine n_newa (nx := 41) 8 13 F dX12_init_39 rfl rfl (tb_of 173 (by decide +kernel) rfl) (Or.inr ⟨rfl, rfl⟩) (by decide) rfl (by decide) (by decide) (by decide) (fun a_39 e_39 => ?_)
  obtain rfl : a_39 = a0 + 5 := e_39
  try dsimp only [List.set, List.cons_append, List.nil_append]
  refine n_put (nx := 44) (ci := 11) (k := 11) (j := 0) (C := RX12) (T := TX12) (N := 72) (fty := tyX12 11) tyX12 F (fun _ => hname) dX12_init_41 rfl (tb_of 1112 (by decide +kernel) rfl) rfl rfl rfl (by decide) tyX12_ok nmX12 (tyX12_ok 11 (by decide)) rfl rfl (Nat.le_of_ble_eq_true rfl) rfl rfl ?_
  try dsimp only [List.set, List.cons_append, List.nil_append]
  refine n_aload_n (nx := 45) 0 F dX12_init_44 rfl rfl rfl ?_
  refine n_bipush (nx := 47) (8) F dX12_init_45 rfl (by decide) ?_
  refine n_newa (nx := 49) 8 13 F dX12_init_47 rfl rfl (tb_of 173 (by decide +kernel) rfl) (Or.inr ⟨rfl, rfl⟩) (by decide) rfl (by decide) (by decide) (by decide) (fun a_47 e_47 => ?_)
  obtain rfl : a_47 = a0 + 6 := e_47
  try dsimp only [List.set, List.cons_append, List.nil_append]
  refine n_put (nx := 52) (ci := 11) (k := 12) (j := 0) (C := RX12) (T := TX12) (N := 72) (fty := tyX12 12) tyX12 F (fun _ => hname) dX12_init_49 rfl (tb_of 1113 (by decide +kernel) rfl) rfl rfl rfl (by decide) tyX12_ok nmX12 (tyX12_ok 12 (by decide)) rfl rfl (Nat.le_of_ble_eq_true rfl) rfl rfl ?_
  try dsimp only [List.set, List.cons_append, List.nil_append]
  refine n_aload_n (nx := 53) 0 F dX12_init_52 rfl rfl rfl ?_
  refine n_bipush (nx := 55) (40) F dX12_init_53 rfl (by decide) ?_
  refine n_newa (nx := 57) 40 13 F dX12_init_55 rfl rfl (tb_of 173 (by decide +kernel) rfl) (Or.inr ⟨rfl, rfl⟩) (by decide) rfl (by decide) (by decide) (by decide) (fun a_55 e_55 => ?_)
  obtain rfl : a_55 = a0 + 7 := e_55
  try dsimp only [List.set, List.cons_append, List.nil_append]
  refine n_put (nx := 60) (ci := 11) (k := 13) (j := 0) (C := RX12) (T := TX12) (N := 72) (fty := tyX12 13) tyX12 F (fun _ => hname) dX12_init_57 rfl (tb_of 1114 (by decide +kernel) rfl) rfl rfl rfl (by decide) tyX12_ok nmX12 (tyX12_ok 13 (by decide)) rfl rfl (Nat.le_of_ble_eq_true rfl) rfl rfl ?_
  try dsimp only [List.set, List.cons_append, List.nil_append]
  refine n_aload_n (nx := 61) 0 F dX12_init_60 rfl rfl rfl ?_
  refine n_bipush (nx := 63) (40) F dX12_init_61 rfl (by decide) ?_
  refine n_newa (nx := 65) 40 13 F dX12_init_63 rfl rfl (tb_of 173 (by decide +kernel) rfl) (Or.inr ⟨rfl, rfl⟩) (by decide) rfl (by decide) (by decide) (by decide) (fun a_63 e_63 => ?_)
  obtain rfl : a_63 = a0 + 8 := e_63
  try dsimp only [List.set, List.cons_append, List.nil_append]
  refine n_put (nx := 68) (ci := 11) (k := 14) (j := 0) (C := RX12) (T := TX12) (N := 72) (fty := tyX12 14) tyX12 F (fun _ => hname) dX12_init_65 rfl (tb_of 1115 (by decide +kernel) rfl) rfl rfl rfl (by decide) tyX12_ok nmX12 (tyX12_ok 14 (by decide)) rfl rfl (Nat.le_of_ble_eq_true rfl) rfl rfl ?_
  try dsimp only [List.set, List.cons_append, List.nil_append]
  refine n_aload_n (nx := 69) 0 F dX12_init_68 rfl rfl rfl ?_
  refine n_bipush (nx := 71) (40) F dX12_init_69 rfl (by decide) ?_
  refine n_newa (nx := 73) 40 13 F dX12_init_71 rfl rfl (tb_of 173 (by decide +kernel) rfl) (Or.inr ⟨rfl, rfl⟩) (by decide) rfl (by decide) (by decide) (by decide) (fun a_71 e_71 => ?_)
  obtain rfl : a_71 = a0 + 9 := e_71
  try dsimp only [List.set, List.cons_append, List.nil_append]
  refine n_put (nx := 76) (ci := 11) (k := 15) (j := 0) (C := RX12) (T := TX12) (N := 72) (fty := tyX12 15) tyX12 F (fun _ => hname) dX12_init_73 rfl (tb_of 1116 (by decide +kernel) rfl) rfl rfl rfl (by decide) tyX12_ok nmX12 (tyX12_ok 15 (by decide)) rfl rfl (Nat.le_of_ble_eq_true rfl) rfl rfl ?_
  try dsimp only [List.set, List.cons_append, List.nil_append]
  refine n_aload_n (nx := 77) 0 F dX12_init_76 rfl rfl rfl ?_
  refine n_bipush (nx := 79) (40) F dX12_init_77 rfl (by decide) ?_
  refine n_newa (nx := 81) 40 13 F dX12_init_79 rfl rfl (tb_of 173 (by decide +kernel) rfl) (Or.inr ⟨rfl, rfl⟩) (by decide) rfl (by decide) (by decide) (by decide) (fun a_79 e_79 => ?_)
  obtain rfl : a_79 = a0 + 10 := e_79
  try dsimp only [List.set, List.cons_append, List.nil_append]
  refine n_put (nx := 84) (ci := 11) (k := 16) (j := 0) (C := RX12) (T := TX12) (N := 72) (fty := tyX12 16) tyX12 F (fun _ => hname) dX12_init_81 rfl (tb_of 1117 (by decide +kernel) rfl) rfl rfl rfl (by decide) tyX12_ok nmX12 (tyX12_ok 16 (by decide)) rfl rfl (Nat.le_of_ble_eq_true rfl) rfl rfl ?_
  try dsimp only [List.set, List.cons_append, List.nil_append]
  refine n_aload_n (nx := 85) 0 F dX12_init_84 rfl rfl rfl ?_
  refine n_bipush (nx := 87) (40) F dX12_init_85 rfl (by decide) ?_
  refine n_newa (nx := 89) 40 13 F dX12_init_87 rfl rfl (tb_of 173 (by decide +kernel) rfl) (Or.inr ⟨rfl, rfl⟩) (by decide) rfl (by decide) (by decide) (by decide) (fun a_87 e_87 => ?_)
  obtain rfl : a_87 = a0 + 11 := e_87
  try dsimp only [List.set, List.cons_append, List.nil_append]
  refine n_put (nx := 92) (ci := 11) (k := 17) (j := 0) (C := RX12) (T := TX12) (N := 72) (fty := tyX12 17) tyX12 F (fun _ => hname) dX12_init_89 rfl (tb_of 1118 (by decide +kernel) rfl) rfl rfl rfl (by decide) tyX12_ok nmX12 (tyX12_ok 17 (by decide)) rfl rfl (Nat.le_of_ble_eq_true rfl) rfl rfl ?_
  try dsimp only [List.set, List.cons_append, List.nil_append]
  refine n_aload_n (nx := 93) 0 F dX12_init_92 rfl rfl rfl ?_
  refine n_bipush (nx := 95) (40) F dX12_init_93 rfl (by decide) ?_
  refine n_newa (nx := 97) 40 13 F dX12_init_95 rfl rfl (tb_of 173 (by decide +kernel) rfl) (Or.inr ⟨rfl, rfl⟩) (by decide) rfl (by decide) (by decide) (by decide) (fun a_95 e_95 => ?_)
  obtain rfl : a_95 = a0 + 12 := e_95
  try dsimp only [List.set, List.cons_append, List.nil_append]
  refine n_put (nx := 100) (ci := 11) (k := 18) (j := 0) (C := RX12) (T := TX12) (N := 72) (fty := tyX12 18) tyX12 F (fun _ => hname) dX12_init_97 rfl (tb_of 1119 (by decide +kernel) rfl) rfl rfl rfl (by decide) tyX12_ok nmX12 (tyX12_ok 18 (by decide)) rfl rfl (Nat.le_of_ble_eq_true rfl) rfl rfl ?_
  try dsimp only [List.set, List.cons_append, List.nil_append]
  refine n_aload_n (nx := 101) 0 F dX12_init_100 rfl rfl rfl ?_
  refine n_bipush (nx := 103) (40) F dX12_init_101 rfl (by decide) ?_
  refine n_newa (nx := 105) 40 13 F dX12_init_103 rfl rfl (tb_of 173 (by decide +kernel) rfl) (Or.inr ⟨rfl, rfl⟩) (by decide) rfl (by decide) (by decide) (by decide) (fun a_103 e_103 => ?_)
  obtain rfl : a_103 = a0 + 13 := e_103
  try dsimp only [List.set, List.cons_append, List.nil_append]
  refine n_put (nx := 108) (ci := 11) (k := 19) (j := 0) (C := RX12) (T := TX12) (N := 72) (fty := tyX12 19) tyX12 F (fun _ => hname) dX12_init_105 rfl (tb_of 1120 (by decide +kernel) rfl) rfl rfl rfl (by decide) tyX12_ok nmX12 (tyX12_ok 19 (by decide)) rfl rfl (Nat.le_of_ble_eq_true rfl) rfl rfl ?_
  try dsimp only [List.set, List.cons_append, List.nil_append]
  refine n_aload_n (nx := 109) 0 F dX12_init_108 rfl rfl rfl ?_
  refine n_bipush (nx := 111) (40) F dX12_init_109 rfl (by decide) ?_
  refine n_newa (nx := 113) 40 13 F dX12_init_111 rfl rfl (tb_of 173 (by decide +kernel) rfl) (Or.inr ⟨rfl, rfl⟩) (by decide) rfl (by decide) (by decide) (by decide) (fun a_111 e_111 => ?_)
  obtain rfl : a_111 = a0 + 14 := e_111
  try dsimp only [List.set, List.cons_append, List.nil_append]
  refine n_put (nx := 116) (ci := 11) (k := 20) (j := 0) (C := RX12) (T := TX12) (N := 72) (fty := tyX12 20) tyX12 F (fun _ => hname) dX12_init_113 rfl (tb_of 1121 (by decide +kernel) rfl) rfl rfl rfl (by decide) tyX12_ok nmX12 (tyX12_ok 20 (by decide)) rfl rfl (Nat.le_of_ble_eq_true rfl) rfl rfl ?_
  try dsimp only [List.set, List.cons_append, List.nil_append]
  refine n_aload_n (nx := 117) 0 F dX12_init_116 rfl rfl rfl ?_
  refine n_bipush (nx := 119) (40) F dX12_init_117 rfl (by decide) ?_
  refine n_newa (nx := 121) 40 13 F dX12_init_119 rfl rfl (tb_of 173 (by decide +kernel) rfl) (Or.inr ⟨rfl, rfl⟩) (by decide) rfl (by decide) (by decide) (by decide) (fun a_119 e_119 => ?_)
  obtain rfl : a_119 = a0 + 15 := e_119
  try dsimp only [List.set, List.cons_append, List.nil_append]
  refine n_put (nx := 124) (ci := 11) (k := 21) (j := 0) (C := RX12) (T := TX12) (N := 72) (fty := tyX12 21) tyX12 F (fun _ => hname) dX12_init_121 rfl (tb_of 1122 (by decide +kernel) rfl) rfl rfl rfl (by decide) tyX12_ok nmX12 (tyX12_ok 21 (by decide)) rfl rfl (Nat.le_of_ble_eq_true rfl) rfl rfl ?_
  try dsimp only [List.set, List.cons_append, List.nil_append]
  refine n_aload_n (nx := 125) 0 F dX12_init_124 rfl rfl rfl ?_
  refine n_bipush (nx := 127) (40) F dX12_init_125 rfl (by decide) ?_
  refine n_newa (nx := 129) 40 13 F dX12_init_127 rfl rfl (tb_of 173 (by decide +kernel) rfl) (Or.inr ⟨rfl, rfl⟩) (by decide) rfl (by decide) (by decide) (by decide) (fun a_127 e_127 => ?_)
  obtain rfl : a_127 = a0 + 16 := e_127
  try dsimp only [List.set, List.cons_append, List.nil_append]
  refine n_put (nx := 132) (ci := 11) (k := 22) (j := 0) (C := RX12) (T := TX12) (N := 72) (fty := tyX12 22) tyX12 F (fun _ => hname) dX12_init_129 rfl (tb_of 1123 (by decide +kernel) rfl) rfl rfl rfl (by decide) tyX12_ok nmX12 (tyX12_ok 22 (by decide)) rfl rfl (Nat.le_of_ble_eq_true rfl) rfl rfl ?_
  try dsimp only [List.set, List.cons_append, List.nil_append]
  refine n_aload_n (nx := 133) 0 F dX12_init_132 rfl rfl rfl ?_
  refine n_sipush (nx := 136) (200) F dX12_init_133 rfl (by decide) ?_
  refine n_newa (nx := 138) 200 12 F dX12_init_136 rfl rfl (tb_of 122 (by decide +kernel) rfl) (Or.inl ⟨rfl, rfl⟩) (by decide) rfl (by decide) (by decide) (by decide) (fun a_136 e_136 => ?_)
  obtain rfl : a_136 = a0 + 17 := e_136
  try dsimp only [List.set, List.cons_append, List.nil_append]
  refine n_put (nx := 141) (ci := 11) (k := 23) (j := 0) (C := RX12) (T := TX12) (N := 72) (fty := tyX12 23) tyX12 F (fun _ => hname) dX12_init_138 rfl (tb_of 1124 (by decide +kernel) rfl) rfl rfl rfl (by decide) tyX12_ok nmX12 (tyX12_ok 23 (by decide)) rfl rfl (Nat.le_of_ble_eq_true rfl) rfl rfl ?_
  try dsimp only [List.set, List.cons_append, List.nil_append]
  refine n_aload_n (nx := 142) 0 F dX12_init_141 rfl rfl rfl ?_
  refine n_sipush (nx := 145) (180) F dX12_init_142 rfl (by decide) ?_
  refine n_newa (nx := 147) 180 13 F dX12_init_145 rfl rfl (tb_of 173 (by decide +kernel) rfl) (Or.inr ⟨rfl, rfl⟩) (by decide) rfl (by decide) (by decide) (by decide) (fun a_145 e_145 => ?_)
  obtain rfl : a_145 = a0 + 18 := e_145
  try dsimp only [List.set, List.cons_append, List.nil_append]
  refine n_put (nx := 150) (ci := 11) (k := 33) (j := 0) (C := RX12) (T := TX12) (N := 72) (fty := tyX12 33) tyX12 F (fun _ => hname) dX12_init_147 rfl (tb_of 1134 (by decide +kernel) rfl) rfl rfl rfl (by decide) tyX12_ok nmX12 (tyX12_ok 33 (by decide)) rfl rfl (Nat.le_of_ble_eq_true rfl) rfl rfl ?_
  try dsimp only [List.set, List.cons_append, List.nil_append]
  refine n_aload_n (nx := 151) 0 F dX12_init_150 rfl rfl rfl ?_
  refine n_sipush (nx := 154) (180) F dX12_init_151 rfl (by decide) ?_
  refine n_newa (nx := 156) 180 13 F dX12_init_154 rfl rfl (tb_of 173 (by decide +kernel) rfl) (Or.inr ⟨rfl, rfl⟩) (by decide) rfl (by decide) (by decide) (by decide) (fun a_154 e_154 => ?_)
  obtain rfl : a_154 = a0 + 19 := e_154
  try dsimp only [List.set, List.cons_append, List.nil_append]
  refine n_put (nx := 159) (ci := 11) (k := 34) (j := 0) (C := RX12) (T := TX12) (N := 72) (fty := tyX12 34) tyX12 F (fun _ => hname) dX12_init_156 rfl (tb_of 1135 (by decide +kernel) rfl) rfl rfl rfl (by decide) tyX12_ok nmX12 (tyX12_ok 34 (by decide)) rfl rfl (Nat.le_of_ble_eq_true rfl) rfl rfl ?_
  try dsimp only [List.set, List.cons_append, List.nil_append]
  refine n_aload_n (nx := 160) 0 F dX12_init_159 rfl rfl rfl ?_
  refine n_bipush (nx := 162) (12) F dX12_init_160 rfl (by decide) ?_
  refine n_newa (nx := 164) 12 13 F dX12_init_162 rfl rfl (tb_of 173 (by decide +kernel) rfl) (Or.inr ⟨rfl, rfl⟩) (by decide) rfl (by decide) (by decide) (by decide) (fun a_162 e_162 => ?_)
  obtain rfl : a_162 = a0 + 20 := e_162
  try dsimp only [List.set, List.cons_append, List.nil_append]
  refine n_put (nx := 167) (ci := 11) (k := 35) (j := 0) (C := RX12) (T := TX12) (N := 72) (fty := tyX12 35) tyX12 F (fun _ => hname) dX12_init_164 rfl (tb_of 1136 (by decide +kernel) rfl) rfl rfl rfl (by decide) tyX12_ok nmX12 (tyX12_ok 35 (by decide)) rfl rfl (Nat.le_of_ble_eq_true rfl) rfl rfl ?_
  try dsimp only [List.set, List.cons_append, List.nil_append]
  refine n_aload_n (nx := 168) 0 F dX12_init_167 rfl rfl rfl ?_
  refine n_bipush (nx := 170) (12) F dX12_init_168 rfl (by decide) ?_
  refine n_newa (nx := 172) 12 13 F dX12_init_170 rfl rfl (tb_of 173 (by decide +kernel) rfl) (Or.inr ⟨rfl, rfl⟩) (by decide) rfl (by decide) (by decide) (by decide) (fun a_170 e_170 => ?_)
  obtain rfl : a_170 = a0 + 21 := e_170
  try dsimp only [List.set, List.cons_append, List.nil_append]
  refine n_put (nx := 175) (ci := 11) (k := 36) (j := 0) (C := RX12) (T := TX12) (N := 72) (fty := tyX12 36) tyX12 F (fun _ => hname) dX12_init_172 rfl (tb_of 1137 (by decide +kernel) rfl) rfl rfl rfl (by decide) tyX12_ok nmX12 (tyX12_ok 36 (by decide)) rfl rfl (Nat.le_of_ble_eq_true rfl) rfl rfl ?_
  try dsimp only [List.set, List.cons_append, List.nil_append]
  refine n_aload_n (nx := 176) 0 F dX12_init_175 rfl rfl rfl ?_
  refine n_bipush (nx := 178) (12) F dX12_init_176 rfl (by decide) ?_
  refine n_newa (nx := 180) 12 13 F dX12_init_178 rfl rfl (tb_of 173 (by decide +kernel) rfl) (Or.inr ⟨rfl, rfl⟩) (by decide) rfl (by decide) (by decide) (by decide) (fun a_178 e_178 => ?_)
  obtain rfl : a_178 = a0 + 22 := e_178
  try dsimp only [List.set, List.cons_append, List.nil_append]
  refine n_put (nx := 183) (ci := 11) (k := 37) (j := 0) (C := RX12) (T := TX12) (N := 72) (fty := tyX12 37) tyX12 F (fun _ => hname) dX12_init_180 rfl (tb_of 1138 (by decide +kernel) rfl) rfl rfl rfl (by decide) tyX12_ok nmX12 (tyX12_ok 37 (by decide)) rfl rfl (Nat.le_of_ble_eq_true rfl) rfl rfl ?_
  try dsimp only [List.set, List.cons_append, List.nil_append]
  refine n_aload_n (nx := 184) 0 F dX12_init_183 rfl rfl rfl ?_
  refine n_bipush (nx := 186) (12) F dX12_init_184 rfl (by decide) ?_
  refine n_newa (nx := 188) 12 13 F dX12_init_186 rfl rfl (tb_of 173 (by decide +kernel) rfl) (Or.inr ⟨rfl, rfl⟩) (by decide) rfl (by decide) (by decide) (by decide) (fun a_186 e_186 => ?_)
  obtain rfl : a_186 = a0 + 23 := e_186
  try dsimp only [List.set, List.cons_append, List.nil_append]
  refine n_put (nx := 191) (ci := 11) (k := 38) (j := 0) (C := RX12) (T := TX12) (N := 72) (fty := tyX12 38) tyX12 F (fun _ => hname) dX12_init_188 rfl (tb_of 1139 (by decide +kernel) rfl) rfl rfl rfl (by decide) tyX12_ok nmX12 (tyX12_ok 38 (by decide)) rfl rfl (Nat.le_of_ble_eq_true rfl) rfl rfl ?_
  try dsimp only [List.set, List.cons_append, List.nil_append]
  refine n_aload_n (nx := 192) 0 F dX12_init_191 rfl rfl rfl ?_
  refine n_sipush (nx := 195) (2160) F dX12_init_192 rfl (by decide) ?_
  refine n_newa (nx := 197) 2160 13 F dX12_init_195 rfl rfl (tb_of 173 (by decide +kernel) rfl) (Or.inr ⟨rfl, rfl⟩) (by decide) rfl (by decide) (by decide) (by decide) (fun a_195 e_195 => ?_)
  obtain rfl : a_195 = a0 + 24 := e_195
  try dsimp only [List.set, List.cons_append, List.nil_append]
  refine n_put (nx := 200) (ci := 11) (k := 39) (j := 0) (C := RX12) (T := TX12) (N := 72) (fty := tyX12 39) tyX12 F (fun _ => hname) dX12_init_197 rfl (tb_of 1140 (by decide +kernel) rfl) rfl rfl rfl (by decide) tyX12_ok nmX12 (tyX12_ok 39 (by decide)) rfl rfl (Nat.le_of_ble_eq_true rfl) rfl rfl ?_
  try dsimp only [List.set, List.cons_append, List.nil_append]
  refine n_aload_n (nx := 201) 0 F dX12_init_200 rfl rfl rfl ?_
  refine n_bipush (nx := 203) (12) F dX12_init_201 rfl (by decide) ?_
  refine n_newa (nx := 205) 12 13 F dX12_init_203 rfl rfl (tb_of 173 (by decide +kernel) rfl) (Or.inr ⟨rfl, rfl⟩) (by decide) rfl (by decide) (by decide) (by decide) (fun a_203 e_203 => ?_)
  obtain rfl : a_203 = a0 + 25 := e_203
  try dsimp only [List.set, List.cons_append, List.nil_append]
  refine n_put (nx := 208) (ci := 11) (k := 40) (j := 0) (C := RX12) (T := TX12) (N := 72) (fty := tyX12 40) tyX12 F (fun _ => hname) dX12_init_205 rfl (tb_of 1141 (by decide +kernel) rfl) rfl rfl rfl (by decide) tyX12_ok nmX12 (tyX12_ok 40 (by decide)) rfl rfl (Nat.le_of_ble_eq_true rfl) rfl rfl ?_
  try dsimp only [List.set, List.cons_append, List.nil_append]
  refine n_aload_n (nx := 209) 0 F dX12_init_208 rfl rfl rfl ?_
  refine n_sipush (nx := 212) (144) F dX12_init_209 rfl (by decide) ?_
  refine n_newa (nx := 214) 144 13 F dX12_init_212 rfl rfl (tb_of 173 (by decide +kernel) rfl) (Or.inr ⟨rfl, rfl⟩) (by decide) rfl (by decide) (by decide) (by decide) (fun a_212 e_212 => ?_)
  obtain rfl : a_212 = a0 + 26 := e_212
  try dsimp only [List.set, List.cons_append, List.nil_append]
  refine n_put (nx := 217) (ci := 11) (k := 41) (j := 0) (C := RX12) (T := TX12) (N := 72) (fty := tyX12 41) tyX12 F (fun _ => hname) dX12_init_214 rfl (tb_of 1142 (by decide +kernel) rfl) rfl rfl rfl (by decide) tyX12_ok nmX12 (tyX12_ok 41 (by decide)) rfl rfl (Nat.le_of_ble_eq_true rfl) rfl rfl ?_
  try dsimp only [List.set, List.cons_append, List.nil_append]
  refine n_aload_n (nx := 218) 0 F dX12_init_217 rfl rfl rfl ?_
  refine n_sipush (nx := 221) (144) F dX12_init_218 rfl (by decide) ?_
  refine n_newa (nx := 223) 144 13 F dX12_init_221 rfl rfl (tb_of 173 (by decide +kernel) rfl) (Or.inr ⟨rfl, rfl⟩) (by decide) rfl (by decide) (by decide) (by decide) (fun a_221 e_221 => ?_)
  obtain rfl : a_221 = a0 + 27 := e_221
  try dsimp only [List.set, List.cons_append, List.nil_append]
  refine n_put (nx := 226) (ci := 11) (k := 42) (j := 0) (C := RX12) (T := TX12) (N := 72) (fty := tyX12 42) tyX12 F (fun _ => hname) dX12_init_223 rfl (tb_of 1143 (by decide +kernel) rfl) rfl rfl rfl (by decide) tyX12_ok nmX12 (tyX12_ok 42 (by decide)) rfl rfl (Nat.le_of_ble_eq_true rfl) rfl rfl ?_
  try dsimp only [List.set, List.cons_append, List.nil_append]
  refine n_aload_n (nx := 227) 0 F dX12_init_226 rfl rfl rfl ?_
  refine n_sipush (nx := 230) (144) F dX12_init_227 rfl (by decide) ?_
  refine n_newa (nx := 232) 144 13 F dX12_init_230 rfl rfl (tb_of 173 (by decide +kernel) rfl) (Or.inr ⟨rfl, rfl⟩) (by decide) rfl (by decide) (by decide) (by decide) (fun a_230 e_230 => ?_)
  obtain rfl : a_230 = a0 + 28 := e_230
  try dsimp only [List.set, List.cons_append, List.nil_append]
  refine n_put (nx := 235) (ci := 11) (k := 43) (j := 0) (C := RX12) (T := TX12) (N := 72) (fty := tyX12 43) tyX12 F (fun _ => hname) dX12_init_232 rfl (tb_of 1144 (by decide +kernel) rfl) rfl rfl rfl (by decide) tyX12_ok nmX12 (tyX12_ok 43 (by decide)) rfl rfl (Nat.le_of_ble_eq_true rfl) rfl rfl ?_
  try dsimp only [List.set, List.cons_append, List.nil_append]
  refine n_aload_n (nx := 236) 0 F dX12_init_235 rfl rfl rfl ?_
  refine n_sipush (nx := 239) (144) F dX12_init_236 rfl (by decide) ?_
  refine n_newa (nx := 241) 144 13 F dX12_init_239 rfl rfl (tb_of 173 (by decide +kernel) rfl) (Or.inr ⟨rfl, rfl⟩) (by decide) rfl (by decide) (by decide) (by decide) (fun a_239 e_239 => ?_)
  obtain rfl : a_239 = a0 + 29 := e_239
  try dsimp only [List.set, List.cons_append, List.nil_append]
  refine n_put (nx := 244) (ci := 11) (k := 44) (j := 0) (C := RX12) (T := TX12) (N := 72) (fty := tyX12 44) tyX12 F (fun _ => hname) dX12_init_241 rfl (tb_of 1145 (by decide +kernel) rfl) rfl rfl rfl (by decide) tyX12_ok nmX12 (tyX12_ok 44 (by decide)) rfl rfl (Nat.le_of_ble_eq_true rfl) rfl rfl ?_
  try dsimp only [List.set, List.cons_append, List.nil_append]
  refine n_aload_n (nx := 245) 0 F dX12_init_244 rfl rfl rfl ?_
  refine n_sipush (nx := 248) (180) F dX12_init_245 rfl (by decide) ?_
  refine n_newa (nx := 250) 180 13 F dX12_init_248 rfl rfl (tb_of 173 (by decide +kernel) rfl) (Or.inr ⟨rfl, rfl⟩) (by decide) rfl (by decide) (by decide) (by decide) (fun a_248 e_248 => ?_)
  obtain rfl : a_248 = a0 + 30 := e_248
  try dsimp only [List.set, List.cons_append, List.nil_append]
  refine n_put (nx := 253) (ci := 11) (k := 45) (j := 0) (C := RX12) (T := TX12) (N := 72) (fty := tyX12 45) tyX12 F (fun _ => hname) dX12_init_250 rfl (tb_of 1146 (by decide +kernel) rfl) rfl rfl rfl (by decide) tyX12_ok nmX12 (tyX12_ok 45 (by decide)) rfl rfl (Nat.le_of_ble_eq_true rfl) rfl rfl ?_
  try dsimp only [List.set, List.cons_append, List.nil_append]
  refine n_aload_n (nx := 254) 0 F dX12_init_253 rfl rfl rfl ?_
  refine n_bipush (nx := 256) (12) F dX12_init_254 rfl (by decide) ?_
  refine n_newa (nx := 258) 12 13 F dX12_init_256 rfl rfl (tb_of 173 (by decide +kernel) rfl) (Or.inr ⟨rfl, rfl⟩) (by decide) rfl (by decide) (by decide) (by decide) (fun a_256 e_256 => ?_)
  obtain rfl : a_256 = a0 + 31 := e_256
  try dsimp only [List.set, List.cons_append, List.nil_append]
  refine n_put (nx := 261) (ci := 11) (k := 46) (j := 0) (C := RX12) (T := TX12) (N := 72) (fty := tyX12 46) tyX12 F (fun _ => hname) dX12_init_258 rfl (tb_of 1147 (by decide +kernel) rfl) rfl rfl rfl (by decide) tyX12_ok nmX12 (tyX12_ok 46 (by decide)) rfl rfl (Nat.le_of_ble_eq_true rfl) rfl rfl ?_
  try dsimp only [List.set, List.cons_append, List.nil_append]
  refine n_aload_n (nx := 262) 0 F dX12_init_261 rfl rfl rfl ?_
  refine n_bipush (nx := 264) (20) F dX12_init_262 rfl (by decide) ?_
  refine n_newa (nx := 266) 20 13 F dX12_init_264 rfl rfl (tb_of 173 (by decide +kernel) rfl) (Or.inr ⟨rfl, rfl⟩) (by decide) rfl (by decide) (by decide) (by decide) (fun a_264 e_264 => ?_)
  obtain rfl : a_264 = a0 + 32 := e_264
  try dsimp only [List.set, List.cons_append, List.nil_append]
  refine n_put (nx := 269) (ci := 11) (k := 54) (j := 0) (C := RX12) (T := TX12) (N := 72) (fty := tyX12 54) tyX12 F (fun _ => hname) dX12_init_266 rfl (tb_of 1155 (by decide +kernel) rfl) rfl rfl rfl (by decide) tyX12_ok nmX12 (tyX12_ok 54 (by decide)) rfl rfl (Nat.le_of_ble_eq_true rfl) rfl rfl ?_
  try dsimp only [List.set, List.cons_append, List.nil_append]
  refine n_aload_n (nx := 270) 0 F dX12_init_269 rfl rfl rfl ?_
  refine n_bipush (nx := 272) (60) F dX12_init_270 rfl (by decide) ?_
  refine n_newa (nx := 274) 60 13 F dX12_init_272 rfl rfl (tb_of 173 (by decide +kernel) rfl) (Or.inr ⟨rfl, rfl⟩) (by decide) rfl (by decide) (by decide) (by decide) (fun a_272 e_272 => ?_)
  obtain rfl : a_272 = a0 + 33 := e_272
  try dsimp only [List.set, List.cons_append, List.nil_append]
  refine n_put (nx := 277) (ci := 11) (k := 55) (j := 0) (C := RX12) (T := TX12) (N := 72) (fty := tyX12 55) tyX12 F (fun _ => hname) dX12_init_274 rfl (tb_of 1156 (by decide +kernel) rfl) rfl rfl rfl (by decide) tyX12_ok nmX12 (tyX12_ok 55 (by decide)) rfl rfl (Nat.le_of_ble_eq_true rfl) rfl rfl ?_
  try dsimp only [List.set, List.cons_append, List.nil_append]
  refine n_aload_n (nx := 278) 0 F dX12_init_277 rfl rfl rfl ?_
  refine n_bipush (nx := 280) (60) F dX12_init_278 rfl (by decide) ?_
  refine n_newa (nx := 282) 60 13 F dX12_init_280 rfl rfl (tb_of 173 (by decide +kernel) rfl) (Or.inr ⟨rfl, rfl⟩) (by decide) rfl (by decide) (by decide) (by decide) (fun a_280 e_280 => ?_)
  obtain rfl : a_280 = a0 + 34 := e_280
  try dsimp only [List.set, List.cons_append, List.nil_append]
  refine n_put (nx := 285) (ci := 11) (k := 56) (j := 0) (C := RX12) (T := TX12) (N := 72) (fty := tyX12 56) tyX12 F (fun _ => hname) dX12_init_282 rfl (tb_of 1157 (by decide +kernel) rfl) rfl rfl rfl (by decide) tyX12_ok nmX12 (tyX12_ok 56 (by decide)) rfl rfl (Nat.le_of_ble_eq_true rfl) rfl rfl ?_
  try dsimp only [List.set, List.cons_append, List.nil_append]
  refine n_aload_n (nx := 286) 0 F dX12_init_285 rfl rfl rfl ?_
  refine n_bipush (nx := 288) (8) F dX12_init_286 rfl (by decide) ?_
  refine n_newa (nx := 290) 8 13 F dX12_init_288 rfl rfl (tb_of 173 (by decide +kernel) rfl) (Or.inr ⟨rfl, rfl⟩) (by decide) rfl (by decide) (by decide) (by decide) (fun a_288 e_288 => ?_)
  obtain rfl : a_288 = a0 + 35 := e_288
  try dsimp only [List.set, List.cons_append, List.nil_append]
  refine n_put (nx := 293) (ci := 11) (k := 57) (j := 0) (C := RX12) (T := TX12) (N := 72) (fty := tyX12 57) tyX12 F (fun _ => hname) dX12_init_290 rfl (tb_of 1158 (by decide +kernel) rfl) rfl rfl rfl (by decide) tyX12_ok nmX12 (tyX12_ok 57 (by decide)) rfl rfl (Nat.le_of_ble_eq_true rfl) rfl rfl ?_
  try dsimp only [List.set, List.cons_append, List.nil_append]
  refine n_aload_n (nx := 294) 0 F dX12_init_293 rfl rfl rfl ?_
  refine n_bipush (nx := 296) (8) F dX12_init_294 rfl (by decide) ?_
  refine n_newa (nx := 298) 8 13 F dX12_init_296 rfl rfl (tb_of 173 (by decide +kernel) rfl) (Or.inr ⟨rfl, rfl⟩) (by decide) rfl (by decide) (by decide) (by decide) (fun a_296 e_296 => ?_)
  obtain rfl : a_296 = a0 + 36 := e_296
  try dsimp only [List.set, List.cons_append, List.nil_append]
  refine n_put (nx := 301) (ci := 11) (k := 58) (j := 0) (C := RX12) (T := TX12) (N := 72) (fty := tyX12 58) tyX12 F (fun _ => hname) dX12_init_298 rfl (tb_of 1159 (by decide +kernel) rfl) rfl rfl rfl (by decide) tyX12_ok nmX12 (tyX12_ok 58 (by decide)) rfl rfl (Nat.le_of_ble_eq_true rfl) rfl rfl ?_
  try dsimp only [List.set, List.cons_append, List.nil_append]
  refine n_aload_n (nx := 302) 0 F dX12_init_301 rfl rfl rfl ?_
  refine n_bipush (nx := 304) (8) F dX12_init_302 rfl (by decide) ?_
  refine n_newa (nx := 306) 8 13 F dX12_init_304 rfl rfl (tb_of 173 (by decide +kernel) rfl) (Or.inr ⟨rfl, rfl⟩) (by decide) rfl (by decide) (by decide) (by decide) (fun a_304 e_304 => ?_)
  obtain rfl : a_304 = a0 + 37 := e_304
  try dsimp only [List.set, List.cons_append, List.nil_append]
  refine n_put (nx := 309) (ci := 11) (k := 59) (j := 0) (C := RX12) (T := TX12) (N := 72) (fty := tyX12 59) tyX12 F (fun _ => hname) dX12_init_306 rfl (tb_of 1160 (by decide +kernel) rfl) rfl rfl rfl (by decide) tyX12_ok nmX12 (tyX12_ok 59 (by decide)) rfl rfl (Nat.le_of_ble_eq_true rfl) rfl rfl ?_
  try dsimp only [List.set, List.cons_append, List.nil_append]
  refine n_aload_n (nx := 310) 0 F dX12_init_309 rfl rfl rfl ?_
  refine n_bipush (nx := 312) (8) F dX12_init_310 rfl (by decide) ?_
  refine n_newa (nx := 314) 8 13 F dX12_init_312 rfl rfl (tb_of 173 (by decide +kernel) rfl) (Or.inr ⟨rfl, rfl⟩) (by decide) rfl (by decide) (by decide) (by decide) (fun a_312 e_312 => ?_)
  obtain rfl : a_312 = a0 + 38 := e_312
  try dsimp only [List.set, List.cons_append, List.nil_append]
  refine n_put (nx := 317) (ci := 11) (k := 60) (j := 0) (C := RX12) (T := TX12) (N := 72) (fty := tyX12 60) tyX12 F (fun _ => hname) dX12_init_314 rfl (tb_of 1161 (by decide +kernel) rfl) rfl rfl rfl (by decide) tyX12_ok nmX12 (tyX12_ok 60 (by decide)) rfl rfl (Nat.le_of_ble_eq_true rfl) rfl rfl ?_
  try dsimp only [List.set, List.cons_append, List.nil_append]
  refine n_aload_n (nx := 318) 0 F dX12_init_317 rfl rfl rfl ?_
  refine n_bipush (nx := 320) (11) F dX12_init_318 rfl (by decide) ?_
  refine n_newa (nx := 322) 11 13 F dX12_init_320 rfl rfl (tb_of 173 (by decide +kernel) rfl) (Or.inr ⟨rfl, rfl⟩) (by decide) rfl (by decide) (by decide) (by decide) (fun a_320 e_320 => ?_)
  obtain rfl : a_320 = a0 + 39 := e_320
  try dsimp only [List.set, List.cons_append, List.nil_append]
  refine n_put (nx := 325) (ci := 11) (k := 61) (j := 0) (C := RX12) (T := TX12) (N := 72) (fty := tyX12 61) tyX12 F (fun _ => hname) dX12_init_322 rfl (tb_of 1162 (by decide +kernel) rfl) rfl rfl rfl (by decide) tyX12_ok nmX12 (tyX12_ok 61 (by decide)) rfl rfl (Nat.le_of_ble_eq_true rfl) rfl rfl ?_
  try dsimp only [List.set, List.cons_append, List.nil_append]
  refine n_aload_n (nx := 326) 0 F dX12_init_325 rfl rfl rfl ?_
  refine n_bipush (nx := 328) (10) F dX12_init_326 rfl (by decide) ?_
  refine n_newa (nx := 330) 10 13 F dX12_init_328 rfl rfl (tb_of 173 (by decide +kernel) rfl) (Or.inr ⟨rfl, rfl⟩) (by decide) rfl (by decide) (by decide) (by decide) (fun a_328 e_328 => ?_)
  obtain rfl : a_328 = a0 + 40 := e_328
  try dsimp only [List.set, List.cons_append, List.nil_append]
  refine n_put (nx := 333) (ci := 11) (k := 62) (j := 0) (C := RX12) (T := TX12) (N := 72) (fty := tyX12 62) tyX12 F (fun _ => hname) dX12_init_330 rfl (tb_of 1163 (by decide +kernel) rfl) rfl rfl rfl (by decide) tyX12_ok nmX12 (tyX12_ok 62 (by decide)) rfl rfl (Nat.le_of_ble_eq_true rfl) rfl rfl ?_
  try dsimp only [List.set, List.cons_append, List.nil_append]
  refine n_aload_n (nx := 334) 0 F dX12_init_333 rfl rfl rfl ?_
  refine n_bipush (nx := 336) (10) F dX12_init_334 rfl (by decide) ?_
  refine n_newa (nx := 338) 10 13 F dX12_init_336 rfl rfl (tb_of 173 (by decide +kernel) rfl) (Or.inr ⟨rfl, rfl⟩) (by decide) rfl (by decide) (by decide) (by decide) (fun a_336 e_336 => ?_)
  obtain rfl : a_336 = a0 + 41 := e_336
  try dsimp only [List.set, List.cons_append, List.nil_append]
  refine n_put (nx := 341) (ci := 11) (k := 63) (j := 0) (C := RX12) (T := TX12) (N := 72) (fty := tyX12 63) tyX12 F (fun _ => hname) dX12_init_338 rfl (tb_of 1164 (by decide +kernel) rfl) rfl rfl rfl (by decide) tyX12_ok nmX12 (tyX12_ok 63 (by decide)) rfl rfl (Nat.le_of_ble_eq_true rfl) rfl rfl ?_
  try dsimp only [List.set, List.cons_append, List.nil_append]
  refine n_aload_n (nx := 342) 0 F dX12_init_341 rfl rfl rfl ?_
  refine n_bipush (nx := 344) (40) F dX12_init_342 rfl (by decide) ?_
  refine n_newa (nx := 346) 40 13 F dX12_init_344 rfl rfl (tb_of 173 (by decide +kernel) rfl) (Or.inr ⟨rfl, rfl⟩) (by decide) rfl (by decide) (by decide) (by decide) (fun a_344 e_344 => ?_)
  obtain rfl : a_344 = a0 + 42 := e_344
  try dsimp only [List.set, List.cons_append, List.nil_append]
  refine n_put (nx := 349) (ci := 11) (k := 64) (j := 0) (C := RX12) (T := TX12) (N := 72) (fty := tyX12 64) tyX12 F (fun _ => hname) dX12_init_346 rfl (tb_of 1165 (by decide +kernel) rfl) rfl rfl rfl (by decide) tyX12_ok nmX12 (tyX12_ok 64 (by decide)) rfl rfl (Nat.le_of_ble_eq_true rfl) rfl rfl ?_
  try dsimp only [List.set, List.cons_append, List.nil_append]
  refine n_aload_n (nx := 350) 0 F dX12_init_349 rfl rfl rfl ?_
  refine n_bipush (nx := 352) (40) F dX12_init_350 rfl (by decide) ?_
  refine n_newa (nx := 354) 40 13 F dX12_init_352 rfl rfl (tb_of 173 (by decide +kernel) rfl) (Or.inr ⟨rfl, rfl⟩) (by decide) rfl (by decide) (by decide) (by decide) (fun a_352 e_352 => ?_)
  obtain rfl : a_352 = a0 + 43 := e_352
  try dsimp only [List.set, List.cons_append, List.nil_append]
  refine n_put (nx := 357) (ci := 11) (k := 65) (j := 0) (C := RX12) (T := TX12) (N := 72) (fty := tyX12 65) tyX12 F (fun _ => hname) dX12_init_354 rfl (tb_of 1166 (by decide +kernel) rfl) rfl rfl rfl (by decide) tyX12_ok nmX12 (tyX12_ok 65 (by decide)) rfl rfl (Nat.le_of_ble_eq_true rfl) rfl rfl ?_
  try dsimp only [List.set, List.cons_append, List.nil_append]
  refine n_aload_n (nx := 358) 0 F dX12_init_357 rfl rfl rfl ?_
  refine n_bipush (nx := 360) (40) F dX12_init_358 rfl (by decide) ?_
  refine n_newa (nx := 362) 40 13 F dX12_init_360 rfl rfl (tb_of 173 (by decide +kernel) rfl) (Or.inr ⟨rfl, rfl⟩) (by decide) rfl (by decide) (by decide) (by decide) (fun a_360 e_360 => ?_)
  obtain rfl : a_360 = a0 + 44 := e_360
  try dsimp only [List.set, List.cons_append, List.nil_append]
  refine n_put (nx := 365) (ci := 11) (k := 66) (j := 0) (C := RX12) (T := TX12) (N := 72) (fty := tyX12 66) tyX12 F (fun _ => hname) dX12_init_362 rfl (tb_of 1167 (by decide +kernel) rfl) rfl rfl rfl (by decide) tyX12_ok nmX12 (tyX12_ok 66 (by decide)) rfl rfl (Nat.le_of_ble_eq_true rfl) rfl rfl ?_
  try dsimp only [List.set, List.cons_append, List.nil_append]
  refine n_aload_n (nx := 366) 0 F dX12_init_365 rfl rfl rfl ?_
  refine n_bipush (nx := 368) (40) F dX12_init_366 rfl (by decide) ?_
  refine n_newa (nx := 370) 40 13 F dX12_init_368 rfl rfl (tb_of 173 (by decide +kernel) rfl) (Or.inr ⟨rfl, rfl⟩) (by decide) rfl (by decide) (by decide) (by decide) (fun a_368 e_368 => ?_)
  obtain rfl : a_368 = a0 + 45 := e_368
  try dsimp only [List.set, List.cons_append, List.nil_append]
  refine n_put (nx := 373) (ci := 11) (k := 67) (j := 0) (C := RX12) (T := TX12) (N := 72) (fty := tyX12 67) tyX12 F (fun _ => hname) dX12_init_370 rfl (tb_of 1168 (by decide +kernel) rfl) rfl rfl rfl (by decide) tyX12_ok nmX12 (tyX12_ok 67 (by decide)) rfl rfl (Nat.le_of_ble_eq_true rfl) rfl rfl ?_
  try dsimp only [List.set, List.cons_append, List.nil_append]
  refine n_aload_n (nx := 374) 0 F dX12_init_373 rfl rfl rfl ?_
  refine n_bipush (nx := 376) (40) F dX12_init_374 rfl (by decide) ?_
  refine n_newa (nx := 378) 40 13 F dX12_init_376 rfl rfl (tb_of 173 (by decide +kernel) rfl) (Or.inr ⟨rfl, rfl⟩) (by decide) rfl (by decide) (by decide) (by decide) (fun a_376 e_376 => ?_)
  obtain rfl : a_376 = a0 + 46 := e_376
  try dsimp only [List.set, List.cons_append, List.nil_append]
  refine n_put (nx := 381) (ci := 11) (k := 68) (j := 0) (C := RX12) (T := TX12) (N := 72) (fty := tyX12 68) tyX12 F (fun _ => hname) dX12_init_378 rfl (tb_of 1169 (by decide +kernel) rfl) rfl rfl rfl (by decide) tyX12_ok nmX12 (tyX12_ok 68 (by decide)) rfl rfl (Nat.le_of_ble_eq_true rfl) rfl rfl ?_
  try dsimp only [List.set, List.cons_append, List.nil_append]
  refine n_aload_n (nx := 382) 0 F dX12_init_381 rfl rfl rfl ?_
  refine n_bipush (nx := 384) (40) F dX12_init_382 rfl (by decide) ?_
  refine n_newa (nx := 386) 40 13 F dX12_init_384 rfl rfl (tb_of 173 (by decide +kernel) rfl) (Or.inr ⟨rfl, rfl⟩) (by decide) rfl (by decide) (by decide) (by decide) (fun a_384 e_384 => ?_)
  obtain rfl : a_384 = a0 + 47 := e_384
  try dsimp only [List.set, List.cons_append, List.nil_append]
  refine n_put (nx := 389) (ci := 11) (k := 69) (j := 0) (C := RX12) (T := TX12) (N := 72) (fty := tyX12 69) tyX12 F (fun _ => hname) dX12_init_386 rfl (tb_of 1170 (by decide +kernel) rfl) rfl rfl rfl (by decide) tyX12_ok nmX12 (tyX12_ok 69 (by decide)) rfl rfl (Nat.le_of_ble_eq_true rfl) rfl rfl ?_
  try dsimp only [List.set, List.cons_append, List.nil_append]
  refine n_aload_n (nx := 390) 0 F dX12_init_389 rfl rfl rfl ?_
  refine n_bipush (nx := 392) (10) F dX12_init_390 rfl (by decide) ?_
  refine n_newa (nx := 394) 10 13 F dX12_init_392 rfl rfl (tb_of 173 (by decide +kernel) rfl) (Or.inr ⟨rfl, rfl⟩) (by decide) rfl (by decide) (by decide) (by decide) (fun a_392 e_392 => ?_)
  obtain rfl : a_392 = a0 + 48 := e_392
  try dsimp only [List.set, List.cons_append, List.nil_append]
  refine n_put (nx := 397) (ci := 11) (k := 70) (j := 0) (C := RX12) (T := TX12) (N := 72) (fty := tyX12 70) tyX12 F (fun _ => hname) dX12_init_394 rfl (tb_of 1171 (by decide +kernel) rfl) rfl rfl rfl (by decide) tyX12_ok nmX12 (tyX12_ok 70 (by decide)) rfl rfl (Nat.le_of_ble_eq_true rfl) rfl rfl ?_
  try dsimp only [List.set, List.cons_append, List.nil_append]
  refine n_aload_n (nx := 398) 0 F dX12_init_397 rfl rfl rfl ?_
  refine n_bipush (nx := 400) (10) F dX12_init_398 rfl (by decide) ?_
  refine n_newa (nx := 402) 10 13 F dX12_init_400 rfl rfl (tb_of 173 (by decide +kernel) rfl) (Or.inr ⟨rfl, rfl⟩) (by decide) rfl (by decide) (by decide) (by decide) (fun a_400 e_400 => ?_)
  obtain rfl : a_400 = a0 + 49 := e_400
  try dsimp only [List.set, List.cons_append, List.nil_append]
  refine n_put (nx := 405) (ci := 11) (k := 71) (j := 0) (C := RX12) (T := TX12) (N := 72) (fty := tyX12 71) tyX12 F (fun _ => hname) dX12_init_402 rfl (tb_of 1172 (by decide +kernel) rfl) rfl rfl rfl (by decide) tyX12_ok nmX12 (tyX12_ok 71 (by decide)) rfl rfl (Nat.le_of_ble_eq_true rfl) rfl rfl ?_
  try dsimp only [List.set, List.cons_append, List.nil_append]
  refine n_aload_n (nx := 406) 0 F dX12_init_405 rfl rfl rfl ?_
  refine n_iconst (nx := 407) (1) F dX12_init_406 rfl rfl ?_
  refine n_put (nx := 410) (ci := 11) (k := 4) (j := 0) (C := RX12) (T := TX12) (N := 72) (fty := tyX12 4) tyX12 F (fun _ => hname) dX12_init_407 rfl (tb_of 1105 (by decide +kernel) rfl) rfl rfl rfl (by decide) tyX12_ok nmX12 (tyX12_ok 4 (by decide)) rfl rfl (Nat.le_of_ble_eq_true rfl) rfl rfl ?_
  try dsimp only [List.set, List.cons_append, List.nil_append]
  refine n_aload_n (nx := 411) 0 F dX12_init_410 rfl rfl rfl ?_
  refine n_iconst (nx := 412) (1) F dX12_init_411 rfl rfl ?_
  refine n_put (nx := 415) (ci := 11) (k := 5) (j := 0) (C := RX12) (T := TX12) (N := 72) (fty := tyX12 5) tyX12 F (fun _ => hname) dX12_init_412 rfl (tb_of 1106 (by decide +kernel) rfl) rfl rfl rfl (by decide) tyX12_ok nmX12 (tyX12_ok 5 (by decide)) rfl rfl (Nat.le_of_ble_eq_true rfl) rfl rfl ?_
  try dsimp only [List.set, List.cons_append, List.nil_append]
  exact n_vret F E dX12_init_415 rfl rfl rfl
