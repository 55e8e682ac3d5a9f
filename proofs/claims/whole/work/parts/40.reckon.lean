/-! TEXTS: the code as both reckon it: op (0 number, 1 letter, 2 + 3 - 4 * 5 / 6 % 7 < 8 > 9 = 10 ! 11 & 12 |), value -/
def jn (op : Nat) (a b : Int32) : Int32 := if op = 2 then a + b else if op = 3 then a - b else if op = 4 then a * b else if op = 5 then a / b else if op = 6 then a - a / b * b else if op = 7 then bI (a < b) else if op = 8 then bI (b < a) else bI (a = b)
def evF (op vl : Nat → Nat) (fa : Nat → Int32) (to : Nat) : Nat → Nat → List Int32 → Int32
  | 0, _, st => st.headD 0
  | f + 1, k, st => if to ≤ k then st.headD 0
    else if op k = 0 then evF op vl fa to f (k + 1) (nI (vl k) :: st)
    else if op k = 1 then evF op vl fa to f (k + 1) (fa (vl k) :: st)
    else if op k = 10 then evF op vl fa to f (k + 1) ((1 - st.headD 0) :: st.tail)
    else if op k = 11 then (if st.headD 0 = 0 then evF op vl fa to f (vl k) st else evF op vl fa to f (k + 1) st.tail)
    else if op k = 12 then (if st.headD 0 = 1 then evF op vl fa to f (vl k) st else evF op vl fa to f (k + 1) st.tail)
    else if (op k = 5 ∨ op k = 6) ∧ st.headD 0 = 0 then 0
    else evF op vl fa to f (k + 1) (jn (op k) (st.tail.headD 0) (st.headD 0) :: st.tail.tail)
/-- the code is well formed: how many wait at each place, whether a truth waits there -/
def wfS (op vl dp : Nat → Nat) (bl : Nat → Bool) (to k : Nat) : Prop :=
  (op k = 0 ∧ bl k = false ∧ bl (k + 1) = false ∧ dp (k + 1) = dp k + 1 ∧ vl k < 100000) ∨
  (op k = 1 ∧ bl k = false ∧ bl (k + 1) = false ∧ dp (k + 1) = dp k + 1 ∧ vl k < 12) ∨
  (2 ≤ op k ∧ op k ≤ 6 ∧ bl k = false ∧ bl (k + 1) = false ∧ 2 ≤ dp k ∧ dp (k + 1) + 1 = dp k) ∨
  (7 ≤ op k ∧ op k ≤ 9 ∧ bl k = false ∧ bl (k + 1) = true ∧ dp k = 2 ∧ dp (k + 1) = 1) ∨
  (op k = 10 ∧ bl k = true ∧ bl (k + 1) = true ∧ dp k = 1 ∧ dp (k + 1) = 1) ∨
  ((op k = 11 ∨ op k = 12) ∧ bl k = true ∧ dp k = 1 ∧ bl (k + 1) = false ∧ dp (k + 1) = 0 ∧ k < vl k ∧ vl k ≤ to ∧ bl (vl k) = true ∧ dp (vl k) = 1)
def wfC (op vl dp : Nat → Nat) (bl : Nat → Bool) (fr to : Nat) : Prop := fr ≤ to ∧ dp fr = 0 ∧ bl fr = false ∧ dp to = 1 ∧ (∀ k, fr ≤ k → k ≤ to → dp k ≤ 20) ∧ ∀ k, fr ≤ k → k < to → wfS op vl dp bl to k
/-- the row holds the waiting ones, the first at 0 -/
def stk (g : Nat → Int32) : List Int32 → Prop
  | [] => True
  | a :: r => g r.length = a ∧ stk g r
theorem stk_upd {g : Nat → Int32} {i : Nat} {x : Int32} : ∀ {r : List Int32}, stk g r → r.length ≤ i → stk (upd g i x) r
  | [], _, _ => trivial
  | a :: r, h, hl => by
    have hl : r.length + 1 ≤ i := hl
    refine ⟨?_, stk_upd h.2 (by omega)⟩
    unfold upd
    rw [if_neg (by omega)]
    exact h.1
theorem stk_push {g : Nat → Int32} {x : Int32} {r : List Int32} (h : stk g r) : stk (upd g r.length x) (x :: r) := ⟨if_pos rfl, stk_upd h (Nat.le_refl _)⟩
def ck (o : Nat) : Nat := [48, 97, 43, 45, 42, 47, 37, 60, 62, 61, 33, 38, 124].getD o 0
theorem ck_lt (o : Nat) : ck o < 256 := by
  have h : ∀ o, o < 13 → ck o < 256 := by decide +kernel
  rcases Nat.lt_or_ge o 13 with z | z
  · exact h o z
  · unfold ck
    rw [List.getD_eq_getElem?_getD, List.getElem?_eq_none z]
    decide
theorem cd_kind {v c : Nat} (hc : c < 256) (hv : v < 1000000) : nI (256 * v + c) &&& 255 = nI c := by
  rw [pk_andN (by omega) 8 rfl, show (256 * v + c) % 2 ^ 8 = c by omega]
theorem cd_more {v c : Nat} (hc : c < 256) (hv : v < 1000000) : nI (256 * v + c) >>> ((8 : Int32) &&& 31) = nI v := by
  rw [pk_shrN (by omega) _ 8 rfl, show (256 * v + c) / 2 ^ 8 = v by omega]
theorem cm_op {v o : Nat} (ho : o < 13) (hv : v < 1000000) : nI (1048576 * o + v) / 1048576 = nI o := by
  rw [show (1048576 : Int32) = nI 1048576 from rfl, pk_div (by omega) (by omega) (by omega), show (1048576 * o + v) / 1048576 = o by omega]
theorem cm_vl {v o : Nat} (ho : o < 13) (hv : v < 1000000) : nI (1048576 * o + v) - nI (1048576 * o + v) / 1048576 * 1048576 = nI v := by
  rw [show (1048576 : Int32) = nI 1048576 from rfl, pk_rem (by omega) (by omega) (by omega), show (1048576 * o + v) % 1048576 = v by omega]
set_option maxHeartbeats 4000000 in
set_option maxRecDepth 100000 in
theorem c_letter (v : Nat) (σ : zSt) (h : v < 12) : Con mX7_letter 0 [.ref 13, .int (nI v)] σ (fun r τ => r = some (.int (σ 14 v)) ∧ τ = σ) := by
  refine Con.of (lv := [.ref 13, .int (nI v)]) mk_X7_letter rfl (Nat.le_of_ble_eq_true rfl) rfl (fun X F E => ?_)
  refine g_iload_n (nx := 1) 1 F dX7_letter_0 rfl rfl rfl ?_
  refine g_if_lt (nx := 4) 22 F dX7_letter_1 rfl (by decide) (fun c_1 => absurd c_1 (by exact nI_pos (by omega))) (fun c_1 => ?_)
  refine g_iload_n (nx := 5) 1 F dX7_letter_4 rfl rfl rfl ?_
  refine g_aload_n (nx := 6) 0 F dX7_letter_5 rfl rfl rfl ?_
  refine g_getR (nx := 9) F dX7_letter_6 rfl fl_RX7_9 rfl (by decide) (by decide) rfl ?_
  refine g_alen (nx := 10) F dX7_letter_9 rfl rfl (Or.inr rfl) ?_
  refine g_icmp_ge (nx := 13) 22 F dX7_letter_10 rfl (by decide) (fun c_10 => absurd c_10 (by exact nI_ge (b := 12) (by omega) (by omega))) (fun c_10 => ?_)
  refine g_aload_n (nx := 14) 0 F dX7_letter_13 rfl rfl rfl ?_
  refine g_getR (nx := 17) F dX7_letter_14 rfl fl_RX7_9 rfl (by decide) (by decide) rfl ?_
  refine g_iload_n (nx := 18) 1 F dX7_letter_17 rfl rfl rfl ?_
  refine g_ialdN (nx := 19) (v) (_) F dX7_letter_18 rfl rfl (by omega) (rfl) ?_
  refine g_goto 23 F dX7_letter_19 (by decide) ?_
  refine g_iret F E dX7_letter_23 ?_
  exact ⟨rfl, rfl⟩
set_option maxHeartbeats 4000000 in
set_option maxRecDepth 100000 in
theorem c_isRefused (k x : Int32) (σ : zSt) : Con mX7_isRefused 0 [.int k, .int x] σ (fun r τ => r = some (.int (bI (x = 0 ∧ (k = 47 ∨ k = 37)))) ∧ τ = σ) := by
  refine Con.of (lv := [.int k, .int x]) mk_X7_isRefused rfl (Nat.le_of_ble_eq_true rfl) rfl (fun X F E => ?_)
  refine g_iload_n (nx := 1) 1 F dX7_isRefused_0 rfl rfl rfl ?_
  refine g_if_ne (nx := 4) 20 F dX7_isRefused_1 rfl (by decide) (fun c_1 => ?_) (fun c_1 => ?_)
  · refine g_iconst (nx := 21) (0) F dX7_isRefused_20 rfl rfl ?_
    refine g_zret F E dX7_isRefused_21 (by first | rfl | assumption) ?_
    clear F E
    refine ⟨congrArg (fun z => some (Value.int z)) (Eq.symm ?_), rfl⟩
    first
      | exact bI_t ⟨by assumption, Or.inl (by assumption)⟩
      | exact bI_t ⟨by assumption, Or.inr (by assumption)⟩
      | exact bI_f (fun q => absurd q.1 (by assumption))
      | exact bI_f (fun q => q.2.elim (by assumption) (by assumption))
  · refine g_iload_n (nx := 5) 0 F dX7_isRefused_4 rfl rfl rfl ?_
    refine g_bipush (nx := 7) (47) F dX7_isRefused_5 rfl (by decide) ?_
    refine g_icmp_eq (nx := 10) 16 F dX7_isRefused_7 rfl (by decide) (fun c_7 => ?_) (fun c_7 => ?_)
    · refine g_iconst (nx := 17) (1) F dX7_isRefused_16 rfl rfl ?_
      refine g_goto 21 F dX7_isRefused_17 (by decide) ?_
      refine g_zret F E dX7_isRefused_21 (by first | rfl | assumption) ?_
      clear F E
      refine ⟨congrArg (fun z => some (Value.int z)) (Eq.symm ?_), rfl⟩
      first
        | exact bI_t ⟨by assumption, Or.inl (by assumption)⟩
        | exact bI_t ⟨by assumption, Or.inr (by assumption)⟩
        | exact bI_f (fun q => absurd q.1 (by assumption))
        | exact bI_f (fun q => q.2.elim (by assumption) (by assumption))
    · refine g_iload_n (nx := 11) 0 F dX7_isRefused_10 rfl rfl rfl ?_
      refine g_bipush (nx := 13) (37) F dX7_isRefused_11 rfl (by decide) ?_
      refine g_icmp_ne (nx := 16) 20 F dX7_isRefused_13 rfl (by decide) (fun c_13 => ?_) (fun c_13 => ?_)
      · refine g_iconst (nx := 21) (0) F dX7_isRefused_20 rfl rfl ?_
        refine g_zret F E dX7_isRefused_21 (by first | rfl | assumption) ?_
        clear F E
        refine ⟨congrArg (fun z => some (Value.int z)) (Eq.symm ?_), rfl⟩
        first
          | exact bI_t ⟨by assumption, Or.inl (by assumption)⟩
          | exact bI_t ⟨by assumption, Or.inr (by assumption)⟩
          | exact bI_f (fun q => absurd q.1 (by assumption))
          | exact bI_f (fun q => q.2.elim (by assumption) (by assumption))
      · refine g_iconst (nx := 17) (1) F dX7_isRefused_16 rfl rfl ?_
        refine g_goto 21 F dX7_isRefused_17 (by decide) ?_
        refine g_zret F E dX7_isRefused_21 (by first | rfl | assumption) ?_
        clear F E
        refine ⟨congrArg (fun z => some (Value.int z)) (Eq.symm ?_), rfl⟩
        first
          | exact bI_t ⟨by assumption, Or.inl (by assumption)⟩
          | exact bI_t ⟨by assumption, Or.inr (by assumption)⟩
          | exact bI_f (fun q => absurd q.1 (by assumption))
          | exact bI_f (fun q => q.2.elim (by assumption) (by assumption))
set_option maxHeartbeats 4000000 in
set_option maxRecDepth 100000 in
theorem c_join_2 (a b : Int32) (σ : zSt) (hb : (2 = 5 ∨ 2 = 6) → b ≠ 0) : Con mX7_join 0 [.int (43), .int a, .int b] σ (fun r τ => r = some (.int (jn 2 a b)) ∧ τ = σ) := by
  refine Con.of (lv := [.int (43), .int a, .int b]) mk_X7_join rfl (Nat.le_of_ble_eq_true rfl) rfl (fun X F E => ?_)
  refine g_iload_n (nx := 1) 0 F dX7_join_0 rfl rfl rfl ?_
  refine g_lookup (off := 67) 68 F dX7_join_1 (by decide) (by decide) (by decide) ?_
  refine g_iload_n (nx := 69) 1 F dX7_join_68 rfl rfl rfl ?_
  refine g_iload_n (nx := 70) 2 F dX7_join_69 rfl rfl rfl ?_
  refine g_iadd (nx := 71) F dX7_join_70 rfl ?_
  refine g_iret F E dX7_join_71 ?_
  exact ⟨rfl, rfl⟩
set_option maxHeartbeats 4000000 in
set_option maxRecDepth 100000 in
theorem c_join_3 (a b : Int32) (σ : zSt) (hb : (3 = 5 ∨ 3 = 6) → b ≠ 0) : Con mX7_join 0 [.int (45), .int a, .int b] σ (fun r τ => r = some (.int (jn 3 a b)) ∧ τ = σ) := by
  refine Con.of (lv := [.int (45), .int a, .int b]) mk_X7_join rfl (Nat.le_of_ble_eq_true rfl) rfl (fun X F E => ?_)
  refine g_iload_n (nx := 1) 0 F dX7_join_0 rfl rfl rfl ?_
  refine g_lookup (off := 71) 72 F dX7_join_1 (by decide) (by decide) (by decide) ?_
  refine g_iload_n (nx := 73) 1 F dX7_join_72 rfl rfl rfl ?_
  refine g_iload_n (nx := 74) 2 F dX7_join_73 rfl rfl rfl ?_
  refine g_isub (nx := 75) F dX7_join_74 rfl ?_
  refine g_iret F E dX7_join_75 ?_
  exact ⟨rfl, rfl⟩
set_option maxHeartbeats 4000000 in
set_option maxRecDepth 100000 in
theorem c_join_4 (a b : Int32) (σ : zSt) (hb : (4 = 5 ∨ 4 = 6) → b ≠ 0) : Con mX7_join 0 [.int (42), .int a, .int b] σ (fun r τ => r = some (.int (jn 4 a b)) ∧ τ = σ) := by
  refine Con.of (lv := [.int (42), .int a, .int b]) mk_X7_join rfl (Nat.le_of_ble_eq_true rfl) rfl (fun X F E => ?_)
  refine g_iload_n (nx := 1) 0 F dX7_join_0 rfl rfl rfl ?_
  refine g_lookup (off := 75) 76 F dX7_join_1 (by decide) (by decide) (by decide) ?_
  refine g_iload_n (nx := 77) 1 F dX7_join_76 rfl rfl rfl ?_
  refine g_iload_n (nx := 78) 2 F dX7_join_77 rfl rfl rfl ?_
  refine g_imul (nx := 79) F dX7_join_78 rfl ?_
  refine g_iret F E dX7_join_79 ?_
  exact ⟨rfl, rfl⟩
set_option maxHeartbeats 4000000 in
set_option maxRecDepth 100000 in
theorem c_join_5 (a b : Int32) (σ : zSt) (hb : (5 = 5 ∨ 5 = 6) → b ≠ 0) : Con mX7_join 0 [.int (47), .int a, .int b] σ (fun r τ => r = some (.int (jn 5 a b)) ∧ τ = σ) := by
  refine Con.of (lv := [.int (47), .int a, .int b]) mk_X7_join rfl (Nat.le_of_ble_eq_true rfl) rfl (fun X F E => ?_)
  refine g_iload_n (nx := 1) 0 F dX7_join_0 rfl rfl rfl ?_
  refine g_lookup (off := 79) 80 F dX7_join_1 (by decide) (by decide) (by decide) ?_
  refine g_iload_n (nx := 81) 2 F dX7_join_80 rfl rfl rfl ?_
  refine g_if_ne (nx := 84) 88 F dX7_join_81 rfl (by decide) (fun c_81 => ?_) (fun c_81 => absurd c_81 (by exact fun zq => hb (Or.inl rfl) zq))
  refine g_iload_n (nx := 89) 1 F dX7_join_88 rfl rfl rfl ?_
  refine g_iload_n (nx := 90) 2 F dX7_join_89 rfl rfl rfl ?_
  refine g_idiv (nx := 91) F dX7_join_90 rfl (by exact fun zq => hb (Or.inl rfl) zq) ?_
  refine g_iret F E dX7_join_91 ?_
  exact ⟨rfl, rfl⟩
set_option maxHeartbeats 4000000 in
set_option maxRecDepth 100000 in
theorem c_join_6 (a b : Int32) (σ : zSt) (hb : (6 = 5 ∨ 6 = 6) → b ≠ 0) : Con mX7_join 0 [.int (37), .int a, .int b] σ (fun r τ => r = some (.int (jn 6 a b)) ∧ τ = σ) := by
  refine Con.of (lv := [.int (37), .int a, .int b]) mk_X7_join rfl (Nat.le_of_ble_eq_true rfl) rfl (fun X F E => ?_)
  refine g_iload_n (nx := 1) 0 F dX7_join_0 rfl rfl rfl ?_
  refine g_lookup (off := 91) 92 F dX7_join_1 (by decide) (by decide) (by decide) ?_
  refine g_iload_n (nx := 93) 2 F dX7_join_92 rfl rfl rfl ?_
  refine g_if_ne (nx := 96) 100 F dX7_join_93 rfl (by decide) (fun c_93 => ?_) (fun c_93 => absurd c_93 (by exact fun zq => hb (Or.inr rfl) zq))
  refine g_iload_n (nx := 101) 1 F dX7_join_100 rfl rfl rfl ?_
  refine g_iload_n (nx := 102) 2 F dX7_join_101 rfl rfl rfl ?_
  refine g_irem (nx := 103) F dX7_join_102 rfl (by exact fun zq => hb (Or.inr rfl) zq) ?_
  refine g_iret F E dX7_join_103 ?_
  exact ⟨rfl, rfl⟩
set_option maxHeartbeats 4000000 in
set_option maxRecDepth 100000 in
theorem c_join_7 (a b : Int32) (σ : zSt) (hb : (7 = 5 ∨ 7 = 6) → b ≠ 0) : Con mX7_join 0 [.int (60), .int a, .int b] σ (fun r τ => r = some (.int (jn 7 a b)) ∧ τ = σ) := by
  refine Con.of (lv := [.int (60), .int a, .int b]) mk_X7_join rfl (Nat.le_of_ble_eq_true rfl) rfl (fun X F E => ?_)
  refine g_iload_n (nx := 1) 0 F dX7_join_0 rfl rfl rfl ?_
  refine g_lookup (off := 103) 104 F dX7_join_1 (by decide) (by decide) (by decide) ?_
  refine g_iload_n (nx := 105) 1 F dX7_join_104 rfl rfl rfl ?_
  refine g_iload_n (nx := 106) 2 F dX7_join_105 rfl rfl rfl ?_
  refine g_icmp_ge (nx := 109) 113 F dX7_join_106 rfl (by decide) (fun c_106 => ?_) (fun c_106 => ?_)
  · refine g_iconst (nx := 114) (0) F dX7_join_113 rfl rfl ?_
    refine g_iret F E dX7_join_114 ?_
    exact ⟨congrArg (fun z => some (Value.int z)) (by show _ = bI _; first | exact (bI_t (by first | exact not_le_I.mp (by assumption) | assumption)).symm | exact (bI_f (by first | exact not_lt_I.mpr (by assumption) | assumption)).symm), rfl⟩
  · refine g_iconst (nx := 110) (1) F dX7_join_109 rfl rfl ?_
    refine g_goto 114 F dX7_join_110 (by decide) ?_
    refine g_iret F E dX7_join_114 ?_
    exact ⟨congrArg (fun z => some (Value.int z)) (by show _ = bI _; first | exact (bI_t (by first | exact not_le_I.mp (by assumption) | assumption)).symm | exact (bI_f (by first | exact not_lt_I.mpr (by assumption) | assumption)).symm), rfl⟩
set_option maxHeartbeats 4000000 in
set_option maxRecDepth 100000 in
theorem c_join_8 (a b : Int32) (σ : zSt) (hb : (8 = 5 ∨ 8 = 6) → b ≠ 0) : Con mX7_join 0 [.int (62), .int a, .int b] σ (fun r τ => r = some (.int (jn 8 a b)) ∧ τ = σ) := by
  refine Con.of (lv := [.int (62), .int a, .int b]) mk_X7_join rfl (Nat.le_of_ble_eq_true rfl) rfl (fun X F E => ?_)
  refine g_iload_n (nx := 1) 0 F dX7_join_0 rfl rfl rfl ?_
  refine g_lookup (off := 114) 115 F dX7_join_1 (by decide) (by decide) (by decide) ?_
  refine g_iload_n (nx := 116) 1 F dX7_join_115 rfl rfl rfl ?_
  refine g_iload_n (nx := 117) 2 F dX7_join_116 rfl rfl rfl ?_
  refine g_icmp_le (nx := 120) 124 F dX7_join_117 rfl (by decide) (fun c_117 => ?_) (fun c_117 => ?_)
  · refine g_iconst (nx := 125) (0) F dX7_join_124 rfl rfl ?_
    refine g_iret F E dX7_join_125 ?_
    exact ⟨congrArg (fun z => some (Value.int z)) (by show _ = bI _; first | exact (bI_t (by first | exact not_le_I.mp (by assumption) | assumption)).symm | exact (bI_f (by first | exact not_lt_I.mpr (by assumption) | assumption)).symm), rfl⟩
  · refine g_iconst (nx := 121) (1) F dX7_join_120 rfl rfl ?_
    refine g_goto 125 F dX7_join_121 (by decide) ?_
    refine g_iret F E dX7_join_125 ?_
    exact ⟨congrArg (fun z => some (Value.int z)) (by show _ = bI _; first | exact (bI_t (by first | exact not_le_I.mp (by assumption) | assumption)).symm | exact (bI_f (by first | exact not_lt_I.mpr (by assumption) | assumption)).symm), rfl⟩
set_option maxHeartbeats 4000000 in
set_option maxRecDepth 100000 in
theorem c_join_9 (a b : Int32) (σ : zSt) (hb : (9 = 5 ∨ 9 = 6) → b ≠ 0) : Con mX7_join 0 [.int (61), .int a, .int b] σ (fun r τ => r = some (.int (jn 9 a b)) ∧ τ = σ) := by
  refine Con.of (lv := [.int (61), .int a, .int b]) mk_X7_join rfl (Nat.le_of_ble_eq_true rfl) rfl (fun X F E => ?_)
  refine g_iload_n (nx := 1) 0 F dX7_join_0 rfl rfl rfl ?_
  refine g_lookup (off := 125) 126 F dX7_join_1 (by decide) (by decide) (by decide) ?_
  refine g_iload_n (nx := 127) 1 F dX7_join_126 rfl rfl rfl ?_
  refine g_iload_n (nx := 128) 2 F dX7_join_127 rfl rfl rfl ?_
  refine g_icmp_ne (nx := 131) 135 F dX7_join_128 rfl (by decide) (fun c_128 => ?_) (fun c_128 => ?_)
  · refine g_iconst (nx := 136) (0) F dX7_join_135 rfl rfl ?_
    refine g_iret F E dX7_join_136 ?_
    exact ⟨congrArg (fun z => some (Value.int z)) (by show _ = bI _; first | exact (bI_t (by first | exact not_le_I.mp (by assumption) | assumption)).symm | exact (bI_f (by first | exact not_lt_I.mpr (by assumption) | assumption)).symm), rfl⟩
  · refine g_iconst (nx := 132) (1) F dX7_join_131 rfl rfl ?_
    refine g_goto 136 F dX7_join_132 (by decide) ?_
    refine g_iret F E dX7_join_136 ?_
    exact ⟨congrArg (fun z => some (Value.int z)) (by show _ = bI _; first | exact (bI_t (by first | exact not_le_I.mp (by assumption) | assumption)).symm | exact (bI_f (by first | exact not_lt_I.mpr (by assumption) | assumption)).symm), rfl⟩
set_option maxHeartbeats 4000000 in
set_option maxRecDepth 100000 in
theorem k_reckon_2 (a b : Int32) (σ : zSt) (hb : (2 = 5 ∨ 2 = 6) → b ≠ 0) : Con mX12_reckon 0 [.int (2), .int a, .int b] σ (fun r τ => r = some (.int (jn 2 a b)) ∧ τ = σ) := by
  refine Con.of (lv := [.int (2), .int a, .int b]) mk_X12_reckon rfl (Nat.le_of_ble_eq_true rfl) rfl (fun X F E => ?_)
  refine g_iload_n (nx := 1) 0 F dX12_reckon_0 rfl rfl rfl ?_
  refine g_tabN 0 44 F dX12_reckon_1 (by decide) (by decide) rfl (by decide) ?_
  refine g_iload_n (nx := 45) 1 F dX12_reckon_44 rfl rfl rfl ?_
  refine g_iload_n (nx := 46) 2 F dX12_reckon_45 rfl rfl rfl ?_
  refine g_iadd (nx := 47) F dX12_reckon_46 rfl ?_
  refine g_iret F E dX12_reckon_47 ?_
  exact ⟨rfl, rfl⟩
set_option maxHeartbeats 4000000 in
set_option maxRecDepth 100000 in
theorem k_reckon_3 (a b : Int32) (σ : zSt) (hb : (3 = 5 ∨ 3 = 6) → b ≠ 0) : Con mX12_reckon 0 [.int (3), .int a, .int b] σ (fun r τ => r = some (.int (jn 3 a b)) ∧ τ = σ) := by
  refine Con.of (lv := [.int (3), .int a, .int b]) mk_X12_reckon rfl (Nat.le_of_ble_eq_true rfl) rfl (fun X F E => ?_)
  refine g_iload_n (nx := 1) 0 F dX12_reckon_0 rfl rfl rfl ?_
  refine g_tabN 1 48 F dX12_reckon_1 (by decide) (by decide) rfl (by decide) ?_
  refine g_iload_n (nx := 49) 1 F dX12_reckon_48 rfl rfl rfl ?_
  refine g_iload_n (nx := 50) 2 F dX12_reckon_49 rfl rfl rfl ?_
  refine g_isub (nx := 51) F dX12_reckon_50 rfl ?_
  refine g_iret F E dX12_reckon_51 ?_
  exact ⟨rfl, rfl⟩
set_option maxHeartbeats 4000000 in
set_option maxRecDepth 100000 in
theorem k_reckon_4 (a b : Int32) (σ : zSt) (hb : (4 = 5 ∨ 4 = 6) → b ≠ 0) : Con mX12_reckon 0 [.int (4), .int a, .int b] σ (fun r τ => r = some (.int (jn 4 a b)) ∧ τ = σ) := by
  refine Con.of (lv := [.int (4), .int a, .int b]) mk_X12_reckon rfl (Nat.le_of_ble_eq_true rfl) rfl (fun X F E => ?_)
  refine g_iload_n (nx := 1) 0 F dX12_reckon_0 rfl rfl rfl ?_
  refine g_tabN 2 52 F dX12_reckon_1 (by decide) (by decide) rfl (by decide) ?_
  refine g_iload_n (nx := 53) 1 F dX12_reckon_52 rfl rfl rfl ?_
  refine g_iload_n (nx := 54) 2 F dX12_reckon_53 rfl rfl rfl ?_
  refine g_imul (nx := 55) F dX12_reckon_54 rfl ?_
  refine g_iret F E dX12_reckon_55 ?_
  exact ⟨rfl, rfl⟩
set_option maxHeartbeats 4000000 in
set_option maxRecDepth 100000 in
theorem k_reckon_5 (a b : Int32) (σ : zSt) (hb : (5 = 5 ∨ 5 = 6) → b ≠ 0) : Con mX12_reckon 0 [.int (5), .int a, .int b] σ (fun r τ => r = some (.int (jn 5 a b)) ∧ τ = σ) := by
  refine Con.of (lv := [.int (5), .int a, .int b]) mk_X12_reckon rfl (Nat.le_of_ble_eq_true rfl) rfl (fun X F E => ?_)
  refine g_iload_n (nx := 1) 0 F dX12_reckon_0 rfl rfl rfl ?_
  refine g_tabN 3 56 F dX12_reckon_1 (by decide) (by decide) rfl (by decide) ?_
  refine g_iload_n (nx := 57) 1 F dX12_reckon_56 rfl rfl rfl ?_
  refine g_iload_n (nx := 58) 2 F dX12_reckon_57 rfl rfl rfl ?_
  refine g_idiv (nx := 59) F dX12_reckon_58 rfl (by exact hb (Or.inl rfl)) ?_
  refine g_iret F E dX12_reckon_59 ?_
  exact ⟨rfl, rfl⟩
set_option maxHeartbeats 4000000 in
set_option maxRecDepth 100000 in
theorem k_reckon_6 (a b : Int32) (σ : zSt) (hb : (6 = 5 ∨ 6 = 6) → b ≠ 0) : Con mX12_reckon 0 [.int (6), .int a, .int b] σ (fun r τ => r = some (.int (jn 6 a b)) ∧ τ = σ) := by
  refine Con.of (lv := [.int (6), .int a, .int b]) mk_X12_reckon rfl (Nat.le_of_ble_eq_true rfl) rfl (fun X F E => ?_)
  refine g_iload_n (nx := 1) 0 F dX12_reckon_0 rfl rfl rfl ?_
  refine g_tabN 4 60 F dX12_reckon_1 (by decide) (by decide) rfl (by decide) ?_
  refine g_iload_n (nx := 61) 1 F dX12_reckon_60 rfl rfl rfl ?_
  refine g_iload_n (nx := 62) 2 F dX12_reckon_61 rfl rfl rfl ?_
  refine g_irem (nx := 63) F dX12_reckon_62 rfl (by exact hb (Or.inr rfl)) ?_
  refine g_iret F E dX12_reckon_63 ?_
  exact ⟨rfl, rfl⟩
set_option maxHeartbeats 4000000 in
set_option maxRecDepth 100000 in
theorem k_reckon_7 (a b : Int32) (σ : zSt) (hb : (7 = 5 ∨ 7 = 6) → b ≠ 0) : Con mX12_reckon 0 [.int (7), .int a, .int b] σ (fun r τ => r = some (.int (jn 7 a b)) ∧ τ = σ) := by
  refine Con.of (lv := [.int (7), .int a, .int b]) mk_X12_reckon rfl (Nat.le_of_ble_eq_true rfl) rfl (fun X F E => ?_)
  refine g_iload_n (nx := 1) 0 F dX12_reckon_0 rfl rfl rfl ?_
  refine g_tabN 5 64 F dX12_reckon_1 (by decide) (by decide) rfl (by decide) ?_
  refine g_iload_n (nx := 65) 1 F dX12_reckon_64 rfl rfl rfl ?_
  refine g_iload_n (nx := 66) 2 F dX12_reckon_65 rfl rfl rfl ?_
  refine g_icmp_ge (nx := 69) 73 F dX12_reckon_66 rfl (by decide) (fun c_66 => ?_) (fun c_66 => ?_)
  · refine g_iconst (nx := 74) (0) F dX12_reckon_73 rfl rfl ?_
    refine g_iret F E dX12_reckon_74 ?_
    exact ⟨congrArg (fun z => some (Value.int z)) (by show _ = bI _; first | exact (bI_t (by first | exact not_le_I.mp (by assumption) | assumption)).symm | exact (bI_f (by first | exact not_lt_I.mpr (by assumption) | assumption)).symm), rfl⟩
  · refine g_iconst (nx := 70) (1) F dX12_reckon_69 rfl rfl ?_
    refine g_goto 74 F dX12_reckon_70 (by decide) ?_
    refine g_iret F E dX12_reckon_74 ?_
    exact ⟨congrArg (fun z => some (Value.int z)) (by show _ = bI _; first | exact (bI_t (by first | exact not_le_I.mp (by assumption) | assumption)).symm | exact (bI_f (by first | exact not_lt_I.mpr (by assumption) | assumption)).symm), rfl⟩
set_option maxHeartbeats 4000000 in
set_option maxRecDepth 100000 in
theorem k_reckon_8 (a b : Int32) (σ : zSt) (hb : (8 = 5 ∨ 8 = 6) → b ≠ 0) : Con mX12_reckon 0 [.int (8), .int a, .int b] σ (fun r τ => r = some (.int (jn 8 a b)) ∧ τ = σ) := by
  refine Con.of (lv := [.int (8), .int a, .int b]) mk_X12_reckon rfl (Nat.le_of_ble_eq_true rfl) rfl (fun X F E => ?_)
  refine g_iload_n (nx := 1) 0 F dX12_reckon_0 rfl rfl rfl ?_
  refine g_tabN 6 75 F dX12_reckon_1 (by decide) (by decide) rfl (by decide) ?_
  refine g_iload_n (nx := 76) 1 F dX12_reckon_75 rfl rfl rfl ?_
  refine g_iload_n (nx := 77) 2 F dX12_reckon_76 rfl rfl rfl ?_
  refine g_icmp_le (nx := 80) 84 F dX12_reckon_77 rfl (by decide) (fun c_77 => ?_) (fun c_77 => ?_)
  · refine g_iconst (nx := 85) (0) F dX12_reckon_84 rfl rfl ?_
    refine g_iret F E dX12_reckon_85 ?_
    exact ⟨congrArg (fun z => some (Value.int z)) (by show _ = bI _; first | exact (bI_t (by first | exact not_le_I.mp (by assumption) | assumption)).symm | exact (bI_f (by first | exact not_lt_I.mpr (by assumption) | assumption)).symm), rfl⟩
  · refine g_iconst (nx := 81) (1) F dX12_reckon_80 rfl rfl ?_
    refine g_goto 85 F dX12_reckon_81 (by decide) ?_
    refine g_iret F E dX12_reckon_85 ?_
    exact ⟨congrArg (fun z => some (Value.int z)) (by show _ = bI _; first | exact (bI_t (by first | exact not_le_I.mp (by assumption) | assumption)).symm | exact (bI_f (by first | exact not_lt_I.mpr (by assumption) | assumption)).symm), rfl⟩
set_option maxHeartbeats 4000000 in
set_option maxRecDepth 100000 in
theorem k_reckon_9 (a b : Int32) (σ : zSt) (hb : (9 = 5 ∨ 9 = 6) → b ≠ 0) : Con mX12_reckon 0 [.int (9), .int a, .int b] σ (fun r τ => r = some (.int (jn 9 a b)) ∧ τ = σ) := by
  refine Con.of (lv := [.int (9), .int a, .int b]) mk_X12_reckon rfl (Nat.le_of_ble_eq_true rfl) rfl (fun X F E => ?_)
  refine g_iload_n (nx := 1) 0 F dX12_reckon_0 rfl rfl rfl ?_
  refine g_tableOut 86 F dX12_reckon_1 (by decide) (by decide) ?_
  refine g_iload_n (nx := 87) 1 F dX12_reckon_86 rfl rfl rfl ?_
  refine g_iload_n (nx := 88) 2 F dX12_reckon_87 rfl rfl rfl ?_
  refine g_icmp_ne (nx := 91) 95 F dX12_reckon_88 rfl (by decide) (fun c_88 => ?_) (fun c_88 => ?_)
  · refine g_iconst (nx := 96) (0) F dX12_reckon_95 rfl rfl ?_
    refine g_iret F E dX12_reckon_96 ?_
    exact ⟨congrArg (fun z => some (Value.int z)) (by show _ = bI _; first | exact (bI_t (by first | exact not_le_I.mp (by assumption) | assumption)).symm | exact (bI_f (by first | exact not_lt_I.mpr (by assumption) | assumption)).symm), rfl⟩
  · refine g_iconst (nx := 92) (1) F dX12_reckon_91 rfl rfl ?_
    refine g_goto 96 F dX12_reckon_92 (by decide) ?_
    refine g_iret F E dX12_reckon_96 ?_
    exact ⟨congrArg (fun z => some (Value.int z)) (by show _ = bI _; first | exact (bI_t (by first | exact not_le_I.mp (by assumption) | assumption)).symm | exact (bI_f (by first | exact not_lt_I.mpr (by assumption) | assumption)).symm), rfl⟩
