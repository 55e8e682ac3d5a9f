/-! PLAY: one MONTH, as both play it. D: pay 0, fear 1, crew 2, shape 3, right 4, haste 5. P: step 0, coin 1, stood 2, paid 3, told 4, doneIn 5, has 6, took 7; 8: x, takers, sum. T 10 is the law -/
theorem ev_congr {op vl dp : Nat → Nat} {bl : Nat → Bool} {fa fb : Nat → Int32} {fr to : Nat} (hw : wfC op vl dp bl fr to) (hf : ∀ k, k < 12 → fa k = fb k) : ∀ (f k : Nat) (st : List Int32), fr ≤ k → evF op vl fa to f k st = evF op vl fb to f k st
  | 0, _, _, _ => rfl
  | f + 1, k, st, hk => by
    rw [evF, evF]
    by_cases h0 : to ≤ k
    · rw [if_pos h0, if_pos h0]
    · rw [if_neg h0, if_neg h0, ev_congr hw hf f (k + 1) _ (by omega), ev_congr hw hf f (k + 1) _ (by omega), ev_congr hw hf f (k + 1) _ (by omega), ev_congr hw hf f (k + 1) _ (by omega), ev_congr hw hf f (k + 1) _ (by omega)]
      have hw2 := hw.2.2.2.2.2 k hk (by omega)
      have h1 : op k = 1 → fa (vl k) = fb (vl k) := by
        intro h1
        rcases hw2 with ⟨ho, _⟩ | ⟨ho, w2, w3, w4, w5⟩ | ⟨o1, o2, _⟩ | ⟨o1, o2, _⟩ | ⟨ho, _⟩ | ⟨o1, _⟩
        · omega
        · exact hf _ w5
        · omega
        · omega
        · omega
        · omega
      have h2 : op k = 11 ∨ op k = 12 → ∀ st, evF op vl fa to f (vl k) st = evF op vl fb to f (vl k) st := by
        intro h2 st
        rcases hw2 with ⟨ho, _⟩ | ⟨ho, w2, w3, w4, w5⟩ | ⟨o1, o2, _⟩ | ⟨o1, o2, _⟩ | ⟨ho, _⟩ | ⟨o1, w2, w3, w4, w5, w6, _⟩
        · omega
        · omega
        · omega
        · omega
        · omega
        · exact ev_congr hw hf f (vl k) st (by omega)
      by_cases e1 : op k = 1
      · rw [h1 e1]
        simp only [e1]
        rfl
      · rw [if_neg e1, if_neg e1]
        by_cases e2 : op k = 11 ∨ op k = 12
        · rw [h2 e2]
        · rw [if_neg (show ¬ op k = 11 by omega), if_neg (show ¬ op k = 12 by omega), if_neg (show ¬ op k = 11 by omega), if_neg (show ¬ op k = 12 by omega)]
theorem pkF_congr {T : TXT} {fa fb : Nat → Int32} {h : Nat} {most : Int32} (hok : txOK T) (hf : ∀ k, k < 12 → fa k = fb k) : pkF T fa h most = pkF T fb h most := by
  obtain ⟨n, hd, sf, cf, en, op, vl, len⟩ := T
  obtain ⟨_, _, _, hok⟩ := hok
  have : ∀ q j, j + q = n → pkL hd sf cf en op vl fa h most q j = pkL hd sf cf en op vl fb h most q j := by
    intro q
    induction q with
    | zero => intro j _; rfl
    | succ q ih =>
      intro j hj
      obtain ⟨_, ⟨dp1, bl1, hw1⟩, dp2, bl2, hw2, _⟩ := hok j (by omega)
      rw [pkL, pkL, ih (j + 1) (by omega), ev_congr hw1 hf _ _ _ (Nat.le_refl _), ev_congr hw2 hf _ _ _ (Nat.le_refl _)]
  exact this n 0 (by omega)
theorem clp_pos {most v : Int32} (hm : 0 ≤ most) : 0 ≤ clp most v ∧ clp most v ≤ most := by
  unfold clp
  split
  · exact ⟨(fa_le 0 0).mpr (Int.le_refl _), hm⟩
  · split
    · exact ⟨hm, (fa_le _ _).mpr (Int.le_refl _)⟩
    · exact ⟨not_lt_I.mp ‹_›, not_lt_I.mp ‹_›⟩
theorem pkF_rng (T : TXT) (fa : Nat → Int32) (h : Nat) {most : Int32} (hm : 0 ≤ most) : 0 ≤ pkF T fa h most ∧ pkF T fa h most ≤ most := by
  obtain ⟨n, hd, sf, cf, en, op, vl, len⟩ := T
  have : ∀ q j, 0 ≤ pkL hd sf cf en op vl fa h most q j ∧ pkL hd sf cf en op vl fa h most q j ≤ most := by
    intro q
    induction q with
    | zero => intro j; exact ⟨(fa_le 0 0).mpr (Int.le_refl _), hm⟩
    | succ q ih =>
      intro j
      rw [pkL]
      split
      · exact clp_pos hm
      · exact ih (j + 1)
  exact this n 0
def txG (T : TXT) : Prop := txOK T ∧ match T with
  | (n, hd, _) => ∀ j, j < n → hd j < 1000
theorem c_pickT (t h : Nat) (T : TXT) (most : Int32) (σ : zSt) (ht : isT t) (hg : txG T) (hT : txC σ t T) (hh : h < 1000) (hm : 0 ≤ most) : Con mX7_pick 2 [.ref 13, .ref t, .int (nI h), .int most] σ (fun r τ => (∃ g, τ = zs σ 15 g) ∧ r = some (.int (pkF T (σ 14) h most))) := by
  obtain ⟨n, hd, sf, cf, en, op, vl, len⟩ := T
  exact c_pick t n len h hd sf cf en op vl most σ ht hg.1 hT hh hg.2 hm
theorem k_byTextT (i h : Nat) (T : TXT) (most : Int32) (σ : zSt) (hi : i < 12) (hg : txG T) (hT : txK σ i T) (hh : h < 1000) : Con mX12_byText 2 [.ref 145, .int (nI i), .int (nI h), .int most] σ (fun r τ => (∃ g, τ = zs σ 175 g) ∧ r = some (.int (pkF T (σ 176) h most))) := by
  obtain ⟨n, hd, sf, cf, en, op, vl, len⟩ := T
  exact k_byText i n len h hd sf cf en op vl most σ hi hg.1 hT hh hg.2
theorem txC_congr {σ τ : zSt} {t : Nat} {T : TXT} (h : ∀ a, t ≤ a → a ≤ t + 5 → τ a = σ a) (hT : txC σ t T) : txC τ t T := by
  obtain ⟨n, hd, sf, cf, en, op, vl, len⟩ := T
  unfold txC at *
  dsimp only at *
  rw [h t (by omega) (by omega), h (t + 1) (by omega) (by omega), h (t + 2) (by omega) (by omega), h (t + 3) (by omega) (by omega), h (t + 4) (by omega) (by omega), h (t + 5) (by omega) (by omega)]
  exact hT
theorem txK_congr {σ τ : zSt} {i : Nat} {T : TXT} (h : ∀ a, 169 ≤ a → a ≤ 174 → τ a = σ a) (hT : txK σ i T) : txK τ i T := by
  obtain ⟨n, hd, sf, cf, en, op, vl, len⟩ := T
  unfold txK at *
  dsimp only at *
  rw [h 169 (by omega) (by omega), h 170 (by omega) (by omega), h 171 (by omega) (by omega), h 172 (by omega) (by omega), h 173 (by omega) (by omega), h 174 (by omega) (by omega)]
  exact hT
def fcF (r c h m s f p i n o y x : Int32) : Nat → Int32 := fun k => [r, c, h, m, s, f, p, i, n, o, y, x].getD k 0
def cntN (f : Nat → Int32) (v : Int32) : Nat → Nat
  | 0 => 0
  | n + 1 => cntN f v n + if f n = v then 1 else 0
def fcP (D P : zSt) (n : Nat) (o y : Int32) (i j : Nat) (x : Int32) : Nat → Int32 := fcF (D 4 j) (P 1 j) (D 5 j) (P 2 j) (P 0 j) (D 1 i) (D 0 i) (nI i) (nI (cntN (P 0) (P 0 j) n)) o y x
set_option maxHeartbeats 4000000 in
set_option maxRecDepth 100000 in
theorem c_face_17 (i j s : Nat) (x : Int32) (σ : zSt) (hi : i < 10) (hj : j < 40) (hs9 : s < 9) (hs : σ 18 j = nI s) : Con mX6_face 0 [.ref 17, .int (nI i), .int (nI j), .int x] σ (fun r τ => r = none ∧ ∃ g, τ = zs σ 14 g ∧ ∀ k, k < 12 → g k = fcF (σ 9 j) (σ 19 j) (σ 11 j) (σ 20 j) (nI s) (σ 5 i) (σ 4 i) (nI i) (σ 26 s) (σ 17 14) (σ 17 12) x k) := by
  refine Con.of (lv := [.ref 17, .int (nI i), .int (nI j), .int x, .long 0, .long 0]) mk_X6_face rfl (Nat.le_of_ble_eq_true rfl) rfl (fun X F E => ?_)
  refine g_st (zs σ 14 (σ 14)) (zs_id σ 14 _ rfl).symm ?_
  refine g_aload_n (nx := 1) 0 F dX6_face_0 rfl rfl rfl ?_
  refine g_getR (nx := 4) F dX6_face_1 rfl fl_RX6_47 rfl (by decide) (by decide) rfl ?_
  refine g_getR (nx := 7) F dX6_face_4 rfl fl_RX6_147 rfl (by decide) (by decide) rfl ?_
  refine g_astore (nx := 9) F dX6_face_7 rfl (by decide) ?_
  try dsimp only [List.set]
  refine g_aload_n (nx := 10) 0 F dX6_face_9 rfl rfl rfl ?_
  refine g_getR (nx := 13) F dX6_face_10 rfl fl_RX6_9 rfl (by decide) (by decide) rfl ?_
  refine g_iload_n (nx := 14) 2 F dX6_face_13 rfl rfl rfl ?_
  refine g_ialdN (nx := 15) (j) (nI s) F dX6_face_14 rfl rfl (by omega) (hs) ?_
  refine g_istore (nx := 17) F dX6_face_15 rfl (by decide) ?_
  try dsimp only [List.set]
  refine g_aload (nx := 19) F dX6_face_17 rfl rfl ?_
  refine g_iconst (nx := 20) (0) F dX6_face_19 rfl rfl ?_
  refine g_aload_n (nx := 21) 0 F dX6_face_20 rfl rfl rfl ?_
  refine g_getR (nx := 24) F dX6_face_21 rfl fl_RX6_43 rfl (by decide) (by decide) rfl ?_
  refine g_getR (nx := 27) F dX6_face_24 rfl fl_RX6_150 rfl (by decide) (by decide) rfl ?_
  refine g_iload_n (nx := 28) 2 F dX6_face_27 rfl rfl rfl ?_
  refine g_ialdN (nx := 29) (j) (_) F dX6_face_28 rfl rfl (by omega) (rfl) ?_
  show Gs X 29 _ (.int _ :: .int (nI 0) :: .ref 14 :: []) _
  refine g_iastN (nx := 30) (0) F dX6_face_29 rfl rfl (by omega) ?_
  rw [zs_zu]
  refine g_aload (nx := 32) F dX6_face_30 rfl rfl ?_
  refine g_iconst (nx := 33) (1) F dX6_face_32 rfl rfl ?_
  refine g_aload_n (nx := 34) 0 F dX6_face_33 rfl rfl rfl ?_
  refine g_getR (nx := 37) F dX6_face_34 rfl fl_RX6_15 rfl (by decide) (by decide) rfl ?_
  refine g_iload_n (nx := 38) 2 F dX6_face_37 rfl rfl rfl ?_
  refine g_ialdN (nx := 39) (j) (_) F dX6_face_38 rfl rfl (by omega) (rfl) ?_
  show Gs X 39 _ (.int _ :: .int (nI 1) :: .ref 14 :: []) _
  refine g_iastN (nx := 40) (1) F dX6_face_39 rfl rfl (by omega) ?_
  rw [zs_zu]
  refine g_aload (nx := 42) F dX6_face_40 rfl rfl ?_
  refine g_iconst (nx := 43) (2) F dX6_face_42 rfl rfl ?_
  refine g_aload_n (nx := 44) 0 F dX6_face_43 rfl rfl rfl ?_
  refine g_getR (nx := 47) F dX6_face_44 rfl fl_RX6_43 rfl (by decide) (by decide) rfl ?_
  refine g_getR (nx := 50) F dX6_face_47 rfl fl_RX6_153 rfl (by decide) (by decide) rfl ?_
  refine g_iload_n (nx := 51) 2 F dX6_face_50 rfl rfl rfl ?_
  refine g_ialdN (nx := 52) (j) (_) F dX6_face_51 rfl rfl (by omega) (rfl) ?_
  show Gs X 52 _ (.int _ :: .int (nI 2) :: .ref 14 :: []) _
  refine g_iastN (nx := 53) (2) F dX6_face_52 rfl rfl (by omega) ?_
  rw [zs_zu]
  refine g_aload (nx := 55) F dX6_face_53 rfl rfl ?_
  refine g_iconst (nx := 56) (3) F dX6_face_55 rfl rfl ?_
  refine g_aload_n (nx := 57) 0 F dX6_face_56 rfl rfl rfl ?_
  refine g_getR (nx := 60) F dX6_face_57 rfl fl_RX6_18 rfl (by decide) (by decide) rfl ?_
  refine g_iload_n (nx := 61) 2 F dX6_face_60 rfl rfl rfl ?_
  refine g_ialdN (nx := 62) (j) (_) F dX6_face_61 rfl rfl (by omega) (rfl) ?_
  show Gs X 62 _ (.int _ :: .int (nI 3) :: .ref 14 :: []) _
  refine g_iastN (nx := 63) (3) F dX6_face_62 rfl rfl (by omega) ?_
  rw [zs_zu]
  refine g_aload (nx := 65) F dX6_face_63 rfl rfl ?_
  refine g_iconst (nx := 66) (4) F dX6_face_65 rfl rfl ?_
  refine g_iload (nx := 68) F dX6_face_66 rfl rfl ?_
  show Gs X 68 _ (.int _ :: .int (nI 4) :: .ref 14 :: []) _
  refine g_iastN (nx := 69) (4) F dX6_face_68 rfl rfl (by omega) ?_
  rw [zs_zu]
  refine g_aload (nx := 71) F dX6_face_69 rfl rfl ?_
  refine g_iconst (nx := 72) (5) F dX6_face_71 rfl rfl ?_
  refine g_aload_n (nx := 73) 0 F dX6_face_72 rfl rfl rfl ?_
  refine g_getR (nx := 76) F dX6_face_73 rfl fl_RX6_43 rfl (by decide) (by decide) rfl ?_
  refine g_getR (nx := 79) F dX6_face_76 rfl fl_RX6_156 rfl (by decide) (by decide) rfl ?_
  refine g_iload_n (nx := 80) 1 F dX6_face_79 rfl rfl rfl ?_
  refine g_ialdN (nx := 81) (i) (_) F dX6_face_80 rfl rfl (by omega) (rfl) ?_
  show Gs X 81 _ (.int _ :: .int (nI 5) :: .ref 14 :: []) _
  refine g_iastN (nx := 82) (5) F dX6_face_81 rfl rfl (by omega) ?_
  rw [zs_zu]
  refine g_aload (nx := 84) F dX6_face_82 rfl rfl ?_
  refine g_bipush (nx := 86) (6) F dX6_face_84 rfl (by decide) ?_
  refine g_aload_n (nx := 87) 0 F dX6_face_86 rfl rfl rfl ?_
  refine g_getR (nx := 90) F dX6_face_87 rfl fl_RX6_43 rfl (by decide) (by decide) rfl ?_
  refine g_getR (nx := 93) F dX6_face_90 rfl fl_RX6_159 rfl (by decide) (by decide) rfl ?_
  refine g_iload_n (nx := 94) 1 F dX6_face_93 rfl rfl rfl ?_
  refine g_ialdN (nx := 95) (i) (_) F dX6_face_94 rfl rfl (by omega) (rfl) ?_
  show Gs X 95 _ (.int _ :: .int (nI 6) :: .ref 14 :: []) _
  refine g_iastN (nx := 96) (6) F dX6_face_95 rfl rfl (by omega) ?_
  rw [zs_zu]
  refine g_aload (nx := 98) F dX6_face_96 rfl rfl ?_
  refine g_bipush (nx := 100) (7) F dX6_face_98 rfl (by decide) ?_
  refine g_iload_n (nx := 101) 1 F dX6_face_100 rfl rfl rfl ?_
  show Gs X 101 _ (.int _ :: .int (nI 7) :: .ref 14 :: []) _
  refine g_iastN (nx := 102) (7) F dX6_face_101 rfl rfl (by omega) ?_
  rw [zs_zu]
  refine g_aload (nx := 104) F dX6_face_102 rfl rfl ?_
  refine g_bipush (nx := 106) (8) F dX6_face_104 rfl (by decide) ?_
  refine g_aload_n (nx := 107) 0 F dX6_face_106 rfl rfl rfl ?_
  refine g_getR (nx := 110) F dX6_face_107 rfl fl_RX6_36 rfl (by decide) (by decide) rfl ?_
  refine g_iload (nx := 112) F dX6_face_110 rfl rfl ?_
  refine g_ialdN (nx := 113) (s) (_) F dX6_face_112 rfl rfl (by omega) (rfl) ?_
  show Gs X 113 _ (.int _ :: .int (nI 8) :: .ref 14 :: []) _
  refine g_iastN (nx := 114) (8) F dX6_face_113 rfl rfl (by omega) ?_
  rw [zs_zu]
  refine g_aload (nx := 116) F dX6_face_114 rfl rfl ?_
  refine g_bipush (nx := 118) (9) F dX6_face_116 rfl (by decide) ?_
  refine g_aload_n (nx := 119) 0 F dX6_face_118 rfl rfl rfl ?_
  refine g_getI (nx := 122) F dX6_face_119 rfl fl_RX6_62 rfl (by decide) (by decide) rfl rfl ?_
  show Gs X 122 _ (.int _ :: .int (nI 9) :: .ref 14 :: []) _
  refine g_iastN (nx := 123) (9) F dX6_face_122 rfl rfl (by omega) ?_
  rw [zs_zu]
  refine g_aload (nx := 125) F dX6_face_123 rfl rfl ?_
  refine g_bipush (nx := 127) (10) F dX6_face_125 rfl (by decide) ?_
  refine g_aload_n (nx := 128) 0 F dX6_face_127 rfl rfl rfl ?_
  refine g_getI (nx := 131) F dX6_face_128 rfl fl_RX6_54 rfl (by decide) (by decide) rfl rfl ?_
  show Gs X 131 _ (.int _ :: .int (nI 10) :: .ref 14 :: []) _
  refine g_iastN (nx := 132) (10) F dX6_face_131 rfl rfl (by omega) ?_
  rw [zs_zu]
  refine g_aload (nx := 134) F dX6_face_132 rfl rfl ?_
  refine g_bipush (nx := 136) (11) F dX6_face_134 rfl (by decide) ?_
  refine g_iload_n (nx := 137) 3 F dX6_face_136 rfl rfl rfl ?_
  show Gs X 137 _ (.int _ :: .int (nI 11) :: .ref 14 :: []) _
  refine g_iastN (nx := 138) (11) F dX6_face_137 rfl rfl (by omega) ?_
  rw [zs_zu]
  refine g_vret F E dX6_face_138 ?_
  refine ⟨rfl, _, rfl, fun k hk => ?_⟩
  match k, hk with
  | 0, _ => rfl
  | 1, _ => rfl
  | 2, _ => rfl
  | 3, _ => rfl
  | 4, _ => rfl
  | 5, _ => rfl
  | 6, _ => rfl
  | 7, _ => rfl
  | 8, _ => rfl
  | 9, _ => rfl
  | 10, _ => rfl
  | 11, _ => rfl
  | k + 12, hk => exact absurd hk (by omega)
set_option maxHeartbeats 4000000 in
set_option maxRecDepth 100000 in
theorem c_face_27 (i j s : Nat) (x : Int32) (σ : zSt) (hi : i < 10) (hj : j < 40) (hs9 : s < 9) (hs : σ 28 j = nI s) : Con mX6_face 0 [.ref 27, .int (nI i), .int (nI j), .int x] σ (fun r τ => r = none ∧ ∃ g, τ = zs σ 14 g ∧ ∀ k, k < 12 → g k = fcF (σ 9 j) (σ 29 j) (σ 11 j) (σ 30 j) (nI s) (σ 5 i) (σ 4 i) (nI i) (σ 36 s) (σ 27 14) (σ 27 12) x k) := by
  refine Con.of (lv := [.ref 27, .int (nI i), .int (nI j), .int x, .long 0, .long 0]) mk_X6_face rfl (Nat.le_of_ble_eq_true rfl) rfl (fun X F E => ?_)
  refine g_st (zs σ 14 (σ 14)) (zs_id σ 14 _ rfl).symm ?_
  refine g_aload_n (nx := 1) 0 F dX6_face_0 rfl rfl rfl ?_
  refine g_getR (nx := 4) F dX6_face_1 rfl fl_RX6_47 rfl (by decide) (by decide) rfl ?_
  refine g_getR (nx := 7) F dX6_face_4 rfl fl_RX6_147 rfl (by decide) (by decide) rfl ?_
  refine g_astore (nx := 9) F dX6_face_7 rfl (by decide) ?_
  try dsimp only [List.set]
  refine g_aload_n (nx := 10) 0 F dX6_face_9 rfl rfl rfl ?_
  refine g_getR (nx := 13) F dX6_face_10 rfl fl_RX6_9 rfl (by decide) (by decide) rfl ?_
  refine g_iload_n (nx := 14) 2 F dX6_face_13 rfl rfl rfl ?_
  refine g_ialdN (nx := 15) (j) (nI s) F dX6_face_14 rfl rfl (by omega) (hs) ?_
  refine g_istore (nx := 17) F dX6_face_15 rfl (by decide) ?_
  try dsimp only [List.set]
  refine g_aload (nx := 19) F dX6_face_17 rfl rfl ?_
  refine g_iconst (nx := 20) (0) F dX6_face_19 rfl rfl ?_
  refine g_aload_n (nx := 21) 0 F dX6_face_20 rfl rfl rfl ?_
  refine g_getR (nx := 24) F dX6_face_21 rfl fl_RX6_43 rfl (by decide) (by decide) rfl ?_
  refine g_getR (nx := 27) F dX6_face_24 rfl fl_RX6_150 rfl (by decide) (by decide) rfl ?_
  refine g_iload_n (nx := 28) 2 F dX6_face_27 rfl rfl rfl ?_
  refine g_ialdN (nx := 29) (j) (_) F dX6_face_28 rfl rfl (by omega) (rfl) ?_
  show Gs X 29 _ (.int _ :: .int (nI 0) :: .ref 14 :: []) _
  refine g_iastN (nx := 30) (0) F dX6_face_29 rfl rfl (by omega) ?_
  rw [zs_zu]
  refine g_aload (nx := 32) F dX6_face_30 rfl rfl ?_
  refine g_iconst (nx := 33) (1) F dX6_face_32 rfl rfl ?_
  refine g_aload_n (nx := 34) 0 F dX6_face_33 rfl rfl rfl ?_
  refine g_getR (nx := 37) F dX6_face_34 rfl fl_RX6_15 rfl (by decide) (by decide) rfl ?_
  refine g_iload_n (nx := 38) 2 F dX6_face_37 rfl rfl rfl ?_
  refine g_ialdN (nx := 39) (j) (_) F dX6_face_38 rfl rfl (by omega) (rfl) ?_
  show Gs X 39 _ (.int _ :: .int (nI 1) :: .ref 14 :: []) _
  refine g_iastN (nx := 40) (1) F dX6_face_39 rfl rfl (by omega) ?_
  rw [zs_zu]
  refine g_aload (nx := 42) F dX6_face_40 rfl rfl ?_
  refine g_iconst (nx := 43) (2) F dX6_face_42 rfl rfl ?_
  refine g_aload_n (nx := 44) 0 F dX6_face_43 rfl rfl rfl ?_
  refine g_getR (nx := 47) F dX6_face_44 rfl fl_RX6_43 rfl (by decide) (by decide) rfl ?_
  refine g_getR (nx := 50) F dX6_face_47 rfl fl_RX6_153 rfl (by decide) (by decide) rfl ?_
  refine g_iload_n (nx := 51) 2 F dX6_face_50 rfl rfl rfl ?_
  refine g_ialdN (nx := 52) (j) (_) F dX6_face_51 rfl rfl (by omega) (rfl) ?_
  show Gs X 52 _ (.int _ :: .int (nI 2) :: .ref 14 :: []) _
  refine g_iastN (nx := 53) (2) F dX6_face_52 rfl rfl (by omega) ?_
  rw [zs_zu]
  refine g_aload (nx := 55) F dX6_face_53 rfl rfl ?_
  refine g_iconst (nx := 56) (3) F dX6_face_55 rfl rfl ?_
  refine g_aload_n (nx := 57) 0 F dX6_face_56 rfl rfl rfl ?_
  refine g_getR (nx := 60) F dX6_face_57 rfl fl_RX6_18 rfl (by decide) (by decide) rfl ?_
  refine g_iload_n (nx := 61) 2 F dX6_face_60 rfl rfl rfl ?_
  refine g_ialdN (nx := 62) (j) (_) F dX6_face_61 rfl rfl (by omega) (rfl) ?_
  show Gs X 62 _ (.int _ :: .int (nI 3) :: .ref 14 :: []) _
  refine g_iastN (nx := 63) (3) F dX6_face_62 rfl rfl (by omega) ?_
  rw [zs_zu]
  refine g_aload (nx := 65) F dX6_face_63 rfl rfl ?_
  refine g_iconst (nx := 66) (4) F dX6_face_65 rfl rfl ?_
  refine g_iload (nx := 68) F dX6_face_66 rfl rfl ?_
  show Gs X 68 _ (.int _ :: .int (nI 4) :: .ref 14 :: []) _
  refine g_iastN (nx := 69) (4) F dX6_face_68 rfl rfl (by omega) ?_
  rw [zs_zu]
  refine g_aload (nx := 71) F dX6_face_69 rfl rfl ?_
  refine g_iconst (nx := 72) (5) F dX6_face_71 rfl rfl ?_
  refine g_aload_n (nx := 73) 0 F dX6_face_72 rfl rfl rfl ?_
  refine g_getR (nx := 76) F dX6_face_73 rfl fl_RX6_43 rfl (by decide) (by decide) rfl ?_
  refine g_getR (nx := 79) F dX6_face_76 rfl fl_RX6_156 rfl (by decide) (by decide) rfl ?_
  refine g_iload_n (nx := 80) 1 F dX6_face_79 rfl rfl rfl ?_
  refine g_ialdN (nx := 81) (i) (_) F dX6_face_80 rfl rfl (by omega) (rfl) ?_
  show Gs X 81 _ (.int _ :: .int (nI 5) :: .ref 14 :: []) _
  refine g_iastN (nx := 82) (5) F dX6_face_81 rfl rfl (by omega) ?_
  rw [zs_zu]
  refine g_aload (nx := 84) F dX6_face_82 rfl rfl ?_
  refine g_bipush (nx := 86) (6) F dX6_face_84 rfl (by decide) ?_
  refine g_aload_n (nx := 87) 0 F dX6_face_86 rfl rfl rfl ?_
  refine g_getR (nx := 90) F dX6_face_87 rfl fl_RX6_43 rfl (by decide) (by decide) rfl ?_
  refine g_getR (nx := 93) F dX6_face_90 rfl fl_RX6_159 rfl (by decide) (by decide) rfl ?_
  refine g_iload_n (nx := 94) 1 F dX6_face_93 rfl rfl rfl ?_
  refine g_ialdN (nx := 95) (i) (_) F dX6_face_94 rfl rfl (by omega) (rfl) ?_
  show Gs X 95 _ (.int _ :: .int (nI 6) :: .ref 14 :: []) _
  refine g_iastN (nx := 96) (6) F dX6_face_95 rfl rfl (by omega) ?_
  rw [zs_zu]
  refine g_aload (nx := 98) F dX6_face_96 rfl rfl ?_
  refine g_bipush (nx := 100) (7) F dX6_face_98 rfl (by decide) ?_
  refine g_iload_n (nx := 101) 1 F dX6_face_100 rfl rfl rfl ?_
  show Gs X 101 _ (.int _ :: .int (nI 7) :: .ref 14 :: []) _
  refine g_iastN (nx := 102) (7) F dX6_face_101 rfl rfl (by omega) ?_
  rw [zs_zu]
  refine g_aload (nx := 104) F dX6_face_102 rfl rfl ?_
  refine g_bipush (nx := 106) (8) F dX6_face_104 rfl (by decide) ?_
  refine g_aload_n (nx := 107) 0 F dX6_face_106 rfl rfl rfl ?_
  refine g_getR (nx := 110) F dX6_face_107 rfl fl_RX6_36 rfl (by decide) (by decide) rfl ?_
  refine g_iload (nx := 112) F dX6_face_110 rfl rfl ?_
  refine g_ialdN (nx := 113) (s) (_) F dX6_face_112 rfl rfl (by omega) (rfl) ?_
  show Gs X 113 _ (.int _ :: .int (nI 8) :: .ref 14 :: []) _
  refine g_iastN (nx := 114) (8) F dX6_face_113 rfl rfl (by omega) ?_
  rw [zs_zu]
  refine g_aload (nx := 116) F dX6_face_114 rfl rfl ?_
  refine g_bipush (nx := 118) (9) F dX6_face_116 rfl (by decide) ?_
  refine g_aload_n (nx := 119) 0 F dX6_face_118 rfl rfl rfl ?_
  refine g_getI (nx := 122) F dX6_face_119 rfl fl_RX6_62 rfl (by decide) (by decide) rfl rfl ?_
  show Gs X 122 _ (.int _ :: .int (nI 9) :: .ref 14 :: []) _
  refine g_iastN (nx := 123) (9) F dX6_face_122 rfl rfl (by omega) ?_
  rw [zs_zu]
  refine g_aload (nx := 125) F dX6_face_123 rfl rfl ?_
  refine g_bipush (nx := 127) (10) F dX6_face_125 rfl (by decide) ?_
  refine g_aload_n (nx := 128) 0 F dX6_face_127 rfl rfl rfl ?_
  refine g_getI (nx := 131) F dX6_face_128 rfl fl_RX6_54 rfl (by decide) (by decide) rfl rfl ?_
  show Gs X 131 _ (.int _ :: .int (nI 10) :: .ref 14 :: []) _
  refine g_iastN (nx := 132) (10) F dX6_face_131 rfl rfl (by omega) ?_
  rw [zs_zu]
  refine g_aload (nx := 134) F dX6_face_132 rfl rfl ?_
  refine g_bipush (nx := 136) (11) F dX6_face_134 rfl (by decide) ?_
  refine g_iload_n (nx := 137) 3 F dX6_face_136 rfl rfl rfl ?_
  show Gs X 137 _ (.int _ :: .int (nI 11) :: .ref 14 :: []) _
  refine g_iastN (nx := 138) (11) F dX6_face_137 rfl rfl (by omega) ?_
  rw [zs_zu]
  refine g_vret F E dX6_face_138 ?_
  refine ⟨rfl, _, rfl, fun k hk => ?_⟩
  match k, hk with
  | 0, _ => rfl
  | 1, _ => rfl
  | 2, _ => rfl
  | 3, _ => rfl
  | 4, _ => rfl
  | 5, _ => rfl
  | 6, _ => rfl
  | 7, _ => rfl
  | 8, _ => rfl
  | 9, _ => rfl
  | 10, _ => rfl
  | 11, _ => rfl
  | k + 12, hk => exact absurd hk (by omega)
