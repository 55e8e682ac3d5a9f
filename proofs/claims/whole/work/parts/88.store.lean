/-! THE STORE OF THE START -/
def offl : List Nat := [0, 1, 2, 3, 4, 5, 6, 7, 8, 9, 10, 11, 12, 85, 86, 87, 88, 95, 96, 97, 98, 99, 100, 101, 102, 103, 104, 105, 106, 107, 108, 109, 110, 111, 112, 113, 114, 115, 122, 123, 124, 125, 126, 127, 128, 129, 130, 131, 132, 134, 135, 136, 137, 138, 139, 140, 141, 142, 143, 144, 145, 25, 26, 27, 28, 29, 30, 31, 32, 33, 34, 35, 36, 37, 38, 39, 40, 41, 42, 43, 44, 45, 46, 47, 48, 49, 50, 51, 52, 53, 54, 55, 56, 57, 58, 59, 60, 61, 62, 63, 64, 65, 66, 67, 68, 69, 70, 71, 72, 73, 74, 75, 76, 77, 78, 79, 80, 81, 82, 83, 84, 13, 14, 15, 16, 17, 18, 19, 20, 21, 22, 23, 24, 116, 117, 118, 119, 120, 121, 89, 90, 91, 92, 93, 94, 146, 147, 148, 149, 150, 151, 152, 153, 154, 155, 156, 157, 158, 159, 160, 161, 162, 163, 164, 165, 166, 167, 168, 169, 170, 171, 172, 173, 174, 175, 176, 177, 178, 179, 180, 181, 182, 183, 184, 185, 186, 187, 188, 189, 190, 191, 192, 193, 194, 195, 133]
def invl : List Nat := [0, 1, 2, 3, 4, 5, 6, 7, 8, 9, 10, 11, 12, 121, 122, 123, 124, 125, 126, 127, 128, 129, 130, 131, 132, 61, 62, 63, 64, 65, 66, 67, 68, 69, 70, 71, 72, 73, 74, 75, 76, 77, 78, 79, 80, 81, 82, 83, 84, 85, 86, 87, 88, 89, 90, 91, 92, 93, 94, 95, 96, 97, 98, 99, 100, 101, 102, 103, 104, 105, 106, 107, 108, 109, 110, 111, 112, 113, 114, 115, 116, 117, 118, 119, 120, 13, 14, 15, 16, 139, 140, 141, 142, 143, 144, 17, 18, 19, 20, 21, 22, 23, 24, 25, 26, 27, 28, 29, 30, 31, 32, 33, 34, 35, 36, 37, 133, 134, 135, 136, 137, 138, 38, 39, 40, 41, 42, 43, 44, 45, 46, 47, 48, 195, 49, 50, 51, 52, 53, 54, 55, 56, 57, 58, 59, 60, 145, 146, 147, 148, 149, 150, 151, 152, 153, 154, 155, 156, 157, 158, 159, 160, 161, 162, 163, 164, 165, 166, 167, 168, 169, 170, 171, 172, 173, 174, 175, 176, 177, 178, 179, 180, 181, 182, 183, 184, 185, 186, 187, 188, 189, 190, 191, 192, 193, 194]
def s60 : Nat → Int32 := upd (upd (upd (upd (upd (upd (upd (upd (upd (upd (fun _ => 0) 0 10000) 1 10000) 2 10000) 3 10000) 4 10000) 5 10000) 6 10000) 7 10000) 8 10000) 9 10000
def σ0 : zSt := fun a => if a = 60 then s60 else if a = 6 then (fun i => nI (61 + 6 * i)) else if a = 3 then upd (upd (fun _ => 0) 13 1) 12 (nI 121) else if a = 17 then upd (fun _ => 0) 13 1 else if a = 27 then upd (fun _ => 0) 13 1 else if a = 145 then upd (upd (fun _ => 0) 4 1) 5 1 else if a = 37 then upd (upd (fun _ => 0) 6 (-1)) 2 (nI 133) else if a = 16 then upd (fun _ => 0) 1 (nI 139) else fun _ => 0
def alf (a0 : Nat) (aK aV : Nat → Nat) (t b : Nat) (a : Nat) : Nat := if a < 196 then a0 + offl.getD a 0 else if a = 3000 then t else if a = 4000 then b else if a < 2000 then aK (a - 1000) else aV (a - 2000)
def usA (tc : Nat → ClassId) (a0 : Nat) : List va_E := L_X11 tc a0 ++ L_X12 tc (a0 + 146)
theorem off_inv : ∀ i, i < 196 → invl.getD (offl.getD i 0) 0 = i := by decide +kernel
theorem alf_lt {a0 t b a : Nat} {aK aV : Nat → Nat} (h : a < 196) : alf a0 aK aV t b a = a0 + offl.getD a 0 := if_pos h
theorem alf_inj {a0 t b : Nat} {aK aV : Nat → Nat} : ∀ i j, i < zn → j < zn → alf a0 aK aV t b i = alf a0 aK aV t b j → i = j := by
  intro i j hi hj e
  have hi : i < 196 := hi
  have hj : j < 196 := hj
  rw [alf_lt hi, alf_lt hj] at e
  have e2 : offl.getD i 0 = offl.getD j 0 := by omega
  rw [← off_inv i hi, ← off_inv j hj, e2]
theorem alf_S {a0 t b : Nat} {aK aV : Nat → Nat} : ∀ k, k < 6 → alf a0 aK aV t b (1000 + k) = aK k ∧ alf a0 aK aV t b (2000 + k) = aV k := by
  intro k hk
  unfold alf
  rw [if_neg (by omega), if_neg (by omega), if_neg (by omega), if_pos (by omega), if_neg (by omega), if_neg (by omega), if_neg (by omega), if_neg (by omega), show 1000 + k - 1000 = k by omega, show 2000 + k - 2000 = k by omega]
  exact ⟨rfl, rfl⟩
theorem arrV_same {c : ClassId} {n : Nat} {f g : Nat → Value} (h : ∀ j, j < n → f j = g j) : arrV c n f = arrV c n g := by
  unfold arrV
  congr 2
  funext j
  exact h j j.isLt
theorem vq_same {c : ClassId} {n : Nat} {f g : Nat → Option Nat} (h : ∀ j, j < n → f j = g j) : vp_cell c (n, .inr (.inr (.inr (.inr f)))) = vp_cell c (n, .inr (.inr (.inr (.inr g)))) := by
  rw [vp_cell_q, vp_cell_q]
  exact arrV_same (fun j hj => by rw [h j hj])
set_option maxRecDepth 100000 in
theorem w0_0 (tc : Nat → ClassId) (a0 : Nat) (aK aV : Nat → Nat) (t b : Nat) : (usA tc a0)[0]? = some (zE tc (alf a0 aK aV t b) σ0 0) := rfl
set_option maxRecDepth 100000 in
theorem w0_1 (tc : Nat → ClassId) (a0 : Nat) (aK aV : Nat → Nat) (t b : Nat) : (usA tc a0)[1]? = some (zE tc (alf a0 aK aV t b) σ0 1) := rfl
set_option maxRecDepth 100000 in
theorem w0_2 (tc : Nat → ClassId) (a0 : Nat) (aK aV : Nat → Nat) (t b : Nat) : (usA tc a0)[2]? = some (zE tc (alf a0 aK aV t b) σ0 2) := rfl
set_option maxRecDepth 100000 in
theorem w0_3 (tc : Nat → ClassId) (a0 : Nat) (aK aV : Nat → Nat) (t b : Nat) : (usA tc a0)[3]? = some (zE tc (alf a0 aK aV t b) σ0 3) := rfl
set_option maxRecDepth 100000 in
theorem w0_4 (tc : Nat → ClassId) (a0 : Nat) (aK aV : Nat → Nat) (t b : Nat) : (usA tc a0)[4]? = some (zE tc (alf a0 aK aV t b) σ0 4) := rfl
set_option maxRecDepth 100000 in
theorem w0_5 (tc : Nat → ClassId) (a0 : Nat) (aK aV : Nat → Nat) (t b : Nat) : (usA tc a0)[5]? = some (zE tc (alf a0 aK aV t b) σ0 5) := rfl
set_option maxRecDepth 100000 in
theorem w0_7 (tc : Nat → ClassId) (a0 : Nat) (aK aV : Nat → Nat) (t b : Nat) : (usA tc a0)[7]? = some (zE tc (alf a0 aK aV t b) σ0 7) := rfl
set_option maxRecDepth 100000 in
theorem w0_8 (tc : Nat → ClassId) (a0 : Nat) (aK aV : Nat → Nat) (t b : Nat) : (usA tc a0)[8]? = some (zE tc (alf a0 aK aV t b) σ0 8) := rfl
set_option maxRecDepth 100000 in
theorem w0_9 (tc : Nat → ClassId) (a0 : Nat) (aK aV : Nat → Nat) (t b : Nat) : (usA tc a0)[9]? = some (zE tc (alf a0 aK aV t b) σ0 9) := rfl
set_option maxRecDepth 100000 in
theorem w0_10 (tc : Nat → ClassId) (a0 : Nat) (aK aV : Nat → Nat) (t b : Nat) : (usA tc a0)[10]? = some (zE tc (alf a0 aK aV t b) σ0 10) := rfl
set_option maxRecDepth 100000 in
theorem w0_11 (tc : Nat → ClassId) (a0 : Nat) (aK aV : Nat → Nat) (t b : Nat) : (usA tc a0)[11]? = some (zE tc (alf a0 aK aV t b) σ0 11) := rfl
set_option maxRecDepth 100000 in
theorem w0_12 (tc : Nat → ClassId) (a0 : Nat) (aK aV : Nat → Nat) (t b : Nat) : (usA tc a0)[12]? = some (zE tc (alf a0 aK aV t b) σ0 12) := rfl
set_option maxRecDepth 100000 in
theorem w0_13 (tc : Nat → ClassId) (a0 : Nat) (aK aV : Nat → Nat) (t b : Nat) : (usA tc a0)[85]? = some (zE tc (alf a0 aK aV t b) σ0 13) := rfl
set_option maxRecDepth 100000 in
theorem w0_14 (tc : Nat → ClassId) (a0 : Nat) (aK aV : Nat → Nat) (t b : Nat) : (usA tc a0)[86]? = some (zE tc (alf a0 aK aV t b) σ0 14) := rfl
set_option maxRecDepth 100000 in
theorem w0_15 (tc : Nat → ClassId) (a0 : Nat) (aK aV : Nat → Nat) (t b : Nat) : (usA tc a0)[87]? = some (zE tc (alf a0 aK aV t b) σ0 15) := rfl
set_option maxRecDepth 100000 in
theorem w0_16 (tc : Nat → ClassId) (a0 : Nat) (aK aV : Nat → Nat) (t b : Nat) : (usA tc a0)[88]? = some (zE tc (alf a0 aK aV t b) σ0 16) := rfl
set_option maxRecDepth 100000 in
theorem w0_17 (tc : Nat → ClassId) (a0 : Nat) (aK aV : Nat → Nat) (t b : Nat) : (usA tc a0)[95]? = some (zE tc (alf a0 aK aV t b) σ0 17) := rfl
set_option maxRecDepth 100000 in
theorem w0_18 (tc : Nat → ClassId) (a0 : Nat) (aK aV : Nat → Nat) (t b : Nat) : (usA tc a0)[96]? = some (zE tc (alf a0 aK aV t b) σ0 18) := rfl
set_option maxRecDepth 100000 in
theorem w0_19 (tc : Nat → ClassId) (a0 : Nat) (aK aV : Nat → Nat) (t b : Nat) : (usA tc a0)[97]? = some (zE tc (alf a0 aK aV t b) σ0 19) := rfl
set_option maxRecDepth 100000 in
theorem w0_20 (tc : Nat → ClassId) (a0 : Nat) (aK aV : Nat → Nat) (t b : Nat) : (usA tc a0)[98]? = some (zE tc (alf a0 aK aV t b) σ0 20) := rfl
set_option maxRecDepth 100000 in
theorem w0_21 (tc : Nat → ClassId) (a0 : Nat) (aK aV : Nat → Nat) (t b : Nat) : (usA tc a0)[99]? = some (zE tc (alf a0 aK aV t b) σ0 21) := rfl
set_option maxRecDepth 100000 in
theorem w0_22 (tc : Nat → ClassId) (a0 : Nat) (aK aV : Nat → Nat) (t b : Nat) : (usA tc a0)[100]? = some (zE tc (alf a0 aK aV t b) σ0 22) := rfl
set_option maxRecDepth 100000 in
theorem w0_23 (tc : Nat → ClassId) (a0 : Nat) (aK aV : Nat → Nat) (t b : Nat) : (usA tc a0)[101]? = some (zE tc (alf a0 aK aV t b) σ0 23) := rfl
set_option maxRecDepth 100000 in
theorem w0_24 (tc : Nat → ClassId) (a0 : Nat) (aK aV : Nat → Nat) (t b : Nat) : (usA tc a0)[102]? = some (zE tc (alf a0 aK aV t b) σ0 24) := rfl
set_option maxRecDepth 100000 in
theorem w0_25 (tc : Nat → ClassId) (a0 : Nat) (aK aV : Nat → Nat) (t b : Nat) : (usA tc a0)[103]? = some (zE tc (alf a0 aK aV t b) σ0 25) := rfl
set_option maxRecDepth 100000 in
theorem w0_26 (tc : Nat → ClassId) (a0 : Nat) (aK aV : Nat → Nat) (t b : Nat) : (usA tc a0)[104]? = some (zE tc (alf a0 aK aV t b) σ0 26) := rfl
set_option maxRecDepth 100000 in
theorem w0_27 (tc : Nat → ClassId) (a0 : Nat) (aK aV : Nat → Nat) (t b : Nat) : (usA tc a0)[105]? = some (zE tc (alf a0 aK aV t b) σ0 27) := rfl
set_option maxRecDepth 100000 in
theorem w0_28 (tc : Nat → ClassId) (a0 : Nat) (aK aV : Nat → Nat) (t b : Nat) : (usA tc a0)[106]? = some (zE tc (alf a0 aK aV t b) σ0 28) := rfl
set_option maxRecDepth 100000 in
theorem w0_29 (tc : Nat → ClassId) (a0 : Nat) (aK aV : Nat → Nat) (t b : Nat) : (usA tc a0)[107]? = some (zE tc (alf a0 aK aV t b) σ0 29) := rfl
set_option maxRecDepth 100000 in
theorem w0_30 (tc : Nat → ClassId) (a0 : Nat) (aK aV : Nat → Nat) (t b : Nat) : (usA tc a0)[108]? = some (zE tc (alf a0 aK aV t b) σ0 30) := rfl
set_option maxRecDepth 100000 in
theorem w0_31 (tc : Nat → ClassId) (a0 : Nat) (aK aV : Nat → Nat) (t b : Nat) : (usA tc a0)[109]? = some (zE tc (alf a0 aK aV t b) σ0 31) := rfl
set_option maxRecDepth 100000 in
theorem w0_32 (tc : Nat → ClassId) (a0 : Nat) (aK aV : Nat → Nat) (t b : Nat) : (usA tc a0)[110]? = some (zE tc (alf a0 aK aV t b) σ0 32) := rfl
set_option maxRecDepth 100000 in
theorem w0_33 (tc : Nat → ClassId) (a0 : Nat) (aK aV : Nat → Nat) (t b : Nat) : (usA tc a0)[111]? = some (zE tc (alf a0 aK aV t b) σ0 33) := rfl
set_option maxRecDepth 100000 in
theorem w0_34 (tc : Nat → ClassId) (a0 : Nat) (aK aV : Nat → Nat) (t b : Nat) : (usA tc a0)[112]? = some (zE tc (alf a0 aK aV t b) σ0 34) := rfl
set_option maxRecDepth 100000 in
theorem w0_35 (tc : Nat → ClassId) (a0 : Nat) (aK aV : Nat → Nat) (t b : Nat) : (usA tc a0)[113]? = some (zE tc (alf a0 aK aV t b) σ0 35) := rfl
set_option maxRecDepth 100000 in
theorem w0_36 (tc : Nat → ClassId) (a0 : Nat) (aK aV : Nat → Nat) (t b : Nat) : (usA tc a0)[114]? = some (zE tc (alf a0 aK aV t b) σ0 36) := rfl
set_option maxRecDepth 100000 in
theorem w0_37 (tc : Nat → ClassId) (a0 : Nat) (aK aV : Nat → Nat) (t b : Nat) : (usA tc a0)[115]? = some (zE tc (alf a0 aK aV t b) σ0 37) := rfl
set_option maxRecDepth 100000 in
theorem w0_39 (tc : Nat → ClassId) (a0 : Nat) (aK aV : Nat → Nat) (t b : Nat) : (usA tc a0)[123]? = some (zE tc (alf a0 aK aV t b) σ0 39) := rfl
set_option maxRecDepth 100000 in
theorem w0_40 (tc : Nat → ClassId) (a0 : Nat) (aK aV : Nat → Nat) (t b : Nat) : (usA tc a0)[124]? = some (zE tc (alf a0 aK aV t b) σ0 40) := rfl
set_option maxRecDepth 100000 in
theorem w0_41 (tc : Nat → ClassId) (a0 : Nat) (aK aV : Nat → Nat) (t b : Nat) : (usA tc a0)[125]? = some (zE tc (alf a0 aK aV t b) σ0 41) := rfl
set_option maxRecDepth 100000 in
theorem w0_42 (tc : Nat → ClassId) (a0 : Nat) (aK aV : Nat → Nat) (t b : Nat) : (usA tc a0)[126]? = some (zE tc (alf a0 aK aV t b) σ0 42) := rfl
set_option maxRecDepth 100000 in
theorem w0_43 (tc : Nat → ClassId) (a0 : Nat) (aK aV : Nat → Nat) (t b : Nat) : (usA tc a0)[127]? = some (zE tc (alf a0 aK aV t b) σ0 43) := rfl
set_option maxRecDepth 100000 in
theorem w0_44 (tc : Nat → ClassId) (a0 : Nat) (aK aV : Nat → Nat) (t b : Nat) : (usA tc a0)[128]? = some (zE tc (alf a0 aK aV t b) σ0 44) := rfl
set_option maxRecDepth 100000 in
theorem w0_45 (tc : Nat → ClassId) (a0 : Nat) (aK aV : Nat → Nat) (t b : Nat) : (usA tc a0)[129]? = some (zE tc (alf a0 aK aV t b) σ0 45) := rfl
set_option maxRecDepth 100000 in
theorem w0_46 (tc : Nat → ClassId) (a0 : Nat) (aK aV : Nat → Nat) (t b : Nat) : (usA tc a0)[130]? = some (zE tc (alf a0 aK aV t b) σ0 46) := rfl
set_option maxRecDepth 100000 in
theorem w0_47 (tc : Nat → ClassId) (a0 : Nat) (aK aV : Nat → Nat) (t b : Nat) : (usA tc a0)[131]? = some (zE tc (alf a0 aK aV t b) σ0 47) := rfl
set_option maxRecDepth 100000 in
theorem w0_48 (tc : Nat → ClassId) (a0 : Nat) (aK aV : Nat → Nat) (t b : Nat) : (usA tc a0)[132]? = some (zE tc (alf a0 aK aV t b) σ0 48) := rfl
set_option maxRecDepth 100000 in
theorem w0_49 (tc : Nat → ClassId) (a0 : Nat) (aK aV : Nat → Nat) (t b : Nat) : (usA tc a0)[134]? = some (zE tc (alf a0 aK aV t b) σ0 49) := rfl
set_option maxRecDepth 100000 in
theorem w0_50 (tc : Nat → ClassId) (a0 : Nat) (aK aV : Nat → Nat) (t b : Nat) : (usA tc a0)[135]? = some (zE tc (alf a0 aK aV t b) σ0 50) := rfl
set_option maxRecDepth 100000 in
theorem w0_51 (tc : Nat → ClassId) (a0 : Nat) (aK aV : Nat → Nat) (t b : Nat) : (usA tc a0)[136]? = some (zE tc (alf a0 aK aV t b) σ0 51) := rfl
set_option maxRecDepth 100000 in
theorem w0_52 (tc : Nat → ClassId) (a0 : Nat) (aK aV : Nat → Nat) (t b : Nat) : (usA tc a0)[137]? = some (zE tc (alf a0 aK aV t b) σ0 52) := rfl
set_option maxRecDepth 100000 in
theorem w0_53 (tc : Nat → ClassId) (a0 : Nat) (aK aV : Nat → Nat) (t b : Nat) : (usA tc a0)[138]? = some (zE tc (alf a0 aK aV t b) σ0 53) := rfl
set_option maxRecDepth 100000 in
theorem w0_54 (tc : Nat → ClassId) (a0 : Nat) (aK aV : Nat → Nat) (t b : Nat) : (usA tc a0)[139]? = some (zE tc (alf a0 aK aV t b) σ0 54) := rfl
set_option maxRecDepth 100000 in
theorem w0_55 (tc : Nat → ClassId) (a0 : Nat) (aK aV : Nat → Nat) (t b : Nat) : (usA tc a0)[140]? = some (zE tc (alf a0 aK aV t b) σ0 55) := rfl
set_option maxRecDepth 100000 in
theorem w0_56 (tc : Nat → ClassId) (a0 : Nat) (aK aV : Nat → Nat) (t b : Nat) : (usA tc a0)[141]? = some (zE tc (alf a0 aK aV t b) σ0 56) := rfl
set_option maxRecDepth 100000 in
theorem w0_57 (tc : Nat → ClassId) (a0 : Nat) (aK aV : Nat → Nat) (t b : Nat) : (usA tc a0)[142]? = some (zE tc (alf a0 aK aV t b) σ0 57) := rfl
set_option maxRecDepth 100000 in
theorem w0_58 (tc : Nat → ClassId) (a0 : Nat) (aK aV : Nat → Nat) (t b : Nat) : (usA tc a0)[143]? = some (zE tc (alf a0 aK aV t b) σ0 58) := rfl
set_option maxRecDepth 100000 in
theorem w0_59 (tc : Nat → ClassId) (a0 : Nat) (aK aV : Nat → Nat) (t b : Nat) : (usA tc a0)[144]? = some (zE tc (alf a0 aK aV t b) σ0 59) := rfl
set_option maxRecDepth 100000 in
theorem w0_60 (tc : Nat → ClassId) (a0 : Nat) (aK aV : Nat → Nat) (t b : Nat) : (usA tc a0)[145]? = some (zE tc (alf a0 aK aV t b) σ0 60) := rfl
set_option maxRecDepth 100000 in
theorem w0_61 (tc : Nat → ClassId) (a0 : Nat) (aK aV : Nat → Nat) (t b : Nat) : (usA tc a0)[25]? = some (zE tc (alf a0 aK aV t b) σ0 61) := rfl
set_option maxRecDepth 100000 in
theorem w0_62 (tc : Nat → ClassId) (a0 : Nat) (aK aV : Nat → Nat) (t b : Nat) : (usA tc a0)[26]? = some (zE tc (alf a0 aK aV t b) σ0 62) := rfl
set_option maxRecDepth 100000 in
theorem w0_63 (tc : Nat → ClassId) (a0 : Nat) (aK aV : Nat → Nat) (t b : Nat) : (usA tc a0)[27]? = some (zE tc (alf a0 aK aV t b) σ0 63) := rfl
set_option maxRecDepth 100000 in
theorem w0_64 (tc : Nat → ClassId) (a0 : Nat) (aK aV : Nat → Nat) (t b : Nat) : (usA tc a0)[28]? = some (zE tc (alf a0 aK aV t b) σ0 64) := rfl
set_option maxRecDepth 100000 in
theorem w0_65 (tc : Nat → ClassId) (a0 : Nat) (aK aV : Nat → Nat) (t b : Nat) : (usA tc a0)[29]? = some (zE tc (alf a0 aK aV t b) σ0 65) := rfl
set_option maxRecDepth 100000 in
theorem w0_66 (tc : Nat → ClassId) (a0 : Nat) (aK aV : Nat → Nat) (t b : Nat) : (usA tc a0)[30]? = some (zE tc (alf a0 aK aV t b) σ0 66) := rfl
set_option maxRecDepth 100000 in
theorem w0_67 (tc : Nat → ClassId) (a0 : Nat) (aK aV : Nat → Nat) (t b : Nat) : (usA tc a0)[31]? = some (zE tc (alf a0 aK aV t b) σ0 67) := rfl
set_option maxRecDepth 100000 in
theorem w0_68 (tc : Nat → ClassId) (a0 : Nat) (aK aV : Nat → Nat) (t b : Nat) : (usA tc a0)[32]? = some (zE tc (alf a0 aK aV t b) σ0 68) := rfl
set_option maxRecDepth 100000 in
theorem w0_69 (tc : Nat → ClassId) (a0 : Nat) (aK aV : Nat → Nat) (t b : Nat) : (usA tc a0)[33]? = some (zE tc (alf a0 aK aV t b) σ0 69) := rfl
set_option maxRecDepth 100000 in
theorem w0_70 (tc : Nat → ClassId) (a0 : Nat) (aK aV : Nat → Nat) (t b : Nat) : (usA tc a0)[34]? = some (zE tc (alf a0 aK aV t b) σ0 70) := rfl
set_option maxRecDepth 100000 in
theorem w0_71 (tc : Nat → ClassId) (a0 : Nat) (aK aV : Nat → Nat) (t b : Nat) : (usA tc a0)[35]? = some (zE tc (alf a0 aK aV t b) σ0 71) := rfl
set_option maxRecDepth 100000 in
theorem w0_72 (tc : Nat → ClassId) (a0 : Nat) (aK aV : Nat → Nat) (t b : Nat) : (usA tc a0)[36]? = some (zE tc (alf a0 aK aV t b) σ0 72) := rfl
set_option maxRecDepth 100000 in
theorem w0_73 (tc : Nat → ClassId) (a0 : Nat) (aK aV : Nat → Nat) (t b : Nat) : (usA tc a0)[37]? = some (zE tc (alf a0 aK aV t b) σ0 73) := rfl
set_option maxRecDepth 100000 in
theorem w0_74 (tc : Nat → ClassId) (a0 : Nat) (aK aV : Nat → Nat) (t b : Nat) : (usA tc a0)[38]? = some (zE tc (alf a0 aK aV t b) σ0 74) := rfl
set_option maxRecDepth 100000 in
theorem w0_75 (tc : Nat → ClassId) (a0 : Nat) (aK aV : Nat → Nat) (t b : Nat) : (usA tc a0)[39]? = some (zE tc (alf a0 aK aV t b) σ0 75) := rfl
set_option maxRecDepth 100000 in
theorem w0_76 (tc : Nat → ClassId) (a0 : Nat) (aK aV : Nat → Nat) (t b : Nat) : (usA tc a0)[40]? = some (zE tc (alf a0 aK aV t b) σ0 76) := rfl
set_option maxRecDepth 100000 in
theorem w0_77 (tc : Nat → ClassId) (a0 : Nat) (aK aV : Nat → Nat) (t b : Nat) : (usA tc a0)[41]? = some (zE tc (alf a0 aK aV t b) σ0 77) := rfl
set_option maxRecDepth 100000 in
theorem w0_78 (tc : Nat → ClassId) (a0 : Nat) (aK aV : Nat → Nat) (t b : Nat) : (usA tc a0)[42]? = some (zE tc (alf a0 aK aV t b) σ0 78) := rfl
set_option maxRecDepth 100000 in
theorem w0_79 (tc : Nat → ClassId) (a0 : Nat) (aK aV : Nat → Nat) (t b : Nat) : (usA tc a0)[43]? = some (zE tc (alf a0 aK aV t b) σ0 79) := rfl
set_option maxRecDepth 100000 in
theorem w0_80 (tc : Nat → ClassId) (a0 : Nat) (aK aV : Nat → Nat) (t b : Nat) : (usA tc a0)[44]? = some (zE tc (alf a0 aK aV t b) σ0 80) := rfl
set_option maxRecDepth 100000 in
theorem w0_81 (tc : Nat → ClassId) (a0 : Nat) (aK aV : Nat → Nat) (t b : Nat) : (usA tc a0)[45]? = some (zE tc (alf a0 aK aV t b) σ0 81) := rfl
set_option maxRecDepth 100000 in
theorem w0_82 (tc : Nat → ClassId) (a0 : Nat) (aK aV : Nat → Nat) (t b : Nat) : (usA tc a0)[46]? = some (zE tc (alf a0 aK aV t b) σ0 82) := rfl
set_option maxRecDepth 100000 in
theorem w0_83 (tc : Nat → ClassId) (a0 : Nat) (aK aV : Nat → Nat) (t b : Nat) : (usA tc a0)[47]? = some (zE tc (alf a0 aK aV t b) σ0 83) := rfl
set_option maxRecDepth 100000 in
theorem w0_84 (tc : Nat → ClassId) (a0 : Nat) (aK aV : Nat → Nat) (t b : Nat) : (usA tc a0)[48]? = some (zE tc (alf a0 aK aV t b) σ0 84) := rfl
set_option maxRecDepth 100000 in
theorem w0_85 (tc : Nat → ClassId) (a0 : Nat) (aK aV : Nat → Nat) (t b : Nat) : (usA tc a0)[49]? = some (zE tc (alf a0 aK aV t b) σ0 85) := rfl
set_option maxRecDepth 100000 in
theorem w0_86 (tc : Nat → ClassId) (a0 : Nat) (aK aV : Nat → Nat) (t b : Nat) : (usA tc a0)[50]? = some (zE tc (alf a0 aK aV t b) σ0 86) := rfl
set_option maxRecDepth 100000 in
theorem w0_87 (tc : Nat → ClassId) (a0 : Nat) (aK aV : Nat → Nat) (t b : Nat) : (usA tc a0)[51]? = some (zE tc (alf a0 aK aV t b) σ0 87) := rfl
set_option maxRecDepth 100000 in
theorem w0_88 (tc : Nat → ClassId) (a0 : Nat) (aK aV : Nat → Nat) (t b : Nat) : (usA tc a0)[52]? = some (zE tc (alf a0 aK aV t b) σ0 88) := rfl
set_option maxRecDepth 100000 in
theorem w0_89 (tc : Nat → ClassId) (a0 : Nat) (aK aV : Nat → Nat) (t b : Nat) : (usA tc a0)[53]? = some (zE tc (alf a0 aK aV t b) σ0 89) := rfl
set_option maxRecDepth 100000 in
theorem w0_90 (tc : Nat → ClassId) (a0 : Nat) (aK aV : Nat → Nat) (t b : Nat) : (usA tc a0)[54]? = some (zE tc (alf a0 aK aV t b) σ0 90) := rfl
set_option maxRecDepth 100000 in
theorem w0_91 (tc : Nat → ClassId) (a0 : Nat) (aK aV : Nat → Nat) (t b : Nat) : (usA tc a0)[55]? = some (zE tc (alf a0 aK aV t b) σ0 91) := rfl
set_option maxRecDepth 100000 in
theorem w0_92 (tc : Nat → ClassId) (a0 : Nat) (aK aV : Nat → Nat) (t b : Nat) : (usA tc a0)[56]? = some (zE tc (alf a0 aK aV t b) σ0 92) := rfl
set_option maxRecDepth 100000 in
theorem w0_93 (tc : Nat → ClassId) (a0 : Nat) (aK aV : Nat → Nat) (t b : Nat) : (usA tc a0)[57]? = some (zE tc (alf a0 aK aV t b) σ0 93) := rfl
set_option maxRecDepth 100000 in
theorem w0_94 (tc : Nat → ClassId) (a0 : Nat) (aK aV : Nat → Nat) (t b : Nat) : (usA tc a0)[58]? = some (zE tc (alf a0 aK aV t b) σ0 94) := rfl
set_option maxRecDepth 100000 in
theorem w0_95 (tc : Nat → ClassId) (a0 : Nat) (aK aV : Nat → Nat) (t b : Nat) : (usA tc a0)[59]? = some (zE tc (alf a0 aK aV t b) σ0 95) := rfl
set_option maxRecDepth 100000 in
theorem w0_96 (tc : Nat → ClassId) (a0 : Nat) (aK aV : Nat → Nat) (t b : Nat) : (usA tc a0)[60]? = some (zE tc (alf a0 aK aV t b) σ0 96) := rfl
set_option maxRecDepth 100000 in
theorem w0_97 (tc : Nat → ClassId) (a0 : Nat) (aK aV : Nat → Nat) (t b : Nat) : (usA tc a0)[61]? = some (zE tc (alf a0 aK aV t b) σ0 97) := rfl
set_option maxRecDepth 100000 in
theorem w0_98 (tc : Nat → ClassId) (a0 : Nat) (aK aV : Nat → Nat) (t b : Nat) : (usA tc a0)[62]? = some (zE tc (alf a0 aK aV t b) σ0 98) := rfl
set_option maxRecDepth 100000 in
theorem w0_99 (tc : Nat → ClassId) (a0 : Nat) (aK aV : Nat → Nat) (t b : Nat) : (usA tc a0)[63]? = some (zE tc (alf a0 aK aV t b) σ0 99) := rfl
set_option maxRecDepth 100000 in
theorem w0_100 (tc : Nat → ClassId) (a0 : Nat) (aK aV : Nat → Nat) (t b : Nat) : (usA tc a0)[64]? = some (zE tc (alf a0 aK aV t b) σ0 100) := rfl
set_option maxRecDepth 100000 in
theorem w0_101 (tc : Nat → ClassId) (a0 : Nat) (aK aV : Nat → Nat) (t b : Nat) : (usA tc a0)[65]? = some (zE tc (alf a0 aK aV t b) σ0 101) := rfl
set_option maxRecDepth 100000 in
theorem w0_102 (tc : Nat → ClassId) (a0 : Nat) (aK aV : Nat → Nat) (t b : Nat) : (usA tc a0)[66]? = some (zE tc (alf a0 aK aV t b) σ0 102) := rfl
set_option maxRecDepth 100000 in
theorem w0_103 (tc : Nat → ClassId) (a0 : Nat) (aK aV : Nat → Nat) (t b : Nat) : (usA tc a0)[67]? = some (zE tc (alf a0 aK aV t b) σ0 103) := rfl
set_option maxRecDepth 100000 in
theorem w0_104 (tc : Nat → ClassId) (a0 : Nat) (aK aV : Nat → Nat) (t b : Nat) : (usA tc a0)[68]? = some (zE tc (alf a0 aK aV t b) σ0 104) := rfl
set_option maxRecDepth 100000 in
theorem w0_105 (tc : Nat → ClassId) (a0 : Nat) (aK aV : Nat → Nat) (t b : Nat) : (usA tc a0)[69]? = some (zE tc (alf a0 aK aV t b) σ0 105) := rfl
set_option maxRecDepth 100000 in
theorem w0_106 (tc : Nat → ClassId) (a0 : Nat) (aK aV : Nat → Nat) (t b : Nat) : (usA tc a0)[70]? = some (zE tc (alf a0 aK aV t b) σ0 106) := rfl
set_option maxRecDepth 100000 in
theorem w0_107 (tc : Nat → ClassId) (a0 : Nat) (aK aV : Nat → Nat) (t b : Nat) : (usA tc a0)[71]? = some (zE tc (alf a0 aK aV t b) σ0 107) := rfl
set_option maxRecDepth 100000 in
theorem w0_108 (tc : Nat → ClassId) (a0 : Nat) (aK aV : Nat → Nat) (t b : Nat) : (usA tc a0)[72]? = some (zE tc (alf a0 aK aV t b) σ0 108) := rfl
set_option maxRecDepth 100000 in
theorem w0_109 (tc : Nat → ClassId) (a0 : Nat) (aK aV : Nat → Nat) (t b : Nat) : (usA tc a0)[73]? = some (zE tc (alf a0 aK aV t b) σ0 109) := rfl
set_option maxRecDepth 100000 in
theorem w0_110 (tc : Nat → ClassId) (a0 : Nat) (aK aV : Nat → Nat) (t b : Nat) : (usA tc a0)[74]? = some (zE tc (alf a0 aK aV t b) σ0 110) := rfl
set_option maxRecDepth 100000 in
theorem w0_111 (tc : Nat → ClassId) (a0 : Nat) (aK aV : Nat → Nat) (t b : Nat) : (usA tc a0)[75]? = some (zE tc (alf a0 aK aV t b) σ0 111) := rfl
set_option maxRecDepth 100000 in
theorem w0_112 (tc : Nat → ClassId) (a0 : Nat) (aK aV : Nat → Nat) (t b : Nat) : (usA tc a0)[76]? = some (zE tc (alf a0 aK aV t b) σ0 112) := rfl
set_option maxRecDepth 100000 in
theorem w0_113 (tc : Nat → ClassId) (a0 : Nat) (aK aV : Nat → Nat) (t b : Nat) : (usA tc a0)[77]? = some (zE tc (alf a0 aK aV t b) σ0 113) := rfl
set_option maxRecDepth 100000 in
theorem w0_114 (tc : Nat → ClassId) (a0 : Nat) (aK aV : Nat → Nat) (t b : Nat) : (usA tc a0)[78]? = some (zE tc (alf a0 aK aV t b) σ0 114) := rfl
set_option maxRecDepth 100000 in
theorem w0_115 (tc : Nat → ClassId) (a0 : Nat) (aK aV : Nat → Nat) (t b : Nat) : (usA tc a0)[79]? = some (zE tc (alf a0 aK aV t b) σ0 115) := rfl
set_option maxRecDepth 100000 in
theorem w0_116 (tc : Nat → ClassId) (a0 : Nat) (aK aV : Nat → Nat) (t b : Nat) : (usA tc a0)[80]? = some (zE tc (alf a0 aK aV t b) σ0 116) := rfl
set_option maxRecDepth 100000 in
theorem w0_117 (tc : Nat → ClassId) (a0 : Nat) (aK aV : Nat → Nat) (t b : Nat) : (usA tc a0)[81]? = some (zE tc (alf a0 aK aV t b) σ0 117) := rfl
set_option maxRecDepth 100000 in
theorem w0_118 (tc : Nat → ClassId) (a0 : Nat) (aK aV : Nat → Nat) (t b : Nat) : (usA tc a0)[82]? = some (zE tc (alf a0 aK aV t b) σ0 118) := rfl
set_option maxRecDepth 100000 in
theorem w0_119 (tc : Nat → ClassId) (a0 : Nat) (aK aV : Nat → Nat) (t b : Nat) : (usA tc a0)[83]? = some (zE tc (alf a0 aK aV t b) σ0 119) := rfl
set_option maxRecDepth 100000 in
theorem w0_120 (tc : Nat → ClassId) (a0 : Nat) (aK aV : Nat → Nat) (t b : Nat) : (usA tc a0)[84]? = some (zE tc (alf a0 aK aV t b) σ0 120) := rfl
set_option maxRecDepth 100000 in
theorem w0_121 (tc : Nat → ClassId) (a0 : Nat) (aK aV : Nat → Nat) (t b : Nat) : (usA tc a0)[13]? = some (zE tc (alf a0 aK aV t b) σ0 121) := rfl
set_option maxRecDepth 100000 in
theorem w0_122 (tc : Nat → ClassId) (a0 : Nat) (aK aV : Nat → Nat) (t b : Nat) : (usA tc a0)[14]? = some (zE tc (alf a0 aK aV t b) σ0 122) := rfl
set_option maxRecDepth 100000 in
theorem w0_123 (tc : Nat → ClassId) (a0 : Nat) (aK aV : Nat → Nat) (t b : Nat) : (usA tc a0)[15]? = some (zE tc (alf a0 aK aV t b) σ0 123) := rfl
set_option maxRecDepth 100000 in
theorem w0_124 (tc : Nat → ClassId) (a0 : Nat) (aK aV : Nat → Nat) (t b : Nat) : (usA tc a0)[16]? = some (zE tc (alf a0 aK aV t b) σ0 124) := rfl
set_option maxRecDepth 100000 in
theorem w0_125 (tc : Nat → ClassId) (a0 : Nat) (aK aV : Nat → Nat) (t b : Nat) : (usA tc a0)[17]? = some (zE tc (alf a0 aK aV t b) σ0 125) := rfl
set_option maxRecDepth 100000 in
theorem w0_126 (tc : Nat → ClassId) (a0 : Nat) (aK aV : Nat → Nat) (t b : Nat) : (usA tc a0)[18]? = some (zE tc (alf a0 aK aV t b) σ0 126) := rfl
set_option maxRecDepth 100000 in
theorem w0_127 (tc : Nat → ClassId) (a0 : Nat) (aK aV : Nat → Nat) (t b : Nat) : (usA tc a0)[19]? = some (zE tc (alf a0 aK aV t b) σ0 127) := rfl
set_option maxRecDepth 100000 in
theorem w0_128 (tc : Nat → ClassId) (a0 : Nat) (aK aV : Nat → Nat) (t b : Nat) : (usA tc a0)[20]? = some (zE tc (alf a0 aK aV t b) σ0 128) := rfl
set_option maxRecDepth 100000 in
theorem w0_129 (tc : Nat → ClassId) (a0 : Nat) (aK aV : Nat → Nat) (t b : Nat) : (usA tc a0)[21]? = some (zE tc (alf a0 aK aV t b) σ0 129) := rfl
set_option maxRecDepth 100000 in
theorem w0_130 (tc : Nat → ClassId) (a0 : Nat) (aK aV : Nat → Nat) (t b : Nat) : (usA tc a0)[22]? = some (zE tc (alf a0 aK aV t b) σ0 130) := rfl
set_option maxRecDepth 100000 in
theorem w0_131 (tc : Nat → ClassId) (a0 : Nat) (aK aV : Nat → Nat) (t b : Nat) : (usA tc a0)[23]? = some (zE tc (alf a0 aK aV t b) σ0 131) := rfl
set_option maxRecDepth 100000 in
theorem w0_132 (tc : Nat → ClassId) (a0 : Nat) (aK aV : Nat → Nat) (t b : Nat) : (usA tc a0)[24]? = some (zE tc (alf a0 aK aV t b) σ0 132) := rfl
set_option maxRecDepth 100000 in
theorem w0_133 (tc : Nat → ClassId) (a0 : Nat) (aK aV : Nat → Nat) (t b : Nat) : (usA tc a0)[116]? = some (zE tc (alf a0 aK aV t b) σ0 133) := rfl
set_option maxRecDepth 100000 in
theorem w0_134 (tc : Nat → ClassId) (a0 : Nat) (aK aV : Nat → Nat) (t b : Nat) : (usA tc a0)[117]? = some (zE tc (alf a0 aK aV t b) σ0 134) := rfl
set_option maxRecDepth 100000 in
theorem w0_135 (tc : Nat → ClassId) (a0 : Nat) (aK aV : Nat → Nat) (t b : Nat) : (usA tc a0)[118]? = some (zE tc (alf a0 aK aV t b) σ0 135) := rfl
set_option maxRecDepth 100000 in
theorem w0_136 (tc : Nat → ClassId) (a0 : Nat) (aK aV : Nat → Nat) (t b : Nat) : (usA tc a0)[119]? = some (zE tc (alf a0 aK aV t b) σ0 136) := rfl
set_option maxRecDepth 100000 in
theorem w0_137 (tc : Nat → ClassId) (a0 : Nat) (aK aV : Nat → Nat) (t b : Nat) : (usA tc a0)[120]? = some (zE tc (alf a0 aK aV t b) σ0 137) := rfl
set_option maxRecDepth 100000 in
theorem w0_138 (tc : Nat → ClassId) (a0 : Nat) (aK aV : Nat → Nat) (t b : Nat) : (usA tc a0)[121]? = some (zE tc (alf a0 aK aV t b) σ0 138) := rfl
set_option maxRecDepth 100000 in
theorem w0_139 (tc : Nat → ClassId) (a0 : Nat) (aK aV : Nat → Nat) (t b : Nat) : (usA tc a0)[89]? = some (zE tc (alf a0 aK aV t b) σ0 139) := rfl
set_option maxRecDepth 100000 in
theorem w0_140 (tc : Nat → ClassId) (a0 : Nat) (aK aV : Nat → Nat) (t b : Nat) : (usA tc a0)[90]? = some (zE tc (alf a0 aK aV t b) σ0 140) := rfl
set_option maxRecDepth 100000 in
theorem w0_141 (tc : Nat → ClassId) (a0 : Nat) (aK aV : Nat → Nat) (t b : Nat) : (usA tc a0)[91]? = some (zE tc (alf a0 aK aV t b) σ0 141) := rfl
set_option maxRecDepth 100000 in
theorem w0_142 (tc : Nat → ClassId) (a0 : Nat) (aK aV : Nat → Nat) (t b : Nat) : (usA tc a0)[92]? = some (zE tc (alf a0 aK aV t b) σ0 142) := rfl
set_option maxRecDepth 100000 in
theorem w0_143 (tc : Nat → ClassId) (a0 : Nat) (aK aV : Nat → Nat) (t b : Nat) : (usA tc a0)[93]? = some (zE tc (alf a0 aK aV t b) σ0 143) := rfl
set_option maxRecDepth 100000 in
theorem w0_144 (tc : Nat → ClassId) (a0 : Nat) (aK aV : Nat → Nat) (t b : Nat) : (usA tc a0)[94]? = some (zE tc (alf a0 aK aV t b) σ0 144) := rfl
set_option maxRecDepth 100000 in
theorem w0_145 (tc : Nat → ClassId) (a0 : Nat) (aK aV : Nat → Nat) (t b : Nat) : (usA tc a0)[146]? = some (zE tc (alf a0 aK aV t b) σ0 145) := rfl
set_option maxRecDepth 100000 in
theorem w0_146 (tc : Nat → ClassId) (a0 : Nat) (aK aV : Nat → Nat) (t b : Nat) : (usA tc a0)[147]? = some (zE tc (alf a0 aK aV t b) σ0 146) := rfl
set_option maxRecDepth 100000 in
theorem w0_147 (tc : Nat → ClassId) (a0 : Nat) (aK aV : Nat → Nat) (t b : Nat) : (usA tc a0)[148]? = some (zE tc (alf a0 aK aV t b) σ0 147) := rfl
set_option maxRecDepth 100000 in
theorem w0_148 (tc : Nat → ClassId) (a0 : Nat) (aK aV : Nat → Nat) (t b : Nat) : (usA tc a0)[149]? = some (zE tc (alf a0 aK aV t b) σ0 148) := rfl
set_option maxRecDepth 100000 in
theorem w0_149 (tc : Nat → ClassId) (a0 : Nat) (aK aV : Nat → Nat) (t b : Nat) : (usA tc a0)[150]? = some (zE tc (alf a0 aK aV t b) σ0 149) := rfl
set_option maxRecDepth 100000 in
theorem w0_150 (tc : Nat → ClassId) (a0 : Nat) (aK aV : Nat → Nat) (t b : Nat) : (usA tc a0)[151]? = some (zE tc (alf a0 aK aV t b) σ0 150) := rfl
set_option maxRecDepth 100000 in
theorem w0_151 (tc : Nat → ClassId) (a0 : Nat) (aK aV : Nat → Nat) (t b : Nat) : (usA tc a0)[152]? = some (zE tc (alf a0 aK aV t b) σ0 151) := rfl
set_option maxRecDepth 100000 in
theorem w0_152 (tc : Nat → ClassId) (a0 : Nat) (aK aV : Nat → Nat) (t b : Nat) : (usA tc a0)[153]? = some (zE tc (alf a0 aK aV t b) σ0 152) := rfl
set_option maxRecDepth 100000 in
theorem w0_153 (tc : Nat → ClassId) (a0 : Nat) (aK aV : Nat → Nat) (t b : Nat) : (usA tc a0)[154]? = some (zE tc (alf a0 aK aV t b) σ0 153) := rfl
set_option maxRecDepth 100000 in
theorem w0_154 (tc : Nat → ClassId) (a0 : Nat) (aK aV : Nat → Nat) (t b : Nat) : (usA tc a0)[155]? = some (zE tc (alf a0 aK aV t b) σ0 154) := rfl
set_option maxRecDepth 100000 in
theorem w0_155 (tc : Nat → ClassId) (a0 : Nat) (aK aV : Nat → Nat) (t b : Nat) : (usA tc a0)[156]? = some (zE tc (alf a0 aK aV t b) σ0 155) := rfl
set_option maxRecDepth 100000 in
theorem w0_156 (tc : Nat → ClassId) (a0 : Nat) (aK aV : Nat → Nat) (t b : Nat) : (usA tc a0)[157]? = some (zE tc (alf a0 aK aV t b) σ0 156) := rfl
set_option maxRecDepth 100000 in
theorem w0_157 (tc : Nat → ClassId) (a0 : Nat) (aK aV : Nat → Nat) (t b : Nat) : (usA tc a0)[158]? = some (zE tc (alf a0 aK aV t b) σ0 157) := rfl
set_option maxRecDepth 100000 in
theorem w0_158 (tc : Nat → ClassId) (a0 : Nat) (aK aV : Nat → Nat) (t b : Nat) : (usA tc a0)[159]? = some (zE tc (alf a0 aK aV t b) σ0 158) := rfl
set_option maxRecDepth 100000 in
theorem w0_159 (tc : Nat → ClassId) (a0 : Nat) (aK aV : Nat → Nat) (t b : Nat) : (usA tc a0)[160]? = some (zE tc (alf a0 aK aV t b) σ0 159) := rfl
set_option maxRecDepth 100000 in
theorem w0_160 (tc : Nat → ClassId) (a0 : Nat) (aK aV : Nat → Nat) (t b : Nat) : (usA tc a0)[161]? = some (zE tc (alf a0 aK aV t b) σ0 160) := rfl
set_option maxRecDepth 100000 in
theorem w0_161 (tc : Nat → ClassId) (a0 : Nat) (aK aV : Nat → Nat) (t b : Nat) : (usA tc a0)[162]? = some (zE tc (alf a0 aK aV t b) σ0 161) := rfl
set_option maxRecDepth 100000 in
theorem w0_162 (tc : Nat → ClassId) (a0 : Nat) (aK aV : Nat → Nat) (t b : Nat) : (usA tc a0)[163]? = some (zE tc (alf a0 aK aV t b) σ0 162) := rfl
set_option maxRecDepth 100000 in
theorem w0_163 (tc : Nat → ClassId) (a0 : Nat) (aK aV : Nat → Nat) (t b : Nat) : (usA tc a0)[164]? = some (zE tc (alf a0 aK aV t b) σ0 163) := rfl
set_option maxRecDepth 100000 in
theorem w0_164 (tc : Nat → ClassId) (a0 : Nat) (aK aV : Nat → Nat) (t b : Nat) : (usA tc a0)[165]? = some (zE tc (alf a0 aK aV t b) σ0 164) := rfl
set_option maxRecDepth 100000 in
theorem w0_165 (tc : Nat → ClassId) (a0 : Nat) (aK aV : Nat → Nat) (t b : Nat) : (usA tc a0)[166]? = some (zE tc (alf a0 aK aV t b) σ0 165) := rfl
set_option maxRecDepth 100000 in
theorem w0_166 (tc : Nat → ClassId) (a0 : Nat) (aK aV : Nat → Nat) (t b : Nat) : (usA tc a0)[167]? = some (zE tc (alf a0 aK aV t b) σ0 166) := rfl
set_option maxRecDepth 100000 in
theorem w0_167 (tc : Nat → ClassId) (a0 : Nat) (aK aV : Nat → Nat) (t b : Nat) : (usA tc a0)[168]? = some (zE tc (alf a0 aK aV t b) σ0 167) := rfl
set_option maxRecDepth 100000 in
theorem w0_168 (tc : Nat → ClassId) (a0 : Nat) (aK aV : Nat → Nat) (t b : Nat) : (usA tc a0)[169]? = some (zE tc (alf a0 aK aV t b) σ0 168) := rfl
set_option maxRecDepth 100000 in
theorem w0_169 (tc : Nat → ClassId) (a0 : Nat) (aK aV : Nat → Nat) (t b : Nat) : (usA tc a0)[170]? = some (zE tc (alf a0 aK aV t b) σ0 169) := rfl
set_option maxRecDepth 100000 in
theorem w0_170 (tc : Nat → ClassId) (a0 : Nat) (aK aV : Nat → Nat) (t b : Nat) : (usA tc a0)[171]? = some (zE tc (alf a0 aK aV t b) σ0 170) := rfl
set_option maxRecDepth 100000 in
theorem w0_171 (tc : Nat → ClassId) (a0 : Nat) (aK aV : Nat → Nat) (t b : Nat) : (usA tc a0)[172]? = some (zE tc (alf a0 aK aV t b) σ0 171) := rfl
set_option maxRecDepth 100000 in
theorem w0_172 (tc : Nat → ClassId) (a0 : Nat) (aK aV : Nat → Nat) (t b : Nat) : (usA tc a0)[173]? = some (zE tc (alf a0 aK aV t b) σ0 172) := rfl
set_option maxRecDepth 100000 in
theorem w0_173 (tc : Nat → ClassId) (a0 : Nat) (aK aV : Nat → Nat) (t b : Nat) : (usA tc a0)[174]? = some (zE tc (alf a0 aK aV t b) σ0 173) := rfl
set_option maxRecDepth 100000 in
theorem w0_174 (tc : Nat → ClassId) (a0 : Nat) (aK aV : Nat → Nat) (t b : Nat) : (usA tc a0)[175]? = some (zE tc (alf a0 aK aV t b) σ0 174) := rfl
set_option maxRecDepth 100000 in
theorem w0_175 (tc : Nat → ClassId) (a0 : Nat) (aK aV : Nat → Nat) (t b : Nat) : (usA tc a0)[176]? = some (zE tc (alf a0 aK aV t b) σ0 175) := rfl
set_option maxRecDepth 100000 in
theorem w0_176 (tc : Nat → ClassId) (a0 : Nat) (aK aV : Nat → Nat) (t b : Nat) : (usA tc a0)[177]? = some (zE tc (alf a0 aK aV t b) σ0 176) := rfl
set_option maxRecDepth 100000 in
theorem w0_177 (tc : Nat → ClassId) (a0 : Nat) (aK aV : Nat → Nat) (t b : Nat) : (usA tc a0)[178]? = some (zE tc (alf a0 aK aV t b) σ0 177) := rfl
set_option maxRecDepth 100000 in
theorem w0_178 (tc : Nat → ClassId) (a0 : Nat) (aK aV : Nat → Nat) (t b : Nat) : (usA tc a0)[179]? = some (zE tc (alf a0 aK aV t b) σ0 178) := rfl
set_option maxRecDepth 100000 in
theorem w0_179 (tc : Nat → ClassId) (a0 : Nat) (aK aV : Nat → Nat) (t b : Nat) : (usA tc a0)[180]? = some (zE tc (alf a0 aK aV t b) σ0 179) := rfl
set_option maxRecDepth 100000 in
theorem w0_180 (tc : Nat → ClassId) (a0 : Nat) (aK aV : Nat → Nat) (t b : Nat) : (usA tc a0)[181]? = some (zE tc (alf a0 aK aV t b) σ0 180) := rfl
set_option maxRecDepth 100000 in
theorem w0_181 (tc : Nat → ClassId) (a0 : Nat) (aK aV : Nat → Nat) (t b : Nat) : (usA tc a0)[182]? = some (zE tc (alf a0 aK aV t b) σ0 181) := rfl
set_option maxRecDepth 100000 in
theorem w0_182 (tc : Nat → ClassId) (a0 : Nat) (aK aV : Nat → Nat) (t b : Nat) : (usA tc a0)[183]? = some (zE tc (alf a0 aK aV t b) σ0 182) := rfl
set_option maxRecDepth 100000 in
theorem w0_183 (tc : Nat → ClassId) (a0 : Nat) (aK aV : Nat → Nat) (t b : Nat) : (usA tc a0)[184]? = some (zE tc (alf a0 aK aV t b) σ0 183) := rfl
set_option maxRecDepth 100000 in
theorem w0_184 (tc : Nat → ClassId) (a0 : Nat) (aK aV : Nat → Nat) (t b : Nat) : (usA tc a0)[185]? = some (zE tc (alf a0 aK aV t b) σ0 184) := rfl
set_option maxRecDepth 100000 in
theorem w0_185 (tc : Nat → ClassId) (a0 : Nat) (aK aV : Nat → Nat) (t b : Nat) : (usA tc a0)[186]? = some (zE tc (alf a0 aK aV t b) σ0 185) := rfl
set_option maxRecDepth 100000 in
theorem w0_186 (tc : Nat → ClassId) (a0 : Nat) (aK aV : Nat → Nat) (t b : Nat) : (usA tc a0)[187]? = some (zE tc (alf a0 aK aV t b) σ0 186) := rfl
set_option maxRecDepth 100000 in
theorem w0_187 (tc : Nat → ClassId) (a0 : Nat) (aK aV : Nat → Nat) (t b : Nat) : (usA tc a0)[188]? = some (zE tc (alf a0 aK aV t b) σ0 187) := rfl
set_option maxRecDepth 100000 in
theorem w0_188 (tc : Nat → ClassId) (a0 : Nat) (aK aV : Nat → Nat) (t b : Nat) : (usA tc a0)[189]? = some (zE tc (alf a0 aK aV t b) σ0 188) := rfl
set_option maxRecDepth 100000 in
theorem w0_189 (tc : Nat → ClassId) (a0 : Nat) (aK aV : Nat → Nat) (t b : Nat) : (usA tc a0)[190]? = some (zE tc (alf a0 aK aV t b) σ0 189) := rfl
set_option maxRecDepth 100000 in
theorem w0_190 (tc : Nat → ClassId) (a0 : Nat) (aK aV : Nat → Nat) (t b : Nat) : (usA tc a0)[191]? = some (zE tc (alf a0 aK aV t b) σ0 190) := rfl
set_option maxRecDepth 100000 in
theorem w0_191 (tc : Nat → ClassId) (a0 : Nat) (aK aV : Nat → Nat) (t b : Nat) : (usA tc a0)[192]? = some (zE tc (alf a0 aK aV t b) σ0 191) := rfl
set_option maxRecDepth 100000 in
theorem w0_192 (tc : Nat → ClassId) (a0 : Nat) (aK aV : Nat → Nat) (t b : Nat) : (usA tc a0)[193]? = some (zE tc (alf a0 aK aV t b) σ0 192) := rfl
set_option maxRecDepth 100000 in
theorem w0_193 (tc : Nat → ClassId) (a0 : Nat) (aK aV : Nat → Nat) (t b : Nat) : (usA tc a0)[194]? = some (zE tc (alf a0 aK aV t b) σ0 193) := rfl
set_option maxRecDepth 100000 in
theorem w0_194 (tc : Nat → ClassId) (a0 : Nat) (aK aV : Nat → Nat) (t b : Nat) : (usA tc a0)[195]? = some (zE tc (alf a0 aK aV t b) σ0 194) := rfl
set_option maxRecDepth 100000 in
theorem w0_195 (tc : Nat → ClassId) (a0 : Nat) (aK aV : Nat → Nat) (t b : Nat) : (usA tc a0)[133]? = some (zE tc (alf a0 aK aV t b) σ0 195) := rfl
theorem at_6 {D : va_G} {tc : Nat → ClassId} {a0 : Nat} {aK aV : Nat → Nat} {t b : Nat} {H : Heap} (h : gW D a0 (usA tc a0) H) : va_at D zcl (alf a0 aK aV t b 6, zE tc (alf a0 aK aV t b) σ0 6) H := by
  have h1 := h.2 6 _ rfl
  show H[a0 + 6]? = some (vp_cell (tc 14) (10, .inr (.inr (.inr (.inr (fun i => some (alf a0 aK aV t b (σ0 6 i).toNatClampNeg)))))))
  refine Eq.trans h1 (congrArg some (vq_same (n := 10) (fun j hj => ?_)))
  rcases (show j = 0 ∨ j = 1 ∨ j = 2 ∨ j = 3 ∨ j = 4 ∨ j = 5 ∨ j = 6 ∨ j = 7 ∨ j = 8 ∨ j = 9 by omega) with rfl | rfl | rfl | rfl | rfl | rfl | rfl | rfl | rfl | rfl <;> rfl
theorem at_38 {D : va_G} {tc : Nat → ClassId} {a0 : Nat} {aK aV : Nat → Nat} {t b : Nat} {H : Heap} (h : gW D a0 (usA tc a0) H) : va_at D zcl (alf a0 aK aV t b 38, zE tc (alf a0 aK aV t b) σ0 38) H := by
  have h1 := h.2 122 _ rfl
  show H[a0 + 122]? = some (vp_cell (tc 15) (10, .inr (.inr (.inr (.inr (fun i => some (alf a0 aK aV t b (38 + 1 + i))))))))
  refine Eq.trans h1 (congrArg some (vq_same (n := 10) (fun j hj => ?_)))
  rcases (show j = 0 ∨ j = 1 ∨ j = 2 ∨ j = 3 ∨ j = 4 ∨ j = 5 ∨ j = 6 ∨ j = 7 ∨ j = 8 ∨ j = 9 by omega) with rfl | rfl | rfl | rfl | rfl | rfl | rfl | rfl | rfl | rfl <;> rfl
theorem at_c0 {D : va_G} {tc : Nat → ClassId} {a0 : Nat} {aK aV : Nat → Nat} {t b : Nat} {H : Heap} (h : gW D a0 (usA tc a0) H) (a : Nat) (h1 : 0 ≤ a) (h2 : a < 14) : va_at D zcl (alf a0 aK aV t b a, zE tc (alf a0 aK aV t b) σ0 a) H := by
  rcases (show a = 0 ∨ a = 1 ∨ a = 2 ∨ a = 3 ∨ a = 4 ∨ a = 5 ∨ a = 6 ∨ a = 7 ∨ a = 8 ∨ a = 9 ∨ a = 10 ∨ a = 11 ∨ a = 12 ∨ a = 13 by omega) with rfl | rfl | rfl | rfl | rfl | rfl | rfl | rfl | rfl | rfl | rfl | rfl | rfl | rfl
  · exact h.2 0 _ (w0_0 tc a0 aK aV t b)
  · exact h.2 1 _ (w0_1 tc a0 aK aV t b)
  · exact h.2 2 _ (w0_2 tc a0 aK aV t b)
  · exact h.2 3 _ (w0_3 tc a0 aK aV t b)
  · exact h.2 4 _ (w0_4 tc a0 aK aV t b)
  · exact h.2 5 _ (w0_5 tc a0 aK aV t b)
  · exact at_6 h
  · exact h.2 7 _ (w0_7 tc a0 aK aV t b)
  · exact h.2 8 _ (w0_8 tc a0 aK aV t b)
  · exact h.2 9 _ (w0_9 tc a0 aK aV t b)
  · exact h.2 10 _ (w0_10 tc a0 aK aV t b)
  · exact h.2 11 _ (w0_11 tc a0 aK aV t b)
  · exact h.2 12 _ (w0_12 tc a0 aK aV t b)
  · exact h.2 85 _ (w0_13 tc a0 aK aV t b)
theorem at_c14 {D : va_G} {tc : Nat → ClassId} {a0 : Nat} {aK aV : Nat → Nat} {t b : Nat} {H : Heap} (h : gW D a0 (usA tc a0) H) (a : Nat) (h1 : 14 ≤ a) (h2 : a < 28) : va_at D zcl (alf a0 aK aV t b a, zE tc (alf a0 aK aV t b) σ0 a) H := by
  rcases (show a = 14 ∨ a = 15 ∨ a = 16 ∨ a = 17 ∨ a = 18 ∨ a = 19 ∨ a = 20 ∨ a = 21 ∨ a = 22 ∨ a = 23 ∨ a = 24 ∨ a = 25 ∨ a = 26 ∨ a = 27 by omega) with rfl | rfl | rfl | rfl | rfl | rfl | rfl | rfl | rfl | rfl | rfl | rfl | rfl | rfl
  · exact h.2 86 _ (w0_14 tc a0 aK aV t b)
  · exact h.2 87 _ (w0_15 tc a0 aK aV t b)
  · exact h.2 88 _ (w0_16 tc a0 aK aV t b)
  · exact h.2 95 _ (w0_17 tc a0 aK aV t b)
  · exact h.2 96 _ (w0_18 tc a0 aK aV t b)
  · exact h.2 97 _ (w0_19 tc a0 aK aV t b)
  · exact h.2 98 _ (w0_20 tc a0 aK aV t b)
  · exact h.2 99 _ (w0_21 tc a0 aK aV t b)
  · exact h.2 100 _ (w0_22 tc a0 aK aV t b)
  · exact h.2 101 _ (w0_23 tc a0 aK aV t b)
  · exact h.2 102 _ (w0_24 tc a0 aK aV t b)
  · exact h.2 103 _ (w0_25 tc a0 aK aV t b)
  · exact h.2 104 _ (w0_26 tc a0 aK aV t b)
  · exact h.2 105 _ (w0_27 tc a0 aK aV t b)
theorem at_c28 {D : va_G} {tc : Nat → ClassId} {a0 : Nat} {aK aV : Nat → Nat} {t b : Nat} {H : Heap} (h : gW D a0 (usA tc a0) H) (a : Nat) (h1 : 28 ≤ a) (h2 : a < 42) : va_at D zcl (alf a0 aK aV t b a, zE tc (alf a0 aK aV t b) σ0 a) H := by
  rcases (show a = 28 ∨ a = 29 ∨ a = 30 ∨ a = 31 ∨ a = 32 ∨ a = 33 ∨ a = 34 ∨ a = 35 ∨ a = 36 ∨ a = 37 ∨ a = 38 ∨ a = 39 ∨ a = 40 ∨ a = 41 by omega) with rfl | rfl | rfl | rfl | rfl | rfl | rfl | rfl | rfl | rfl | rfl | rfl | rfl | rfl
  · exact h.2 106 _ (w0_28 tc a0 aK aV t b)
  · exact h.2 107 _ (w0_29 tc a0 aK aV t b)
  · exact h.2 108 _ (w0_30 tc a0 aK aV t b)
  · exact h.2 109 _ (w0_31 tc a0 aK aV t b)
  · exact h.2 110 _ (w0_32 tc a0 aK aV t b)
  · exact h.2 111 _ (w0_33 tc a0 aK aV t b)
  · exact h.2 112 _ (w0_34 tc a0 aK aV t b)
  · exact h.2 113 _ (w0_35 tc a0 aK aV t b)
  · exact h.2 114 _ (w0_36 tc a0 aK aV t b)
  · exact h.2 115 _ (w0_37 tc a0 aK aV t b)
  · exact at_38 h
  · exact h.2 123 _ (w0_39 tc a0 aK aV t b)
  · exact h.2 124 _ (w0_40 tc a0 aK aV t b)
  · exact h.2 125 _ (w0_41 tc a0 aK aV t b)
theorem at_c42 {D : va_G} {tc : Nat → ClassId} {a0 : Nat} {aK aV : Nat → Nat} {t b : Nat} {H : Heap} (h : gW D a0 (usA tc a0) H) (a : Nat) (h1 : 42 ≤ a) (h2 : a < 56) : va_at D zcl (alf a0 aK aV t b a, zE tc (alf a0 aK aV t b) σ0 a) H := by
  rcases (show a = 42 ∨ a = 43 ∨ a = 44 ∨ a = 45 ∨ a = 46 ∨ a = 47 ∨ a = 48 ∨ a = 49 ∨ a = 50 ∨ a = 51 ∨ a = 52 ∨ a = 53 ∨ a = 54 ∨ a = 55 by omega) with rfl | rfl | rfl | rfl | rfl | rfl | rfl | rfl | rfl | rfl | rfl | rfl | rfl | rfl
  · exact h.2 126 _ (w0_42 tc a0 aK aV t b)
  · exact h.2 127 _ (w0_43 tc a0 aK aV t b)
  · exact h.2 128 _ (w0_44 tc a0 aK aV t b)
  · exact h.2 129 _ (w0_45 tc a0 aK aV t b)
  · exact h.2 130 _ (w0_46 tc a0 aK aV t b)
  · exact h.2 131 _ (w0_47 tc a0 aK aV t b)
  · exact h.2 132 _ (w0_48 tc a0 aK aV t b)
  · exact h.2 134 _ (w0_49 tc a0 aK aV t b)
  · exact h.2 135 _ (w0_50 tc a0 aK aV t b)
  · exact h.2 136 _ (w0_51 tc a0 aK aV t b)
  · exact h.2 137 _ (w0_52 tc a0 aK aV t b)
  · exact h.2 138 _ (w0_53 tc a0 aK aV t b)
  · exact h.2 139 _ (w0_54 tc a0 aK aV t b)
  · exact h.2 140 _ (w0_55 tc a0 aK aV t b)
theorem at_c56 {D : va_G} {tc : Nat → ClassId} {a0 : Nat} {aK aV : Nat → Nat} {t b : Nat} {H : Heap} (h : gW D a0 (usA tc a0) H) (a : Nat) (h1 : 56 ≤ a) (h2 : a < 70) : va_at D zcl (alf a0 aK aV t b a, zE tc (alf a0 aK aV t b) σ0 a) H := by
  rcases (show a = 56 ∨ a = 57 ∨ a = 58 ∨ a = 59 ∨ a = 60 ∨ a = 61 ∨ a = 62 ∨ a = 63 ∨ a = 64 ∨ a = 65 ∨ a = 66 ∨ a = 67 ∨ a = 68 ∨ a = 69 by omega) with rfl | rfl | rfl | rfl | rfl | rfl | rfl | rfl | rfl | rfl | rfl | rfl | rfl | rfl
  · exact h.2 141 _ (w0_56 tc a0 aK aV t b)
  · exact h.2 142 _ (w0_57 tc a0 aK aV t b)
  · exact h.2 143 _ (w0_58 tc a0 aK aV t b)
  · exact h.2 144 _ (w0_59 tc a0 aK aV t b)
  · exact h.2 145 _ (w0_60 tc a0 aK aV t b)
  · exact h.2 25 _ (w0_61 tc a0 aK aV t b)
  · exact h.2 26 _ (w0_62 tc a0 aK aV t b)
  · exact h.2 27 _ (w0_63 tc a0 aK aV t b)
  · exact h.2 28 _ (w0_64 tc a0 aK aV t b)
  · exact h.2 29 _ (w0_65 tc a0 aK aV t b)
  · exact h.2 30 _ (w0_66 tc a0 aK aV t b)
  · exact h.2 31 _ (w0_67 tc a0 aK aV t b)
  · exact h.2 32 _ (w0_68 tc a0 aK aV t b)
  · exact h.2 33 _ (w0_69 tc a0 aK aV t b)
theorem at_c70 {D : va_G} {tc : Nat → ClassId} {a0 : Nat} {aK aV : Nat → Nat} {t b : Nat} {H : Heap} (h : gW D a0 (usA tc a0) H) (a : Nat) (h1 : 70 ≤ a) (h2 : a < 84) : va_at D zcl (alf a0 aK aV t b a, zE tc (alf a0 aK aV t b) σ0 a) H := by
  rcases (show a = 70 ∨ a = 71 ∨ a = 72 ∨ a = 73 ∨ a = 74 ∨ a = 75 ∨ a = 76 ∨ a = 77 ∨ a = 78 ∨ a = 79 ∨ a = 80 ∨ a = 81 ∨ a = 82 ∨ a = 83 by omega) with rfl | rfl | rfl | rfl | rfl | rfl | rfl | rfl | rfl | rfl | rfl | rfl | rfl | rfl
  · exact h.2 34 _ (w0_70 tc a0 aK aV t b)
  · exact h.2 35 _ (w0_71 tc a0 aK aV t b)
  · exact h.2 36 _ (w0_72 tc a0 aK aV t b)
  · exact h.2 37 _ (w0_73 tc a0 aK aV t b)
  · exact h.2 38 _ (w0_74 tc a0 aK aV t b)
  · exact h.2 39 _ (w0_75 tc a0 aK aV t b)
  · exact h.2 40 _ (w0_76 tc a0 aK aV t b)
  · exact h.2 41 _ (w0_77 tc a0 aK aV t b)
  · exact h.2 42 _ (w0_78 tc a0 aK aV t b)
  · exact h.2 43 _ (w0_79 tc a0 aK aV t b)
  · exact h.2 44 _ (w0_80 tc a0 aK aV t b)
  · exact h.2 45 _ (w0_81 tc a0 aK aV t b)
  · exact h.2 46 _ (w0_82 tc a0 aK aV t b)
  · exact h.2 47 _ (w0_83 tc a0 aK aV t b)
theorem at_c84 {D : va_G} {tc : Nat → ClassId} {a0 : Nat} {aK aV : Nat → Nat} {t b : Nat} {H : Heap} (h : gW D a0 (usA tc a0) H) (a : Nat) (h1 : 84 ≤ a) (h2 : a < 98) : va_at D zcl (alf a0 aK aV t b a, zE tc (alf a0 aK aV t b) σ0 a) H := by
  rcases (show a = 84 ∨ a = 85 ∨ a = 86 ∨ a = 87 ∨ a = 88 ∨ a = 89 ∨ a = 90 ∨ a = 91 ∨ a = 92 ∨ a = 93 ∨ a = 94 ∨ a = 95 ∨ a = 96 ∨ a = 97 by omega) with rfl | rfl | rfl | rfl | rfl | rfl | rfl | rfl | rfl | rfl | rfl | rfl | rfl | rfl
  · exact h.2 48 _ (w0_84 tc a0 aK aV t b)
  · exact h.2 49 _ (w0_85 tc a0 aK aV t b)
  · exact h.2 50 _ (w0_86 tc a0 aK aV t b)
  · exact h.2 51 _ (w0_87 tc a0 aK aV t b)
  · exact h.2 52 _ (w0_88 tc a0 aK aV t b)
  · exact h.2 53 _ (w0_89 tc a0 aK aV t b)
  · exact h.2 54 _ (w0_90 tc a0 aK aV t b)
  · exact h.2 55 _ (w0_91 tc a0 aK aV t b)
  · exact h.2 56 _ (w0_92 tc a0 aK aV t b)
  · exact h.2 57 _ (w0_93 tc a0 aK aV t b)
  · exact h.2 58 _ (w0_94 tc a0 aK aV t b)
  · exact h.2 59 _ (w0_95 tc a0 aK aV t b)
  · exact h.2 60 _ (w0_96 tc a0 aK aV t b)
  · exact h.2 61 _ (w0_97 tc a0 aK aV t b)
theorem at_c98 {D : va_G} {tc : Nat → ClassId} {a0 : Nat} {aK aV : Nat → Nat} {t b : Nat} {H : Heap} (h : gW D a0 (usA tc a0) H) (a : Nat) (h1 : 98 ≤ a) (h2 : a < 112) : va_at D zcl (alf a0 aK aV t b a, zE tc (alf a0 aK aV t b) σ0 a) H := by
  rcases (show a = 98 ∨ a = 99 ∨ a = 100 ∨ a = 101 ∨ a = 102 ∨ a = 103 ∨ a = 104 ∨ a = 105 ∨ a = 106 ∨ a = 107 ∨ a = 108 ∨ a = 109 ∨ a = 110 ∨ a = 111 by omega) with rfl | rfl | rfl | rfl | rfl | rfl | rfl | rfl | rfl | rfl | rfl | rfl | rfl | rfl
  · exact h.2 62 _ (w0_98 tc a0 aK aV t b)
  · exact h.2 63 _ (w0_99 tc a0 aK aV t b)
  · exact h.2 64 _ (w0_100 tc a0 aK aV t b)
  · exact h.2 65 _ (w0_101 tc a0 aK aV t b)
  · exact h.2 66 _ (w0_102 tc a0 aK aV t b)
  · exact h.2 67 _ (w0_103 tc a0 aK aV t b)
  · exact h.2 68 _ (w0_104 tc a0 aK aV t b)
  · exact h.2 69 _ (w0_105 tc a0 aK aV t b)
  · exact h.2 70 _ (w0_106 tc a0 aK aV t b)
  · exact h.2 71 _ (w0_107 tc a0 aK aV t b)
  · exact h.2 72 _ (w0_108 tc a0 aK aV t b)
  · exact h.2 73 _ (w0_109 tc a0 aK aV t b)
  · exact h.2 74 _ (w0_110 tc a0 aK aV t b)
  · exact h.2 75 _ (w0_111 tc a0 aK aV t b)
theorem at_c112 {D : va_G} {tc : Nat → ClassId} {a0 : Nat} {aK aV : Nat → Nat} {t b : Nat} {H : Heap} (h : gW D a0 (usA tc a0) H) (a : Nat) (h1 : 112 ≤ a) (h2 : a < 126) : va_at D zcl (alf a0 aK aV t b a, zE tc (alf a0 aK aV t b) σ0 a) H := by
  rcases (show a = 112 ∨ a = 113 ∨ a = 114 ∨ a = 115 ∨ a = 116 ∨ a = 117 ∨ a = 118 ∨ a = 119 ∨ a = 120 ∨ a = 121 ∨ a = 122 ∨ a = 123 ∨ a = 124 ∨ a = 125 by omega) with rfl | rfl | rfl | rfl | rfl | rfl | rfl | rfl | rfl | rfl | rfl | rfl | rfl | rfl
  · exact h.2 76 _ (w0_112 tc a0 aK aV t b)
  · exact h.2 77 _ (w0_113 tc a0 aK aV t b)
  · exact h.2 78 _ (w0_114 tc a0 aK aV t b)
  · exact h.2 79 _ (w0_115 tc a0 aK aV t b)
  · exact h.2 80 _ (w0_116 tc a0 aK aV t b)
  · exact h.2 81 _ (w0_117 tc a0 aK aV t b)
  · exact h.2 82 _ (w0_118 tc a0 aK aV t b)
  · exact h.2 83 _ (w0_119 tc a0 aK aV t b)
  · exact h.2 84 _ (w0_120 tc a0 aK aV t b)
  · exact h.2 13 _ (w0_121 tc a0 aK aV t b)
  · exact h.2 14 _ (w0_122 tc a0 aK aV t b)
  · exact h.2 15 _ (w0_123 tc a0 aK aV t b)
  · exact h.2 16 _ (w0_124 tc a0 aK aV t b)
  · exact h.2 17 _ (w0_125 tc a0 aK aV t b)
theorem at_c126 {D : va_G} {tc : Nat → ClassId} {a0 : Nat} {aK aV : Nat → Nat} {t b : Nat} {H : Heap} (h : gW D a0 (usA tc a0) H) (a : Nat) (h1 : 126 ≤ a) (h2 : a < 140) : va_at D zcl (alf a0 aK aV t b a, zE tc (alf a0 aK aV t b) σ0 a) H := by
  rcases (show a = 126 ∨ a = 127 ∨ a = 128 ∨ a = 129 ∨ a = 130 ∨ a = 131 ∨ a = 132 ∨ a = 133 ∨ a = 134 ∨ a = 135 ∨ a = 136 ∨ a = 137 ∨ a = 138 ∨ a = 139 by omega) with rfl | rfl | rfl | rfl | rfl | rfl | rfl | rfl | rfl | rfl | rfl | rfl | rfl | rfl
  · exact h.2 18 _ (w0_126 tc a0 aK aV t b)
  · exact h.2 19 _ (w0_127 tc a0 aK aV t b)
  · exact h.2 20 _ (w0_128 tc a0 aK aV t b)
  · exact h.2 21 _ (w0_129 tc a0 aK aV t b)
  · exact h.2 22 _ (w0_130 tc a0 aK aV t b)
  · exact h.2 23 _ (w0_131 tc a0 aK aV t b)
  · exact h.2 24 _ (w0_132 tc a0 aK aV t b)
  · exact h.2 116 _ (w0_133 tc a0 aK aV t b)
  · exact h.2 117 _ (w0_134 tc a0 aK aV t b)
  · exact h.2 118 _ (w0_135 tc a0 aK aV t b)
  · exact h.2 119 _ (w0_136 tc a0 aK aV t b)
  · exact h.2 120 _ (w0_137 tc a0 aK aV t b)
  · exact h.2 121 _ (w0_138 tc a0 aK aV t b)
  · exact h.2 89 _ (w0_139 tc a0 aK aV t b)
theorem at_c140 {D : va_G} {tc : Nat → ClassId} {a0 : Nat} {aK aV : Nat → Nat} {t b : Nat} {H : Heap} (h : gW D a0 (usA tc a0) H) (a : Nat) (h1 : 140 ≤ a) (h2 : a < 154) : va_at D zcl (alf a0 aK aV t b a, zE tc (alf a0 aK aV t b) σ0 a) H := by
  rcases (show a = 140 ∨ a = 141 ∨ a = 142 ∨ a = 143 ∨ a = 144 ∨ a = 145 ∨ a = 146 ∨ a = 147 ∨ a = 148 ∨ a = 149 ∨ a = 150 ∨ a = 151 ∨ a = 152 ∨ a = 153 by omega) with rfl | rfl | rfl | rfl | rfl | rfl | rfl | rfl | rfl | rfl | rfl | rfl | rfl | rfl
  · exact h.2 90 _ (w0_140 tc a0 aK aV t b)
  · exact h.2 91 _ (w0_141 tc a0 aK aV t b)
  · exact h.2 92 _ (w0_142 tc a0 aK aV t b)
  · exact h.2 93 _ (w0_143 tc a0 aK aV t b)
  · exact h.2 94 _ (w0_144 tc a0 aK aV t b)
  · exact h.2 146 _ (w0_145 tc a0 aK aV t b)
  · exact h.2 147 _ (w0_146 tc a0 aK aV t b)
  · exact h.2 148 _ (w0_147 tc a0 aK aV t b)
  · exact h.2 149 _ (w0_148 tc a0 aK aV t b)
  · exact h.2 150 _ (w0_149 tc a0 aK aV t b)
  · exact h.2 151 _ (w0_150 tc a0 aK aV t b)
  · exact h.2 152 _ (w0_151 tc a0 aK aV t b)
  · exact h.2 153 _ (w0_152 tc a0 aK aV t b)
  · exact h.2 154 _ (w0_153 tc a0 aK aV t b)
theorem at_c154 {D : va_G} {tc : Nat → ClassId} {a0 : Nat} {aK aV : Nat → Nat} {t b : Nat} {H : Heap} (h : gW D a0 (usA tc a0) H) (a : Nat) (h1 : 154 ≤ a) (h2 : a < 168) : va_at D zcl (alf a0 aK aV t b a, zE tc (alf a0 aK aV t b) σ0 a) H := by
  rcases (show a = 154 ∨ a = 155 ∨ a = 156 ∨ a = 157 ∨ a = 158 ∨ a = 159 ∨ a = 160 ∨ a = 161 ∨ a = 162 ∨ a = 163 ∨ a = 164 ∨ a = 165 ∨ a = 166 ∨ a = 167 by omega) with rfl | rfl | rfl | rfl | rfl | rfl | rfl | rfl | rfl | rfl | rfl | rfl | rfl | rfl
  · exact h.2 155 _ (w0_154 tc a0 aK aV t b)
  · exact h.2 156 _ (w0_155 tc a0 aK aV t b)
  · exact h.2 157 _ (w0_156 tc a0 aK aV t b)
  · exact h.2 158 _ (w0_157 tc a0 aK aV t b)
  · exact h.2 159 _ (w0_158 tc a0 aK aV t b)
  · exact h.2 160 _ (w0_159 tc a0 aK aV t b)
  · exact h.2 161 _ (w0_160 tc a0 aK aV t b)
  · exact h.2 162 _ (w0_161 tc a0 aK aV t b)
  · exact h.2 163 _ (w0_162 tc a0 aK aV t b)
  · exact h.2 164 _ (w0_163 tc a0 aK aV t b)
  · exact h.2 165 _ (w0_164 tc a0 aK aV t b)
  · exact h.2 166 _ (w0_165 tc a0 aK aV t b)
  · exact h.2 167 _ (w0_166 tc a0 aK aV t b)
  · exact h.2 168 _ (w0_167 tc a0 aK aV t b)
theorem at_c168 {D : va_G} {tc : Nat → ClassId} {a0 : Nat} {aK aV : Nat → Nat} {t b : Nat} {H : Heap} (h : gW D a0 (usA tc a0) H) (a : Nat) (h1 : 168 ≤ a) (h2 : a < 182) : va_at D zcl (alf a0 aK aV t b a, zE tc (alf a0 aK aV t b) σ0 a) H := by
  rcases (show a = 168 ∨ a = 169 ∨ a = 170 ∨ a = 171 ∨ a = 172 ∨ a = 173 ∨ a = 174 ∨ a = 175 ∨ a = 176 ∨ a = 177 ∨ a = 178 ∨ a = 179 ∨ a = 180 ∨ a = 181 by omega) with rfl | rfl | rfl | rfl | rfl | rfl | rfl | rfl | rfl | rfl | rfl | rfl | rfl | rfl
  · exact h.2 169 _ (w0_168 tc a0 aK aV t b)
  · exact h.2 170 _ (w0_169 tc a0 aK aV t b)
  · exact h.2 171 _ (w0_170 tc a0 aK aV t b)
  · exact h.2 172 _ (w0_171 tc a0 aK aV t b)
  · exact h.2 173 _ (w0_172 tc a0 aK aV t b)
  · exact h.2 174 _ (w0_173 tc a0 aK aV t b)
  · exact h.2 175 _ (w0_174 tc a0 aK aV t b)
  · exact h.2 176 _ (w0_175 tc a0 aK aV t b)
  · exact h.2 177 _ (w0_176 tc a0 aK aV t b)
  · exact h.2 178 _ (w0_177 tc a0 aK aV t b)
  · exact h.2 179 _ (w0_178 tc a0 aK aV t b)
  · exact h.2 180 _ (w0_179 tc a0 aK aV t b)
  · exact h.2 181 _ (w0_180 tc a0 aK aV t b)
  · exact h.2 182 _ (w0_181 tc a0 aK aV t b)
theorem at_c182 {D : va_G} {tc : Nat → ClassId} {a0 : Nat} {aK aV : Nat → Nat} {t b : Nat} {H : Heap} (h : gW D a0 (usA tc a0) H) (a : Nat) (h1 : 182 ≤ a) (h2 : a < 196) : va_at D zcl (alf a0 aK aV t b a, zE tc (alf a0 aK aV t b) σ0 a) H := by
  rcases (show a = 182 ∨ a = 183 ∨ a = 184 ∨ a = 185 ∨ a = 186 ∨ a = 187 ∨ a = 188 ∨ a = 189 ∨ a = 190 ∨ a = 191 ∨ a = 192 ∨ a = 193 ∨ a = 194 ∨ a = 195 by omega) with rfl | rfl | rfl | rfl | rfl | rfl | rfl | rfl | rfl | rfl | rfl | rfl | rfl | rfl
  · exact h.2 183 _ (w0_182 tc a0 aK aV t b)
  · exact h.2 184 _ (w0_183 tc a0 aK aV t b)
  · exact h.2 185 _ (w0_184 tc a0 aK aV t b)
  · exact h.2 186 _ (w0_185 tc a0 aK aV t b)
  · exact h.2 187 _ (w0_186 tc a0 aK aV t b)
  · exact h.2 188 _ (w0_187 tc a0 aK aV t b)
  · exact h.2 189 _ (w0_188 tc a0 aK aV t b)
  · exact h.2 190 _ (w0_189 tc a0 aK aV t b)
  · exact h.2 191 _ (w0_190 tc a0 aK aV t b)
  · exact h.2 192 _ (w0_191 tc a0 aK aV t b)
  · exact h.2 193 _ (w0_192 tc a0 aK aV t b)
  · exact h.2 194 _ (w0_193 tc a0 aK aV t b)
  · exact h.2 195 _ (w0_194 tc a0 aK aV t b)
  · exact h.2 133 _ (w0_195 tc a0 aK aV t b)
theorem st_P {D : va_G} {tc : Nat → ClassId} {a0 : Nat} {aK aV : Nat → Nat} {t b : Nat} {H : Heap} (h : gW D a0 (usA tc a0) H) : va_P D zcl (zW tc (alf a0 aK aV t b) σ0) H := by
  intro k q hq
  have hk : k < zn := by
    have := (List.getElem?_eq_some_iff.mp hq).1
    unfold zW at this
    rw [List.length_map, List.length_range] at this
    exact this
  rw [zW_get hk] at hq
  cases hq
  have hk : k < 196 := hk
  rcases Nat.lt_or_ge k 14 with q0 | q0
  · exact at_c0 h k (by omega) q0
  rcases Nat.lt_or_ge k 28 with q14 | q14
  · exact at_c14 h k (by omega) q14
  rcases Nat.lt_or_ge k 42 with q28 | q28
  · exact at_c28 h k (by omega) q28
  rcases Nat.lt_or_ge k 56 with q42 | q42
  · exact at_c42 h k (by omega) q42
  rcases Nat.lt_or_ge k 70 with q56 | q56
  · exact at_c56 h k (by omega) q56
  rcases Nat.lt_or_ge k 84 with q70 | q70
  · exact at_c70 h k (by omega) q70
  rcases Nat.lt_or_ge k 98 with q84 | q84
  · exact at_c84 h k (by omega) q84
  rcases Nat.lt_or_ge k 112 with q98 | q98
  · exact at_c98 h k (by omega) q98
  rcases Nat.lt_or_ge k 126 with q112 | q112
  · exact at_c112 h k (by omega) q112
  rcases Nat.lt_or_ge k 140 with q126 | q126
  · exact at_c126 h k (by omega) q126
  rcases Nat.lt_or_ge k 154 with q140 | q140
  · exact at_c140 h k (by omega) q140
  rcases Nat.lt_or_ge k 168 with q154 | q154
  · exact at_c154 h k (by omega) q154
  rcases Nat.lt_or_ge k 182 with q168 | q168
  · exact at_c168 h k (by omega) q168
  rcases Nat.lt_or_ge k 196 with q182 | q182
  · exact at_c182 h k (by omega) q182
  omega
/-! the invariant holds at the start -/
theorem tf0_T : ∀ i, i < 13 → isT (tf σ0 i) := by decide +kernel
theorem tf0_i : ∀ i, i < 13 → ∀ j, j < 13 → tf σ0 i = tf σ0 j → i = j := by decide +kernel
theorem tf0_z : ∀ i, i < 11 → σ0 (tf σ0 i) 6 = 0 ∧ σ0 (tf σ0 i) 1 = 0 ∧ σ0 170 i = 0 := by decide +kernel
theorem s60_z : ∀ q, q < 10 → σ0 59 q = 0 ∧ σ0 60 q = 10000 := by decide +kernel
def T0 : Nat → TXT := fun _ => (0, fun _ => 0, fun _ => 0, fun _ => 0, fun _ => 0, fun _ => 0, fun _ => 0, 0)
theorem nol {P : Prop} {k : Nat} (h : k < 0) : P := absurd h (Nat.not_lt_zero k)
theorem Inv_0 : Inv σ0 := by
  refine ⟨0, 0, 0, 0, 0, T0, ⟨?_, ?_, ?_, ?_, ?_, ?_, ?_, ?_⟩, ?_⟩
  · exact ⟨⟨rfl, rfl, by decide⟩, ⟨rfl, rfl, by decide⟩, ⟨rfl, rfl, rfl, by decide⟩, ⟨rfl, rfl, by decide⟩, 1, by decide, rfl, rfl⟩
  · exact ⟨⟨rfl, rfl, rfl, rfl, rfl, rfl, rfl, rfl⟩, fun a h => nol h, fun j h => nol h, fun i j _ h => nol h⟩
  · refine ⟨fun i hi => ?_, ⟨rfl, rfl⟩, ⟨fun k h => nol h, ⟨1, by decide, rfl⟩, 0, by decide, rfl⟩, ⟨0, by decide, rfl⟩, fun k hk => ?_, fun _ k _ => rfl, fun j h => nol h⟩
    · rcases (show i = 0 ∨ i = 1 ∨ i = 2 ∨ i = 3 ∨ i = 4 ∨ i = 5 ∨ i = 6 ∨ i = 7 by omega) with rfl | rfl | rfl | rfl | rfl | rfl | rfl | rfl <;> rfl
    · rfl
  · refine ⟨fun i hi => tf0_T i (by omega), fun i j hi hj => tf0_i i (by omega) j (by omega), fun i hi => ⟨?_, ?_, ?_⟩⟩
    · exact ⟨(tf0_z i (by omega)).1, (tf0_z i (by omega)).2.1, fun j h => nol h, fun k h => nol h⟩
    · exact ⟨(tf0_z i (by omega)).2.2, fun j h => nol h, fun k h => nol h⟩
    · exact ⟨⟨by decide, by decide, fun k h => nol h, fun j h => nol h⟩, fun j h => nol h⟩
  · exact ⟨0, fun _ => 0, fun _ => 0, by decide, rfl, rfl, fun k h => nol h, fun i j _ h => nol h, fun k h => nol h, fun _ => rfl⟩
  · exact ⟨0, by decide, rfl, rfl, fun i j _ h => nol h, fun _ => rfl⟩
  · refine ⟨0, fun _ => 0, fun _ => 0, fun _ => 0, false, by decide, rfl, rfl, ⟨by decide, fun g h => nol h⟩, fun g h => nol h, rfl, Or.inl ⟨by decide, ?_, ?_, fun a b _ => ?_⟩, fun q _ h => s60_z q h⟩
    · exact fun i h => nol h
    · exact ⟨fun i h => nol h, fun g h => nol h⟩
    · exact fun i h => nol h
  · exact ⟨false, fun _ => 0, fun _ => 0, 0, rfl, rfl, fun h => absurd h (by decide), by decide, fun h => absurd h (by decide)⟩
  · exact ⟨rfl, rfl, by decide, rfl⟩
