section ZN
variable {X : ZX} {cc : ByteArray} {own : String} {nL dd pc nx : Nat} {lv st : List Value} {σ : zSt}
/-- the same rows, with a value by its name, a place by its number -/
theorem g_getV {idx ci k n a : Nat} (v : Int32) (F : Fx X cc own nL dd) (hdg : decode cc pc = .ok (.getfield idx, 3)) (hn : pc + 3 = nx) (L : zFL own idx ci k) (hk : zk a = (ci, n)) (hkn : k < n) (hc : ci < 12) (hr : zrf a k = none) (hd : zdy ci k = false) (hv : σ a k = v) (K : Gs X nx lv (.int v :: st) σ) : Gs X pc lv (.ref a :: st) σ := by
  subst hv
  exact g_getI F hdg hn L hk hkn hc hr hd K
theorem zk_small {a ci n : Nat} (h : zk a = (ci, n)) : n < 2 ^ 31 := by
  have h0 : ∀ q ∈ zsh, q.2 < 2 ^ 31 := by decide +kernel
  unfold zk at h
  rw [List.getD_eq_getElem?_getD] at h
  cases e : zsh[a]? with
  | none => rw [e] at h; cases h; decide
  | some q => rw [e] at h; cases h; exact h0 _ (List.mem_of_getElem? e)
theorem g_ialdN {a n : Nat} (j : Nat) (v : Int32) (F : Fx X cc own nL dd) (hdg : decode cc pc = .ok (.iaload, 1)) (hn : pc + 1 = nx) (hk : zk a = (13, n)) (hj : j < n) (hv : σ a j = v) (K : Gs X nx lv (.int v :: st) σ) : Gs X pc lv (.int (nI j) :: .ref a :: st) σ := by
  subst hv
  have h31 := zk_small hk
  refine g_iald F hdg hn hk (vp_in_nI hj h31) ?_
  rw [nI_clamp (by omega)]
  exact K
theorem g_baldN {a n : Nat} (j : Nat) (v : Int32) (F : Fx X cc own nL dd) (hdg : decode cc pc = .ok (.baload, 1)) (hn : pc + 1 = nx) (hk : zk a = (12, n)) (hj : j < n) (hv : σ a j = v) (K : Gs X nx lv (.int v :: st) σ) : Gs X pc lv (.int (nI j) :: .ref a :: st) σ := by
  subst hv
  have h31 := zk_small hk
  refine g_bald F hdg hn hk (vp_in_nI hj h31) ?_
  rw [nI_clamp (by omega)]
  exact K
theorem g_aaldN {a n : Nat} (j t : Nat) (F : Fx X cc own nL dd) (hdg : decode cc pc = .ok (.aaload, 1)) (hn : pc + 1 = nx) (hk : zk a = (14, n)) (hj : j < n) (hv : (σ a j).toNatClampNeg = t) (K : Gs X nx lv (.ref t :: st) σ) : Gs X pc lv (.int (nI j) :: .ref a :: st) σ := by
  subst hv
  have h31 := zk_small hk
  refine g_aaldT F hdg hn hk (vp_in_nI hj h31) ?_
  rw [nI_clamp (by omega)]
  exact K
theorem g_aaldGN {a n : Nat} (j : Nat) (F : Fx X cc own nL dd) (hdg : decode cc pc = .ok (.aaload, 1)) (hn : pc + 1 = nx) (hk : zk a = (15, n)) (hj : j < n) (K : Gs X nx lv (.ref (a + 1 + j) :: st) σ) : Gs X pc lv (.int (nI j) :: .ref a :: st) σ := by
  have h31 := zk_small hk
  refine g_aaldG F hdg hn hk (vp_in_nI hj h31) ?_
  rw [nI_clamp (by omega)]
  exact K
theorem g_iastN {a n : Nat} {x : Int32} (j : Nat) (F : Fx X cc own nL dd) (hdg : decode cc pc = .ok (.iastore, 1)) (hn : pc + 1 = nx) (hk : zk a = (13, n)) (hj : j < n) (K : Gs X nx lv st (zu σ a j x)) : Gs X pc lv (.int x :: .int (nI j) :: .ref a :: st) σ := by
  have h31 := zk_small hk
  refine g_iast F hdg hn hk (vp_in_nI hj h31) ?_
  rw [nI_clamp (by omega)]
  exact K
theorem g_bastN {a n : Nat} {x : Int32} (j : Nat) (F : Fx X cc own nL dd) (hdg : decode cc pc = .ok (.bastore, 1)) (hn : pc + 1 = nx) (hk : zk a = (12, n)) (hj : j < n) (K : Gs X nx lv st (zu σ a j x.toInt8.toInt32)) : Gs X pc lv (.int x :: .int (nI j) :: .ref a :: st) σ := by
  have h31 := zk_small hk
  refine g_bast F hdg hn hk (vp_in_nI hj h31) ?_
  rw [nI_clamp (by omega)]
  exact K
/-- the top of the stack by another name -/
theorem g_top {x : Int32} (y : Int32) (h : x = y) (K : Gs X pc lv (.int y :: st) σ) : Gs X pc lv (.int x :: st) σ := by rw [h]; exact K
theorem g_top2 {z : Value} {x : Int32} (y : Int32) (h : x = y) (K : Gs X pc lv (z :: .int y :: st) σ) : Gs X pc lv (z :: .int x :: st) σ := by rw [h]; exact K
theorem g_st (σ2 : zSt) (h : σ = σ2) (K : Gs X pc lv st σ2) : Gs X pc lv st σ := by rw [h]; exact K
/-- a switch at a number that is known -/
theorem g_tabN {dflt lo hi : Int} {offs : Array Int} {len : Nat} {x : Int32} {off : Int} (i : Nat) (tgt : Nat) (F : Fx X cc own nL dd) (hdg : decode cc pc = .ok (.tableswitch dflt lo hi offs, len)) (hx : x.toInt = lo + i) (hi2 : lo + i ≤ hi) (ho : offs[i]? = some off) (ht : (pc : Int) + off = (tgt : Int)) (K : Gs X tgt lv st σ) : Gs X pc lv (.int x :: st) σ := by
  refine g_tableIn tgt F hdg (by omega) (by omega) ?_ ht K
  rw [show (x.toInt - lo).toNat = i by omega]
  exact ho
end ZN
theorem zur (σ : zSt) {a b : Nat} (h : b ≠ a) (k j : Nat) (x : Int32) : zu σ a k x b j = σ b j := by rw [zu_ne σ h]
theorem zu_zu (σ : zSt) (a k : Nat) (x y : Int32) : zu (zu σ a k x) a k y = zu σ a k y := by
  funext b
  unfold zu
  by_cases h : b = a
  · rw [if_pos h, if_pos h, if_pos rfl, fa_upd_twice]
  · rw [if_neg h, if_neg h, if_neg h]
theorem zu_swap (σ : zSt) {a b : Nat} (h : a ≠ b) (k j : Nat) (x y : Int32) : zu (zu σ a k x) b j y = zu (zu σ b j y) a k x := by
  funext c
  unfold zu
  by_cases h1 : c = a
  · subst h1
    rw [if_neg h, if_pos rfl, if_pos rfl, if_neg h]
  · by_cases h2 : c = b
    · subst h2
      rw [if_pos rfl, if_neg h1, if_neg h1, if_pos rfl]
    · rw [if_neg h2, if_neg h1, if_neg h1, if_neg h2]
