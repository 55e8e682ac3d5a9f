/-! THE READING OF TEXTS: one machine that both readers follow. c p is the byte at place p (300: the end). A state: place, how many are open, how much code; the code. CLAUSES: how many; letters; where E, C begin, where C ends. -/
abbrev ES : Type := Nat × Nat × Nat × (Nat → Nat) × (Nat → Nat)
abbrev CS : Type := Nat × (Nat → Nat) × (Nat → Nat) × (Nat → Nat) × (Nat → Nat)
abbrev TK : Type := List (Nat × Nat)
abbrev CF : Type := TK × ES × CS
def updN (f : Nat → Nat) (k x : Nat) : Nat → Nat := fun j => if j = k then x else f j
theorem updN_at (f : Nat → Nat) (k x : Nat) : updN f k x k = x := if_pos rfl
theorem updN_ne (f : Nat → Nat) {k j : Nat} (x : Nat) (h : j ≠ k) : updN f k x j = f j := if_neg h
def dg (x : Nat) : Bool := decide (48 ≤ x ∧ x ≤ 57)
def numF (c : Nat → Nat) : Nat → Nat → Nat → Nat × Nat
  | 0, p, v => (p, v)
  | q + 1, p, v => if dg (c p) = true then numF c q (p + 1) (10 * v + (c p - 48)) else (p, v)
def ltF (x : Nat) : Nat := if x = 114 then 0 else if x = 99 then 1 else if x = 104 then 2 else if x = 109 then 3 else if x = 115 then 4 else if x = 102 then 5 else if x = 112 then 6 else if x = 105 then 7 else if x = 110 then 8 else if x = 111 then 9 else if x = 121 then 10 else if x = 120 then 11 else 99
def sgF (x : Nat) : Nat := if x = 43 then 2 else if x = 45 then 3 else if x = 42 then 4 else if x = 47 then 5 else if x = 37 then 6 else 0
def cmF (x : Nat) : Nat := if x = 60 then 7 else if x = 62 then 8 else if x = 61 then 9 else 0
def stp (c : Nat → Nat) (hd : Nat → Bool) : CF → CF
  | ([], e, z) => ([], e, z)
  | ((0, _) :: K, (p, o, l, op, vl), z) => if c p = 91 then (if o < 6 then ((0, 0) :: (1, 0) :: (3, 0) :: (5, 0) :: K, (p + 1, o + 1, l, op, vl), z) else ([(99, 5)], (p, o, l, op, vl), z))
      else if dg (c p) = true then (if dg (c (numF c 5 p 0).1) = true then ([(99, 2)], ((numF c 5 p 0).1, o, l, op, vl), z) else (K, ((numF c 5 p 0).1, o, l + 1, updN op l 0, updN vl l (numF c 5 p 0).2), z))
      else if ltF (c p) = 99 then ([(99, 1)], (p, o, l, op, vl), z) else (K, (p + 1, o, l + 1, updN op l 1, updN vl l (ltF (c p))), z)
  | ((1, _) :: K, (p, o, l, op, vl), z) => if 4 ≤ sgF (c p) then ((0, 0) :: (2, sgF (c p)) :: (1, 0) :: K, (p + 1, o, l, op, vl), z) else (K, (p, o, l, op, vl), z)
  | ((2, a) :: K, (p, o, l, op, vl), z) => (K, (p, o, l + 1, updN op l a, updN vl l 0), z)
  | ((3, _) :: K, (p, o, l, op, vl), z) => if sgF (c p) = 2 ∨ sgF (c p) = 3 then ((0, 0) :: (1, 0) :: (2, sgF (c p)) :: (3, 0) :: K, (p + 1, o, l, op, vl), z) else (K, (p, o, l, op, vl), z)
  | ((5, _) :: K, (p, o, l, op, vl), z) => if c p = 93 then (K, (p + 1, o - 1, l, op, vl), z) else ([(99, 1)], (p, o, l, op, vl), z)
  | ((6, _) :: K, (p, o, l, op, vl), z) => if c p = 40 then (if o < 6 then ((6, 0) :: (8, 0) :: (9, 0) :: (10, 0) :: K, (p + 1, o + 1, l, op, vl), z) else ([(99, 5)], (p, o, l, op, vl), z))
      else if c p = 33 then (if o < 6 then ((6, 0) :: (7, 0) :: K, (p + 1, o + 1, l, op, vl), z) else ([(99, 5)], (p, o, l, op, vl), z))
      else ((0, 0) :: (1, 0) :: (3, 0) :: (11, 0) :: K, (p, o, l, op, vl), z)
  | ((7, _) :: K, (p, o, l, op, vl), z) => (K, (p, o - 1, l + 1, updN op l 10, updN vl l 0), z)
  | ((8, _) :: K, (p, o, l, op, vl), z) => if c p = 38 then ((6, 0) :: (12, l) :: (8, 0) :: K, (p + 1, o, l + 1, updN op l 11, updN vl l 0), z) else (K, (p, o, l, op, vl), z)
  | ((9, _) :: K, (p, o, l, op, vl), z) => if c p = 124 then ((6, 0) :: (8, 0) :: (12, l) :: (9, 0) :: K, (p + 1, o, l + 1, updN op l 12, updN vl l 0), z) else (K, (p, o, l, op, vl), z)
  | ((10, _) :: K, (p, o, l, op, vl), z) => if c p = 41 then (K, (p + 1, o - 1, l, op, vl), z) else ([(99, 1)], (p, o, l, op, vl), z)
  | ((11, _) :: K, (p, o, l, op, vl), z) => if cmF (c p) = 0 then ([(99, 1)], (p, o, l, op, vl), z) else ((0, 0) :: (1, 0) :: (3, 0) :: (2, cmF (c p)) :: K, (p + 1, o, l, op, vl), z)
  | ((12, a) :: K, (p, o, l, op, vl), z) => (K, (p, o, l, op, updN vl a l), z)
  | ((13, _) :: K, (p, o, l, op, vl), (n, h, sf, cf, en)) => if hd (c p) = true then (if n = 12 then ([(99, 4)], (p, o, l, op, vl), (n, h, sf, cf, en)) else ((0, 0) :: (1, 0) :: (3, 0) :: (14, 0) :: K, (p + 1, o, l, op, vl), (n, updN h n (c p), updN sf n l, cf, en))) else ([(99, 1)], (p, o, l, op, vl), (n, h, sf, cf, en))
  | ((14, _) :: K, (p, o, l, op, vl), (n, h, sf, cf, en)) => if c p = 40 then ((6, 0) :: (8, 0) :: (9, 0) :: (10, 0) :: (15, 0) :: K, (p + 1, o + 1, l, op, vl), (n, h, sf, updN cf n l, en)) else ([(99, 1)], (p, o, l, op, vl), (n, h, sf, updN cf n l, en))
  | ((15, _) :: K, (p, o, l, op, vl), (n, h, sf, cf, en)) => (K, (p, o, l, op, vl), (n + 1, h, sf, cf, updN en n l))
  | ((16, _) :: K, (p, o, l, op, vl), z) => if c p = 300 then (K, (p, o, l, op, vl), z) else if c p = 59 then ((13, 0) :: (16, 0) :: K, (p + 1, o, l, op, vl), z) else ([(99, 1)], (p, o, l, op, vl), z)
  | ((17, _) :: K, (p, o, l, op, vl), z) => if c p = 300 then (K, (p, o, l, op, vl), z) else ([(99, 1)], (p, o, l, op, vl), z)
  | ((k, a) :: K, e, z) => ((k, a) :: K, e, z)
def itr (f : CF → CF) : Nat → CF → CF
  | 0, a => a
  | n + 1, a => itr f n (f a)
theorem itr_add (f : CF → CF) : ∀ (n m : Nat) (a : CF), itr f (n + m) a = itr f m (itr f n a)
  | 0, m, a => by rw [Nat.zero_add]; rfl
  | n + 1, m, a => by rw [Nat.add_right_comm]; exact itr_add f n m (f a)
theorem itr_fix {f : CF → CF} {a : CF} (h : f a = a) : ∀ n, itr f n a = a
  | 0 => rfl
  | n + 1 => by rw [itr, h]; exact itr_fix h n
def Rn (c : Nat → Nat) (hd : Nat → Bool) (a b : CF) : Prop := ∃ n, itr (stp c hd) n a = b
section
variable {c : Nat → Nat} {hd : Nat → Bool} {K : TK} {z : CS} {p o l a : Nat} {op vl : Nat → Nat}
theorem Rn.rf (c : Nat → Nat) (hd : Nat → Bool) (a : CF) : Rn c hd a a := ⟨0, rfl⟩
theorem Rn.tr {a b d : CF} (h : Rn c hd a b) (g : Rn c hd b d) : Rn c hd a d := by
  obtain ⟨n, rfl⟩ := h
  obtain ⟨m, rfl⟩ := g
  exact ⟨n + m, itr_add _ n m a⟩
theorem Rn.one {a b : CF} (h : stp c hd a = b) : Rn c hd a b := ⟨1, h⟩
theorem Rn.det {a b d : CF} (h : Rn c hd a b) (g : Rn c hd a d) (hb : stp c hd b = b) (hd2 : stp c hd d = d) : b = d := by
  obtain ⟨n, rfl⟩ := h
  obtain ⟨m, rfl⟩ := g
  rcases Nat.le_total n m with q | q
  · obtain ⟨r, rfl⟩ := Nat.exists_eq_add_of_le q
    rw [itr_add, itr_fix hb]
  · obtain ⟨r, rfl⟩ := Nat.exists_eq_add_of_le q
    rw [itr_add, itr_fix hd2]
theorem s_fault (f : Nat) (e : ES) (z : CS) : stp c hd ([(99, f)], e, z) = ([(99, f)], e, z) := rfl
theorem s_end (e : ES) (z : CS) : stp c hd ([], e, z) = ([], e, z) := rfl
theorem s0_open (h : c p = 91) (ho : o < 6) : Rn c hd ((0, a) :: K, (p, o, l, op, vl), z) ((0, 0) :: (1, 0) :: (3, 0) :: (5, 0) :: K, (p + 1, o + 1, l, op, vl), z) := Rn.one (by rw [stp, if_pos h, if_pos ho])
theorem s0_deep (h : c p = 91) (ho : ¬ o < 6) : Rn c hd ((0, a) :: K, (p, o, l, op, vl), z) ([(99, 5)], (p, o, l, op, vl), z) := Rn.one (by rw [stp, if_pos h, if_neg ho])
theorem s0_six (h0 : dg (c p) = true) (h : dg (c (numF c 5 p 0).1) = true) : Rn c hd ((0, a) :: K, (p, o, l, op, vl), z) ([(99, 2)], ((numF c 5 p 0).1, o, l, op, vl), z) := Rn.one (by rw [stp, if_neg (fun z => by rw [z] at h0; exact absurd h0 (by decide)), if_pos h0, if_pos h])
theorem s0_num (h0 : dg (c p) = true) (h : ¬ dg (c (numF c 5 p 0).1) = true) : Rn c hd ((0, a) :: K, (p, o, l, op, vl), z) (K, ((numF c 5 p 0).1, o, l + 1, updN op l 0, updN vl l (numF c 5 p 0).2), z) := Rn.one (by rw [stp, if_neg (fun z => by rw [z] at h0; exact absurd h0 (by decide)), if_pos h0, if_neg h])
theorem s0_let (h0 : ¬ c p = 91) (h1 : ¬ dg (c p) = true) (h : ¬ ltF (c p) = 99) : Rn c hd ((0, a) :: K, (p, o, l, op, vl), z) (K, (p + 1, o, l + 1, updN op l 1, updN vl l (ltF (c p))), z) := Rn.one (by rw [stp, if_neg h0, if_neg h1, if_neg h])
theorem s0_bad (h0 : ¬ c p = 91) (h1 : ¬ dg (c p) = true) (h : ltF (c p) = 99) : Rn c hd ((0, a) :: K, (p, o, l, op, vl), z) ([(99, 1)], (p, o, l, op, vl), z) := Rn.one (by rw [stp, if_neg h0, if_neg h1, if_pos h])
theorem s1_go (h : 4 ≤ sgF (c p)) : Rn c hd ((1, a) :: K, (p, o, l, op, vl), z) ((0, 0) :: (2, sgF (c p)) :: (1, 0) :: K, (p + 1, o, l, op, vl), z) := Rn.one (by rw [stp, if_pos h])
theorem s1_end (h : ¬ 4 ≤ sgF (c p)) : Rn c hd ((1, a) :: K, (p, o, l, op, vl), z) (K, (p, o, l, op, vl), z) := Rn.one (by rw [stp, if_neg h])
theorem s2 : Rn c hd ((2, a) :: K, (p, o, l, op, vl), z) (K, (p, o, l + 1, updN op l a, updN vl l 0), z) := Rn.one (by rfl)
theorem s3_go (h : sgF (c p) = 2 ∨ sgF (c p) = 3) : Rn c hd ((3, a) :: K, (p, o, l, op, vl), z) ((0, 0) :: (1, 0) :: (2, sgF (c p)) :: (3, 0) :: K, (p + 1, o, l, op, vl), z) := Rn.one (by rw [stp, if_pos h])
theorem s3_end (h : ¬ (sgF (c p) = 2 ∨ sgF (c p) = 3)) : Rn c hd ((3, a) :: K, (p, o, l, op, vl), z) (K, (p, o, l, op, vl), z) := Rn.one (by rw [stp, if_neg h])
theorem s5_go (h : c p = 93) : Rn c hd ((5, a) :: K, (p, o, l, op, vl), z) (K, (p + 1, o - 1, l, op, vl), z) := Rn.one (by rw [stp, if_pos h])
theorem s5_bad (h : ¬ c p = 93) : Rn c hd ((5, a) :: K, (p, o, l, op, vl), z) ([(99, 1)], (p, o, l, op, vl), z) := Rn.one (by rw [stp, if_neg h])
theorem s6_open (h : c p = 40) (ho : o < 6) : Rn c hd ((6, a) :: K, (p, o, l, op, vl), z) ((6, 0) :: (8, 0) :: (9, 0) :: (10, 0) :: K, (p + 1, o + 1, l, op, vl), z) := Rn.one (by rw [stp, if_pos h, if_pos ho])
theorem s6_deep (h : c p = 40) (ho : ¬ o < 6) : Rn c hd ((6, a) :: K, (p, o, l, op, vl), z) ([(99, 5)], (p, o, l, op, vl), z) := Rn.one (by rw [stp, if_pos h, if_neg ho])
theorem s6_not (h : c p = 33) (ho : o < 6) : Rn c hd ((6, a) :: K, (p, o, l, op, vl), z) ((6, 0) :: (7, 0) :: K, (p + 1, o + 1, l, op, vl), z) := Rn.one (by rw [stp, if_neg (fun z => by rw [h] at z; exact absurd z (by decide)), if_pos h, if_pos ho])
theorem s6_ndeep (h : c p = 33) (ho : ¬ o < 6) : Rn c hd ((6, a) :: K, (p, o, l, op, vl), z) ([(99, 5)], (p, o, l, op, vl), z) := Rn.one (by rw [stp, if_neg (fun z => by rw [h] at z; exact absurd z (by decide)), if_pos h, if_neg ho])
theorem s6_cmp (h : ¬ c p = 40) (h2 : ¬ c p = 33) : Rn c hd ((6, a) :: K, (p, o, l, op, vl), z) ((0, 0) :: (1, 0) :: (3, 0) :: (11, 0) :: K, (p, o, l, op, vl), z) := Rn.one (by rw [stp, if_neg h, if_neg h2])
theorem s7 : Rn c hd ((7, a) :: K, (p, o, l, op, vl), z) (K, (p, o - 1, l + 1, updN op l 10, updN vl l 0), z) := Rn.one (by rfl)
theorem s8_go (h : c p = 38) : Rn c hd ((8, a) :: K, (p, o, l, op, vl), z) ((6, 0) :: (12, l) :: (8, 0) :: K, (p + 1, o, l + 1, updN op l 11, updN vl l 0), z) := Rn.one (by rw [stp, if_pos h])
theorem s8_end (h : ¬ c p = 38) : Rn c hd ((8, a) :: K, (p, o, l, op, vl), z) (K, (p, o, l, op, vl), z) := Rn.one (by rw [stp, if_neg h])
theorem s9_go (h : c p = 124) : Rn c hd ((9, a) :: K, (p, o, l, op, vl), z) ((6, 0) :: (8, 0) :: (12, l) :: (9, 0) :: K, (p + 1, o, l + 1, updN op l 12, updN vl l 0), z) := Rn.one (by rw [stp, if_pos h])
theorem s9_end (h : ¬ c p = 124) : Rn c hd ((9, a) :: K, (p, o, l, op, vl), z) (K, (p, o, l, op, vl), z) := Rn.one (by rw [stp, if_neg h])
theorem s10_go (h : c p = 41) : Rn c hd ((10, a) :: K, (p, o, l, op, vl), z) (K, (p + 1, o - 1, l, op, vl), z) := Rn.one (by rw [stp, if_pos h])
theorem s10_bad (h : ¬ c p = 41) : Rn c hd ((10, a) :: K, (p, o, l, op, vl), z) ([(99, 1)], (p, o, l, op, vl), z) := Rn.one (by rw [stp, if_neg h])
theorem s11_bad (h : cmF (c p) = 0) : Rn c hd ((11, a) :: K, (p, o, l, op, vl), z) ([(99, 1)], (p, o, l, op, vl), z) := Rn.one (by rw [stp, if_pos h])
theorem s11_go (h : ¬ cmF (c p) = 0) : Rn c hd ((11, a) :: K, (p, o, l, op, vl), z) ((0, 0) :: (1, 0) :: (3, 0) :: (2, cmF (c p)) :: K, (p + 1, o, l, op, vl), z) := Rn.one (by rw [stp, if_neg h])
theorem s12 : Rn c hd ((12, a) :: K, (p, o, l, op, vl), z) (K, (p, o, l, op, updN vl a l), z) := Rn.one (by rfl)
variable {n : Nat} {h sf cf en : Nat → Nat}
theorem s13_bad (h1 : ¬ hd (c p) = true) : Rn c hd ((13, a) :: K, (p, o, l, op, vl), (n, h, sf, cf, en)) ([(99, 1)], (p, o, l, op, vl), (n, h, sf, cf, en)) := Rn.one (by rw [stp, if_neg h1])
theorem s13_many (h1 : hd (c p) = true) (h2 : n = 12) : Rn c hd ((13, a) :: K, (p, o, l, op, vl), (n, h, sf, cf, en)) ([(99, 4)], (p, o, l, op, vl), (n, h, sf, cf, en)) := Rn.one (by rw [stp, if_pos h1, if_pos h2])
theorem s13_go (h1 : hd (c p) = true) (h2 : ¬ n = 12) : Rn c hd ((13, a) :: K, (p, o, l, op, vl), (n, h, sf, cf, en)) ((0, 0) :: (1, 0) :: (3, 0) :: (14, 0) :: K, (p + 1, o, l, op, vl), (n, updN h n (c p), updN sf n l, cf, en)) := Rn.one (by rw [stp, if_pos h1, if_neg h2])
theorem s14_bad (h1 : ¬ c p = 40) : Rn c hd ((14, a) :: K, (p, o, l, op, vl), (n, h, sf, cf, en)) ([(99, 1)], (p, o, l, op, vl), (n, h, sf, updN cf n l, en)) := Rn.one (by rw [stp, if_neg h1])
theorem s14_go (h1 : c p = 40) : Rn c hd ((14, a) :: K, (p, o, l, op, vl), (n, h, sf, cf, en)) ((6, 0) :: (8, 0) :: (9, 0) :: (10, 0) :: (15, 0) :: K, (p + 1, o + 1, l, op, vl), (n, h, sf, updN cf n l, en)) := Rn.one (by rw [stp, if_pos h1])
theorem s15 : Rn c hd ((15, a) :: K, (p, o, l, op, vl), (n, h, sf, cf, en)) (K, (p, o, l, op, vl), (n + 1, h, sf, cf, updN en n l)) := Rn.one (by rfl)
theorem s16_end (h1 : c p = 300) : Rn c hd ((16, a) :: K, (p, o, l, op, vl), z) (K, (p, o, l, op, vl), z) := Rn.one (by rw [stp, if_pos h1])
theorem s16_go (h1 : c p = 59) : Rn c hd ((16, a) :: K, (p, o, l, op, vl), z) ((13, 0) :: (16, 0) :: K, (p + 1, o, l, op, vl), z) := Rn.one (by rw [stp, if_neg (by rw [h1]; decide), if_pos h1])
theorem s16_bad (h1 : ¬ c p = 300) (h2 : ¬ c p = 59) : Rn c hd ((16, a) :: K, (p, o, l, op, vl), z) ([(99, 1)], (p, o, l, op, vl), z) := Rn.one (by rw [stp, if_neg h1, if_neg h2])
theorem s17_end (h1 : c p = 300) : Rn c hd ((17, a) :: K, (p, o, l, op, vl), z) (K, (p, o, l, op, vl), z) := Rn.one (by rw [stp, if_pos h1])
theorem s17_bad (h1 : ¬ c p = 300) : Rn c hd ((17, a) :: K, (p, o, l, op, vl), z) ([(99, 1)], (p, o, l, op, vl), z) := Rn.one (by rw [stp, if_neg h1])
end
/-! WELL FORMED stretches of code -/
def wfE (op vl : Nat → Nat) (a b h : Nat) : Prop := a < b ∧ ∃ dp : Nat → Nat, dp a = 0 ∧ dp b = 1 ∧ (∀ k, a ≤ k → k ≤ b → dp k ≤ h) ∧ ∀ k, a ≤ k → k < b → (op k = 0 ∧ dp (k + 1) = dp k + 1 ∧ vl k < 100000) ∨ (op k = 1 ∧ dp (k + 1) = dp k + 1 ∧ vl k < 12) ∨ (2 ≤ op k ∧ op k ≤ 6 ∧ 2 ≤ dp k ∧ dp (k + 1) + 1 = dp k)
def wfB (op vl : Nat → Nat) (a b : Nat) : Prop := a < b ∧ ∃ (dp : Nat → Nat) (bl : Nat → Bool), wfC op vl dp bl a b ∧ bl b = true
theorem wfE_mono {op vl : Nat → Nat} {a b h g : Nat} (H : wfE op vl a b h) (hg : h ≤ g) : wfE op vl a b g := by
  obtain ⟨h0, dp, h1, h2, h3, h4⟩ := H
  exact ⟨h0, dp, h1, h2, fun k k1 k2 => Nat.le_trans (h3 k k1 k2) hg, h4⟩
theorem wfE_congr {op vl op' vl' : Nat → Nat} {a b h : Nat} (H : wfE op vl a b h) (g : ∀ k, k < b → op' k = op k ∧ vl' k = vl k) : wfE op' vl' a b h := by
  obtain ⟨h0, dp, h1, h2, h3, h4⟩ := H
  refine ⟨h0, dp, h1, h2, h3, fun k k1 k2 => ?_⟩
  rw [(g k k2).1, (g k k2).2]
  exact h4 k k1 k2
theorem wfE_num {op vl : Nat → Nat} {a : Nat} (h : (op a = 0 ∧ vl a < 100000) ∨ (op a = 1 ∧ vl a < 12)) : wfE op vl a (a + 1) 1 := by
  refine ⟨by omega, fun k => k - a, Nat.sub_self a, Nat.add_sub_cancel_left a 1, fun k k1 k2 => by show k - a ≤ 1; omega, fun k k1 k2 => ?_⟩
  have e : k = a := by omega
  subst e
  rcases h with ⟨h1, h2⟩ | ⟨h1, h2⟩
  · exact Or.inl ⟨h1, by show k + 1 - k = k - k + 1; omega, h2⟩
  · exact Or.inr (Or.inl ⟨h1, by show k + 1 - k = k - k + 1; omega, h2⟩)
theorem wfE_bin {op vl : Nat → Nat} {a b d h g : Nat} (H : wfE op vl a b h) (G : wfE op vl b d g) (ho : 2 ≤ op d ∧ op d ≤ 6) (hg : g + 1 ≤ h) : wfE op vl a (d + 1) h := by
  obtain ⟨h0, dp, h1, h2, h3, h4⟩ := H
  obtain ⟨g0, dq, g1, g2, g3, g4⟩ := G
  refine ⟨by omega, fun k => if k ≤ b then dp k else if k ≤ d then dq k + 1 else 1, ?_, ?_, fun k k1 k2 => ?_, fun k k1 k2 => ?_⟩
  · show (if a ≤ b then dp a else _) = 0
    rw [if_pos (by omega)]; exact h1
  · show (if d + 1 ≤ b then dp (d + 1) else if d + 1 ≤ d then _ else 1) = 1
    rw [if_neg (by omega), if_neg (by omega)]
  · show (if k ≤ b then dp k else if k ≤ d then dq k + 1 else 1) ≤ h
    have := h3 b (by omega) (by omega)
    split
    · exact h3 k k1 (by omega)
    · split
      · have := g3 k (by omega) (by omega); omega
      · omega
  · rcases Nat.lt_or_ge k b with q | q
    · have := h4 k k1 q
      simp only [if_pos (show k ≤ b by omega), if_pos (show k + 1 ≤ b by omega)]
      exact this
    · have ek : (if k ≤ b then dp k else if k ≤ d then dq k + 1 else 1) = dq k + 1 := by
        by_cases e : k = b
        · subst e
          rw [if_pos (Nat.le_refl _), h2, g1]
        · rw [if_neg (by omega), if_pos (by omega)]
      rcases Nat.lt_or_ge k d with q2 | q2
      · have := g4 k q q2
        simp only [ek, if_neg (show ¬ k + 1 ≤ b by omega), if_pos (show k + 1 ≤ d by omega)]
        omega
      · have e : k = d := by omega
        subst e
        simp only [ek, if_neg (show ¬ k + 1 ≤ b by omega), if_neg (show ¬ k + 1 ≤ k by omega)]
        omega
theorem wfE_C {op vl : Nat → Nat} {a b h : Nat} (H : wfE op vl a b h) (hh : h ≤ 20) : wfC op vl (fun k => (Classical.choose H.2) k) (fun _ => false) a b := by
  obtain ⟨h1, h2, h3, h4⟩ := Classical.choose_spec H.2
  refine ⟨Nat.le_of_lt H.1, h1, rfl, h2, fun k k1 k2 => Nat.le_trans (h3 k k1 k2) hh, fun k k1 k2 => ?_⟩
  rcases h4 k k1 k2 with ⟨q1, q2, q3⟩ | ⟨q1, q2, q3⟩ | ⟨q1, q2, q3, q4⟩
  · exact Or.inl ⟨q1, rfl, rfl, q2, q3⟩
  · exact Or.inr (Or.inl ⟨q1, rfl, rfl, q2, q3⟩)
  · exact Or.inr (Or.inr (Or.inl ⟨q1, q2, rfl, rfl, q3, q4⟩))
theorem wfS_to {op vl dp : Nat → Nat} {bl : Nat → Bool} {to t2 k : Nat} (h : to ≤ t2) (H : wfS op vl dp bl to k) : wfS op vl dp bl t2 k := by
  unfold wfS at *
  rcases H with H | H | H | H | H | ⟨a1, a2, a3, a4, a5, a6, a7, a8⟩
  · exact Or.inl H
  · exact Or.inr (Or.inl H)
  · exact Or.inr (Or.inr (Or.inl H))
  · exact Or.inr (Or.inr (Or.inr (Or.inl H)))
  · exact Or.inr (Or.inr (Or.inr (Or.inr (Or.inl H))))
  · exact Or.inr (Or.inr (Or.inr (Or.inr (Or.inr ⟨a1, a2, a3, a4, a5, a6, Nat.le_trans a7 h, a8⟩))))
theorem wfS_congr {op vl dp op' vl' dp' : Nat → Nat} {bl bl' : Nat → Bool} {to k : Nat} (ho : op' k = op k) (hv : vl' k = vl k) (hk : k < to) (hd : ∀ j, k ≤ j → j ≤ to → dp' j = dp j ∧ bl' j = bl j) (H : wfS op vl dp bl to k) : wfS op' vl' dp' bl' to k := by
  unfold wfS at *
  rw [ho, hv, (hd k (Nat.le_refl _) (by omega)).1, (hd k (Nat.le_refl _) (by omega)).2, (hd (k + 1) (by omega) (by omega)).1, (hd (k + 1) (by omega) (by omega)).2]
  rcases H with H | H | H | H | H | ⟨a1, a2, a3, a4, a5, a6, a7, a8, a9⟩
  · exact Or.inl H
  · exact Or.inr (Or.inl H)
  · exact Or.inr (Or.inr (Or.inl H))
  · exact Or.inr (Or.inr (Or.inr (Or.inl H)))
  · exact Or.inr (Or.inr (Or.inr (Or.inr (Or.inl H))))
  · refine Or.inr (Or.inr (Or.inr (Or.inr (Or.inr ⟨a1, a2, a3, a4, a5, a6, a7, ?_, ?_⟩))))
    · rw [(hd (vl k) (by omega) (by omega)).2]; exact a8
    · rw [(hd (vl k) (by omega) (by omega)).1]; exact a9
theorem wfB_congr {op vl op' vl' : Nat → Nat} {a b : Nat} (H : wfB op vl a b) (g : ∀ k, a ≤ k → k < b → op' k = op k ∧ vl' k = vl k) : wfB op' vl' a b := by
  obtain ⟨h0, dp, bl, ⟨h1, h2, h3, h4, h5, h6⟩, h7⟩ := H
  exact ⟨h0, dp, bl, ⟨h1, h2, h3, h4, h5, fun k k1 k2 => wfS_congr (g k k1 k2).1 (g k k1 k2).2 k2 (fun _ _ _ => ⟨rfl, rfl⟩) (h6 k k1 k2)⟩, h7⟩
theorem wfB_cmp {op vl : Nat → Nat} {a b d h : Nat} (H : wfE op vl a b h) (G : wfE op vl b d h) (ho : 7 ≤ op d ∧ op d ≤ 9) (hh : h + 1 ≤ 20) : wfB op vl a (d + 1) := by
  obtain ⟨h0, dp, h1, h2, h3, h4⟩ := H
  obtain ⟨g0, dq, g1, g2, g3, g4⟩ := G
  refine ⟨by omega, fun k => if k ≤ b then dp k else if k ≤ d then dq k + 1 else 1, fun k => decide (d < k), ⟨by omega, ?_, decide_eq_false (by omega), ?_, fun k k1 k2 => ?_, fun k k1 k2 => ?_⟩, decide_eq_true (by omega)⟩
  · show (if a ≤ b then dp a else _) = 0
    rw [if_pos (by omega)]; exact h1
  · show (if d + 1 ≤ b then dp (d + 1) else if d + 1 ≤ d then _ else 1) = 1
    rw [if_neg (by omega), if_neg (by omega)]
  · show (if k ≤ b then dp k else if k ≤ d then dq k + 1 else 1) ≤ 20
    split
    · have := h3 k k1 (by omega); omega
    · split
      · have := g3 k (by omega) (by omega); omega
      · omega
  · unfold wfS
    rcases Nat.lt_or_ge k b with q | q
    · have := h4 k k1 q
      simp only [if_pos (show k ≤ b by omega), if_pos (show k + 1 ≤ b by omega), decide_eq_false (show ¬ d < k by omega), decide_eq_false (show ¬ d < k + 1 by omega)]
      rcases this with ⟨q1, q2, q3⟩ | ⟨q1, q2, q3⟩ | ⟨q1, q2, q3, q4⟩
      · exact Or.inl ⟨q1, (by first | rfl | trivial), (by first | rfl | trivial), q2, q3⟩
      · exact Or.inr (Or.inl ⟨q1, (by first | rfl | trivial), (by first | rfl | trivial), q2, q3⟩)
      · exact Or.inr (Or.inr (Or.inl ⟨q1, q2, (by first | rfl | trivial), (by first | rfl | trivial), q3, q4⟩))
    · have ek : (if k ≤ b then dp k else if k ≤ d then dq k + 1 else 1) = dq k + 1 := by
        by_cases e : k = b
        · subst e
          rw [if_pos (Nat.le_refl _), h2, g1]
        · rw [if_neg (by omega), if_pos (by omega)]
      rcases Nat.lt_or_ge k d with q2 | q2
      · have := g4 k q q2
        simp only [ek, if_neg (show ¬ k + 1 ≤ b by omega), if_pos (show k + 1 ≤ d by omega), decide_eq_false (show ¬ d < k by omega), decide_eq_false (show ¬ d < k + 1 by omega)]
        rcases this with ⟨q1, q2, q3⟩ | ⟨q1, q2, q3⟩ | ⟨q1, q2, q3, q4⟩
        · exact Or.inl ⟨q1, (by first | rfl | trivial), (by first | rfl | trivial), by omega, q3⟩
        · exact Or.inr (Or.inl ⟨q1, (by first | rfl | trivial), (by first | rfl | trivial), by omega, q3⟩)
        · exact Or.inr (Or.inr (Or.inl ⟨q1, q2, (by first | rfl | trivial), (by first | rfl | trivial), by omega, by omega⟩))
      · have e : k = d := by omega
        subst e
        simp only [ek, if_neg (show ¬ k + 1 ≤ b by omega), if_neg (show ¬ k + 1 ≤ k by omega), decide_eq_false (show ¬ k < k by omega), decide_eq_true (show k < k + 1 by omega)]
        exact Or.inr (Or.inr (Or.inr (Or.inl ⟨ho.1, ho.2, (by first | rfl | trivial), (by first | rfl | trivial), by omega, (by first | rfl | trivial)⟩)))
theorem wfB_not {op vl : Nat → Nat} {a b : Nat} (H : wfB op vl a b) (ho : op b = 10) : wfB op vl a (b + 1) := by
  obtain ⟨h0, dp, bl, ⟨h1, h2, h3, h4, h5, h6⟩, h7⟩ := H
  refine ⟨by omega, fun k => if k ≤ b then dp k else 1, fun k => if k ≤ b then bl k else true, ⟨by omega, ?_, ?_, ?_, fun k k1 k2 => ?_, fun k k1 k2 => ?_⟩, ?_⟩
  · show (if a ≤ b then dp a else 1) = 0
    rw [if_pos h1]; exact h2
  · show (if a ≤ b then bl a else true) = false
    rw [if_pos h1]; exact h3
  · show (if b + 1 ≤ b then dp (b + 1) else 1) = 1
    rw [if_neg (by omega)]
  · show (if k ≤ b then dp k else 1) ≤ 20
    split
    · exact h5 k k1 (by omega)
    · omega
  · rcases Nat.lt_or_ge k b with q | q
    · exact wfS_to (Nat.le_succ b) (wfS_congr rfl rfl q (fun j _ j2 => ⟨if_pos j2, if_pos j2⟩) (h6 k k1 q))
    · have e : k = b := by omega
      subst e
      unfold wfS
      simp only [if_pos (Nat.le_refl k), if_neg (show ¬ k + 1 ≤ k by omega)]
      exact Or.inr (Or.inr (Or.inr (Or.inr (Or.inl ⟨ho, h7, (by first | rfl | trivial), h4, (by first | rfl | trivial)⟩))))
  · show (if b + 1 ≤ b then bl (b + 1) else true) = true
    rw [if_neg (by omega)]
theorem wfB_jump {op vl : Nat → Nat} {a b d : Nat} (H : wfB op vl a b) (G : wfB op vl (b + 1) d) (ho : op b = 11 ∨ op b = 12) (hv : vl b = d) : wfB op vl a d := by
  obtain ⟨h0, dp, bl, ⟨h1, h2, h3, h4, h5, h6⟩, h7⟩ := H
  obtain ⟨g0, dq, bq, ⟨g1, g2, g3, g4, g5, g6⟩, g7⟩ := G
  refine ⟨by omega, fun k => if k ≤ b then dp k else dq k, fun k => if k ≤ b then bl k else bq k, ⟨by omega, ?_, ?_, ?_, fun k k1 k2 => ?_, fun k k1 k2 => ?_⟩, ?_⟩
  · show (if a ≤ b then dp a else dq a) = 0
    rw [if_pos h1]; exact h2
  · show (if a ≤ b then bl a else bq a) = false
    rw [if_pos h1]; exact h3
  · show (if d ≤ b then dp d else dq d) = 1
    rw [if_neg (by omega)]; exact g4
  · show (if k ≤ b then dp k else dq k) ≤ 20
    split
    · exact h5 k k1 (by omega)
    · exact g5 k (by omega) k2
  · rcases Nat.lt_or_ge k b with q | q
    · exact wfS_to (show b ≤ d by omega) (wfS_congr rfl rfl q (fun j _ j2 => ⟨if_pos j2, if_pos j2⟩) (h6 k k1 q))
    · rcases Nat.lt_or_ge b k with q2 | q2
      · exact wfS_congr rfl rfl k2 (fun j j1 _ => ⟨if_neg (by omega), if_neg (by omega)⟩) (g6 k (by omega) k2)
      · have e : k = b := by omega
        subst e
        unfold wfS
        simp only [if_pos (Nat.le_refl k), if_neg (show ¬ k + 1 ≤ k by omega), hv, if_neg (show ¬ d ≤ k by omega)]
        exact Or.inr (Or.inr (Or.inr (Or.inr (Or.inr ⟨ho, h7, h4, g3, g2, by omega, Nat.le_refl _, g7, g4⟩))))
  · show (if d ≤ b then bl d else bq d) = true
    rw [if_neg (by omega)]; exact g7
theorem num_rng {c : Nat → Nat} : ∀ (q p v : Nat), (numF c q p v).2 < 10 ^ q * (v + 1) ∧ p ≤ (numF c q p v).1
  | 0, p, v => ⟨by show v < 10 ^ 0 * (v + 1); omega, Nat.le_refl _⟩
  | q + 1, p, v => by
    rw [numF]
    split
    · rename_i h
      have h := of_decide_eq_true h
      have := num_rng (c := c) q (p + 1) (10 * v + (c p - 48))
      refine ⟨Nat.lt_of_lt_of_le this.1 ?_, by omega⟩
      rw [Nat.pow_succ, Nat.mul_assoc]
      exact Nat.mul_le_mul_left _ (by omega)
    · refine ⟨?_, Nat.le_refl _⟩
      have : 0 < 10 ^ (q + 1) := Nat.pow_pos (by decide)
      exact Nat.lt_of_lt_of_le (Nat.lt_succ_self v) (Nat.le_mul_of_pos_left _ this)
theorem num_pos {c : Nat → Nat} {q p v : Nat} (h : dg (c p) = true) : p < (numF c (q + 1) p v).1 := by
  rw [numF, if_pos h]
  exact (num_rng q (p + 1) _).2
