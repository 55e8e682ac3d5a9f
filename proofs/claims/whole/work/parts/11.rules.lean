section ZR
variable {X : ZX} {cc : ByteArray} {own : String} {nL dd pc nx : Nat} {lv st : List Value} {σ : zSt}
theorem g_iconst {n : Int} (v : Int32) (F : Fx X cc own nL dd) (hdg : decode cc pc = .ok (.iconst n, 1)) (hn : pc + 1 = nx) (hv : Int32.ofInt n = v) (K : Gs X nx lv (.int v :: st) σ) : Gs X pc lv (st) σ := by
  subst hn
  obtain ⟨p, l, e, R, s, m, args, below, meth, c, cells, slots, Q, D, tc, al, A⟩ := X
  intro H locs ls h1 h2 h3
  exact lv_iconst F.1 F.2.1 hdg hv (K H locs ls h1 h2 h3)
theorem g_bipush {n : Int} (v : Int32) (F : Fx X cc own nL dd) (hdg : decode cc pc = .ok (.bipush n, 2)) (hn : pc + 2 = nx) (hv : (Int8.ofInt n).toInt32 = v) (K : Gs X nx lv (.int v :: st) σ) : Gs X pc lv (st) σ := by
  subst hn
  obtain ⟨p, l, e, R, s, m, args, below, meth, c, cells, slots, Q, D, tc, al, A⟩ := X
  intro H locs ls h1 h2 h3
  exact lv_bipush F.1 F.2.1 hdg hv (K H locs ls h1 h2 h3)
theorem g_sipush {n : Int} (v : Int32) (F : Fx X cc own nL dd) (hdg : decode cc pc = .ok (.sipush n, 3)) (hn : pc + 3 = nx) (hv : (Int16.ofInt n).toInt32 = v) (K : Gs X nx lv (.int v :: st) σ) : Gs X pc lv (st) σ := by
  subst hn
  obtain ⟨p, l, e, R, s, m, args, below, meth, c, cells, slots, Q, D, tc, al, A⟩ := X
  intro H locs ls h1 h2 h3
  exact lv_sipush F.1 F.2.1 hdg hv (K H locs ls h1 h2 h3)
theorem g_ldc {idx : Nat} (v : Int32) (F : Fx X cc own nL dd) (hdg : decode cc pc = .ok (.ldc idx, 2)) (hn : pc + 2 = nx) (hv : Cond.constant own idx v ∈ TB) (K : Gs X nx lv (.int v :: st) σ) : Gs X pc lv (st) σ := by
  subst hn
  obtain ⟨p, l, e, R, s, m, args, below, meth, c, cells, slots, Q, D, tc, al, A⟩ := X
  intro H locs ls h1 h2 h3
  exact lv_ldc F.1 F.2.1 F.2.2.2.1 (F.2.2.2.2.1 _ hv) hdg (K H locs ls h1 h2 h3)
theorem g_ldcw {idx : Nat} (v : Int32) (F : Fx X cc own nL dd) (hdg : decode cc pc = .ok (.ldc_w idx, 3)) (hn : pc + 3 = nx) (hv : Cond.constant own idx v ∈ TB) (K : Gs X nx lv (.int v :: st) σ) : Gs X pc lv (st) σ := by
  subst hn
  obtain ⟨p, l, e, R, s, m, args, below, meth, c, cells, slots, Q, D, tc, al, A⟩ := X
  intro H locs ls h1 h2 h3
  exact lv_ldcw F.1 F.2.1 F.2.2.2.1 (F.2.2.2.2.1 _ hv) hdg (K H locs ls h1 h2 h3)
theorem g_iload_n {k : Fin 4} (i : Nat) {x : Int32} (F : Fx X cc own nL dd) (hdg : decode cc pc = .ok (.iload_n k, 1)) (hn : pc + 1 = nx) (hi : (k : Nat) = i) (hx : lv[i]? = some (.int x)) (K : Gs X nx lv (.int x :: st) σ) : Gs X pc lv (st) σ := by
  subst hn
  obtain ⟨p, l, e, R, s, m, args, below, meth, c, cells, slots, Q, D, tc, al, A⟩ := X
  intro H locs ls h1 h2 h3
  exact lv_iload_n F.1 F.2.1 hdg hi (zlp_at h1 hx rfl) (K H locs ls h1 h2 h3)
theorem g_iload {i : Nat} {x : Int32} (F : Fx X cc own nL dd) (hdg : decode cc pc = .ok (.iload i, 2)) (hn : pc + 2 = nx) (hx : lv[i]? = some (.int x)) (K : Gs X nx lv (.int x :: st) σ) : Gs X pc lv (st) σ := by
  subst hn
  obtain ⟨p, l, e, R, s, m, args, below, meth, c, cells, slots, Q, D, tc, al, A⟩ := X
  intro H locs ls h1 h2 h3
  exact lv_iload F.1 F.2.1 hdg (zlp_at h1 hx rfl) (K H locs ls h1 h2 h3)
theorem g_aload_n {k : Fin 4} (i : Nat) {x : Nat} (F : Fx X cc own nL dd) (hdg : decode cc pc = .ok (.aload_n k, 1)) (hn : pc + 1 = nx) (hi : (k : Nat) = i) (hx : lv[i]? = some (.ref x)) (K : Gs X nx lv (.ref x :: st) σ) : Gs X pc lv (st) σ := by
  subst hn
  obtain ⟨p, l, e, R, s, m, args, below, meth, c, cells, slots, Q, D, tc, al, A⟩ := X
  intro H locs ls h1 h2 h3
  exact lv_aload_n F.1 F.2.1 hdg hi (zlp_at h1 hx rfl) (K H locs ls h1 h2 h3)
theorem g_aload {i : Nat} {x : Nat} (F : Fx X cc own nL dd) (hdg : decode cc pc = .ok (.aload i, 2)) (hn : pc + 2 = nx) (hx : lv[i]? = some (.ref x)) (K : Gs X nx lv (.ref x :: st) σ) : Gs X pc lv (st) σ := by
  subst hn
  obtain ⟨p, l, e, R, s, m, args, below, meth, c, cells, slots, Q, D, tc, al, A⟩ := X
  intro H locs ls h1 h2 h3
  exact lv_aload F.1 F.2.1 hdg (zlp_at h1 hx rfl) (K H locs ls h1 h2 h3)
theorem g_istore_n {k : Fin 4} (i : Nat) {x : Int32} (F : Fx X cc own nL dd) (hdg : decode cc pc = .ok (.istore_n k, 1)) (hn : pc + 1 = nx) (hi : (k : Nat) = i) (hb : i < nL) (K : Gs X nx (lv.set i (.int x)) (st) σ) : Gs X pc lv (.int x :: st) σ := by
  subst hn
  obtain ⟨p, l, e, R, s, m, args, below, meth, c, cells, slots, Q, D, tc, al, A⟩ := X
  intro H locs ls h1 h2 h3
  exact lv_istore_n F.1 F.2.1 hdg hi h1 (by rw [F.2.2.1]; exact hb) rfl (fun ls2 h => K H locs ls2 (zlp_set h) h2 h3)
theorem g_istore {i : Nat} {x : Int32} (F : Fx X cc own nL dd) (hdg : decode cc pc = .ok (.istore i, 2)) (hn : pc + 2 = nx) (hb : i < nL) (K : Gs X nx (lv.set i (.int x)) (st) σ) : Gs X pc lv (.int x :: st) σ := by
  subst hn
  obtain ⟨p, l, e, R, s, m, args, below, meth, c, cells, slots, Q, D, tc, al, A⟩ := X
  intro H locs ls h1 h2 h3
  exact lv_istore F.1 F.2.1 hdg h1 (by rw [F.2.2.1]; exact hb) rfl (fun ls2 h => K H locs ls2 (zlp_set h) h2 h3)
theorem g_astore_n {k : Fin 4} (i : Nat) {x : Nat} (F : Fx X cc own nL dd) (hdg : decode cc pc = .ok (.astore_n k, 1)) (hn : pc + 1 = nx) (hi : (k : Nat) = i) (hb : i < nL) (K : Gs X nx (lv.set i (.ref x)) (st) σ) : Gs X pc lv (.ref x :: st) σ := by
  subst hn
  obtain ⟨p, l, e, R, s, m, args, below, meth, c, cells, slots, Q, D, tc, al, A⟩ := X
  intro H locs ls h1 h2 h3
  exact lv_astore_n F.1 F.2.1 hdg hi h1 (by rw [F.2.2.1]; exact hb) rfl (fun ls2 h => K H locs ls2 (zlp_set h) h2 h3)
theorem g_astore {i : Nat} {x : Nat} (F : Fx X cc own nL dd) (hdg : decode cc pc = .ok (.astore i, 2)) (hn : pc + 2 = nx) (hb : i < nL) (K : Gs X nx (lv.set i (.ref x)) (st) σ) : Gs X pc lv (.ref x :: st) σ := by
  subst hn
  obtain ⟨p, l, e, R, s, m, args, below, meth, c, cells, slots, Q, D, tc, al, A⟩ := X
  intro H locs ls h1 h2 h3
  exact lv_astore F.1 F.2.1 hdg h1 (by rw [F.2.2.1]; exact hb) rfl (fun ls2 h => K H locs ls2 (zlp_set h) h2 h3)
theorem g_iinc {i : Nat} {n : Int} {x : Int32} (v : Int32) (F : Fx X cc own nL dd) (hdg : decode cc pc = .ok (.iinc i n, 3)) (hn : pc + 3 = nx) (hx : lv[i]? = some (.int x)) (hv : Int32.ofInt n = v) (hb : i < nL) (K : Gs X nx (lv.set i (.int (x + v))) st σ) : Gs X pc lv st σ := by
  subst hn
  subst hv
  obtain ⟨p, l, e, R, s, m, args, below, meth, c, cells, slots, Q, D, tc, al, A⟩ := X
  intro H locs ls h1 h2 h3
  have hm := zlp_mem (al := al) hx rfl
  obtain ⟨k, hk⟩ := List.getElem?_of_mem hm
  exact lv_iinc F.1 F.2.1 hdg h1 hk rfl (by rw [F.2.2.1]; exact hb) rfl (fun ls2 h => K H locs ls2 (zlp_set h) h2 h3)
theorem g_iadd {x y : Int32} (F : Fx X cc own nL dd) (hdg : decode cc pc = .ok (.iadd, 1)) (hn : pc + 1 = nx) (K : Gs X nx lv (.int (x + y) :: st) σ) : Gs X pc lv (.int y :: .int x :: st) σ := by
  subst hn
  obtain ⟨p, l, e, R, s, m, args, below, meth, c, cells, slots, Q, D, tc, al, A⟩ := X
  intro H locs ls h1 h2 h3
  exact lv_iadd F.1 F.2.1 hdg (K H locs ls h1 h2 h3)
theorem g_isub {x y : Int32} (F : Fx X cc own nL dd) (hdg : decode cc pc = .ok (.isub, 1)) (hn : pc + 1 = nx) (K : Gs X nx lv (.int (x - y) :: st) σ) : Gs X pc lv (.int y :: .int x :: st) σ := by
  subst hn
  obtain ⟨p, l, e, R, s, m, args, below, meth, c, cells, slots, Q, D, tc, al, A⟩ := X
  intro H locs ls h1 h2 h3
  exact lv_isub F.1 F.2.1 hdg (K H locs ls h1 h2 h3)
theorem g_imul {x y : Int32} (F : Fx X cc own nL dd) (hdg : decode cc pc = .ok (.imul, 1)) (hn : pc + 1 = nx) (K : Gs X nx lv (.int (x * y) :: st) σ) : Gs X pc lv (.int y :: .int x :: st) σ := by
  subst hn
  obtain ⟨p, l, e, R, s, m, args, below, meth, c, cells, slots, Q, D, tc, al, A⟩ := X
  intro H locs ls h1 h2 h3
  exact lv_imul F.1 F.2.1 hdg (K H locs ls h1 h2 h3)
theorem g_iand {x y : Int32} (F : Fx X cc own nL dd) (hdg : decode cc pc = .ok (.iand, 1)) (hn : pc + 1 = nx) (K : Gs X nx lv (.int (x &&& y) :: st) σ) : Gs X pc lv (.int y :: .int x :: st) σ := by
  subst hn
  obtain ⟨p, l, e, R, s, m, args, below, meth, c, cells, slots, Q, D, tc, al, A⟩ := X
  intro H locs ls h1 h2 h3
  exact lv_iand F.1 F.2.1 hdg (K H locs ls h1 h2 h3)
theorem g_ior {x y : Int32} (F : Fx X cc own nL dd) (hdg : decode cc pc = .ok (.ior, 1)) (hn : pc + 1 = nx) (K : Gs X nx lv (.int (x ||| y) :: st) σ) : Gs X pc lv (.int y :: .int x :: st) σ := by
  subst hn
  obtain ⟨p, l, e, R, s, m, args, below, meth, c, cells, slots, Q, D, tc, al, A⟩ := X
  intro H locs ls h1 h2 h3
  exact lv_ior F.1 F.2.1 hdg (K H locs ls h1 h2 h3)
theorem g_ixor {x y : Int32} (F : Fx X cc own nL dd) (hdg : decode cc pc = .ok (.ixor, 1)) (hn : pc + 1 = nx) (K : Gs X nx lv (.int (x ^^^ y) :: st) σ) : Gs X pc lv (.int y :: .int x :: st) σ := by
  subst hn
  obtain ⟨p, l, e, R, s, m, args, below, meth, c, cells, slots, Q, D, tc, al, A⟩ := X
  intro H locs ls h1 h2 h3
  exact lv_ixor F.1 F.2.1 hdg (K H locs ls h1 h2 h3)
theorem g_ishl {x y : Int32} (F : Fx X cc own nL dd) (hdg : decode cc pc = .ok (.ishl, 1)) (hn : pc + 1 = nx) (K : Gs X nx lv (.int (x <<< (y &&& 31)) :: st) σ) : Gs X pc lv (.int y :: .int x :: st) σ := by
  subst hn
  obtain ⟨p, l, e, R, s, m, args, below, meth, c, cells, slots, Q, D, tc, al, A⟩ := X
  intro H locs ls h1 h2 h3
  exact lv_ishl F.1 F.2.1 hdg (K H locs ls h1 h2 h3)
theorem g_ishr {x y : Int32} (F : Fx X cc own nL dd) (hdg : decode cc pc = .ok (.ishr, 1)) (hn : pc + 1 = nx) (K : Gs X nx lv (.int (x >>> (y &&& 31)) :: st) σ) : Gs X pc lv (.int y :: .int x :: st) σ := by
  subst hn
  obtain ⟨p, l, e, R, s, m, args, below, meth, c, cells, slots, Q, D, tc, al, A⟩ := X
  intro H locs ls h1 h2 h3
  exact lv_ishr F.1 F.2.1 hdg (K H locs ls h1 h2 h3)
theorem g_iushr {x y : Int32} (F : Fx X cc own nL dd) (hdg : decode cc pc = .ok (.iushr, 1)) (hn : pc + 1 = nx) (K : Gs X nx lv (.int (x.toUInt32 >>> (y.toUInt32 &&& Int32.toUInt32 31)).toInt32 :: st) σ) : Gs X pc lv (.int y :: .int x :: st) σ := by
  subst hn
  obtain ⟨p, l, e, R, s, m, args, below, meth, c, cells, slots, Q, D, tc, al, A⟩ := X
  intro H locs ls h1 h2 h3
  exact lv_iushr F.1 F.2.1 hdg rfl (K H locs ls h1 h2 h3)
theorem g_idiv {x y : Int32} (F : Fx X cc own nL dd) (hdg : decode cc pc = .ok (.idiv, 1)) (hn : pc + 1 = nx) (hy : ¬ y = 0) (K : Gs X nx lv (.int (x / y) :: st) σ) : Gs X pc lv (.int y :: .int x :: st) σ := by
  subst hn
  obtain ⟨p, l, e, R, s, m, args, below, meth, c, cells, slots, Q, D, tc, al, A⟩ := X
  intro H locs ls h1 h2 h3
  exact lv_idiv F.1 F.2.1 hdg hy (K H locs ls h1 h2 h3)
theorem g_irem {x y : Int32} (F : Fx X cc own nL dd) (hdg : decode cc pc = .ok (.irem, 1)) (hn : pc + 1 = nx) (hy : ¬ y = 0) (K : Gs X nx lv (.int (x - x / y * y) :: st) σ) : Gs X pc lv (.int y :: .int x :: st) σ := by
  subst hn
  obtain ⟨p, l, e, R, s, m, args, below, meth, c, cells, slots, Q, D, tc, al, A⟩ := X
  intro H locs ls h1 h2 h3
  exact lv_irem F.1 F.2.1 hdg hy (K H locs ls h1 h2 h3)
theorem g_i2l {x : Int32} (F : Fx X cc own nL dd) (hdg : decode cc pc = .ok (.i2l, 1)) (hn : pc + 1 = nx) (K : Gs X nx lv (.long x.toInt64 :: st) σ) : Gs X pc lv (.int x :: st) σ := by
  subst hn
  obtain ⟨p, l, e, R, s, m, args, below, meth, c, cells, slots, Q, D, tc, al, A⟩ := X
  intro H locs ls h1 h2 h3
  exact lv_i2l F.1 F.2.1 hdg rfl (K H locs ls h1 h2 h3)
theorem g_i2b {x : Int32} (F : Fx X cc own nL dd) (hdg : decode cc pc = .ok (.i2b, 1)) (hn : pc + 1 = nx) (K : Gs X nx lv (.int x.toInt8.toInt32 :: st) σ) : Gs X pc lv (.int x :: st) σ := by
  subst hn
  obtain ⟨p, l, e, R, s, m, args, below, meth, c, cells, slots, Q, D, tc, al, A⟩ := X
  intro H locs ls h1 h2 h3
  exact lv_i2b F.1 F.2.1 hdg rfl (K H locs ls h1 h2 h3)
theorem g_i2c {x : Int32} (F : Fx X cc own nL dd) (hdg : decode cc pc = .ok (.i2c, 1)) (hn : pc + 1 = nx) (K : Gs X nx lv (.int (x.toUInt32 % 65536).toInt32 :: st) σ) : Gs X pc lv (.int x :: st) σ := by
  subst hn
  obtain ⟨p, l, e, R, s, m, args, below, meth, c, cells, slots, Q, D, tc, al, A⟩ := X
  intro H locs ls h1 h2 h3
  exact lv_i2c F.1 F.2.1 hdg rfl (K H locs ls h1 h2 h3)
theorem g_lmul {x y : Int64} (F : Fx X cc own nL dd) (hdg : decode cc pc = .ok (.lmul, 1)) (hn : pc + 1 = nx) (K : Gs X nx lv (.long (x * y) :: st) σ) : Gs X pc lv (.long y :: .long x :: st) σ := by
  subst hn
  obtain ⟨p, l, e, R, s, m, args, below, meth, c, cells, slots, Q, D, tc, al, A⟩ := X
  intro H locs ls h1 h2 h3
  exact lv_lmul F.1 F.2.1 hdg (K H locs ls h1 h2 h3)
theorem g_lcmp {x y : Int64} (F : Fx X cc own nL dd) (hdg : decode cc pc = .ok (.lcmp, 1)) (hn : pc + 1 = nx) (K : Gs X nx lv (.int (lg_cmp x y) :: st) σ) : Gs X pc lv (.long y :: .long x :: st) σ := by
  subst hn
  obtain ⟨p, l, e, R, s, m, args, below, meth, c, cells, slots, Q, D, tc, al, A⟩ := X
  intro H locs ls h1 h2 h3
  exact W.lcmp F.1 F.2.1 hdg (K H locs ls h1 h2 h3)
theorem g_dup {v : Value} (F : Fx X cc own nL dd) (hdg : decode cc pc = .ok (.dup, 1)) (hn : pc + 1 = nx) (hv : v.category = 1) (K : Gs X nx lv (v :: v :: st) σ) : Gs X pc lv (v :: st) σ := by
  subst hn
  obtain ⟨p, l, e, R, s, m, args, below, meth, c, cells, slots, Q, D, tc, al, A⟩ := X
  intro H locs ls h1 h2 h3
  exact lv_dup F.1 F.2.1 hdg ((cV_cat al v).trans hv) (K H locs ls h1 h2 h3)
theorem g_pop {v : Value} (F : Fx X cc own nL dd) (hdg : decode cc pc = .ok (.pop, 1)) (hn : pc + 1 = nx) (hv : v.category = 1) (K : Gs X nx lv (st) σ) : Gs X pc lv (v :: st) σ := by
  subst hn
  obtain ⟨p, l, e, R, s, m, args, below, meth, c, cells, slots, Q, D, tc, al, A⟩ := X
  intro H locs ls h1 h2 h3
  exact lv_pop F.1 F.2.1 hdg ((cV_cat al v).trans hv) (K H locs ls h1 h2 h3)
theorem g_dup2 {v w : Value} (F : Fx X cc own nL dd) (hdg : decode cc pc = .ok (.dup2, 1)) (hn : pc + 1 = nx) (hv : v.category = 1) (hw : w.category = 1) (K : Gs X nx lv (v :: w :: v :: w :: st) σ) : Gs X pc lv (v :: w :: st) σ := by
  subst hn
  obtain ⟨p, l, e, R, s, m, args, below, meth, c, cells, slots, Q, D, tc, al, A⟩ := X
  intro H locs ls h1 h2 h3
  exact lv_dup2_11 F.1 F.2.1 hdg ((cV_cat al v).trans hv) ((cV_cat al w).trans hw) (K H locs ls h1 h2 h3)
theorem g_if_eq {x : Int32} {off : Int} (tgt : Nat) (F : Fx X cc own nL dd) (hdg : decode cc pc = .ok (.ifCond .eq off, 3)) (hn : pc + 3 = nx) (ht : (pc : Int) + off = (tgt : Int)) (kt : x = 0 → Gs X tgt lv st σ) (kf : ¬ x = 0 → Gs X nx lv st σ) : Gs X pc lv (.int x :: st) σ := by
  subst hn
  obtain ⟨p, l, e, R, s, m, args, below, meth, c, cells, slots, Q, D, tc, al, A⟩ := X
  intro H locs ls h1 h2 h3
  exact lv_if_eq F.1 F.2.1 hdg ht (fun q => kt q H locs ls h1 h2 h3) (fun q => kf q H locs ls h1 h2 h3)
theorem g_if_ne {x : Int32} {off : Int} (tgt : Nat) (F : Fx X cc own nL dd) (hdg : decode cc pc = .ok (.ifCond .ne off, 3)) (hn : pc + 3 = nx) (ht : (pc : Int) + off = (tgt : Int)) (kt : x ≠ 0 → Gs X tgt lv st σ) (kf : x = 0 → Gs X nx lv st σ) : Gs X pc lv (.int x :: st) σ := by
  subst hn
  obtain ⟨p, l, e, R, s, m, args, below, meth, c, cells, slots, Q, D, tc, al, A⟩ := X
  intro H locs ls h1 h2 h3
  exact lv_if_ne F.1 F.2.1 hdg ht (fun q => kt q H locs ls h1 h2 h3) (fun q => kf q H locs ls h1 h2 h3)
theorem g_if_lt {x : Int32} {off : Int} (tgt : Nat) (F : Fx X cc own nL dd) (hdg : decode cc pc = .ok (.ifCond .lt off, 3)) (hn : pc + 3 = nx) (ht : (pc : Int) + off = (tgt : Int)) (kt : x < 0 → Gs X tgt lv st σ) (kf : ¬ x < 0 → Gs X nx lv st σ) : Gs X pc lv (.int x :: st) σ := by
  subst hn
  obtain ⟨p, l, e, R, s, m, args, below, meth, c, cells, slots, Q, D, tc, al, A⟩ := X
  intro H locs ls h1 h2 h3
  exact lv_if_lt F.1 F.2.1 hdg ht (fun q => kt q H locs ls h1 h2 h3) (fun q => kf q H locs ls h1 h2 h3)
theorem g_if_ge {x : Int32} {off : Int} (tgt : Nat) (F : Fx X cc own nL dd) (hdg : decode cc pc = .ok (.ifCond .ge off, 3)) (hn : pc + 3 = nx) (ht : (pc : Int) + off = (tgt : Int)) (kt : 0 ≤ x → Gs X tgt lv st σ) (kf : ¬ 0 ≤ x → Gs X nx lv st σ) : Gs X pc lv (.int x :: st) σ := by
  subst hn
  obtain ⟨p, l, e, R, s, m, args, below, meth, c, cells, slots, Q, D, tc, al, A⟩ := X
  intro H locs ls h1 h2 h3
  exact lv_if_ge F.1 F.2.1 hdg ht (fun q => kt q H locs ls h1 h2 h3) (fun q => kf q H locs ls h1 h2 h3)
theorem g_if_gt {x : Int32} {off : Int} (tgt : Nat) (F : Fx X cc own nL dd) (hdg : decode cc pc = .ok (.ifCond .gt off, 3)) (hn : pc + 3 = nx) (ht : (pc : Int) + off = (tgt : Int)) (kt : 0 < x → Gs X tgt lv st σ) (kf : ¬ 0 < x → Gs X nx lv st σ) : Gs X pc lv (.int x :: st) σ := by
  subst hn
  obtain ⟨p, l, e, R, s, m, args, below, meth, c, cells, slots, Q, D, tc, al, A⟩ := X
  intro H locs ls h1 h2 h3
  exact lv_if_gt F.1 F.2.1 hdg ht (fun q => kt q H locs ls h1 h2 h3) (fun q => kf q H locs ls h1 h2 h3)
theorem g_if_le {x : Int32} {off : Int} (tgt : Nat) (F : Fx X cc own nL dd) (hdg : decode cc pc = .ok (.ifCond .le off, 3)) (hn : pc + 3 = nx) (ht : (pc : Int) + off = (tgt : Int)) (kt : x ≤ 0 → Gs X tgt lv st σ) (kf : ¬ x ≤ 0 → Gs X nx lv st σ) : Gs X pc lv (.int x :: st) σ := by
  subst hn
  obtain ⟨p, l, e, R, s, m, args, below, meth, c, cells, slots, Q, D, tc, al, A⟩ := X
  intro H locs ls h1 h2 h3
  exact lv_if_le F.1 F.2.1 hdg ht (fun q => kt q H locs ls h1 h2 h3) (fun q => kf q H locs ls h1 h2 h3)
theorem g_icmp_eq {x y : Int32} {off : Int} (tgt : Nat) (F : Fx X cc own nL dd) (hdg : decode cc pc = .ok (.if_icmp .eq off, 3)) (hn : pc + 3 = nx) (ht : (pc : Int) + off = (tgt : Int)) (kt : x = y → Gs X tgt lv st σ) (kf : ¬ x = y → Gs X nx lv st σ) : Gs X pc lv (.int y :: .int x :: st) σ := by
  subst hn
  obtain ⟨p, l, e, R, s, m, args, below, meth, c, cells, slots, Q, D, tc, al, A⟩ := X
  intro H locs ls h1 h2 h3
  exact lv_icmp_eq F.1 F.2.1 hdg ht (fun q => kt q H locs ls h1 h2 h3) (fun q => kf q H locs ls h1 h2 h3)
theorem g_icmp_ne {x y : Int32} {off : Int} (tgt : Nat) (F : Fx X cc own nL dd) (hdg : decode cc pc = .ok (.if_icmp .ne off, 3)) (hn : pc + 3 = nx) (ht : (pc : Int) + off = (tgt : Int)) (kt : x ≠ y → Gs X tgt lv st σ) (kf : x = y → Gs X nx lv st σ) : Gs X pc lv (.int y :: .int x :: st) σ := by
  subst hn
  obtain ⟨p, l, e, R, s, m, args, below, meth, c, cells, slots, Q, D, tc, al, A⟩ := X
  intro H locs ls h1 h2 h3
  exact lv_icmp_ne F.1 F.2.1 hdg ht (fun q => kt q H locs ls h1 h2 h3) (fun q => kf q H locs ls h1 h2 h3)
theorem g_icmp_lt {x y : Int32} {off : Int} (tgt : Nat) (F : Fx X cc own nL dd) (hdg : decode cc pc = .ok (.if_icmp .lt off, 3)) (hn : pc + 3 = nx) (ht : (pc : Int) + off = (tgt : Int)) (kt : x < y → Gs X tgt lv st σ) (kf : ¬ x < y → Gs X nx lv st σ) : Gs X pc lv (.int y :: .int x :: st) σ := by
  subst hn
  obtain ⟨p, l, e, R, s, m, args, below, meth, c, cells, slots, Q, D, tc, al, A⟩ := X
  intro H locs ls h1 h2 h3
  exact lv_icmp_lt F.1 F.2.1 hdg ht (fun q => kt q H locs ls h1 h2 h3) (fun q => kf q H locs ls h1 h2 h3)
theorem g_icmp_ge {x y : Int32} {off : Int} (tgt : Nat) (F : Fx X cc own nL dd) (hdg : decode cc pc = .ok (.if_icmp .ge off, 3)) (hn : pc + 3 = nx) (ht : (pc : Int) + off = (tgt : Int)) (kt : y ≤ x → Gs X tgt lv st σ) (kf : ¬ y ≤ x → Gs X nx lv st σ) : Gs X pc lv (.int y :: .int x :: st) σ := by
  subst hn
  obtain ⟨p, l, e, R, s, m, args, below, meth, c, cells, slots, Q, D, tc, al, A⟩ := X
  intro H locs ls h1 h2 h3
  exact lv_icmp_ge F.1 F.2.1 hdg ht (fun q => kt q H locs ls h1 h2 h3) (fun q => kf q H locs ls h1 h2 h3)
theorem g_icmp_gt {x y : Int32} {off : Int} (tgt : Nat) (F : Fx X cc own nL dd) (hdg : decode cc pc = .ok (.if_icmp .gt off, 3)) (hn : pc + 3 = nx) (ht : (pc : Int) + off = (tgt : Int)) (kt : y < x → Gs X tgt lv st σ) (kf : ¬ y < x → Gs X nx lv st σ) : Gs X pc lv (.int y :: .int x :: st) σ := by
  subst hn
  obtain ⟨p, l, e, R, s, m, args, below, meth, c, cells, slots, Q, D, tc, al, A⟩ := X
  intro H locs ls h1 h2 h3
  exact lv_icmp_gt F.1 F.2.1 hdg ht (fun q => kt q H locs ls h1 h2 h3) (fun q => kf q H locs ls h1 h2 h3)
theorem g_icmp_le {x y : Int32} {off : Int} (tgt : Nat) (F : Fx X cc own nL dd) (hdg : decode cc pc = .ok (.if_icmp .le off, 3)) (hn : pc + 3 = nx) (ht : (pc : Int) + off = (tgt : Int)) (kt : x ≤ y → Gs X tgt lv st σ) (kf : ¬ x ≤ y → Gs X nx lv st σ) : Gs X pc lv (.int y :: .int x :: st) σ := by
  subst hn
  obtain ⟨p, l, e, R, s, m, args, below, meth, c, cells, slots, Q, D, tc, al, A⟩ := X
  intro H locs ls h1 h2 h3
  exact lv_icmp_le F.1 F.2.1 hdg ht (fun q => kt q H locs ls h1 h2 h3) (fun q => kf q H locs ls h1 h2 h3)
theorem g_goto {off : Int} (tgt : Nat) (F : Fx X cc own nL dd) (hdg : decode cc pc = .ok (.goto off, 3)) (ht : (pc : Int) + off = (tgt : Int)) (K : Gs X tgt lv st σ) : Gs X pc lv st σ := by
  obtain ⟨p, l, e, R, s, m, args, below, meth, c, cells, slots, Q, D, tc, al, A⟩ := X
  intro H locs ls h1 h2 h3
  exact lv_goto F.1 F.2.1 hdg ht (K H locs ls h1 h2 h3)
theorem g_ifnonnull {x : Nat} {off : Int} (tgt : Nat) (F : Fx X cc own nL dd) (hdg : decode cc pc = .ok (.ifnonnull off, 3)) (ht : (pc : Int) + off = (tgt : Int)) (K : Gs X tgt lv st σ) : Gs X pc lv (.ref x :: st) σ := by
  obtain ⟨p, l, e, R, s, m, args, below, meth, c, cells, slots, Q, D, tc, al, A⟩ := X
  intro H locs ls h1 h2 h3
  exact lv_ifnonnull F.1 F.2.1 hdg ht (K H locs ls h1 h2 h3)
theorem g_ifnull {x : Nat} {off : Int} (F : Fx X cc own nL dd) (hdg : decode cc pc = .ok (.ifnull off, 3)) (hn : pc + 3 = nx) (K : Gs X nx lv (st) σ) : Gs X pc lv (.ref x :: st) σ := by
  subst hn
  obtain ⟨p, l, e, R, s, m, args, below, meth, c, cells, slots, Q, D, tc, al, A⟩ := X
  intro H locs ls h1 h2 h3
  exact lv_ifnull F.1 F.2.1 hdg (K H locs ls h1 h2 h3)
theorem g_tableIn {dflt lo hi : Int} {offs : Array Int} {len : Nat} {x : Int32} {off : Int} (tgt : Nat) (F : Fx X cc own nL dd) (hdg : decode cc pc = .ok (.tableswitch dflt lo hi offs, len)) (q1 : ¬ x.toInt < lo) (q2 : ¬ hi < x.toInt) (ho : offs[(x.toInt - lo).toNat]? = some off) (ht : (pc : Int) + off = (tgt : Int)) (K : Gs X tgt lv st σ) : Gs X pc lv (.int x :: st) σ := by
  obtain ⟨p, l, e, R, s, m, args, below, meth, c, cells, slots, Q, D, tc, al, A⟩ := X
  intro H locs ls h1 h2 h3
  exact lv_tableIn F.1 F.2.1 hdg q1 q2 ho ht (K H locs ls h1 h2 h3)
theorem g_tableOut {dflt lo hi : Int} {offs : Array Int} {len : Nat} {x : Int32} (tgt : Nat) (F : Fx X cc own nL dd) (hdg : decode cc pc = .ok (.tableswitch dflt lo hi offs, len)) (q1 : x.toInt < lo ∨ hi < x.toInt) (ht : (pc : Int) + dflt = (tgt : Int)) (K : Gs X tgt lv st σ) : Gs X pc lv (.int x :: st) σ := by
  obtain ⟨p, l, e, R, s, m, args, below, meth, c, cells, slots, Q, D, tc, al, A⟩ := X
  intro H locs ls h1 h2 h3
  exact lv_tableOut F.1 F.2.1 hdg q1 ht (K H locs ls h1 h2 h3)
theorem g_lookup {dflt : Int} {ps : Array (Int × Int)} {len : Nat} {x : Int32} {off : Int} (tgt : Nat) (F : Fx X cc own nL dd) (hdg : decode cc pc = .ok (.lookupswitch dflt ps, len)) (hp : (ps.toList.zip (ps.toList.drop 1)).all (fun (a, next) => a.1 < next.1) = true) (ho : Op.lookupswitch.offset ps.toList dflt x.toInt = off) (ht : (pc : Int) + off = (tgt : Int)) (K : Gs X tgt lv st σ) : Gs X pc lv (.int x :: st) σ := by
  obtain ⟨p, l, e, R, s, m, args, below, meth, c, cells, slots, Q, D, tc, al, A⟩ := X
  intro H locs ls h1 h2 h3
  exact lv_lookup F.1 F.2.1 hdg hp ho ht (K H locs ls h1 h2 h3)
theorem g_getI {idx ci k n a : Nat} (F : Fx X cc own nL dd) (hdg : decode cc pc = .ok (.getfield idx, 3)) (hn : pc + 3 = nx) (L : zFL own idx ci k) (hk : zk a = (ci, n)) (hkn : k < n) (hc : ci < 12) (hr : zrf a k = none) (hd : zdy ci k = false) (K : Gs X nx lv (.int (σ a k) :: st) σ) : Gs X pc lv (.ref a :: st) σ := by
  subst hn
  obtain ⟨p, l, e, R, s, m, args, below, meth, c, cells, slots, Q, D, tc, al, A⟩ := X
  intro H locs ls h1 h2 h3
  obtain ⟨C, T, N, l1, l2, l3, l4⟩ := L
  have ha : a < zn := zk_lt (by rw [hk]; exact Nat.ne_of_lt (Nat.lt_trans hc (by decide)))
  have he := zW_get (tc := tc) (al := al) (σ := σ) ha
  rw [zE_obj hk hc] at he
  refine va_get F.1 F.2.1 F.2.2.2.2.1 (zin l1) F.2.2.2.1 F.2.2.2.2.2.1 h2 a he l1 k l2 (F.2.2.2.2.1 _ l3) (fun x hx => by rw [l4] at hx; exact hx) (v := cV al (.int (σ a k))) ?_ hdg (K H locs ls h1 h2 h3)
  rw [List.getElem?_map, List.getElem?_range hkn]
  show some (cV al (zav σ a k)) = _
  unfold zav
  rw [hr]
  simp only [hk, hd]
  rfl
theorem g_getR {idx ci k n a : Nat} {t : Nat} (F : Fx X cc own nL dd) (hdg : decode cc pc = .ok (.getfield idx, 3)) (hn : pc + 3 = nx) (L : zFL own idx ci k) (hk : zk a = (ci, n)) (hkn : k < n) (hc : ci < 12) (hr : zrf a k = some t) (K : Gs X nx lv (.ref t :: st) σ) : Gs X pc lv (.ref a :: st) σ := by
  subst hn
  obtain ⟨p, l, e, R, s, m, args, below, meth, c, cells, slots, Q, D, tc, al, A⟩ := X
  intro H locs ls h1 h2 h3
  obtain ⟨C, T, N, l1, l2, l3, l4⟩ := L
  have ha : a < zn := zk_lt (by rw [hk]; exact Nat.ne_of_lt (Nat.lt_trans hc (by decide)))
  have he := zW_get (tc := tc) (al := al) (σ := σ) ha
  rw [zE_obj hk hc] at he
  refine va_get F.1 F.2.1 F.2.2.2.2.1 (zin l1) F.2.2.2.1 F.2.2.2.2.2.1 h2 a he l1 k l2 (F.2.2.2.2.1 _ l3) (fun x hx => by rw [l4] at hx; exact hx) (v := cV al (.ref t)) ?_ hdg (K H locs ls h1 h2 h3)
  rw [List.getElem?_map, List.getElem?_range hkn]
  show some (cV al (zav σ a k)) = _
  unfold zav
  rw [hr]
theorem g_getD {idx ci k n a : Nat} (F : Fx X cc own nL dd) (hdg : decode cc pc = .ok (.getfield idx, 3)) (hn : pc + 3 = nx) (L : zFL own idx ci k) (hk : zk a = (ci, n)) (hkn : k < n) (hc : ci < 12) (hr : zrf a k = none) (hd : zdy ci k = true) (K : Gs X nx lv (.ref (σ a k).toNatClampNeg :: st) σ) : Gs X pc lv (.ref a :: st) σ := by
  subst hn
  obtain ⟨p, l, e, R, s, m, args, below, meth, c, cells, slots, Q, D, tc, al, A⟩ := X
  intro H locs ls h1 h2 h3
  obtain ⟨C, T, N, l1, l2, l3, l4⟩ := L
  have ha : a < zn := zk_lt (by rw [hk]; exact Nat.ne_of_lt (Nat.lt_trans hc (by decide)))
  have he := zW_get (tc := tc) (al := al) (σ := σ) ha
  rw [zE_obj hk hc] at he
  refine va_get F.1 F.2.1 F.2.2.2.2.1 (zin l1) F.2.2.2.1 F.2.2.2.2.2.1 h2 a he l1 k l2 (F.2.2.2.2.1 _ l3) (fun x hx => by rw [l4] at hx; exact hx) (v := cV al (.ref (σ a k).toNatClampNeg)) ?_ hdg (K H locs ls h1 h2 h3)
  rw [List.getElem?_map, List.getElem?_range hkn]
  show some (cV al (zav σ a k)) = _
  unfold zav
  rw [hr]
  simp only [hk, hd]
  rfl
theorem g_putI {idx ci k n a : Nat} {x : Int32} (F : Fx X cc own nL dd) (hdg : decode cc pc = .ok (.putfield idx, 3)) (hn : pc + 3 = nx) (L : zFL own idx ci k) (hf : zFI ci k) (hk : zk a = (ci, n)) (hkn : k < n) (hc : ci < 12) (hr : zrf a k = none) (hd : zdy ci k = false) (K : Gs X nx lv st (zu σ a k x)) : Gs X pc lv (.int x :: .ref a :: st) σ := by
  subst hn
  obtain ⟨p, l, e, R, s, m, args, below, meth, c, cells, slots, Q, D, tc, al, A⟩ := X
  intro H locs ls h1 h2 h3
  obtain ⟨C, T, N, l1, l2, l3, l4⟩ := L
  obtain ⟨C2, T2, N2, f1, f2, f3⟩ := hf
  rw [l1] at f1
  cases f1
  have ha : a < zn := zk_lt (by rw [hk]; exact Nat.ne_of_lt (Nat.lt_trans hc (by decide)))
  have he := zW_get (tc := tc) (al := al) (σ := σ) ha
  rw [zE_obj hk hc] at he
  obtain ⟨ty0, hty, hnm⟩ := ztn l1
  have hD : va_D A (zW tc al σ) := zWD F.2.2.2.2.2.2.1 F.2.2.2.2.2.2.2.1
  have hv : cV al (zav (zu σ a k x) a k) = .int x := by
    unfold zav
    rw [hr]
    simp only [hk, hd, zu_same]
    rfl
  refine va_put (v := .int x) F.1 F.2.1 F.2.2.2.2.1 (zin l1) ty0 hty hnm F.2.2.2.1 F.2.2.2.2.2.1 h2 hD h3 a he l1 k l2 (F.2.2.2.2.1 _ l3) (fun x hx => by rw [l4] at hx; exact hx) f2 f3 rfl rfl (by rw [List.length_map, List.length_range]; exact hkn) hdg (fun H1 locs1 g1 _ g3 => ?_)
  rw [z_fset hkn hv, ← zE_obj (tc := tc) hk hc, zW_set ha rfl (fun b hb => zu_ne σ hb k _)] at g1
  exact K H1 locs1 ls h1 g1 g3
theorem g_putB {idx ci k n a : Nat} {x : Int32} (F : Fx X cc own nL dd) (hdg : decode cc pc = .ok (.putfield idx, 3)) (hn : pc + 3 = nx) (L : zFL own idx ci k) (hf : zFB ci k) (hk : zk a = (ci, n)) (hkn : k < n) (hc : ci < 12) (hr : zrf a k = none) (hd : zdy ci k = false) (hx : x = 0 ∨ x = 1) (K : Gs X nx lv st (zu σ a k x)) : Gs X pc lv (.int x :: .ref a :: st) σ := by
  subst hn
  obtain ⟨p, l, e, R, s, m, args, below, meth, c, cells, slots, Q, D, tc, al, A⟩ := X
  intro H locs ls h1 h2 h3
  obtain ⟨C, T, N, l1, l2, l3, l4⟩ := L
  obtain ⟨C2, T2, N2, f1, f2, f3⟩ := hf
  rw [l1] at f1
  cases f1
  have ha : a < zn := zk_lt (by rw [hk]; exact Nat.ne_of_lt (Nat.lt_trans hc (by decide)))
  have he := zW_get (tc := tc) (al := al) (σ := σ) ha
  rw [zE_obj hk hc] at he
  obtain ⟨ty0, hty, hnm⟩ := ztn l1
  have hD : va_D A (zW tc al σ) := zWD F.2.2.2.2.2.2.1 F.2.2.2.2.2.2.2.1
  have hv : cV al (zav (zu σ a k x) a k) = .int x := by
    unfold zav
    rw [hr]
    simp only [hk, hd, zu_same]
    rfl
  refine va_put (v := .int x) F.1 F.2.1 F.2.2.2.2.1 (zin l1) ty0 hty hnm F.2.2.2.1 F.2.2.2.2.2.1 h2 hD h3 a he l1 k l2 (F.2.2.2.2.1 _ l3) (fun x hx => by rw [l4] at hx; exact hx) f2 f3 (by rcases hx with rfl | rfl <;> rfl) (by rcases hx with rfl | rfl <;> rfl) (by rw [List.length_map, List.length_range]; exact hkn) hdg (fun H1 locs1 g1 _ g3 => ?_)
  rw [z_fset hkn hv, ← zE_obj (tc := tc) hk hc, zW_set ha rfl (fun b hb => zu_ne σ hb k _)] at g1
  exact K H1 locs1 ls h1 g1 g3
theorem g_putD {idx ci k n a : Nat} {t : Nat} (F : Fx X cc own nL dd) (hdg : decode cc pc = .ok (.putfield idx, 3)) (hn : pc + 3 = nx) (L : zFL own idx ci k) (hf : zFR ci k) (hk : zk a = (ci, n)) (hkn : k < n) (hc : ci < 12) (hr : zrf a k = none) (hd : zdy ci k = true) (ht : t < 2 ^ 31) (K : Gs X nx lv st (zu σ a k (nI t))) : Gs X pc lv (.ref t :: .ref a :: st) σ := by
  subst hn
  obtain ⟨p, l, e, R, s, m, args, below, meth, c, cells, slots, Q, D, tc, al, A⟩ := X
  intro H locs ls h1 h2 h3
  obtain ⟨C, T, N, l1, l2, l3, l4⟩ := L
  obtain ⟨C2, T2, N2, c2, f1, f2, f3⟩ := hf
  rw [l1] at f1
  cases f1
  have ha : a < zn := zk_lt (by rw [hk]; exact Nat.ne_of_lt (Nat.lt_trans hc (by decide)))
  have he := zW_get (tc := tc) (al := al) (σ := σ) ha
  rw [zE_obj hk hc] at he
  obtain ⟨ty0, hty, hnm⟩ := ztn l1
  have hD : va_D A (zW tc al σ) := zWD F.2.2.2.2.2.2.1 F.2.2.2.2.2.2.2.1
  have hv : cV al (zav (zu σ a k (nI t)) a k) = .ref (al t) := by
    unfold zav
    rw [hr]
    simp only [hk, hd, zu_same]
    show cV al (.ref (nI t).toNatClampNeg) = _
    rw [nI_clamp ht]
    rfl
  refine va_put (v := .ref (al t)) F.1 F.2.1 F.2.2.2.2.1 (zin l1) ty0 hty hnm F.2.2.2.1 F.2.2.2.2.2.1 h2 hD h3 a he l1 k l2 (F.2.2.2.2.1 _ l3) (fun x hx => by rw [l4] at hx; exact hx) f2 f3 rfl rfl (by rw [List.length_map, List.length_range]; exact hkn) hdg (fun H1 locs1 g1 _ g3 => ?_)
  rw [z_fset hkn hv, ← zE_obj (tc := tc) hk hc, zW_set ha rfl (fun b hb => zu_ne σ hb k _)] at g1
  exact K H1 locs1 ls h1 g1 g3
theorem g_iald {a n : Nat} {i : Int32} (F : Fx X cc own nL dd) (hdg : decode cc pc = .ok (.iaload, 1)) (hn : pc + 1 = nx) (hk : zk a = (13, n)) (hi : vp_in i n) (K : Gs X nx lv (.int (σ a i.toNatClampNeg) :: st) σ) : Gs X pc lv (.int i :: .ref a :: st) σ := by
  subst hn
  obtain ⟨p, l, e, R, s, m, args, below, meth, c, cells, slots, Q, D, tc, al, A⟩ := X
  intro H locs ls h1 h2 h3
  have ha : a < zn := zk_lt (by rw [hk]; exact Nat.ne_of_beq_eq_false rfl)
  have he := zW_get (tc := tc) (al := al) (σ := σ) ha
  rw [zE_num hk (Or.inr rfl)] at he
  exact va_iald F.1 F.2.1 F.2.2.2.2.2.1 h2 a 1 he rfl hi hdg (K H locs ls h1 h2 h3)
theorem g_bald {a n : Nat} {i : Int32} (F : Fx X cc own nL dd) (hdg : decode cc pc = .ok (.baload, 1)) (hn : pc + 1 = nx) (hk : zk a = (12, n)) (hi : vp_in i n) (K : Gs X nx lv (.int (σ a i.toNatClampNeg) :: st) σ) : Gs X pc lv (.int i :: .ref a :: st) σ := by
  subst hn
  obtain ⟨p, l, e, R, s, m, args, below, meth, c, cells, slots, Q, D, tc, al, A⟩ := X
  intro H locs ls h1 h2 h3
  have ha : a < zn := zk_lt (by rw [hk]; exact Nat.ne_of_beq_eq_false rfl)
  have he := zW_get (tc := tc) (al := al) (σ := σ) ha
  rw [zE_num hk (Or.inl rfl)] at he
  exact va_bald F.1 F.2.1 F.2.2.2.2.2.1 h2 a 0 he rfl hi hdg (K H locs ls h1 h2 h3)
theorem g_aaldT {a n : Nat} {i : Int32} (F : Fx X cc own nL dd) (hdg : decode cc pc = .ok (.aaload, 1)) (hn : pc + 1 = nx) (hk : zk a = (14, n)) (hi : vp_in i n) (K : Gs X nx lv (.ref (σ a i.toNatClampNeg).toNatClampNeg :: st) σ) : Gs X pc lv (.int i :: .ref a :: st) σ := by
  subst hn
  obtain ⟨p, l, e, R, s, m, args, below, meth, c, cells, slots, Q, D, tc, al, A⟩ := X
  intro H locs ls h1 h2 h3
  have ha : a < zn := zk_lt (by rw [hk]; exact Nat.ne_of_beq_eq_false rfl)
  have he := zW_get (tc := tc) (al := al) (σ := σ) ha
  rw [zE_txt hk] at he
  exact va_aldq F.1 F.2.1 F.2.2.2.2.2.1 h2 a 2 he rfl hi hdg (K H locs ls h1 h2 h3)
theorem g_aaldG {a n : Nat} {i : Int32} (F : Fx X cc own nL dd) (hdg : decode cc pc = .ok (.aaload, 1)) (hn : pc + 1 = nx) (hk : zk a = (15, n)) (hi : vp_in i n) (K : Gs X nx lv (.ref (a + 1 + i.toNatClampNeg) :: st) σ) : Gs X pc lv (.int i :: .ref a :: st) σ := by
  subst hn
  obtain ⟨p, l, e, R, s, m, args, below, meth, c, cells, slots, Q, D, tc, al, A⟩ := X
  intro H locs ls h1 h2 h3
  have ha : a < zn := zk_lt (by rw [hk]; exact Nat.ne_of_beq_eq_false rfl)
  have he := zW_get (tc := tc) (al := al) (σ := σ) ha
  rw [zE_grid hk] at he
  exact va_aldG F.1 F.2.1 F.2.2.2.2.2.1 h2 a 3 he rfl hi hdg (K H locs ls h1 h2 h3)
theorem g_iast {a n : Nat} {i x : Int32} (F : Fx X cc own nL dd) (hdg : decode cc pc = .ok (.iastore, 1)) (hn : pc + 1 = nx) (hk : zk a = (13, n)) (hi : vp_in i n) (K : Gs X nx lv st (zu σ a i.toNatClampNeg x)) : Gs X pc lv (.int x :: .int i :: .ref a :: st) σ := by
  subst hn
  obtain ⟨p, l, e, R, s, m, args, below, meth, c, cells, slots, Q, D, tc, al, A⟩ := X
  intro H locs ls h1 h2 h3
  have ha : a < zn := zk_lt (by rw [hk]; exact Nat.ne_of_beq_eq_false rfl)
  have he := zW_get (tc := tc) (al := al) (σ := σ) ha
  rw [zE_num hk (Or.inr rfl)] at he
  have hD : va_D A (zW tc al σ) := zWD F.2.2.2.2.2.2.1 F.2.2.2.2.2.2.2.1
  refine va_iast F.1 F.2.1 F.2.2.2.2.2.1 h2 hD h3 a 1 he rfl hi hdg (fun H1 locs1 g1 _ g3 => ?_)
  rw [zW_set ha (by rw [zE_num hk (Or.inr rfl), zu_at]) (fun b hb => zu_ne σ hb _ _)] at g1
  exact K H1 locs1 ls h1 g1 g3
theorem g_bast {a n : Nat} {i x : Int32} (F : Fx X cc own nL dd) (hdg : decode cc pc = .ok (.bastore, 1)) (hn : pc + 1 = nx) (hk : zk a = (12, n)) (hi : vp_in i n) (K : Gs X nx lv st (zu σ a i.toNatClampNeg x.toInt8.toInt32)) : Gs X pc lv (.int x :: .int i :: .ref a :: st) σ := by
  subst hn
  obtain ⟨p, l, e, R, s, m, args, below, meth, c, cells, slots, Q, D, tc, al, A⟩ := X
  intro H locs ls h1 h2 h3
  have ha : a < zn := zk_lt (by rw [hk]; exact Nat.ne_of_beq_eq_false rfl)
  have he := zW_get (tc := tc) (al := al) (σ := σ) ha
  rw [zE_num hk (Or.inl rfl)] at he
  have hD : va_D A (zW tc al σ) := zWD F.2.2.2.2.2.2.1 F.2.2.2.2.2.2.2.1
  refine va_bast F.1 F.2.1 F.2.2.2.2.2.1 h2 hD h3 a 0 he rfl hi hdg (fun H1 locs1 g1 _ g3 => ?_)
  rw [zW_set (σ' := zu σ a i.toNatClampNeg x.toInt8.toInt32) ha (by rw [zE_num hk (Or.inl rfl), zu_at]; rfl) (fun b hb => zu_ne σ hb _ _)] at g1
  exact K H1 locs1 ls h1 g1 g3
theorem g_aast {a n t : Nat} {i : Int32} (F : Fx X cc own nL dd) (hdg : decode cc pc = .ok (.aastore, 1)) (hn : pc + 1 = nx) (hk : zk a = (14, n)) (hi : vp_in i n) (ht : zk t = (9, 7)) (K : Gs X nx lv st (zu σ a i.toNatClampNeg (nI t))) : Gs X pc lv (.ref t :: .int i :: .ref a :: st) σ := by
  subst hn
  obtain ⟨p, l, e, R, s, m, args, below, meth, c, cells, slots, Q, D, tc, al, A⟩ := X
  intro H locs ls h1 h2 h3
  have ha : a < zn := zk_lt (by rw [hk]; exact Nat.ne_of_beq_eq_false rfl)
  have he := zW_get (tc := tc) (al := al) (σ := σ) ha
  rw [zE_txt hk] at he
  have hD : va_D A (zW tc al σ) := zWD F.2.2.2.2.2.2.1 F.2.2.2.2.2.2.2.1
  have ht2 : t < zn := zk_lt (by rw [ht]; exact Nat.ne_of_beq_eq_false rfl)
  have hv := zW_get (tc := tc) (al := al) (σ := σ) ht2
  rw [zE_obj ht (by decide)] at hv
  refine va_astq F.1 F.2.1 F.2.2.2.2.2.1 h2 hD h3 a 2 t 9 he rfl hv rfl hi hdg (fun H1 locs1 g1 _ g3 => ?_)
  rw [zW_set (σ' := zu σ a i.toNatClampNeg (nI t)) ha (by
    rw [zE_txt hk, zu_at]
    congr 7
    funext j
    unfold va_up upd
    by_cases hj : j = i.toNatClampNeg
    · rw [if_pos hj, if_pos hj, nI_clamp (Nat.lt_trans ht2 (by decide))]
    · rw [if_neg hj, if_neg hj]) (fun b hb => zu_ne σ hb _ _)] at g1
  exact K H1 locs1 ls h1 g1 g3
theorem g_alen {a ci n : Nat} (F : Fx X cc own nL dd) (hdg : decode cc pc = .ok (.arraylength, 1)) (hn : pc + 1 = nx) (hk : zk a = (ci, n)) (hc : ci = 12 ∨ ci = 13) (K : Gs X nx lv (.int (nI n) :: st) σ) : Gs X pc lv (.ref a :: st) σ := by
  subst hn
  obtain ⟨p, l, e, R, s, m, args, below, meth, c, cells, slots, Q, D, tc, al, A⟩ := X
  intro H locs ls h1 h2 h3
  have ha : a < zn := zk_lt (by rw [hk]; rcases hc with rfl | rfl <;> exact Nat.ne_of_beq_eq_false rfl)
  have he := zW_get (tc := tc) (al := al) (σ := σ) ha
  rw [zE_num hk hc] at he
  rcases hc with rfl | rfl
  · exact va_alen F.1 F.2.1 F.2.2.2.2.2.1 h2 a 0 he rfl rfl hdg (K H locs ls h1 h2 h3)
  · exact va_alen F.1 F.2.1 F.2.2.2.2.2.1 h2 a 1 he rfl rfl hdg (K H locs ls h1 h2 h3)
theorem g_alenT {a n : Nat} (F : Fx X cc own nL dd) (hdg : decode cc pc = .ok (.arraylength, 1)) (hn : pc + 1 = nx) (hk : zk a = (14, n)) (K : Gs X nx lv (.int (nI n) :: st) σ) : Gs X pc lv (.ref a :: st) σ := by
  subst hn
  obtain ⟨p, l, e, R, s, m, args, below, meth, c, cells, slots, Q, D, tc, al, A⟩ := X
  intro H locs ls h1 h2 h3
  have ha : a < zn := zk_lt (by rw [hk]; exact Nat.ne_of_beq_eq_false rfl)
  have he := zW_get (tc := tc) (al := al) (σ := σ) ha
  rw [zE_txt hk] at he
  exact va_alen F.1 F.2.1 F.2.2.2.2.2.1 h2 a 2 he rfl rfl hdg (K H locs ls h1 h2 h3)
end ZR
