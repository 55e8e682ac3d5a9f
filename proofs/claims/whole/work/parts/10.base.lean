/-! THE STORE: the whole system's cells by abstract addresses (08.shape); a value of each by address and place. No cell is made once the two objects stand. -/
abbrev zSt : Type := Nat → Nat → Int32
def zu (σ : zSt) (a k : Nat) (x : Int32) : zSt := fun b => if b = a then upd (σ a) k x else σ b
theorem zu_at (σ : zSt) (a k : Nat) (x : Int32) : zu σ a k x a = upd (σ a) k x := if_pos rfl
theorem zu_ne (σ : zSt) {a b : Nat} (h : b ≠ a) (k : Nat) (x : Int32) : zu σ a k x b = σ b := if_neg h
theorem zu_same (σ : zSt) (a k : Nat) (x : Int32) : zu σ a k x a k = x := by rw [zu_at]; exact if_pos rfl
theorem zu_off (σ : zSt) (a k j : Nat) (x : Int32) (h : j ≠ k) : zu σ a k x a j = σ a j := by rw [zu_at]; exact if_neg h
def zk (a : Nat) : Nat × Nat := zsh.getD a (99, 0)
def zrf (a k : Nat) : Option Nat := (zrl.getD a []).getD k none
def zdy (c k : Nat) : Bool := zdl.contains (c, k)
def cV (al : Nat → Nat) : Value → Value
  | .ref a => .ref (al a)
  | v => v
def zav (σ : zSt) (a k : Nat) : Value := match zrf a k with
  | some t => .ref t
  | none => if zdy (zk a).1 k then .ref (σ a k).toNatClampNeg else .int (σ a k)
def zE (tc : Nat → ClassId) (al : Nat → Nat) (σ : zSt) (a : Nat) : va_E :=
  if (zk a).1 < 12 then .inr ((zk a).1, (List.range (zk a).2).map (fun k => cV al (zav σ a k)))
  else if (zk a).1 < 14 then .inl (tc (zk a).1, (zk a).2, .inl (σ a))
  else if (zk a).1 = 14 then .inl (tc 14, (zk a).2, .inr (.inr (.inr (.inr (fun i => some (al (σ a i).toNatClampNeg))))))
  else .inl (tc 15, (zk a).2, .inr (.inr (.inr (.inr (fun i => some (al (a + 1 + i)))))))
def zW (tc : Nat → ClassId) (al : Nat → Nat) (σ : zSt) : va_W := (List.range zn).map (fun a => (al a, zE tc al σ a))
theorem zn_len : zsh.length = zn := by decide +kernel
theorem zk_lt {a : Nat} (h : (zk a).1 ≠ 99) : a < zn := by
  rw [← zn_len]
  rcases Nat.lt_or_ge a zsh.length with q | q
  · exact q
  · exfalso
    apply h
    unfold zk
    rw [List.getD_eq_getElem?_getD, List.getElem?_eq_none q]
    rfl
theorem zW_get {tc : Nat → ClassId} {al : Nat → Nat} {σ : zSt} {a : Nat} (h : a < zn) : (zW tc al σ)[a]? = some (al a, zE tc al σ a) := by
  unfold zW
  rw [List.getElem?_map, List.getElem?_range h]
  rfl
theorem zav_congr {σ σ' : zSt} {a : Nat} (h : σ' a = σ a) (k : Nat) : zav σ' a k = zav σ a k := by
  unfold zav
  rw [h]
theorem zE_congr {tc : Nat → ClassId} {al : Nat → Nat} {σ σ' : zSt} {a : Nat} (h : σ' a = σ a) : zE tc al σ' a = zE tc al σ a := by
  unfold zE
  rw [h]
  rw [show (fun k => cV al (zav σ' a k)) = (fun k => cV al (zav σ a k)) from funext fun k => by rw [zav_congr h]]
theorem zW_set {tc : Nat → ClassId} {al : Nat → Nat} {σ σ' : zSt} {a : Nat} {e : va_E} (h : a < zn) (he : zE tc al σ' a = e) (hs : ∀ b, b ≠ a → σ' b = σ b) : (zW tc al σ).set a (al a, e) = zW tc al σ' := by
  apply List.ext_getElem?
  intro i
  by_cases hi : i = a
  · subst hi
    rw [zW_get h, he, List.getElem?_set_self (by unfold zW; rw [List.length_map, List.length_range]; exact h)]
  · rw [List.getElem?_set_ne (fun q => hi q.symm)]
    by_cases hn : i < zn
    · rw [zW_get hn, zW_get hn, zE_congr (hs i hi)]
    · have e1 : ∀ τ : zSt, (zW tc al τ)[i]? = none := fun τ => List.getElem?_eq_none (by unfold zW; rw [List.length_map, List.length_range]; omega)
      rw [e1, e1]
theorem zE_obj {tc : Nat → ClassId} {al : Nat → Nat} {σ : zSt} {a ci n : Nat} (h : zk a = (ci, n)) (hc : ci < 12) : zE tc al σ a = .inr (ci, (List.range n).map (fun k => cV al (zav σ a k))) := by
  unfold zE
  rw [h]
  exact if_pos hc
theorem zE_num {tc : Nat → ClassId} {al : Nat → Nat} {σ : zSt} {a ci n : Nat} (h : zk a = (ci, n)) (hc : ci = 12 ∨ ci = 13) : zE tc al σ a = .inl (tc ci, n, .inl (σ a)) := by
  unfold zE
  rw [h]
  rw [if_neg (show ¬ ci < 12 by omega), if_pos (show ci < 14 by omega)]
theorem zE_txt {tc : Nat → ClassId} {al : Nat → Nat} {σ : zSt} {a n : Nat} (h : zk a = (14, n)) : zE tc al σ a = .inl (tc 14, n, .inr (.inr (.inr (.inr (fun i => some (al (σ a i).toNatClampNeg)))))) := by
  unfold zE
  rw [h]
  rfl
theorem zE_grid {tc : Nat → ClassId} {al : Nat → Nat} {σ : zSt} {a n : Nat} (h : zk a = (15, n)) : zE tc al σ a = .inl (tc 15, n, .inr (.inr (.inr (.inr (fun i => some (al (a + 1 + i))))))) := by
  unfold zE
  rw [h]
  rfl
/-- a field is set -/
theorem z_fset {al : Nat → Nat} {σ : zSt} {a k n : Nat} {x : Int32} {v : Value} (hk : k < n) (hv : cV al (zav (zu σ a k x) a k) = v) : ((List.range n).map (fun j => cV al (zav σ a j))).set k v = (List.range n).map (fun j => cV al (zav (zu σ a k x) a j)) := by
  apply List.ext_getElem?
  intro i
  by_cases hi : i = k
  · subst hi
    rw [List.getElem?_set_self (by rw [List.length_map, List.length_range]; exact hk), List.getElem?_map, List.getElem?_range hk, ← hv]
    rfl
  · rw [List.getElem?_set_ne (fun q => hi q.symm), List.getElem?_map, List.getElem?_map]
    by_cases hn : i < n
    · rw [List.getElem?_range hn]
      show some (cV al (zav σ a i)) = some (cV al (zav (zu σ a k x) a i))
      unfold zav
      rw [zu_off σ a k i x hi]
    · rw [List.getElem?_eq_none (by rw [List.length_range]; omega)]
      rfl
/-! THE CONTEXT: what stays the same in one activation of a method -/
def zty (tc : Nat → ClassId) : List (ClassId × FieldType) := [(tc 12, .byte), (tc 13, .int), (tc 14, .object "StampRoad$Text"), (tc 15, .array .int)]
def zsn : List (String × Nat × String) := [("StampRoad", 131, "aw"), ("StampRoad", 145, "gkb"), ("StampRoad$Parser", 139, "rchmsfpinoyx"), ("StampRoad$Parser", 129, "*/%"), ("StampRoad$Parser", 124, "+-"), ("StampRoad$Parser", 119, "<>=")]
def zsb : List (List Int32) := [[97, 119], [103, 107, 98], [114, 99, 104, 109, 115, 102, 112, 105, 110, 111, 121, 120], [42, 47, 37], [43, 45], [60, 62, 61]]
def zsl : List Nat := [2, 3, 12, 3, 2, 3]
/-- the String constants: number k stands at the abstract address 1000 + k, its bytes at 2000 + k -/
def zCt (al : Nat → Nat) (A : Nat → Prop) (U : State) (H : Heap) : Prop :=
  vk_S 6 zsl zsb (fun k => al (1000 + k)) (fun k => al (2000 + k)) A U H ∧ (∀ k, k < 6 → ∀ q, zsn[k]? = some q → vk_R q.1 q.2.1 q.2.2 (al (1000 + k)) U) ∧ va_Z "java/lang/String" "COMPACT_STRINGS" "Z" (.int 1) A U H ∧ (va_Z "jdk/internal/util/Preconditions" "SIOOBE_FORMATTER" "Ljava/util/function/BiFunction;" .null A U H ∨ va_Z "jdk/internal/util/Preconditions" "SIOOBE_FORMATTER" "Ljava/util/function/BiFunction;" (.ref (al 3000)) A U H)
theorem zCt.warm {al : Nat → Nat} {A B : Nat → Prop} {s U : State} {H H1 : Heap} (hW : s.WarmedH U.vm) (hvm : s.vm.Alike U.vm) (hAB : ∀ q, B q → A q) (hq : ∀ a : Nat, a < H.size → ¬ A a → H1[a]? = H[a]?) (h : zCt al A s H) : zCt al B U H1 :=
  ⟨((h.1.kept hq).moved hvm).narrow hAB, fun k hk q hz => (h.2.1 k hk q hz).warm hW, ((h.2.2.1.kept hq).moved hvm).narrow hAB, h.2.2.2.imp (fun z => ((z.kept hq).moved hvm).narrow hAB) (fun z => ((z.kept hq).moved hvm).narrow hAB)⟩
theorem zCt.same {al : Nat → Nat} {A : Nat → Prop} {u U : State} {H : Heap} (hv : U.vm = u.vm) (hvm : u.vm.Alike U.vm) (h : zCt al A u H) : zCt al A U H :=
  ⟨h.1.moved hvm, fun k hk q hz => (h.2.1 k hk q hz).same hv, h.2.2.1.moved hvm, h.2.2.2.imp (fun z => z.moved hvm) (fun z => z.moved hvm)⟩
def TB : List Cond := lw_tbl.filter goodWord
theorem tb_of {w : Cond} (i : Nat) (h : lw_tbl[i]? = some w) (g : goodWord w = true) : w ∈ TB := List.mem_filter.mpr ⟨List.mem_of_getElem? h, g⟩
theorem tb_good : GoodIn TB TB := fun w h => ⟨h, good_of_word (List.mem_filter.mp h).2⟩
abbrev ZX : Type := Program × Launch × Env × Room × State × MethodId × Array Value × List Frame × Method × Code × Nat × Nat × (State → Prop) × va_G × (Nat → ClassId) × (Nat → Nat) × (Nat → Prop)
/-- the activation X runs the code cc of a method of the class own, with nL locals; dd calls may lie above it -/
def Fx (X : ZX) (cc : ByteArray) (own : String) (nL dd : Nat) : Prop := match X with
  | (p, _, _, R, s, m, args, _, _, c, cells, slots, _, D, tc, al, A) => p.tables.exec = Jvm.exec ∧ c.code = cc ∧ c.maxLocals = nL ∧ s.vm.findClass own = some m.cls ∧ (∀ w ∈ TB, w.before args s = true) ∧ va_K D zcl (zty tc) s ∧ (∀ i j, i < zn → j < zn → al i = al j → i = j) ∧ (∀ a, a < zn → A (al a)) ∧ zCt al A s s.heap ∧ dd ≤ R.frames ∧ 48 * dd ≤ R.locals ∧ cells ≤ R.cells ∧ slots ≤ R.slots
/-- the locals: by their places; a long stands for none -/
def zlp (al : Nat → Nat) (lv : List Value) : List (Nat × Value) := (lv.zipIdx.filter (fun q => q.1.category == 1)).map (fun q => (q.2, cV al q.1))
/-- from here on (pc, locals, stack, store) the activation comes to its end -/
def Gs (X : ZX) (pc : Nat) (lv st : List Value) (σ : zSt) : Prop := match X with
  | (p, l, e, R, s, m, args, below, meth, c, cells, slots, Q, D, tc, al, A) => ∀ (H : Heap) (locs : List Loc) (ls : Array Slot), lv_has ls c.maxLocals (zlp al lv) → va_P D zcl (zW tc al σ) H → va_S A s.heap H locs → W p l e R s m args below meth c H locs cells slots Q (F0 m pc ls (st.map (cV al)))
theorem cV_cat (al : Nat → Nat) (v : Value) : (cV al v).category = v.category := by cases v <;> rfl
theorem zlp_mem {al : Nat → Nat} {lv : List Value} {i : Nat} {v : Value} (h : lv[i]? = some v) (hc : v.category = 1) : (i, cV al v) ∈ zlp al lv := by
  unfold zlp
  refine List.mem_map.mpr ⟨(v, i), List.mem_filter.mpr ⟨?_, by simp [hc]⟩, rfl⟩
  exact List.mem_zipIdx_iff_getElem?.mpr h
theorem zlp_of {al : Nat → Nat} {lv : List Value} {q : Nat × Value} (h : q ∈ zlp al lv) : ∃ v, lv[q.1]? = some v ∧ v.category = 1 ∧ q.2 = cV al v := by
  unfold zlp at h
  obtain ⟨⟨v, i⟩, h1, rfl⟩ := List.mem_map.mp h
  obtain ⟨h2, h3⟩ := List.mem_filter.mp h1
  exact ⟨v, List.mem_zipIdx_iff_getElem?.mp h2, by simpa using h3, rfl⟩
theorem zlp_at {al : Nat → Nat} {lv : List Value} {ls : Array Slot} {nL i : Nat} {v : Value} (hl : lv_has ls nL (zlp al lv)) (h : lv[i]? = some v) (hc : v.category = 1) : ls[i]? = some (.val (cV al v)) := hl.2.2 _ (zlp_mem h hc)
/-- behind a store into a local -/
theorem zlp_set {al : Nat → Nat} {lv : List Value} {ls : Array Slot} {nL i : Nat} {v : Value} (h : lv_has ls nL ((i, cV al v) :: (zlp al lv).filter (fun q => !(q.1 == i) && !(q.1 + 1 == i && q.2.category == 2)))) : lv_has ls nL (zlp al (lv.set i v)) := by
  refine ⟨h.1, h.2.1, fun q hq => ?_⟩
  obtain ⟨w, h1, h2, h3⟩ := zlp_of hq
  by_cases hi : q.1 = i
  · rw [hi] at h1
    have hlt : i < (lv.set i v).length := (List.getElem?_eq_some_iff.mp h1).1
    rw [List.length_set] at hlt
    rw [List.getElem?_set_self hlt] at h1
    cases h1
    have := h.2.2 (i, cV al v) List.mem_cons_self
    rw [h3, hi]
    exact this
  · rw [List.getElem?_set_ne (fun z => hi z.symm)] at h1
    refine h.2.2 q (List.mem_cons_of_mem _ (List.mem_filter.mpr ⟨?_, ?_⟩))
    · have := zlp_mem (al := al) h1 h2
      rw [← h3] at this
      exact this
    · have : q.2.category = 1 := by rw [h3, cV_cat]; exact h2
      simp [hi, this]
/-! LINKS -/
def zFL (own : String) (idx ci k : Nat) : Prop := ∃ (C : String) (T : u_T) (N : Nat), zcl[ci]? = some (C, T, N) ∧ k < N ∧ Cond.fieldLink own idx C (T k).2.1 (T k).2.2.1 ∈ TB ∧ (T k).1 = C
def zFI (ci k : Nat) : Prop := ∃ (C : String) (T : u_T) (N : Nat), zcl[ci]? = some (C, T, N) ∧ (T k).2.2.2 = false ∧ parseFieldDescriptor (T k).2.2.1 = some .int
def zFB (ci k : Nat) : Prop := ∃ (C : String) (T : u_T) (N : Nat), zcl[ci]? = some (C, T, N) ∧ (T k).2.2.2 = false ∧ parseFieldDescriptor (T k).2.2.1 = some .boolean
def zFR (ci k : Nat) : Prop := ∃ (C : String) (T : u_T) (N : Nat) (c : String), zcl[ci]? = some (C, T, N) ∧ (T k).2.2.2 = false ∧ parseFieldDescriptor (T k).2.2.1 = some (.object c)
abbrev ZM : Type := MethodName × ByteArray × Nat × Option FieldType
def zMk (M : ZM) (n : Nat) : Prop := Cond.code M.1 M.2.1 M.2.2.1 M.2.2.2 ∈ TB ∧ Cond.initialized M.1.cls ∈ TB ∧ M.1.cls ≠ "java/lang/invoke/MethodHandle" ∧ M.1.cls ≠ "java/lang/invoke/VarHandle" ∧ (parseMethodDescriptor M.1.desc).map (fun d => d.parameters.length) = some n ∧ plainName M.1.cls = true ∧ M.2.2.1 ≤ 29
def zMI (M : ZM) (n : Nat) : Prop := zMk M n ∧ Cond.instanceMethod M.1 ∈ TB ∧ Cond.selects M.1.cls M.1 M.1 ∈ TB
def zMS (M : ZM) (n : Nat) : Prop := zMk M n ∧ Cond.static M.1 ∈ TB
def zML (own : String) (idx : Nat) (M : ZM) : Prop := Cond.methodLink own idx M.1 ∈ TB
theorem zin0 : ∀ q ∈ zcl, ∀ w ∈ u_ws q.1 q.2.1 q.2.2, w ∈ lw_tbl ∧ goodWord w = true := by decide +kernel
theorem zin {ci : Nat} {C : String} {T : u_T} {N : Nat} (h : zcl[ci]? = some (C, T, N)) : ∀ w ∈ u_ws C T N, w ∈ TB := fun w hw =>
  List.mem_filter.mpr (zin0 (C, T, N) (List.mem_of_getElem? h) w hw)
theorem ztn {ci : Nat} {C : String} {T : u_T} {N : Nat} (h : zcl[ci]? = some (C, T, N)) : ∃ ty0 : Nat → FieldType, (∀ k, k < N → parseFieldDescriptor (T k).2.2.1 = some (ty0 k)) ∧ ∀ a, a < N → ∀ b, b < N → a ≠ b → (T a).2.1 ≠ (T b).2.1 := by
  match ci, h with
  | 0, h => cases h; exact ⟨_, tyX0_ok, nmX0⟩
  | 1, h => cases h; exact ⟨_, tyX1_ok, nmX1⟩
  | 2, h => cases h; exact ⟨_, tyX2_ok, nmX2⟩
  | 3, h => cases h; exact ⟨_, tyX4_ok, nmX4⟩
  | 4, h => cases h; exact ⟨_, tyX5_ok, nmX5⟩
  | 5, h => cases h; exact ⟨_, tyX6_ok, nmX6⟩
  | 6, h => cases h; exact ⟨_, tyX7_ok, nmX7⟩
  | 7, h => cases h; exact ⟨_, tyX8_ok, nmX8⟩
  | 8, h => cases h; exact ⟨_, tyX9_ok, nmX9⟩
  | 9, h => cases h; exact ⟨_, tyX10_ok, nmX10⟩
  | 10, h => cases h; exact ⟨_, tyX11_ok, nmX11⟩
  | 11, h => cases h; exact ⟨_, tyX12_ok, nmX12⟩
  | k + 12, h => simp [zcl] at h
theorem zWD {tc : Nat → ClassId} {al : Nat → Nat} {σ : zSt} {A : Nat → Prop} (hi : ∀ i j, i < zn → j < zn → al i = al j → i = j) (hA : ∀ a, a < zn → A (al a)) : va_D A (zW tc al σ) := by
  have hl : ∀ (i : Nat) (q : Nat × va_E), (zW tc al σ)[i]? = some q → i < zn ∧ q.1 = al i := by
    intro i q h
    have h1 : i < zn := by
      have := (List.getElem?_eq_some_iff.mp h).1
      unfold zW at this
      rw [List.length_map, List.length_range] at this
      exact this
    rw [zW_get h1] at h
    cases h
    exact ⟨h1, rfl⟩
  refine ⟨fun i j p q h1 h2 h3 => ?_, fun k q h => ?_⟩
  · obtain ⟨a1, a2⟩ := hl i p h1
    obtain ⟨b1, b2⟩ := hl j q h2
    exact hi i j a1 b1 (by rw [← a2, ← b2]; exact h3)
  · obtain ⟨a1, a2⟩ := hl k q h
    rw [a2]
    exact hA k a1
section ZG
variable {p : Program} {l : Launch} {e : Env} {R : Room} {s : State} {m : MethodId} {args : Array Value} {below : List Frame} {meth : Method} {c : Code} {H : Heap} {locs : List Loc} {cells slots : Nat} {Q : State → Prop}
variable {cc : ByteArray} {pc : Nat} {ls : Array Slot} {rest : List Value} {D : va_G} {cl : List vw_C} {a : Nat} {tys : List (ClassId × FieldType)} {ws : va_W}
theorem va_aldG (hexec : p.tables.exec = Jvm.exec) (hb : c.code = cc) (hK : va_K D cl tys s) (hP : va_P D cl ws H) (q0 t0 : Nat) {cA : ClassId} {n : Nat} {f : Nat → Option Nat} (ha : ws[q0]? = some (a, .inl (cA, n, .inr (.inr (.inr (.inr f)))))) (ht : tys[t0]? = some (cA, .array .int)) {i : Int32} (hin : vp_in i n) (hdg : decode cc pc = .ok (.aaload, 1))
    (kk : W p l e R s m args below meth c H locs cells slots Q (F0 m (pc + 1) ls (va_rf (f i.toNatClampNeg) :: rest))) : W p l e R s m args below meth c H locs cells slots Q (F0 m pc ls (.int i :: .ref a :: rest)) := by
  have hlt : i.toNatClampNeg < n := Nat.not_le.mp fun q => hin (Or.inr q)
  exact W.aald (v := va_rf (f i.toNatClampNeg)) (ty := .array .int) hexec hb (hP q0 _ ha) ((hK.2 t0 _ ht).1 n (fun j => va_rf (f j))) rfl (fun q => by cases q) (by show ¬ (i < 0 ∨ (arrV _ _ _).slots.size ≤ _); rw [arrV_size]; exact hin) (by show (arrV _ _ _).slots[_]? = _; rw [arrV_read _ _ hlt]) rfl rfl hdg kk
end ZG
