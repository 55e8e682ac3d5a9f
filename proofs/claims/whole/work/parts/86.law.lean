/-! THE LAW'S OWN BODY: the script stands at the abstract address 4000 -/
def Sc (X : ZX) (b L : Nat) (xs : Nat → Int32) : Prop := match X with
  | (_, _, _, _, s, _, _, _, _, _, _, _, _, _, _, al, A) => va_X b L xs s s.heap ∧ b < s.heap.size ∧ ¬ A b ∧ al 4000 = b
theorem sc_in {j L k : Nat} (h : j + 6 ≤ L) (hL : L ≤ 3072) (hk : k < 6) : vp_in (nI j + nI k) L := by
  rw [nI_add]
  exact vp_in_nI (by omega) (by omega)
theorem st_r (r : Option Value) : ((r.toList ++ []).map fun v : Value => v.category).sum ≤ 8 := by
  cases r with
  | none => decide
  | some w => cases w <;> exact Nat.le_of_ble_eq_true rfl
section ZL
variable {X : ZX} {cc : ByteArray} {own : String} {nL dd pc nx : Nat} {lv st : List Value} {σ : zSt} {b L : Nat} {xs : Nat → Int32}
theorem g_sld {i : Int32} (F : Fx X cc own nL dd) (S : Sc X b L xs) (hdg : decode cc pc = .ok (.iaload, 1)) (hn : pc + 1 = nx) (hi : vp_in i L) (K : Gs X nx lv (.int (xs i.toNatClampNeg) :: st) σ) : Gs X pc lv (.int i :: .ref 4000 :: st) σ := by
  subst hn
  obtain ⟨p, l, e, R, s, m, args, below, meth, c, cells, slots, Q, D, tc, al, A⟩ := X
  obtain ⟨s1, s2, s3, s4⟩ := S
  subst s4
  intro H locs ls h1 h2 h3
  exact va_sld F.1 F.2.1 s1 s2 s3 h3 hi hdg (K H locs ls h1 h2 h3)
theorem g_slen (F : Fx X cc own nL dd) (S : Sc X b L xs) (hdg : decode cc pc = .ok (.arraylength, 1)) (hn : pc + 1 = nx) (K : Gs X nx lv (.int (nI L) :: st) σ) : Gs X pc lv (.ref 4000 :: st) σ := by
  subst hn
  obtain ⟨p, l, e, R, s, m, args, below, meth, c, cells, slots, Q, D, tc, al, A⟩ := X
  obtain ⟨s1, s2, s3, s4⟩ := S
  subst s4
  intro H locs ls h1 h2 h3
  exact va_slen F.1 F.2.1 s1 s2 s3 h3 hdg (K H locs ls h1 h2 h3)
end ZL
abbrev lwL (j : Nat) : List Value := [.ref 4000, .ref 0, .ref 145, .int (nI j)]
theorem lc_0 {X : ZX} {b L : Nat} {xs : Nat → Int32} (F : Fx X cL_law RL 4 40) (S : Sc X b L xs) {j : Nat} {σ : zSt} (hj : j + 6 ≤ L) (hL : L ≤ 3072) (hI : Inv σ) (K : ∀ ρ, Inv ρ → Gs X 1205 (lwL j) [] ρ) : Gs X 172 (lwL j) [] σ := by
  obtain ⟨Q1, hC1, hK1⟩ := pr_clerk (xs (nI j + 1).toNatClampNeg) (xs (nI j + 2).toNatClampNeg) hI
  refine g_aload_n (nx := 173) 1 F dL_law_172 rfl rfl rfl ?_
  refine g_aload_n (nx := 174) 0 F dL_law_173 rfl rfl rfl ?_
  refine g_iload_n (nx := 175) 3 F dL_law_174 rfl rfl rfl ?_
  refine g_iconst (nx := 176) 1 F dL_law_175 rfl rfl ?_
  refine g_iadd (nx := 177) F dL_law_176 rfl ?_
  refine g_sld (nx := 178) F S dL_law_177 rfl (sc_in (k := 1) hj hL (by decide)) ?_
  refine g_aload_n (nx := 179) 0 F dL_law_178 rfl rfl rfl ?_
  refine g_iload_n (nx := 180) 3 F dL_law_179 rfl rfl rfl ?_
  refine g_iconst (nx := 181) 2 F dL_law_180 rfl rfl ?_
  refine g_iadd (nx := 182) F dL_law_181 rfl ?_
  refine g_sld (nx := 183) F S dL_law_182 rfl (sc_in (k := 2) hj hL (by decide)) ?_
  refine g_callV (nx := 186) 2 1 [.int (xs (nI j + 1).toNatClampNeg), .int (xs (nI j + 2).toNatClampNeg)] F dL_law_183 rfl ml_RL_13 mo_X11_clerk rfl rfl rfl rfl (Nat.le_of_ble_eq_true rfl) (by decide) hC1 (fun r τ q1 => ?_)
  obtain ⟨Q2, hC2, hK2⟩ := hK1 r τ q1
  refine g_aload_n (nx := 187) 2 F dL_law_186 rfl rfl rfl ?_
  refine g_aload_n (nx := 188) 0 F dL_law_187 rfl rfl rfl ?_
  refine g_iload_n (nx := 189) 3 F dL_law_188 rfl rfl rfl ?_
  refine g_iconst (nx := 190) 1 F dL_law_189 rfl rfl ?_
  refine g_iadd (nx := 191) F dL_law_190 rfl ?_
  refine g_sld (nx := 192) F S dL_law_191 rfl (sc_in (k := 1) hj hL (by decide)) ?_
  refine g_aload_n (nx := 193) 0 F dL_law_192 rfl rfl rfl ?_
  refine g_iload_n (nx := 194) 3 F dL_law_193 rfl rfl rfl ?_
  refine g_iconst (nx := 195) 2 F dL_law_194 rfl rfl ?_
  refine g_iadd (nx := 196) F dL_law_195 rfl ?_
  refine g_sld (nx := 197) F S dL_law_196 rfl (sc_in (k := 2) hj hL (by decide)) ?_
  refine g_callV (nx := 200) 2 1 [.int (xs (nI j + 1).toNatClampNeg), .int (xs (nI j + 2).toNatClampNeg)] F dL_law_197 rfl ml_RL_17 mo_X12_clerk rfl rfl rfl rfl (st_r r) (by decide) hC2 (fun r2 ρ q2 => ?_)
  obtain ⟨v, hr1, hr2, hv⟩ := hK2 r2 ρ q2
  subst hr1
  subst hr2
  show Gs X 200 (lwL j) [.int v, .int v] ρ
  exact g_icmp_eq (nx := 203) 1205 F dL_law_200 rfl (by decide) (fun _ => K ρ hv) (fun h => absurd rfl h)
theorem lc_1 {X : ZX} {b L : Nat} {xs : Nat → Int32} (F : Fx X cL_law RL 4 40) (S : Sc X b L xs) {j : Nat} {σ : zSt} (hj : j + 6 ≤ L) (hL : L ≤ 3072) (hI : Inv σ) (K : ∀ ρ, Inv ρ → Gs X 1205 (lwL j) [] ρ) : Gs X 205 (lwL j) [] σ := by
  obtain ⟨Q1, hC1, hK1⟩ := pr_step (xs (nI j + 1).toNatClampNeg) (xs (nI j + 2).toNatClampNeg) hI
  refine g_aload_n (nx := 206) 1 F dL_law_205 rfl rfl rfl ?_
  refine g_aload_n (nx := 207) 0 F dL_law_206 rfl rfl rfl ?_
  refine g_iload_n (nx := 208) 3 F dL_law_207 rfl rfl rfl ?_
  refine g_iconst (nx := 209) 1 F dL_law_208 rfl rfl ?_
  refine g_iadd (nx := 210) F dL_law_209 rfl ?_
  refine g_sld (nx := 211) F S dL_law_210 rfl (sc_in (k := 1) hj hL (by decide)) ?_
  refine g_aload_n (nx := 212) 0 F dL_law_211 rfl rfl rfl ?_
  refine g_iload_n (nx := 213) 3 F dL_law_212 rfl rfl rfl ?_
  refine g_iconst (nx := 214) 2 F dL_law_213 rfl rfl ?_
  refine g_iadd (nx := 215) F dL_law_214 rfl ?_
  refine g_sld (nx := 216) F S dL_law_215 rfl (sc_in (k := 2) hj hL (by decide)) ?_
  refine g_callV (nx := 219) 2 2 [.int (xs (nI j + 1).toNatClampNeg), .int (xs (nI j + 2).toNatClampNeg)] F dL_law_216 rfl ml_RL_18 mo_X11_step rfl rfl rfl rfl (Nat.le_of_ble_eq_true rfl) (by decide) hC1 (fun r τ q1 => ?_)
  obtain ⟨Q2, hC2, hK2⟩ := hK1 r τ q1
  refine g_aload_n (nx := 220) 2 F dL_law_219 rfl rfl rfl ?_
  refine g_aload_n (nx := 221) 0 F dL_law_220 rfl rfl rfl ?_
  refine g_iload_n (nx := 222) 3 F dL_law_221 rfl rfl rfl ?_
  refine g_iconst (nx := 223) 1 F dL_law_222 rfl rfl ?_
  refine g_iadd (nx := 224) F dL_law_223 rfl ?_
  refine g_sld (nx := 225) F S dL_law_224 rfl (sc_in (k := 1) hj hL (by decide)) ?_
  refine g_aload_n (nx := 226) 0 F dL_law_225 rfl rfl rfl ?_
  refine g_iload_n (nx := 227) 3 F dL_law_226 rfl rfl rfl ?_
  refine g_iconst (nx := 228) 2 F dL_law_227 rfl rfl ?_
  refine g_iadd (nx := 229) F dL_law_228 rfl ?_
  refine g_sld (nx := 230) F S dL_law_229 rfl (sc_in (k := 2) hj hL (by decide)) ?_
  refine g_callV (nx := 233) 2 1 [.int (xs (nI j + 1).toNatClampNeg), .int (xs (nI j + 2).toNatClampNeg)] F dL_law_230 rfl ml_RL_21 mo_X12_step rfl rfl rfl rfl (st_r r) (by decide) hC2 (fun r2 ρ q2 => ?_)
  obtain ⟨v, hr1, hr2, hv⟩ := hK2 r2 ρ q2
  subst hr1
  subst hr2
  show Gs X 233 (lwL j) [.int v, .int v] ρ
  exact g_icmp_eq (nx := 236) 1205 F dL_law_233 rfl (by decide) (fun _ => K ρ hv) (fun h => absurd rfl h)
theorem lc_2 {X : ZX} {b L : Nat} {xs : Nat → Int32} (F : Fx X cL_law RL 4 40) (S : Sc X b L xs) {j : Nat} {σ : zSt} (hj : j + 6 ≤ L) (hL : L ≤ 3072) (hI : Inv σ) (K : ∀ ρ, Inv ρ → Gs X 1205 (lwL j) [] ρ) : Gs X 238 (lwL j) [] σ := by
  obtain ⟨Q1, hC1, hK1⟩ := pr_seed (xs (nI j + 1).toNatClampNeg) hI
  refine g_aload_n (nx := 239) 1 F dL_law_238 rfl rfl rfl ?_
  refine g_aload_n (nx := 240) 0 F dL_law_239 rfl rfl rfl ?_
  refine g_iload_n (nx := 241) 3 F dL_law_240 rfl rfl rfl ?_
  refine g_iconst (nx := 242) 1 F dL_law_241 rfl rfl ?_
  refine g_iadd (nx := 243) F dL_law_242 rfl ?_
  refine g_sld (nx := 244) F S dL_law_243 rfl (sc_in (k := 1) hj hL (by decide)) ?_
  refine g_callV (nx := 247) 1 1 [.int (xs (nI j + 1).toNatClampNeg)] F dL_law_244 rfl ml_RL_22 mo_X11_seed rfl rfl rfl rfl (Nat.le_of_ble_eq_true rfl) (by decide) hC1 (fun r τ q1 => ?_)
  obtain ⟨Q2, hC2, hK2⟩ := hK1 r τ q1
  refine g_aload_n (nx := 248) 2 F dL_law_247 rfl rfl rfl ?_
  refine g_aload_n (nx := 249) 0 F dL_law_248 rfl rfl rfl ?_
  refine g_iload_n (nx := 250) 3 F dL_law_249 rfl rfl rfl ?_
  refine g_iconst (nx := 251) 1 F dL_law_250 rfl rfl ?_
  refine g_iadd (nx := 252) F dL_law_251 rfl ?_
  refine g_sld (nx := 253) F S dL_law_252 rfl (sc_in (k := 1) hj hL (by decide)) ?_
  refine g_callV (nx := 256) 1 1 [.int (xs (nI j + 1).toNatClampNeg)] F dL_law_253 rfl ml_RL_26 mo_X12_seed rfl rfl rfl rfl (st_r r) (by decide) hC2 (fun r2 ρ q2 => ?_)
  obtain ⟨v, hr1, hr2, hv⟩ := hK2 r2 ρ q2
  subst hr1
  subst hr2
  show Gs X 256 (lwL j) [.int v, .int v] ρ
  exact g_icmp_eq (nx := 259) 1205 F dL_law_256 rfl (by decide) (fun _ => K ρ hv) (fun h => absurd rfl h)
theorem lc_3 {X : ZX} {b L : Nat} {xs : Nat → Int32} (F : Fx X cL_law RL 4 40) (S : Sc X b L xs) {j : Nat} {σ : zSt} (hj : j + 6 ≤ L) (hL : L ≤ 3072) (hI : Inv σ) (K : ∀ ρ, Inv ρ → Gs X 1205 (lwL j) [] ρ) : Gs X 261 (lwL j) [] σ := by
  obtain ⟨Q1, hC1, hK1⟩ := pr_file (xs (nI j + 1).toNatClampNeg) (xs (nI j + 2).toNatClampNeg) (xs (nI j + 3).toNatClampNeg) hI
  refine g_aload_n (nx := 262) 1 F dL_law_261 rfl rfl rfl ?_
  refine g_aload_n (nx := 263) 0 F dL_law_262 rfl rfl rfl ?_
  refine g_iload_n (nx := 264) 3 F dL_law_263 rfl rfl rfl ?_
  refine g_iconst (nx := 265) 1 F dL_law_264 rfl rfl ?_
  refine g_iadd (nx := 266) F dL_law_265 rfl ?_
  refine g_sld (nx := 267) F S dL_law_266 rfl (sc_in (k := 1) hj hL (by decide)) ?_
  refine g_aload_n (nx := 268) 0 F dL_law_267 rfl rfl rfl ?_
  refine g_iload_n (nx := 269) 3 F dL_law_268 rfl rfl rfl ?_
  refine g_iconst (nx := 270) 2 F dL_law_269 rfl rfl ?_
  refine g_iadd (nx := 271) F dL_law_270 rfl ?_
  refine g_sld (nx := 272) F S dL_law_271 rfl (sc_in (k := 2) hj hL (by decide)) ?_
  refine g_aload_n (nx := 273) 0 F dL_law_272 rfl rfl rfl ?_
  refine g_iload_n (nx := 274) 3 F dL_law_273 rfl rfl rfl ?_
  refine g_iconst (nx := 275) 3 F dL_law_274 rfl rfl ?_
  refine g_iadd (nx := 276) F dL_law_275 rfl ?_
  refine g_sld (nx := 277) F S dL_law_276 rfl (sc_in (k := 3) hj hL (by decide)) ?_
  refine g_callV (nx := 280) 3 1 [.int (xs (nI j + 1).toNatClampNeg), .int (xs (nI j + 2).toNatClampNeg), .int (xs (nI j + 3).toNatClampNeg)] F dL_law_277 rfl ml_RL_27 mo_X11_file rfl rfl rfl rfl (Nat.le_of_ble_eq_true rfl) (by decide) hC1 (fun r τ q1 => ?_)
  obtain ⟨Q2, hC2, hK2⟩ := hK1 r τ q1
  refine g_aload_n (nx := 281) 2 F dL_law_280 rfl rfl rfl ?_
  refine g_aload_n (nx := 282) 0 F dL_law_281 rfl rfl rfl ?_
  refine g_iload_n (nx := 283) 3 F dL_law_282 rfl rfl rfl ?_
  refine g_iconst (nx := 284) 1 F dL_law_283 rfl rfl ?_
  refine g_iadd (nx := 285) F dL_law_284 rfl ?_
  refine g_sld (nx := 286) F S dL_law_285 rfl (sc_in (k := 1) hj hL (by decide)) ?_
  refine g_aload_n (nx := 287) 0 F dL_law_286 rfl rfl rfl ?_
  refine g_iload_n (nx := 288) 3 F dL_law_287 rfl rfl rfl ?_
  refine g_iconst (nx := 289) 2 F dL_law_288 rfl rfl ?_
  refine g_iadd (nx := 290) F dL_law_289 rfl ?_
  refine g_sld (nx := 291) F S dL_law_290 rfl (sc_in (k := 2) hj hL (by decide)) ?_
  refine g_aload_n (nx := 292) 0 F dL_law_291 rfl rfl rfl ?_
  refine g_iload_n (nx := 293) 3 F dL_law_292 rfl rfl rfl ?_
  refine g_iconst (nx := 294) 3 F dL_law_293 rfl rfl ?_
  refine g_iadd (nx := 295) F dL_law_294 rfl ?_
  refine g_sld (nx := 296) F S dL_law_295 rfl (sc_in (k := 3) hj hL (by decide)) ?_
  refine g_callV (nx := 299) 3 1 [.int (xs (nI j + 1).toNatClampNeg), .int (xs (nI j + 2).toNatClampNeg), .int (xs (nI j + 3).toNatClampNeg)] F dL_law_296 rfl ml_RL_31 mo_X12_file rfl rfl rfl rfl (st_r r) (by decide) hC2 (fun r2 ρ q2 => ?_)
  obtain ⟨v, hr1, hr2, hv⟩ := hK2 r2 ρ q2
  subst hr1
  subst hr2
  show Gs X 299 (lwL j) [.int v, .int v] ρ
  exact g_icmp_eq (nx := 302) 1205 F dL_law_299 rfl (by decide) (fun _ => K ρ hv) (fun h => absurd rfl h)
theorem lc_4 {X : ZX} {b L : Nat} {xs : Nat → Int32} (F : Fx X cL_law RL 4 40) (S : Sc X b L xs) {j : Nat} {σ : zSt} (hj : j + 6 ≤ L) (hL : L ≤ 3072) (hI : Inv σ) (K : ∀ ρ, Inv ρ → Gs X 1205 (lwL j) [] ρ) : Gs X 304 (lwL j) [] σ := by
  obtain ⟨Q1, hC1, hK1⟩ := pr_feed (xs (nI j + 1).toNatClampNeg) (xs (nI j + 2).toNatClampNeg) (xs (nI j + 3).toNatClampNeg) (xs (nI j + 4).toNatClampNeg) (xs (nI j + 5).toNatClampNeg) hI
  refine g_aload_n (nx := 305) 1 F dL_law_304 rfl rfl rfl ?_
  refine g_aload_n (nx := 306) 0 F dL_law_305 rfl rfl rfl ?_
  refine g_iload_n (nx := 307) 3 F dL_law_306 rfl rfl rfl ?_
  refine g_iconst (nx := 308) 1 F dL_law_307 rfl rfl ?_
  refine g_iadd (nx := 309) F dL_law_308 rfl ?_
  refine g_sld (nx := 310) F S dL_law_309 rfl (sc_in (k := 1) hj hL (by decide)) ?_
  refine g_aload_n (nx := 311) 0 F dL_law_310 rfl rfl rfl ?_
  refine g_iload_n (nx := 312) 3 F dL_law_311 rfl rfl rfl ?_
  refine g_iconst (nx := 313) 2 F dL_law_312 rfl rfl ?_
  refine g_iadd (nx := 314) F dL_law_313 rfl ?_
  refine g_sld (nx := 315) F S dL_law_314 rfl (sc_in (k := 2) hj hL (by decide)) ?_
  refine g_aload_n (nx := 316) 0 F dL_law_315 rfl rfl rfl ?_
  refine g_iload_n (nx := 317) 3 F dL_law_316 rfl rfl rfl ?_
  refine g_iconst (nx := 318) 3 F dL_law_317 rfl rfl ?_
  refine g_iadd (nx := 319) F dL_law_318 rfl ?_
  refine g_sld (nx := 320) F S dL_law_319 rfl (sc_in (k := 3) hj hL (by decide)) ?_
  refine g_aload_n (nx := 321) 0 F dL_law_320 rfl rfl rfl ?_
  refine g_iload_n (nx := 322) 3 F dL_law_321 rfl rfl rfl ?_
  refine g_iconst (nx := 323) 4 F dL_law_322 rfl rfl ?_
  refine g_iadd (nx := 324) F dL_law_323 rfl ?_
  refine g_sld (nx := 325) F S dL_law_324 rfl (sc_in (k := 4) hj hL (by decide)) ?_
  refine g_aload_n (nx := 326) 0 F dL_law_325 rfl rfl rfl ?_
  refine g_iload_n (nx := 327) 3 F dL_law_326 rfl rfl rfl ?_
  refine g_iconst (nx := 328) 5 F dL_law_327 rfl rfl ?_
  refine g_iadd (nx := 329) F dL_law_328 rfl ?_
  refine g_sld (nx := 330) F S dL_law_329 rfl (sc_in (k := 5) hj hL (by decide)) ?_
  refine g_callV (nx := 333) 5 1 [.int (xs (nI j + 1).toNatClampNeg), .int (xs (nI j + 2).toNatClampNeg), .int (xs (nI j + 3).toNatClampNeg), .int (xs (nI j + 4).toNatClampNeg), .int (xs (nI j + 5).toNatClampNeg)] F dL_law_330 rfl ml_RL_32 mo_X11_feed rfl rfl rfl rfl (Nat.le_of_ble_eq_true rfl) (by decide) hC1 (fun r τ q1 => ?_)
  obtain ⟨Q2, hC2, hK2⟩ := hK1 r τ q1
  refine g_aload_n (nx := 334) 2 F dL_law_333 rfl rfl rfl ?_
  refine g_aload_n (nx := 335) 0 F dL_law_334 rfl rfl rfl ?_
  refine g_iload_n (nx := 336) 3 F dL_law_335 rfl rfl rfl ?_
  refine g_iconst (nx := 337) 1 F dL_law_336 rfl rfl ?_
  refine g_iadd (nx := 338) F dL_law_337 rfl ?_
  refine g_sld (nx := 339) F S dL_law_338 rfl (sc_in (k := 1) hj hL (by decide)) ?_
  refine g_aload_n (nx := 340) 0 F dL_law_339 rfl rfl rfl ?_
  refine g_iload_n (nx := 341) 3 F dL_law_340 rfl rfl rfl ?_
  refine g_iconst (nx := 342) 2 F dL_law_341 rfl rfl ?_
  refine g_iadd (nx := 343) F dL_law_342 rfl ?_
  refine g_sld (nx := 344) F S dL_law_343 rfl (sc_in (k := 2) hj hL (by decide)) ?_
  refine g_aload_n (nx := 345) 0 F dL_law_344 rfl rfl rfl ?_
  refine g_iload_n (nx := 346) 3 F dL_law_345 rfl rfl rfl ?_
  refine g_iconst (nx := 347) 3 F dL_law_346 rfl rfl ?_
  refine g_iadd (nx := 348) F dL_law_347 rfl ?_
  refine g_sld (nx := 349) F S dL_law_348 rfl (sc_in (k := 3) hj hL (by decide)) ?_
  refine g_aload_n (nx := 350) 0 F dL_law_349 rfl rfl rfl ?_
  refine g_iload_n (nx := 351) 3 F dL_law_350 rfl rfl rfl ?_
  refine g_iconst (nx := 352) 4 F dL_law_351 rfl rfl ?_
  refine g_iadd (nx := 353) F dL_law_352 rfl ?_
  refine g_sld (nx := 354) F S dL_law_353 rfl (sc_in (k := 4) hj hL (by decide)) ?_
  refine g_aload_n (nx := 355) 0 F dL_law_354 rfl rfl rfl ?_
  refine g_iload_n (nx := 356) 3 F dL_law_355 rfl rfl rfl ?_
  refine g_iconst (nx := 357) 5 F dL_law_356 rfl rfl ?_
  refine g_iadd (nx := 358) F dL_law_357 rfl ?_
  refine g_sld (nx := 359) F S dL_law_358 rfl (sc_in (k := 5) hj hL (by decide)) ?_
  refine g_callV (nx := 362) 5 1 [.int (xs (nI j + 1).toNatClampNeg), .int (xs (nI j + 2).toNatClampNeg), .int (xs (nI j + 3).toNatClampNeg), .int (xs (nI j + 4).toNatClampNeg), .int (xs (nI j + 5).toNatClampNeg)] F dL_law_359 rfl ml_RL_36 mo_X12_feed rfl rfl rfl rfl (st_r r) (by decide) hC2 (fun r2 ρ q2 => ?_)
  obtain ⟨v, hr1, hr2, hv⟩ := hK2 r2 ρ q2
  subst hr1
  subst hr2
  show Gs X 362 (lwL j) [.int v, .int v] ρ
  exact g_icmp_eq (nx := 365) 1205 F dL_law_362 rfl (by decide) (fun _ => K ρ hv) (fun h => absurd rfl h)
theorem lc_5 {X : ZX} {b L : Nat} {xs : Nat → Int32} (F : Fx X cL_law RL 4 40) (S : Sc X b L xs) {j : Nat} {σ : zSt} (hj : j + 6 ≤ L) (hL : L ≤ 3072) (hI : Inv σ) (K : ∀ ρ, Inv ρ → Gs X 1205 (lwL j) [] ρ) : Gs X 367 (lwL j) [] σ := by
  obtain ⟨Q1, hC1, hK1⟩ := pr_way (xs (nI j + 1).toNatClampNeg) (xs (nI j + 2).toNatClampNeg) hI
  refine g_aload_n (nx := 368) 1 F dL_law_367 rfl rfl rfl ?_
  refine g_aload_n (nx := 369) 0 F dL_law_368 rfl rfl rfl ?_
  refine g_iload_n (nx := 370) 3 F dL_law_369 rfl rfl rfl ?_
  refine g_iconst (nx := 371) 1 F dL_law_370 rfl rfl ?_
  refine g_iadd (nx := 372) F dL_law_371 rfl ?_
  refine g_sld (nx := 373) F S dL_law_372 rfl (sc_in (k := 1) hj hL (by decide)) ?_
  refine g_aload_n (nx := 374) 0 F dL_law_373 rfl rfl rfl ?_
  refine g_iload_n (nx := 375) 3 F dL_law_374 rfl rfl rfl ?_
  refine g_iconst (nx := 376) 2 F dL_law_375 rfl rfl ?_
  refine g_iadd (nx := 377) F dL_law_376 rfl ?_
  refine g_sld (nx := 378) F S dL_law_377 rfl (sc_in (k := 2) hj hL (by decide)) ?_
  refine g_callV (nx := 381) 2 32 [.int (xs (nI j + 1).toNatClampNeg), .int (xs (nI j + 2).toNatClampNeg)] F dL_law_378 rfl ml_RL_37 mo_X11_way rfl rfl rfl rfl (Nat.le_of_ble_eq_true rfl) (by decide) hC1 (fun r τ q1 => ?_)
  obtain ⟨Q2, hC2, hK2⟩ := hK1 r τ q1
  refine g_aload_n (nx := 382) 2 F dL_law_381 rfl rfl rfl ?_
  refine g_aload_n (nx := 383) 0 F dL_law_382 rfl rfl rfl ?_
  refine g_iload_n (nx := 384) 3 F dL_law_383 rfl rfl rfl ?_
  refine g_iconst (nx := 385) 1 F dL_law_384 rfl rfl ?_
  refine g_iadd (nx := 386) F dL_law_385 rfl ?_
  refine g_sld (nx := 387) F S dL_law_386 rfl (sc_in (k := 1) hj hL (by decide)) ?_
  refine g_aload_n (nx := 388) 0 F dL_law_387 rfl rfl rfl ?_
  refine g_iload_n (nx := 389) 3 F dL_law_388 rfl rfl rfl ?_
  refine g_iconst (nx := 390) 2 F dL_law_389 rfl rfl ?_
  refine g_iadd (nx := 391) F dL_law_390 rfl ?_
  refine g_sld (nx := 392) F S dL_law_391 rfl (sc_in (k := 2) hj hL (by decide)) ?_
  refine g_callV (nx := 395) 2 9 [.int (xs (nI j + 1).toNatClampNeg), .int (xs (nI j + 2).toNatClampNeg)] F dL_law_392 rfl ml_RL_40 mo_X12_way rfl rfl rfl rfl (st_r r) (by decide) hC2 (fun r2 ρ q2 => ?_)
  obtain ⟨v, hr1, hr2, hv⟩ := hK2 r2 ρ q2
  subst hr1
  subst hr2
  show Gs X 395 (lwL j) [.int v, .int v] ρ
  exact g_icmp_eq (nx := 398) 1205 F dL_law_395 rfl (by decide) (fun _ => K ρ hv) (fun h => absurd rfl h)
theorem lc_6 {X : ZX} {b L : Nat} {xs : Nat → Int32} (F : Fx X cL_law RL 4 40) (S : Sc X b L xs) {j : Nat} {σ : zSt} (hj : j + 6 ≤ L) (hL : L ≤ 3072) (hI : Inv σ) (K : ∀ ρ, Inv ρ → Gs X 1205 (lwL j) [] ρ) : Gs X 400 (lwL j) [] σ := by
  obtain ⟨Q1, hC1, hK1⟩ := pr_law (xs (nI j + 1).toNatClampNeg) hI
  refine g_aload_n (nx := 401) 1 F dL_law_400 rfl rfl rfl ?_
  refine g_aload_n (nx := 402) 0 F dL_law_401 rfl rfl rfl ?_
  refine g_iload_n (nx := 403) 3 F dL_law_402 rfl rfl rfl ?_
  refine g_iconst (nx := 404) 1 F dL_law_403 rfl rfl ?_
  refine g_iadd (nx := 405) F dL_law_404 rfl ?_
  refine g_sld (nx := 406) F S dL_law_405 rfl (sc_in (k := 1) hj hL (by decide)) ?_
  refine g_callV (nx := 409) 1 32 [.int (xs (nI j + 1).toNatClampNeg)] F dL_law_406 rfl ml_RL_41 mo_X11_law rfl rfl rfl rfl (Nat.le_of_ble_eq_true rfl) (by decide) hC1 (fun r τ q1 => ?_)
  obtain ⟨Q2, hC2, hK2⟩ := hK1 r τ q1
  refine g_aload_n (nx := 410) 2 F dL_law_409 rfl rfl rfl ?_
  refine g_aload_n (nx := 411) 0 F dL_law_410 rfl rfl rfl ?_
  refine g_iload_n (nx := 412) 3 F dL_law_411 rfl rfl rfl ?_
  refine g_iconst (nx := 413) 1 F dL_law_412 rfl rfl ?_
  refine g_iadd (nx := 414) F dL_law_413 rfl ?_
  refine g_sld (nx := 415) F S dL_law_414 rfl (sc_in (k := 1) hj hL (by decide)) ?_
  refine g_callV (nx := 418) 1 9 [.int (xs (nI j + 1).toNatClampNeg)] F dL_law_415 rfl ml_RL_45 mo_X12_law rfl rfl rfl rfl (st_r r) (by decide) hC2 (fun r2 ρ q2 => ?_)
  obtain ⟨v, hr1, hr2, hv⟩ := hK2 r2 ρ q2
  subst hr1
  subst hr2
  show Gs X 418 (lwL j) [.int v, .int v] ρ
  exact g_icmp_eq (nx := 421) 1205 F dL_law_418 rfl (by decide) (fun _ => K ρ hv) (fun h => absurd rfl h)
theorem lc_7 {X : ZX} {b L : Nat} {xs : Nat → Int32} (F : Fx X cL_law RL 4 40) (S : Sc X b L xs) {j : Nat} {σ : zSt} (hj : j + 6 ≤ L) (hL : L ≤ 3072) (hI : Inv σ) (K : ∀ ρ, Inv ρ → Gs X 1205 (lwL j) [] ρ) : Gs X 423 (lwL j) [] σ := by
  obtain ⟨Q1, hC1, hK1⟩ := pr_gain (xs (nI j + 1).toNatClampNeg) hI
  refine g_aload_n (nx := 424) 1 F dL_law_423 rfl rfl rfl ?_
  refine g_aload_n (nx := 425) 0 F dL_law_424 rfl rfl rfl ?_
  refine g_iload_n (nx := 426) 3 F dL_law_425 rfl rfl rfl ?_
  refine g_iconst (nx := 427) 1 F dL_law_426 rfl rfl ?_
  refine g_iadd (nx := 428) F dL_law_427 rfl ?_
  refine g_sld (nx := 429) F S dL_law_428 rfl (sc_in (k := 1) hj hL (by decide)) ?_
  refine g_callV (nx := 432) 1 28 [.int (xs (nI j + 1).toNatClampNeg)] F dL_law_429 rfl ml_RL_46 mo_X11_gain rfl rfl rfl rfl (Nat.le_of_ble_eq_true rfl) (by decide) hC1 (fun r τ q1 => ?_)
  obtain ⟨Q2, hC2, hK2⟩ := hK1 r τ q1
  refine g_aload_n (nx := 433) 2 F dL_law_432 rfl rfl rfl ?_
  refine g_aload_n (nx := 434) 0 F dL_law_433 rfl rfl rfl ?_
  refine g_iload_n (nx := 435) 3 F dL_law_434 rfl rfl rfl ?_
  refine g_iconst (nx := 436) 1 F dL_law_435 rfl rfl ?_
  refine g_iadd (nx := 437) F dL_law_436 rfl ?_
  refine g_sld (nx := 438) F S dL_law_437 rfl (sc_in (k := 1) hj hL (by decide)) ?_
  refine g_callV (nx := 441) 1 5 [.int (xs (nI j + 1).toNatClampNeg)] F dL_law_438 rfl ml_RL_49 mo_X12_gain rfl rfl rfl rfl (st_r r) (by decide) hC2 (fun r2 ρ q2 => ?_)
  obtain ⟨v, hr1, hr2, hv⟩ := hK2 r2 ρ q2
  subst hr1
  subst hr2
  show Gs X 441 (lwL j) [.int v, .int v] ρ
  exact g_icmp_eq (nx := 444) 1205 F dL_law_441 rfl (by decide) (fun _ => K ρ hv) (fun h => absurd rfl h)
theorem lc_8 {X : ZX} {b L : Nat} {xs : Nat → Int32} (F : Fx X cL_law RL 4 40) (S : Sc X b L xs) {j : Nat} {σ : zSt} (hj : j + 6 ≤ L) (hL : L ≤ 3072) (hI : Inv σ) (K : ∀ ρ, Inv ρ → Gs X 1205 (lwL j) [] ρ) : Gs X 446 (lwL j) [] σ := by
  obtain ⟨Q1, hC1, hK1⟩ := pr_month  hI
  refine g_aload_n (nx := 447) 1 F dL_law_446 rfl rfl rfl ?_
  refine g_callV (nx := 450) 0 7 [] F dL_law_447 rfl ml_RL_50 mo_X11_month rfl rfl rfl rfl (Nat.le_of_ble_eq_true rfl) (by decide) hC1 (fun r τ q1 => ?_)
  obtain ⟨Q2, hC2, hK2⟩ := hK1 r τ q1
  refine g_aload_n (nx := 451) 2 F dL_law_450 rfl rfl rfl ?_
  refine g_callV (nx := 454) 0 6 [] F dL_law_451 rfl ml_RL_54 mo_X12_month rfl rfl rfl rfl (st_r r) (by decide) hC2 (fun r2 ρ q2 => ?_)
  obtain ⟨v, hr1, hr2, hv⟩ := hK2 r2 ρ q2
  subst hr1
  subst hr2
  show Gs X 454 (lwL j) [.int v, .int v] ρ
  exact g_icmp_eq (nx := 457) 1205 F dL_law_454 rfl (by decide) (fun _ => K ρ hv) (fun h => absurd rfl h)
theorem lc_9 {X : ZX} {b L : Nat} {xs : Nat → Int32} (F : Fx X cL_law RL 4 40) (S : Sc X b L xs) {j : Nat} {σ : zSt} (hj : j + 6 ≤ L) (hL : L ≤ 3072) (hI : Inv σ) (K : ∀ ρ, Inv ρ → Gs X 1205 (lwL j) [] ρ) : Gs X 459 (lwL j) [] σ := by
  obtain ⟨Q1, hC1, hK1⟩ := pr_fileIs (xs (nI j + 1).toNatClampNeg) (xs (nI j + 2).toNatClampNeg) hI
  refine g_aload_n (nx := 460) 1 F dL_law_459 rfl rfl rfl ?_
  refine g_aload_n (nx := 461) 0 F dL_law_460 rfl rfl rfl ?_
  refine g_iload_n (nx := 462) 3 F dL_law_461 rfl rfl rfl ?_
  refine g_iconst (nx := 463) 1 F dL_law_462 rfl rfl ?_
  refine g_iadd (nx := 464) F dL_law_463 rfl ?_
  refine g_sld (nx := 465) F S dL_law_464 rfl (sc_in (k := 1) hj hL (by decide)) ?_
  refine g_aload_n (nx := 466) 0 F dL_law_465 rfl rfl rfl ?_
  refine g_iload_n (nx := 467) 3 F dL_law_466 rfl rfl rfl ?_
  refine g_iconst (nx := 468) 2 F dL_law_467 rfl rfl ?_
  refine g_iadd (nx := 469) F dL_law_468 rfl ?_
  refine g_sld (nx := 470) F S dL_law_469 rfl (sc_in (k := 2) hj hL (by decide)) ?_
  refine g_callV (nx := 473) 2 1 [.int (xs (nI j + 1).toNatClampNeg), .int (xs (nI j + 2).toNatClampNeg)] F dL_law_470 rfl ml_RL_55 mo_X11_fileIs rfl rfl rfl rfl (Nat.le_of_ble_eq_true rfl) (by decide) hC1 (fun r τ q1 => ?_)
  obtain ⟨Q2, hC2, hK2⟩ := hK1 r τ q1
  refine g_aload_n (nx := 474) 2 F dL_law_473 rfl rfl rfl ?_
  refine g_aload_n (nx := 475) 0 F dL_law_474 rfl rfl rfl ?_
  refine g_iload_n (nx := 476) 3 F dL_law_475 rfl rfl rfl ?_
  refine g_iconst (nx := 477) 1 F dL_law_476 rfl rfl ?_
  refine g_iadd (nx := 478) F dL_law_477 rfl ?_
  refine g_sld (nx := 479) F S dL_law_478 rfl (sc_in (k := 1) hj hL (by decide)) ?_
  refine g_aload_n (nx := 480) 0 F dL_law_479 rfl rfl rfl ?_
  refine g_iload_n (nx := 481) 3 F dL_law_480 rfl rfl rfl ?_
  refine g_iconst (nx := 482) 2 F dL_law_481 rfl rfl ?_
  refine g_iadd (nx := 483) F dL_law_482 rfl ?_
  refine g_sld (nx := 484) F S dL_law_483 rfl (sc_in (k := 2) hj hL (by decide)) ?_
  refine g_callV (nx := 487) 2 1 [.int (xs (nI j + 1).toNatClampNeg), .int (xs (nI j + 2).toNatClampNeg)] F dL_law_484 rfl ml_RL_58 mo_X12_fileIs rfl rfl rfl rfl (st_r r) (by decide) hC2 (fun r2 ρ q2 => ?_)
  obtain ⟨v, hr1, hr2, hv⟩ := hK2 r2 ρ q2
  subst hr1
  subst hr2
  show Gs X 487 (lwL j) [.int v, .int v] ρ
  exact g_icmp_eq (nx := 490) 1205 F dL_law_487 rfl (by decide) (fun _ => K ρ hv) (fun h => absurd rfl h)
theorem lc_10 {X : ZX} {b L : Nat} {xs : Nat → Int32} (F : Fx X cL_law RL 4 40) (S : Sc X b L xs) {j : Nat} {σ : zSt} (hj : j + 6 ≤ L) (hL : L ≤ 3072) (hI : Inv σ) (K : ∀ ρ, Inv ρ → Gs X 1205 (lwL j) [] ρ) : Gs X 492 (lwL j) [] σ := by
  obtain ⟨Q1, hC1, hK1⟩ := pr_clerkIs (xs (nI j + 1).toNatClampNeg) (xs (nI j + 2).toNatClampNeg) hI
  refine g_aload_n (nx := 493) 1 F dL_law_492 rfl rfl rfl ?_
  refine g_aload_n (nx := 494) 0 F dL_law_493 rfl rfl rfl ?_
  refine g_iload_n (nx := 495) 3 F dL_law_494 rfl rfl rfl ?_
  refine g_iconst (nx := 496) 1 F dL_law_495 rfl rfl ?_
  refine g_iadd (nx := 497) F dL_law_496 rfl ?_
  refine g_sld (nx := 498) F S dL_law_497 rfl (sc_in (k := 1) hj hL (by decide)) ?_
  refine g_aload_n (nx := 499) 0 F dL_law_498 rfl rfl rfl ?_
  refine g_iload_n (nx := 500) 3 F dL_law_499 rfl rfl rfl ?_
  refine g_iconst (nx := 501) 2 F dL_law_500 rfl rfl ?_
  refine g_iadd (nx := 502) F dL_law_501 rfl ?_
  refine g_sld (nx := 503) F S dL_law_502 rfl (sc_in (k := 2) hj hL (by decide)) ?_
  refine g_callV (nx := 506) 2 1 [.int (xs (nI j + 1).toNatClampNeg), .int (xs (nI j + 2).toNatClampNeg)] F dL_law_503 rfl ml_RL_59 mo_X11_clerkIs rfl rfl rfl rfl (Nat.le_of_ble_eq_true rfl) (by decide) hC1 (fun r τ q1 => ?_)
  obtain ⟨Q2, hC2, hK2⟩ := hK1 r τ q1
  refine g_aload_n (nx := 507) 2 F dL_law_506 rfl rfl rfl ?_
  refine g_aload_n (nx := 508) 0 F dL_law_507 rfl rfl rfl ?_
  refine g_iload_n (nx := 509) 3 F dL_law_508 rfl rfl rfl ?_
  refine g_iconst (nx := 510) 1 F dL_law_509 rfl rfl ?_
  refine g_iadd (nx := 511) F dL_law_510 rfl ?_
  refine g_sld (nx := 512) F S dL_law_511 rfl (sc_in (k := 1) hj hL (by decide)) ?_
  refine g_aload_n (nx := 513) 0 F dL_law_512 rfl rfl rfl ?_
  refine g_iload_n (nx := 514) 3 F dL_law_513 rfl rfl rfl ?_
  refine g_iconst (nx := 515) 2 F dL_law_514 rfl rfl ?_
  refine g_iadd (nx := 516) F dL_law_515 rfl ?_
  refine g_sld (nx := 517) F S dL_law_516 rfl (sc_in (k := 2) hj hL (by decide)) ?_
  refine g_callV (nx := 520) 2 1 [.int (xs (nI j + 1).toNatClampNeg), .int (xs (nI j + 2).toNatClampNeg)] F dL_law_517 rfl ml_RL_62 mo_X12_clerkIs rfl rfl rfl rfl (st_r r) (by decide) hC2 (fun r2 ρ q2 => ?_)
  obtain ⟨v, hr1, hr2, hv⟩ := hK2 r2 ρ q2
  subst hr1
  subst hr2
  show Gs X 520 (lwL j) [.int v, .int v] ρ
  exact g_icmp_eq (nx := 523) 1205 F dL_law_520 rfl (by decide) (fun _ => K ρ hv) (fun h => absurd rfl h)
theorem lc_11 {X : ZX} {b L : Nat} {xs : Nat → Int32} (F : Fx X cL_law RL 4 40) (S : Sc X b L xs) {j : Nat} {σ : zSt} (hj : j + 6 ≤ L) (hL : L ≤ 3072) (hI : Inv σ) (K : ∀ ρ, Inv ρ → Gs X 1205 (lwL j) [] ρ) : Gs X 525 (lwL j) [] σ := by
  obtain ⟨Q1, hC1, hK1⟩ := pr_asks (xs (nI j + 1).toNatClampNeg) (xs (nI j + 2).toNatClampNeg) (xs (nI j + 3).toNatClampNeg) hI
  refine g_aload_n (nx := 526) 1 F dL_law_525 rfl rfl rfl ?_
  refine g_aload_n (nx := 527) 0 F dL_law_526 rfl rfl rfl ?_
  refine g_iload_n (nx := 528) 3 F dL_law_527 rfl rfl rfl ?_
  refine g_iconst (nx := 529) 1 F dL_law_528 rfl rfl ?_
  refine g_iadd (nx := 530) F dL_law_529 rfl ?_
  refine g_sld (nx := 531) F S dL_law_530 rfl (sc_in (k := 1) hj hL (by decide)) ?_
  refine g_aload_n (nx := 532) 0 F dL_law_531 rfl rfl rfl ?_
  refine g_iload_n (nx := 533) 3 F dL_law_532 rfl rfl rfl ?_
  refine g_iconst (nx := 534) 2 F dL_law_533 rfl rfl ?_
  refine g_iadd (nx := 535) F dL_law_534 rfl ?_
  refine g_sld (nx := 536) F S dL_law_535 rfl (sc_in (k := 2) hj hL (by decide)) ?_
  refine g_aload_n (nx := 537) 0 F dL_law_536 rfl rfl rfl ?_
  refine g_iload_n (nx := 538) 3 F dL_law_537 rfl rfl rfl ?_
  refine g_iconst (nx := 539) 3 F dL_law_538 rfl rfl ?_
  refine g_iadd (nx := 540) F dL_law_539 rfl ?_
  refine g_sld (nx := 541) F S dL_law_540 rfl (sc_in (k := 3) hj hL (by decide)) ?_
  refine g_callV (nx := 544) 3 4 [.int (xs (nI j + 1).toNatClampNeg), .int (xs (nI j + 2).toNatClampNeg), .int (xs (nI j + 3).toNatClampNeg)] F dL_law_541 rfl ml_RL_63 mo_X11_asks rfl rfl rfl rfl (Nat.le_of_ble_eq_true rfl) (by decide) hC1 (fun r τ q1 => ?_)
  obtain ⟨Q2, hC2, hK2⟩ := hK1 r τ q1
  refine g_aload_n (nx := 545) 2 F dL_law_544 rfl rfl rfl ?_
  refine g_aload_n (nx := 546) 0 F dL_law_545 rfl rfl rfl ?_
  refine g_iload_n (nx := 547) 3 F dL_law_546 rfl rfl rfl ?_
  refine g_iconst (nx := 548) 1 F dL_law_547 rfl rfl ?_
  refine g_iadd (nx := 549) F dL_law_548 rfl ?_
  refine g_sld (nx := 550) F S dL_law_549 rfl (sc_in (k := 1) hj hL (by decide)) ?_
  refine g_aload_n (nx := 551) 0 F dL_law_550 rfl rfl rfl ?_
  refine g_iload_n (nx := 552) 3 F dL_law_551 rfl rfl rfl ?_
  refine g_iconst (nx := 553) 2 F dL_law_552 rfl rfl ?_
  refine g_iadd (nx := 554) F dL_law_553 rfl ?_
  refine g_sld (nx := 555) F S dL_law_554 rfl (sc_in (k := 2) hj hL (by decide)) ?_
  refine g_aload_n (nx := 556) 0 F dL_law_555 rfl rfl rfl ?_
  refine g_iload_n (nx := 557) 3 F dL_law_556 rfl rfl rfl ?_
  refine g_iconst (nx := 558) 3 F dL_law_557 rfl rfl ?_
  refine g_iadd (nx := 559) F dL_law_558 rfl ?_
  refine g_sld (nx := 560) F S dL_law_559 rfl (sc_in (k := 3) hj hL (by decide)) ?_
  refine g_callV (nx := 563) 3 4 [.int (xs (nI j + 1).toNatClampNeg), .int (xs (nI j + 2).toNatClampNeg), .int (xs (nI j + 3).toNatClampNeg)] F dL_law_560 rfl ml_RL_66 mo_X12_asks rfl rfl rfl rfl (st_r r) (by decide) hC2 (fun r2 ρ q2 => ?_)
  obtain ⟨v, hr1, hr2, hv⟩ := hK2 r2 ρ q2
  subst hr1
  subst hr2
  show Gs X 563 (lwL j) [.int v, .int v] ρ
  exact g_icmp_eq (nx := 566) 1205 F dL_law_563 rfl (by decide) (fun _ => K ρ hv) (fun h => absurd rfl h)
theorem lc_12 {X : ZX} {b L : Nat} {xs : Nat → Int32} (F : Fx X cL_law RL 4 40) (S : Sc X b L xs) {j : Nat} {σ : zSt} (hj : j + 6 ≤ L) (hL : L ≤ 3072) (hI : Inv σ) (K : ∀ ρ, Inv ρ → Gs X 1205 (lwL j) [] ρ) : Gs X 568 (lwL j) [] σ := by
  obtain ⟨Q1, hC1, hK1⟩ := pr_told (xs (nI j + 1).toNatClampNeg) (xs (nI j + 2).toNatClampNeg) (xs (nI j + 3).toNatClampNeg) (xs (nI j + 4).toNatClampNeg) hI
  refine g_aload_n (nx := 569) 1 F dL_law_568 rfl rfl rfl ?_
  refine g_aload_n (nx := 570) 0 F dL_law_569 rfl rfl rfl ?_
  refine g_iload_n (nx := 571) 3 F dL_law_570 rfl rfl rfl ?_
  refine g_iconst (nx := 572) 1 F dL_law_571 rfl rfl ?_
  refine g_iadd (nx := 573) F dL_law_572 rfl ?_
  refine g_sld (nx := 574) F S dL_law_573 rfl (sc_in (k := 1) hj hL (by decide)) ?_
  refine g_aload_n (nx := 575) 0 F dL_law_574 rfl rfl rfl ?_
  refine g_iload_n (nx := 576) 3 F dL_law_575 rfl rfl rfl ?_
  refine g_iconst (nx := 577) 2 F dL_law_576 rfl rfl ?_
  refine g_iadd (nx := 578) F dL_law_577 rfl ?_
  refine g_sld (nx := 579) F S dL_law_578 rfl (sc_in (k := 2) hj hL (by decide)) ?_
  refine g_aload_n (nx := 580) 0 F dL_law_579 rfl rfl rfl ?_
  refine g_iload_n (nx := 581) 3 F dL_law_580 rfl rfl rfl ?_
  refine g_iconst (nx := 582) 3 F dL_law_581 rfl rfl ?_
  refine g_iadd (nx := 583) F dL_law_582 rfl ?_
  refine g_sld (nx := 584) F S dL_law_583 rfl (sc_in (k := 3) hj hL (by decide)) ?_
  refine g_aload_n (nx := 585) 0 F dL_law_584 rfl rfl rfl ?_
  refine g_iload_n (nx := 586) 3 F dL_law_585 rfl rfl rfl ?_
  refine g_iconst (nx := 587) 4 F dL_law_586 rfl rfl ?_
  refine g_iadd (nx := 588) F dL_law_587 rfl ?_
  refine g_sld (nx := 589) F S dL_law_588 rfl (sc_in (k := 4) hj hL (by decide)) ?_
  refine g_callV (nx := 592) 4 4 [.int (xs (nI j + 1).toNatClampNeg), .int (xs (nI j + 2).toNatClampNeg), .int (xs (nI j + 3).toNatClampNeg), .int (xs (nI j + 4).toNatClampNeg)] F dL_law_589 rfl ml_RL_67 mo_X11_told rfl rfl rfl rfl (Nat.le_of_ble_eq_true rfl) (by decide) hC1 (fun r τ q1 => ?_)
  obtain ⟨Q2, hC2, hK2⟩ := hK1 r τ q1
  refine g_aload_n (nx := 593) 2 F dL_law_592 rfl rfl rfl ?_
  refine g_aload_n (nx := 594) 0 F dL_law_593 rfl rfl rfl ?_
  refine g_iload_n (nx := 595) 3 F dL_law_594 rfl rfl rfl ?_
  refine g_iconst (nx := 596) 1 F dL_law_595 rfl rfl ?_
  refine g_iadd (nx := 597) F dL_law_596 rfl ?_
  refine g_sld (nx := 598) F S dL_law_597 rfl (sc_in (k := 1) hj hL (by decide)) ?_
  refine g_aload_n (nx := 599) 0 F dL_law_598 rfl rfl rfl ?_
  refine g_iload_n (nx := 600) 3 F dL_law_599 rfl rfl rfl ?_
  refine g_iconst (nx := 601) 2 F dL_law_600 rfl rfl ?_
  refine g_iadd (nx := 602) F dL_law_601 rfl ?_
  refine g_sld (nx := 603) F S dL_law_602 rfl (sc_in (k := 2) hj hL (by decide)) ?_
  refine g_aload_n (nx := 604) 0 F dL_law_603 rfl rfl rfl ?_
  refine g_iload_n (nx := 605) 3 F dL_law_604 rfl rfl rfl ?_
  refine g_iconst (nx := 606) 3 F dL_law_605 rfl rfl ?_
  refine g_iadd (nx := 607) F dL_law_606 rfl ?_
  refine g_sld (nx := 608) F S dL_law_607 rfl (sc_in (k := 3) hj hL (by decide)) ?_
  refine g_aload_n (nx := 609) 0 F dL_law_608 rfl rfl rfl ?_
  refine g_iload_n (nx := 610) 3 F dL_law_609 rfl rfl rfl ?_
  refine g_iconst (nx := 611) 4 F dL_law_610 rfl rfl ?_
  refine g_iadd (nx := 612) F dL_law_611 rfl ?_
  refine g_sld (nx := 613) F S dL_law_612 rfl (sc_in (k := 4) hj hL (by decide)) ?_
  refine g_callV (nx := 616) 4 4 [.int (xs (nI j + 1).toNatClampNeg), .int (xs (nI j + 2).toNatClampNeg), .int (xs (nI j + 3).toNatClampNeg), .int (xs (nI j + 4).toNatClampNeg)] F dL_law_613 rfl ml_RL_71 mo_X12_told rfl rfl rfl rfl (st_r r) (by decide) hC2 (fun r2 ρ q2 => ?_)
  obtain ⟨v, hr1, hr2, hv⟩ := hK2 r2 ρ q2
  subst hr1
  subst hr2
  show Gs X 616 (lwL j) [.int v, .int v] ρ
  exact g_icmp_eq (nx := 619) 1205 F dL_law_616 rfl (by decide) (fun _ => K ρ hv) (fun h => absurd rfl h)
theorem lc_13 {X : ZX} {b L : Nat} {xs : Nat → Int32} (F : Fx X cL_law RL 4 40) (S : Sc X b L xs) {j : Nat} {σ : zSt} (hj : j + 6 ≤ L) (hL : L ≤ 3072) (hI : Inv σ) (K : ∀ ρ, Inv ρ → Gs X 1205 (lwL j) [] ρ) : Gs X 621 (lwL j) [] σ := by
  obtain ⟨Q1, hC1, hK1⟩ := pr_rest (xs (nI j + 1).toNatClampNeg) hI
  refine g_aload_n (nx := 622) 1 F dL_law_621 rfl rfl rfl ?_
  refine g_aload_n (nx := 623) 0 F dL_law_622 rfl rfl rfl ?_
  refine g_iload_n (nx := 624) 3 F dL_law_623 rfl rfl rfl ?_
  refine g_iconst (nx := 625) 1 F dL_law_624 rfl rfl ?_
  refine g_iadd (nx := 626) F dL_law_625 rfl ?_
  refine g_sld (nx := 627) F S dL_law_626 rfl (sc_in (k := 1) hj hL (by decide)) ?_
  refine g_callV (nx := 630) 1 3 [.int (xs (nI j + 1).toNatClampNeg)] F dL_law_627 rfl ml_RL_72 mo_X11_rest rfl rfl rfl rfl (Nat.le_of_ble_eq_true rfl) (by decide) hC1 (fun r τ q1 => ?_)
  obtain ⟨Q2, hC2, hK2⟩ := hK1 r τ q1
  refine g_aload_n (nx := 631) 2 F dL_law_630 rfl rfl rfl ?_
  refine g_aload_n (nx := 632) 0 F dL_law_631 rfl rfl rfl ?_
  refine g_iload_n (nx := 633) 3 F dL_law_632 rfl rfl rfl ?_
  refine g_iconst (nx := 634) 1 F dL_law_633 rfl rfl ?_
  refine g_iadd (nx := 635) F dL_law_634 rfl ?_
  refine g_sld (nx := 636) F S dL_law_635 rfl (sc_in (k := 1) hj hL (by decide)) ?_
  refine g_callV (nx := 639) 1 5 [.int (xs (nI j + 1).toNatClampNeg)] F dL_law_636 rfl ml_RL_75 mo_X12_rest rfl rfl rfl rfl (st_r r) (by decide) hC2 (fun r2 ρ q2 => ?_)
  obtain ⟨v, hr1, hr2, hv⟩ := hK2 r2 ρ q2
  subst hr1
  subst hr2
  show Gs X 639 (lwL j) [.int v, .int v] ρ
  exact g_icmp_eq (nx := 642) 1205 F dL_law_639 rfl (by decide) (fun _ => K ρ hv) (fun h => absurd rfl h)
theorem lc_14 {X : ZX} {b L : Nat} {xs : Nat → Int32} (F : Fx X cL_law RL 4 40) (S : Sc X b L xs) {j : Nat} {σ : zSt} (hj : j + 6 ≤ L) (hL : L ≤ 3072) (hI : Inv σ) (K : ∀ ρ, Inv ρ → Gs X 1205 (lwL j) [] ρ) : Gs X 644 (lwL j) [] σ := by
  obtain ⟨Q1, hC1, hK1⟩ := pr_rests (xs (nI j + 1).toNatClampNeg) hI
  refine g_aload_n (nx := 645) 1 F dL_law_644 rfl rfl rfl ?_
  refine g_aload_n (nx := 646) 0 F dL_law_645 rfl rfl rfl ?_
  refine g_iload_n (nx := 647) 3 F dL_law_646 rfl rfl rfl ?_
  refine g_iconst (nx := 648) 1 F dL_law_647 rfl rfl ?_
  refine g_iadd (nx := 649) F dL_law_648 rfl ?_
  refine g_sld (nx := 650) F S dL_law_649 rfl (sc_in (k := 1) hj hL (by decide)) ?_
  refine g_callV (nx := 653) 1 4 [.int (xs (nI j + 1).toNatClampNeg)] F dL_law_650 rfl ml_RL_76 mo_X11_rests rfl rfl rfl rfl (Nat.le_of_ble_eq_true rfl) (by decide) hC1 (fun r τ q1 => ?_)
  obtain ⟨Q2, hC2, hK2⟩ := hK1 r τ q1
  refine g_aload_n (nx := 654) 2 F dL_law_653 rfl rfl rfl ?_
  refine g_aload_n (nx := 655) 0 F dL_law_654 rfl rfl rfl ?_
  refine g_iload_n (nx := 656) 3 F dL_law_655 rfl rfl rfl ?_
  refine g_iconst (nx := 657) 1 F dL_law_656 rfl rfl ?_
  refine g_iadd (nx := 658) F dL_law_657 rfl ?_
  refine g_sld (nx := 659) F S dL_law_658 rfl (sc_in (k := 1) hj hL (by decide)) ?_
  refine g_callV (nx := 662) 1 5 [.int (xs (nI j + 1).toNatClampNeg)] F dL_law_659 rfl ml_RL_79 mo_X12_rests rfl rfl rfl rfl (st_r r) (by decide) hC2 (fun r2 ρ q2 => ?_)
  obtain ⟨v, hr1, hr2, hv⟩ := hK2 r2 ρ q2
  subst hr1
  subst hr2
  show Gs X 662 (lwL j) [.int v, .int v] ρ
  exact g_icmp_eq (nx := 665) 1205 F dL_law_662 rfl (by decide) (fun _ => K ρ hv) (fun h => absurd rfl h)
theorem lc_15 {X : ZX} {b L : Nat} {xs : Nat → Int32} (F : Fx X cL_law RL 4 40) (S : Sc X b L xs) {j : Nat} {σ : zSt} (hj : j + 6 ≤ L) (hL : L ≤ 3072) (hI : Inv σ) (K : ∀ ρ, Inv ρ → Gs X 1205 (lwL j) [] ρ) : Gs X 667 (lwL j) [] σ := by
  obtain ⟨Q1, hC1, hK1⟩ := pr_goesTo (xs (nI j + 1).toNatClampNeg) hI
  refine g_aload_n (nx := 668) 1 F dL_law_667 rfl rfl rfl ?_
  refine g_aload_n (nx := 669) 0 F dL_law_668 rfl rfl rfl ?_
  refine g_iload_n (nx := 670) 3 F dL_law_669 rfl rfl rfl ?_
  refine g_iconst (nx := 671) 1 F dL_law_670 rfl rfl ?_
  refine g_iadd (nx := 672) F dL_law_671 rfl ?_
  refine g_sld (nx := 673) F S dL_law_672 rfl (sc_in (k := 1) hj hL (by decide)) ?_
  refine g_callV (nx := 676) 1 4 [.int (xs (nI j + 1).toNatClampNeg)] F dL_law_673 rfl ml_RL_80 mo_X11_goesTo rfl rfl rfl rfl (Nat.le_of_ble_eq_true rfl) (by decide) hC1 (fun r τ q1 => ?_)
  obtain ⟨Q2, hC2, hK2⟩ := hK1 r τ q1
  refine g_aload_n (nx := 677) 2 F dL_law_676 rfl rfl rfl ?_
  refine g_aload_n (nx := 678) 0 F dL_law_677 rfl rfl rfl ?_
  refine g_iload_n (nx := 679) 3 F dL_law_678 rfl rfl rfl ?_
  refine g_iconst (nx := 680) 1 F dL_law_679 rfl rfl ?_
  refine g_iadd (nx := 681) F dL_law_680 rfl ?_
  refine g_sld (nx := 682) F S dL_law_681 rfl (sc_in (k := 1) hj hL (by decide)) ?_
  refine g_callV (nx := 685) 1 5 [.int (xs (nI j + 1).toNatClampNeg)] F dL_law_682 rfl ml_RL_83 mo_X12_goesTo rfl rfl rfl rfl (st_r r) (by decide) hC2 (fun r2 ρ q2 => ?_)
  obtain ⟨v, hr1, hr2, hv⟩ := hK2 r2 ρ q2
  subst hr1
  subst hr2
  show Gs X 685 (lwL j) [.int v, .int v] ρ
  exact g_icmp_eq (nx := 688) 1205 F dL_law_685 rfl (by decide) (fun _ => K ρ hv) (fun h => absurd rfl h)
theorem lc_16 {X : ZX} {b L : Nat} {xs : Nat → Int32} (F : Fx X cL_law RL 4 40) (S : Sc X b L xs) {j : Nat} {σ : zSt} (hj : j + 6 ≤ L) (hL : L ≤ 3072) (hI : Inv σ) (K : ∀ ρ, Inv ρ → Gs X 1205 (lwL j) [] ρ) : Gs X 690 (lwL j) [] σ := by
  obtain ⟨Q1, hC1, hK1⟩ := pr_turned (xs (nI j + 1).toNatClampNeg) (xs (nI j + 2).toNatClampNeg) hI
  refine g_aload_n (nx := 691) 1 F dL_law_690 rfl rfl rfl ?_
  refine g_aload_n (nx := 692) 0 F dL_law_691 rfl rfl rfl ?_
  refine g_iload_n (nx := 693) 3 F dL_law_692 rfl rfl rfl ?_
  refine g_iconst (nx := 694) 1 F dL_law_693 rfl rfl ?_
  refine g_iadd (nx := 695) F dL_law_694 rfl ?_
  refine g_sld (nx := 696) F S dL_law_695 rfl (sc_in (k := 1) hj hL (by decide)) ?_
  refine g_aload_n (nx := 697) 0 F dL_law_696 rfl rfl rfl ?_
  refine g_iload_n (nx := 698) 3 F dL_law_697 rfl rfl rfl ?_
  refine g_iconst (nx := 699) 2 F dL_law_698 rfl rfl ?_
  refine g_iadd (nx := 700) F dL_law_699 rfl ?_
  refine g_sld (nx := 701) F S dL_law_700 rfl (sc_in (k := 2) hj hL (by decide)) ?_
  refine g_callV (nx := 704) 2 5 [.int (xs (nI j + 1).toNatClampNeg), .int (xs (nI j + 2).toNatClampNeg)] F dL_law_701 rfl ml_RL_84 mo_X11_turned rfl rfl rfl rfl (Nat.le_of_ble_eq_true rfl) (by decide) hC1 (fun r τ q1 => ?_)
  obtain ⟨Q2, hC2, hK2⟩ := hK1 r τ q1
  refine g_aload_n (nx := 705) 2 F dL_law_704 rfl rfl rfl ?_
  refine g_aload_n (nx := 706) 0 F dL_law_705 rfl rfl rfl ?_
  refine g_iload_n (nx := 707) 3 F dL_law_706 rfl rfl rfl ?_
  refine g_iconst (nx := 708) 1 F dL_law_707 rfl rfl ?_
  refine g_iadd (nx := 709) F dL_law_708 rfl ?_
  refine g_sld (nx := 710) F S dL_law_709 rfl (sc_in (k := 1) hj hL (by decide)) ?_
  refine g_aload_n (nx := 711) 0 F dL_law_710 rfl rfl rfl ?_
  refine g_iload_n (nx := 712) 3 F dL_law_711 rfl rfl rfl ?_
  refine g_iconst (nx := 713) 2 F dL_law_712 rfl rfl ?_
  refine g_iadd (nx := 714) F dL_law_713 rfl ?_
  refine g_sld (nx := 715) F S dL_law_714 rfl (sc_in (k := 2) hj hL (by decide)) ?_
  refine g_callV (nx := 718) 2 5 [.int (xs (nI j + 1).toNatClampNeg), .int (xs (nI j + 2).toNatClampNeg)] F dL_law_715 rfl ml_RL_87 mo_X12_turned rfl rfl rfl rfl (st_r r) (by decide) hC2 (fun r2 ρ q2 => ?_)
  obtain ⟨v, hr1, hr2, hv⟩ := hK2 r2 ρ q2
  subst hr1
  subst hr2
  show Gs X 718 (lwL j) [.int v, .int v] ρ
  exact g_icmp_eq (nx := 721) 1205 F dL_law_718 rfl (by decide) (fun _ => K ρ hv) (fun h => absurd rfl h)
theorem lc_17 {X : ZX} {b L : Nat} {xs : Nat → Int32} (F : Fx X cL_law RL 4 40) (S : Sc X b L xs) {j : Nat} {σ : zSt} (hj : j + 6 ≤ L) (hL : L ≤ 3072) (hI : Inv σ) (K : ∀ ρ, Inv ρ → Gs X 1205 (lwL j) [] ρ) : Gs X 723 (lwL j) [] σ := by
  obtain ⟨Q1, hC1, hK1⟩ := pr_value (xs (nI j + 1).toNatClampNeg) hI
  refine g_aload_n (nx := 724) 1 F dL_law_723 rfl rfl rfl ?_
  refine g_aload_n (nx := 725) 0 F dL_law_724 rfl rfl rfl ?_
  refine g_iload_n (nx := 726) 3 F dL_law_725 rfl rfl rfl ?_
  refine g_iconst (nx := 727) 1 F dL_law_726 rfl rfl ?_
  refine g_iadd (nx := 728) F dL_law_727 rfl ?_
  refine g_sld (nx := 729) F S dL_law_728 rfl (sc_in (k := 1) hj hL (by decide)) ?_
  refine g_callV (nx := 732) 1 1 [.int (xs (nI j + 1).toNatClampNeg)] F dL_law_729 rfl ml_RL_88 mo_X11_value rfl rfl rfl rfl (Nat.le_of_ble_eq_true rfl) (by decide) hC1 (fun r τ q1 => ?_)
  obtain ⟨Q2, hC2, hK2⟩ := hK1 r τ q1
  refine g_aload_n (nx := 733) 2 F dL_law_732 rfl rfl rfl ?_
  refine g_aload_n (nx := 734) 0 F dL_law_733 rfl rfl rfl ?_
  refine g_iload_n (nx := 735) 3 F dL_law_734 rfl rfl rfl ?_
  refine g_iconst (nx := 736) 1 F dL_law_735 rfl rfl ?_
  refine g_iadd (nx := 737) F dL_law_736 rfl ?_
  refine g_sld (nx := 738) F S dL_law_737 rfl (sc_in (k := 1) hj hL (by decide)) ?_
  refine g_callV (nx := 741) 1 1 [.int (xs (nI j + 1).toNatClampNeg)] F dL_law_738 rfl ml_RL_91 mo_X12_value rfl rfl rfl rfl (st_r r) (by decide) hC2 (fun r2 ρ q2 => ?_)
  obtain ⟨v, hr1, hr2, hv⟩ := hK2 r2 ρ q2
  subst hr1
  subst hr2
  show Gs X 741 (lwL j) [.int v, .int v] ρ
  exact g_icmp_eq (nx := 744) 1205 F dL_law_741 rfl (by decide) (fun _ => K ρ hv) (fun h => absurd rfl h)
theorem lc_18 {X : ZX} {b L : Nat} {xs : Nat → Int32} (F : Fx X cL_law RL 4 40) (S : Sc X b L xs) {j : Nat} {σ : zSt} (hj : j + 6 ≤ L) (hL : L ≤ 3072) (hI : Inv σ) (K : ∀ ρ, Inv ρ → Gs X 1205 (lwL j) [] ρ) : Gs X 746 (lwL j) [] σ := by
  obtain ⟨Q1, hC1, hK1⟩ := pr_one (xs (nI j + 1).toNatClampNeg) hI
  refine g_aload_n (nx := 747) 1 F dL_law_746 rfl rfl rfl ?_
  refine g_aload_n (nx := 748) 0 F dL_law_747 rfl rfl rfl ?_
  refine g_iload_n (nx := 749) 3 F dL_law_748 rfl rfl rfl ?_
  refine g_iconst (nx := 750) 1 F dL_law_749 rfl rfl ?_
  refine g_iadd (nx := 751) F dL_law_750 rfl ?_
  refine g_sld (nx := 752) F S dL_law_751 rfl (sc_in (k := 1) hj hL (by decide)) ?_
  refine g_callV (nx := 755) 1 1 [.int (xs (nI j + 1).toNatClampNeg)] F dL_law_752 rfl ml_RL_92 mo_X11_one rfl rfl rfl rfl (Nat.le_of_ble_eq_true rfl) (by decide) hC1 (fun r τ q1 => ?_)
  obtain ⟨Q2, hC2, hK2⟩ := hK1 r τ q1
  refine g_aload_n (nx := 756) 2 F dL_law_755 rfl rfl rfl ?_
  refine g_aload_n (nx := 757) 0 F dL_law_756 rfl rfl rfl ?_
  refine g_iload_n (nx := 758) 3 F dL_law_757 rfl rfl rfl ?_
  refine g_iconst (nx := 759) 1 F dL_law_758 rfl rfl ?_
  refine g_iadd (nx := 760) F dL_law_759 rfl ?_
  refine g_sld (nx := 761) F S dL_law_760 rfl (sc_in (k := 1) hj hL (by decide)) ?_
  refine g_callV (nx := 764) 1 2 [.int (xs (nI j + 1).toNatClampNeg)] F dL_law_761 rfl ml_RL_95 mo_X12_one rfl rfl rfl rfl (st_r r) (by decide) hC2 (fun r2 ρ q2 => ?_)
  obtain ⟨v, hr1, hr2, hv⟩ := hK2 r2 ρ q2
  subst hr1
  subst hr2
  show Gs X 764 (lwL j) [.int v, .int v] ρ
  exact g_icmp_eq (nx := 767) 1205 F dL_law_764 rfl (by decide) (fun _ => K ρ hv) (fun h => absurd rfl h)
theorem lc_19 {X : ZX} {b L : Nat} {xs : Nat → Int32} (F : Fx X cL_law RL 4 40) (S : Sc X b L xs) {j : Nat} {σ : zSt} (hj : j + 6 ≤ L) (hL : L ≤ 3072) (hI : Inv σ) (K : ∀ ρ, Inv ρ → Gs X 1205 (lwL j) [] ρ) : Gs X 769 (lwL j) [] σ := by
  obtain ⟨Q1, hC1, hK1⟩ := pr_each (xs (nI j + 1).toNatClampNeg) (xs (nI j + 2).toNatClampNeg) hI
  refine g_aload_n (nx := 770) 1 F dL_law_769 rfl rfl rfl ?_
  refine g_aload_n (nx := 771) 0 F dL_law_770 rfl rfl rfl ?_
  refine g_iload_n (nx := 772) 3 F dL_law_771 rfl rfl rfl ?_
  refine g_iconst (nx := 773) 1 F dL_law_772 rfl rfl ?_
  refine g_iadd (nx := 774) F dL_law_773 rfl ?_
  refine g_sld (nx := 775) F S dL_law_774 rfl (sc_in (k := 1) hj hL (by decide)) ?_
  refine g_aload_n (nx := 776) 0 F dL_law_775 rfl rfl rfl ?_
  refine g_iload_n (nx := 777) 3 F dL_law_776 rfl rfl rfl ?_
  refine g_iconst (nx := 778) 2 F dL_law_777 rfl rfl ?_
  refine g_iadd (nx := 779) F dL_law_778 rfl ?_
  refine g_sld (nx := 780) F S dL_law_779 rfl (sc_in (k := 2) hj hL (by decide)) ?_
  refine g_callV (nx := 783) 2 2 [.int (xs (nI j + 1).toNatClampNeg), .int (xs (nI j + 2).toNatClampNeg)] F dL_law_780 rfl ml_RL_96 mo_X11_each rfl rfl rfl rfl (Nat.le_of_ble_eq_true rfl) (by decide) hC1 (fun r τ q1 => ?_)
  obtain ⟨Q2, hC2, hK2⟩ := hK1 r τ q1
  refine g_aload_n (nx := 784) 2 F dL_law_783 rfl rfl rfl ?_
  refine g_aload_n (nx := 785) 0 F dL_law_784 rfl rfl rfl ?_
  refine g_iload_n (nx := 786) 3 F dL_law_785 rfl rfl rfl ?_
  refine g_iconst (nx := 787) 1 F dL_law_786 rfl rfl ?_
  refine g_iadd (nx := 788) F dL_law_787 rfl ?_
  refine g_sld (nx := 789) F S dL_law_788 rfl (sc_in (k := 1) hj hL (by decide)) ?_
  refine g_aload_n (nx := 790) 0 F dL_law_789 rfl rfl rfl ?_
  refine g_iload_n (nx := 791) 3 F dL_law_790 rfl rfl rfl ?_
  refine g_iconst (nx := 792) 2 F dL_law_791 rfl rfl ?_
  refine g_iadd (nx := 793) F dL_law_792 rfl ?_
  refine g_sld (nx := 794) F S dL_law_793 rfl (sc_in (k := 2) hj hL (by decide)) ?_
  refine g_callV (nx := 797) 2 2 [.int (xs (nI j + 1).toNatClampNeg), .int (xs (nI j + 2).toNatClampNeg)] F dL_law_794 rfl ml_RL_99 mo_X12_each rfl rfl rfl rfl (st_r r) (by decide) hC2 (fun r2 ρ q2 => ?_)
  obtain ⟨v, hr1, hr2, hv⟩ := hK2 r2 ρ q2
  subst hr1
  subst hr2
  show Gs X 797 (lwL j) [.int v, .int v] ρ
  exact g_icmp_eq (nx := 800) 1205 F dL_law_797 rfl (by decide) (fun _ => K ρ hv) (fun h => absurd rfl h)
theorem lc_20 {X : ZX} {b L : Nat} {xs : Nat → Int32} (F : Fx X cL_law RL 4 40) (S : Sc X b L xs) {j : Nat} {σ : zSt} (hj : j + 6 ≤ L) (hL : L ≤ 3072) (hI : Inv σ) (K : ∀ ρ, Inv ρ → Gs X 1205 (lwL j) [] ρ) : Gs X 802 (lwL j) [] σ := by
  obtain ⟨Q1, hC1, hK1⟩ := pr_made (xs (nI j + 1).toNatClampNeg) (xs (nI j + 2).toNatClampNeg) hI
  refine g_aload_n (nx := 803) 1 F dL_law_802 rfl rfl rfl ?_
  refine g_aload_n (nx := 804) 0 F dL_law_803 rfl rfl rfl ?_
  refine g_iload_n (nx := 805) 3 F dL_law_804 rfl rfl rfl ?_
  refine g_iconst (nx := 806) 1 F dL_law_805 rfl rfl ?_
  refine g_iadd (nx := 807) F dL_law_806 rfl ?_
  refine g_sld (nx := 808) F S dL_law_807 rfl (sc_in (k := 1) hj hL (by decide)) ?_
  refine g_aload_n (nx := 809) 0 F dL_law_808 rfl rfl rfl ?_
  refine g_iload_n (nx := 810) 3 F dL_law_809 rfl rfl rfl ?_
  refine g_iconst (nx := 811) 2 F dL_law_810 rfl rfl ?_
  refine g_iadd (nx := 812) F dL_law_811 rfl ?_
  refine g_sld (nx := 813) F S dL_law_812 rfl (sc_in (k := 2) hj hL (by decide)) ?_
  refine g_callV (nx := 816) 2 2 [.int (xs (nI j + 1).toNatClampNeg), .int (xs (nI j + 2).toNatClampNeg)] F dL_law_813 rfl ml_RL_100 mo_X11_made rfl rfl rfl rfl (Nat.le_of_ble_eq_true rfl) (by decide) hC1 (fun r τ q1 => ?_)
  obtain ⟨Q2, hC2, hK2⟩ := hK1 r τ q1
  refine g_aload_n (nx := 817) 2 F dL_law_816 rfl rfl rfl ?_
  refine g_aload_n (nx := 818) 0 F dL_law_817 rfl rfl rfl ?_
  refine g_iload_n (nx := 819) 3 F dL_law_818 rfl rfl rfl ?_
  refine g_iconst (nx := 820) 1 F dL_law_819 rfl rfl ?_
  refine g_iadd (nx := 821) F dL_law_820 rfl ?_
  refine g_sld (nx := 822) F S dL_law_821 rfl (sc_in (k := 1) hj hL (by decide)) ?_
  refine g_aload_n (nx := 823) 0 F dL_law_822 rfl rfl rfl ?_
  refine g_iload_n (nx := 824) 3 F dL_law_823 rfl rfl rfl ?_
  refine g_iconst (nx := 825) 2 F dL_law_824 rfl rfl ?_
  refine g_iadd (nx := 826) F dL_law_825 rfl ?_
  refine g_sld (nx := 827) F S dL_law_826 rfl (sc_in (k := 2) hj hL (by decide)) ?_
  refine g_callV (nx := 830) 2 1 [.int (xs (nI j + 1).toNatClampNeg), .int (xs (nI j + 2).toNatClampNeg)] F dL_law_827 rfl ml_RL_103 mo_X12_made rfl rfl rfl rfl (st_r r) (by decide) hC2 (fun r2 ρ q2 => ?_)
  obtain ⟨v, hr1, hr2, hv⟩ := hK2 r2 ρ q2
  subst hr1
  subst hr2
  show Gs X 830 (lwL j) [.int v, .int v] ρ
  exact g_icmp_eq (nx := 833) 1205 F dL_law_830 rfl (by decide) (fun _ => K ρ hv) (fun h => absurd rfl h)
theorem lc_21 {X : ZX} {b L : Nat} {xs : Nat → Int32} (F : Fx X cL_law RL 4 40) (S : Sc X b L xs) {j : Nat} {σ : zSt} (hj : j + 6 ≤ L) (hL : L ≤ 3072) (hI : Inv σ) (K : ∀ ρ, Inv ρ → Gs X 1205 (lwL j) [] ρ) : Gs X 835 (lwL j) [] σ := by
  obtain ⟨Q1, hC1, hK1⟩ := pr_entry (xs (nI j + 1).toNatClampNeg) (xs (nI j + 2).toNatClampNeg) hI
  refine g_aload_n (nx := 836) 1 F dL_law_835 rfl rfl rfl ?_
  refine g_aload_n (nx := 837) 0 F dL_law_836 rfl rfl rfl ?_
  refine g_iload_n (nx := 838) 3 F dL_law_837 rfl rfl rfl ?_
  refine g_iconst (nx := 839) 1 F dL_law_838 rfl rfl ?_
  refine g_iadd (nx := 840) F dL_law_839 rfl ?_
  refine g_sld (nx := 841) F S dL_law_840 rfl (sc_in (k := 1) hj hL (by decide)) ?_
  refine g_aload_n (nx := 842) 0 F dL_law_841 rfl rfl rfl ?_
  refine g_iload_n (nx := 843) 3 F dL_law_842 rfl rfl rfl ?_
  refine g_iconst (nx := 844) 2 F dL_law_843 rfl rfl ?_
  refine g_iadd (nx := 845) F dL_law_844 rfl ?_
  refine g_sld (nx := 846) F S dL_law_845 rfl (sc_in (k := 2) hj hL (by decide)) ?_
  refine g_callV (nx := 849) 2 1 [.int (xs (nI j + 1).toNatClampNeg), .int (xs (nI j + 2).toNatClampNeg)] F dL_law_846 rfl ml_RL_104 mo_X11_entry rfl rfl rfl rfl (Nat.le_of_ble_eq_true rfl) (by decide) hC1 (fun r τ q1 => ?_)
  obtain ⟨Q2, hC2, hK2⟩ := hK1 r τ q1
  refine g_aload_n (nx := 850) 2 F dL_law_849 rfl rfl rfl ?_
  refine g_aload_n (nx := 851) 0 F dL_law_850 rfl rfl rfl ?_
  refine g_iload_n (nx := 852) 3 F dL_law_851 rfl rfl rfl ?_
  refine g_iconst (nx := 853) 1 F dL_law_852 rfl rfl ?_
  refine g_iadd (nx := 854) F dL_law_853 rfl ?_
  refine g_sld (nx := 855) F S dL_law_854 rfl (sc_in (k := 1) hj hL (by decide)) ?_
  refine g_aload_n (nx := 856) 0 F dL_law_855 rfl rfl rfl ?_
  refine g_iload_n (nx := 857) 3 F dL_law_856 rfl rfl rfl ?_
  refine g_iconst (nx := 858) 2 F dL_law_857 rfl rfl ?_
  refine g_iadd (nx := 859) F dL_law_858 rfl ?_
  refine g_sld (nx := 860) F S dL_law_859 rfl (sc_in (k := 2) hj hL (by decide)) ?_
  refine g_callV (nx := 863) 2 1 [.int (xs (nI j + 1).toNatClampNeg), .int (xs (nI j + 2).toNatClampNeg)] F dL_law_860 rfl ml_RL_107 mo_X12_entry rfl rfl rfl rfl (st_r r) (by decide) hC2 (fun r2 ρ q2 => ?_)
  obtain ⟨v, hr1, hr2, hv⟩ := hK2 r2 ρ q2
  subst hr1
  subst hr2
  show Gs X 863 (lwL j) [.int v, .int v] ρ
  exact g_icmp_eq (nx := 866) 1205 F dL_law_863 rfl (by decide) (fun _ => K ρ hv) (fun h => absurd rfl h)
theorem lc_22 {X : ZX} {b L : Nat} {xs : Nat → Int32} (F : Fx X cL_law RL 4 40) (S : Sc X b L xs) {j : Nat} {σ : zSt} (hj : j + 6 ≤ L) (hL : L ≤ 3072) (hI : Inv σ) (K : ∀ ρ, Inv ρ → Gs X 1205 (lwL j) [] ρ) : Gs X 868 (lwL j) [] σ := by
  obtain ⟨Q1, hC1, hK1⟩ := pr_middle (xs (nI j + 1).toNatClampNeg) (xs (nI j + 2).toNatClampNeg) (xs (nI j + 3).toNatClampNeg) hI
  refine g_aload_n (nx := 869) 1 F dL_law_868 rfl rfl rfl ?_
  refine g_aload_n (nx := 870) 0 F dL_law_869 rfl rfl rfl ?_
  refine g_iload_n (nx := 871) 3 F dL_law_870 rfl rfl rfl ?_
  refine g_iconst (nx := 872) 1 F dL_law_871 rfl rfl ?_
  refine g_iadd (nx := 873) F dL_law_872 rfl ?_
  refine g_sld (nx := 874) F S dL_law_873 rfl (sc_in (k := 1) hj hL (by decide)) ?_
  refine g_aload_n (nx := 875) 0 F dL_law_874 rfl rfl rfl ?_
  refine g_iload_n (nx := 876) 3 F dL_law_875 rfl rfl rfl ?_
  refine g_iconst (nx := 877) 2 F dL_law_876 rfl rfl ?_
  refine g_iadd (nx := 878) F dL_law_877 rfl ?_
  refine g_sld (nx := 879) F S dL_law_878 rfl (sc_in (k := 2) hj hL (by decide)) ?_
  refine g_aload_n (nx := 880) 0 F dL_law_879 rfl rfl rfl ?_
  refine g_iload_n (nx := 881) 3 F dL_law_880 rfl rfl rfl ?_
  refine g_iconst (nx := 882) 3 F dL_law_881 rfl rfl ?_
  refine g_iadd (nx := 883) F dL_law_882 rfl ?_
  refine g_sld (nx := 884) F S dL_law_883 rfl (sc_in (k := 3) hj hL (by decide)) ?_
  refine g_callV (nx := 887) 3 1 [.int (xs (nI j + 1).toNatClampNeg), .int (xs (nI j + 2).toNatClampNeg), .int (xs (nI j + 3).toNatClampNeg)] F dL_law_884 rfl ml_RL_108 mo_X11_middle rfl rfl rfl rfl (Nat.le_of_ble_eq_true rfl) (by decide) hC1 (fun r τ q1 => ?_)
  obtain ⟨Q2, hC2, hK2⟩ := hK1 r τ q1
  refine g_aload_n (nx := 888) 2 F dL_law_887 rfl rfl rfl ?_
  refine g_aload_n (nx := 889) 0 F dL_law_888 rfl rfl rfl ?_
  refine g_iload_n (nx := 890) 3 F dL_law_889 rfl rfl rfl ?_
  refine g_iconst (nx := 891) 1 F dL_law_890 rfl rfl ?_
  refine g_iadd (nx := 892) F dL_law_891 rfl ?_
  refine g_sld (nx := 893) F S dL_law_892 rfl (sc_in (k := 1) hj hL (by decide)) ?_
  refine g_aload_n (nx := 894) 0 F dL_law_893 rfl rfl rfl ?_
  refine g_iload_n (nx := 895) 3 F dL_law_894 rfl rfl rfl ?_
  refine g_iconst (nx := 896) 2 F dL_law_895 rfl rfl ?_
  refine g_iadd (nx := 897) F dL_law_896 rfl ?_
  refine g_sld (nx := 898) F S dL_law_897 rfl (sc_in (k := 2) hj hL (by decide)) ?_
  refine g_aload_n (nx := 899) 0 F dL_law_898 rfl rfl rfl ?_
  refine g_iload_n (nx := 900) 3 F dL_law_899 rfl rfl rfl ?_
  refine g_iconst (nx := 901) 3 F dL_law_900 rfl rfl ?_
  refine g_iadd (nx := 902) F dL_law_901 rfl ?_
  refine g_sld (nx := 903) F S dL_law_902 rfl (sc_in (k := 3) hj hL (by decide)) ?_
  refine g_callV (nx := 906) 3 1 [.int (xs (nI j + 1).toNatClampNeg), .int (xs (nI j + 2).toNatClampNeg), .int (xs (nI j + 3).toNatClampNeg)] F dL_law_903 rfl ml_RL_111 mo_X12_middle rfl rfl rfl rfl (st_r r) (by decide) hC2 (fun r2 ρ q2 => ?_)
  obtain ⟨v, hr1, hr2, hv⟩ := hK2 r2 ρ q2
  subst hr1
  subst hr2
  show Gs X 906 (lwL j) [.int v, .int v] ρ
  exact g_icmp_eq (nx := 909) 1205 F dL_law_906 rfl (by decide) (fun _ => K ρ hv) (fun h => absurd rfl h)
theorem lc_23 {X : ZX} {b L : Nat} {xs : Nat → Int32} (F : Fx X cL_law RL 4 40) (S : Sc X b L xs) {j : Nat} {σ : zSt} (hj : j + 6 ≤ L) (hL : L ≤ 3072) (hI : Inv σ) (K : ∀ ρ, Inv ρ → Gs X 1205 (lwL j) [] ρ) : Gs X 911 (lwL j) [] σ := by
  obtain ⟨Q1, hC1, hK1⟩ := pr_go (xs (nI j + 1).toNatClampNeg) (xs (nI j + 2).toNatClampNeg) (xs (nI j + 3).toNatClampNeg) (xs (nI j + 4).toNatClampNeg) hI
  refine g_aload_n (nx := 912) 1 F dL_law_911 rfl rfl rfl ?_
  refine g_aload_n (nx := 913) 0 F dL_law_912 rfl rfl rfl ?_
  refine g_iload_n (nx := 914) 3 F dL_law_913 rfl rfl rfl ?_
  refine g_iconst (nx := 915) 1 F dL_law_914 rfl rfl ?_
  refine g_iadd (nx := 916) F dL_law_915 rfl ?_
  refine g_sld (nx := 917) F S dL_law_916 rfl (sc_in (k := 1) hj hL (by decide)) ?_
  refine g_aload_n (nx := 918) 0 F dL_law_917 rfl rfl rfl ?_
  refine g_iload_n (nx := 919) 3 F dL_law_918 rfl rfl rfl ?_
  refine g_iconst (nx := 920) 2 F dL_law_919 rfl rfl ?_
  refine g_iadd (nx := 921) F dL_law_920 rfl ?_
  refine g_sld (nx := 922) F S dL_law_921 rfl (sc_in (k := 2) hj hL (by decide)) ?_
  refine g_aload_n (nx := 923) 0 F dL_law_922 rfl rfl rfl ?_
  refine g_iload_n (nx := 924) 3 F dL_law_923 rfl rfl rfl ?_
  refine g_iconst (nx := 925) 3 F dL_law_924 rfl rfl ?_
  refine g_iadd (nx := 926) F dL_law_925 rfl ?_
  refine g_sld (nx := 927) F S dL_law_926 rfl (sc_in (k := 3) hj hL (by decide)) ?_
  refine g_aload_n (nx := 928) 0 F dL_law_927 rfl rfl rfl ?_
  refine g_iload_n (nx := 929) 3 F dL_law_928 rfl rfl rfl ?_
  refine g_iconst (nx := 930) 4 F dL_law_929 rfl rfl ?_
  refine g_iadd (nx := 931) F dL_law_930 rfl ?_
  refine g_sld (nx := 932) F S dL_law_931 rfl (sc_in (k := 4) hj hL (by decide)) ?_
  refine g_callV (nx := 935) 4 3 [.int (xs (nI j + 1).toNatClampNeg), .int (xs (nI j + 2).toNatClampNeg), .int (xs (nI j + 3).toNatClampNeg), .int (xs (nI j + 4).toNatClampNeg)] F dL_law_932 rfl ml_RL_112 mo_X11_go rfl rfl rfl rfl (Nat.le_of_ble_eq_true rfl) (by decide) hC1 (fun r τ q1 => ?_)
  obtain ⟨Q2, hC2, hK2⟩ := hK1 r τ q1
  refine g_aload_n (nx := 936) 2 F dL_law_935 rfl rfl rfl ?_
  refine g_aload_n (nx := 937) 0 F dL_law_936 rfl rfl rfl ?_
  refine g_iload_n (nx := 938) 3 F dL_law_937 rfl rfl rfl ?_
  refine g_iconst (nx := 939) 1 F dL_law_938 rfl rfl ?_
  refine g_iadd (nx := 940) F dL_law_939 rfl ?_
  refine g_sld (nx := 941) F S dL_law_940 rfl (sc_in (k := 1) hj hL (by decide)) ?_
  refine g_aload_n (nx := 942) 0 F dL_law_941 rfl rfl rfl ?_
  refine g_iload_n (nx := 943) 3 F dL_law_942 rfl rfl rfl ?_
  refine g_iconst (nx := 944) 2 F dL_law_943 rfl rfl ?_
  refine g_iadd (nx := 945) F dL_law_944 rfl ?_
  refine g_sld (nx := 946) F S dL_law_945 rfl (sc_in (k := 2) hj hL (by decide)) ?_
  refine g_aload_n (nx := 947) 0 F dL_law_946 rfl rfl rfl ?_
  refine g_iload_n (nx := 948) 3 F dL_law_947 rfl rfl rfl ?_
  refine g_iconst (nx := 949) 3 F dL_law_948 rfl rfl ?_
  refine g_iadd (nx := 950) F dL_law_949 rfl ?_
  refine g_sld (nx := 951) F S dL_law_950 rfl (sc_in (k := 3) hj hL (by decide)) ?_
  refine g_aload_n (nx := 952) 0 F dL_law_951 rfl rfl rfl ?_
  refine g_iload_n (nx := 953) 3 F dL_law_952 rfl rfl rfl ?_
  refine g_iconst (nx := 954) 4 F dL_law_953 rfl rfl ?_
  refine g_iadd (nx := 955) F dL_law_954 rfl ?_
  refine g_sld (nx := 956) F S dL_law_955 rfl (sc_in (k := 4) hj hL (by decide)) ?_
  refine g_callV (nx := 959) 4 1 [.int (xs (nI j + 1).toNatClampNeg), .int (xs (nI j + 2).toNatClampNeg), .int (xs (nI j + 3).toNatClampNeg), .int (xs (nI j + 4).toNatClampNeg)] F dL_law_956 rfl ml_RL_115 mo_X12_go rfl rfl rfl rfl (st_r r) (by decide) hC2 (fun r2 ρ q2 => ?_)
  obtain ⟨v, hr1, hr2, hv⟩ := hK2 r2 ρ q2
  subst hr1
  subst hr2
  show Gs X 959 (lwL j) [.int v, .int v] ρ
  exact g_icmp_eq (nx := 962) 1205 F dL_law_959 rfl (by decide) (fun _ => K ρ hv) (fun h => absurd rfl h)
theorem lc_24 {X : ZX} {b L : Nat} {xs : Nat → Int32} (F : Fx X cL_law RL 4 40) (S : Sc X b L xs) {j : Nat} {σ : zSt} (hj : j + 6 ≤ L) (hL : L ≤ 3072) (hI : Inv σ) (K : ∀ ρ, Inv ρ → Gs X 1205 (lwL j) [] ρ) : Gs X 964 (lwL j) [] σ := by
  obtain ⟨Q1, hC1, hK1⟩ := pr_span (xs (nI j + 1).toNatClampNeg) (xs (nI j + 2).toNatClampNeg) hI
  refine g_aload_n (nx := 965) 1 F dL_law_964 rfl rfl rfl ?_
  refine g_aload_n (nx := 966) 0 F dL_law_965 rfl rfl rfl ?_
  refine g_iload_n (nx := 967) 3 F dL_law_966 rfl rfl rfl ?_
  refine g_iconst (nx := 968) 1 F dL_law_967 rfl rfl ?_
  refine g_iadd (nx := 969) F dL_law_968 rfl ?_
  refine g_sld (nx := 970) F S dL_law_969 rfl (sc_in (k := 1) hj hL (by decide)) ?_
  refine g_aload_n (nx := 971) 0 F dL_law_970 rfl rfl rfl ?_
  refine g_iload_n (nx := 972) 3 F dL_law_971 rfl rfl rfl ?_
  refine g_iconst (nx := 973) 2 F dL_law_972 rfl rfl ?_
  refine g_iadd (nx := 974) F dL_law_973 rfl ?_
  refine g_sld (nx := 975) F S dL_law_974 rfl (sc_in (k := 2) hj hL (by decide)) ?_
  refine g_callV (nx := 978) 2 1 [.int (xs (nI j + 1).toNatClampNeg), .int (xs (nI j + 2).toNatClampNeg)] F dL_law_975 rfl ml_RL_116 mo_X11_span rfl rfl rfl rfl (Nat.le_of_ble_eq_true rfl) (by decide) hC1 (fun r τ q1 => ?_)
  obtain ⟨Q2, hC2, hK2⟩ := hK1 r τ q1
  refine g_aload_n (nx := 979) 2 F dL_law_978 rfl rfl rfl ?_
  refine g_aload_n (nx := 980) 0 F dL_law_979 rfl rfl rfl ?_
  refine g_iload_n (nx := 981) 3 F dL_law_980 rfl rfl rfl ?_
  refine g_iconst (nx := 982) 1 F dL_law_981 rfl rfl ?_
  refine g_iadd (nx := 983) F dL_law_982 rfl ?_
  refine g_sld (nx := 984) F S dL_law_983 rfl (sc_in (k := 1) hj hL (by decide)) ?_
  refine g_aload_n (nx := 985) 0 F dL_law_984 rfl rfl rfl ?_
  refine g_iload_n (nx := 986) 3 F dL_law_985 rfl rfl rfl ?_
  refine g_iconst (nx := 987) 2 F dL_law_986 rfl rfl ?_
  refine g_iadd (nx := 988) F dL_law_987 rfl ?_
  refine g_sld (nx := 989) F S dL_law_988 rfl (sc_in (k := 2) hj hL (by decide)) ?_
  refine g_callV (nx := 992) 2 1 [.int (xs (nI j + 1).toNatClampNeg), .int (xs (nI j + 2).toNatClampNeg)] F dL_law_989 rfl ml_RL_119 mo_X12_span rfl rfl rfl rfl (st_r r) (by decide) hC2 (fun r2 ρ q2 => ?_)
  obtain ⟨v, hr1, hr2, hv⟩ := hK2 r2 ρ q2
  subst hr1
  subst hr2
  show Gs X 992 (lwL j) [.int v, .int v] ρ
  exact g_icmp_eq (nx := 995) 1205 F dL_law_992 rfl (by decide) (fun _ => K ρ hv) (fun h => absurd rfl h)
theorem lc_25 {X : ZX} {b L : Nat} {xs : Nat → Int32} (F : Fx X cL_law RL 4 40) (S : Sc X b L xs) {j : Nat} {σ : zSt} (hj : j + 6 ≤ L) (hL : L ≤ 3072) (hI : Inv σ) (K : ∀ ρ, Inv ρ → Gs X 1205 (lwL j) [] ρ) : Gs X 997 (lwL j) [] σ := by
  obtain ⟨Q1, hC1, hK1⟩ := pr_odds (xs (nI j + 1).toNatClampNeg) (xs (nI j + 2).toNatClampNeg) (xs (nI j + 3).toNatClampNeg) (xs (nI j + 4).toNatClampNeg) (xs (nI j + 5).toNatClampNeg) hI
  refine g_aload_n (nx := 998) 1 F dL_law_997 rfl rfl rfl ?_
  refine g_aload_n (nx := 999) 0 F dL_law_998 rfl rfl rfl ?_
  refine g_iload_n (nx := 1000) 3 F dL_law_999 rfl rfl rfl ?_
  refine g_iconst (nx := 1001) 1 F dL_law_1000 rfl rfl ?_
  refine g_iadd (nx := 1002) F dL_law_1001 rfl ?_
  refine g_sld (nx := 1003) F S dL_law_1002 rfl (sc_in (k := 1) hj hL (by decide)) ?_
  refine g_aload_n (nx := 1004) 0 F dL_law_1003 rfl rfl rfl ?_
  refine g_iload_n (nx := 1005) 3 F dL_law_1004 rfl rfl rfl ?_
  refine g_iconst (nx := 1006) 2 F dL_law_1005 rfl rfl ?_
  refine g_iadd (nx := 1007) F dL_law_1006 rfl ?_
  refine g_sld (nx := 1008) F S dL_law_1007 rfl (sc_in (k := 2) hj hL (by decide)) ?_
  refine g_aload_n (nx := 1009) 0 F dL_law_1008 rfl rfl rfl ?_
  refine g_iload_n (nx := 1010) 3 F dL_law_1009 rfl rfl rfl ?_
  refine g_iconst (nx := 1011) 3 F dL_law_1010 rfl rfl ?_
  refine g_iadd (nx := 1012) F dL_law_1011 rfl ?_
  refine g_sld (nx := 1013) F S dL_law_1012 rfl (sc_in (k := 3) hj hL (by decide)) ?_
  refine g_aload_n (nx := 1014) 0 F dL_law_1013 rfl rfl rfl ?_
  refine g_iload_n (nx := 1015) 3 F dL_law_1014 rfl rfl rfl ?_
  refine g_iconst (nx := 1016) 4 F dL_law_1015 rfl rfl ?_
  refine g_iadd (nx := 1017) F dL_law_1016 rfl ?_
  refine g_sld (nx := 1018) F S dL_law_1017 rfl (sc_in (k := 4) hj hL (by decide)) ?_
  refine g_aload_n (nx := 1019) 0 F dL_law_1018 rfl rfl rfl ?_
  refine g_iload_n (nx := 1020) 3 F dL_law_1019 rfl rfl rfl ?_
  refine g_iconst (nx := 1021) 5 F dL_law_1020 rfl rfl ?_
  refine g_iadd (nx := 1022) F dL_law_1021 rfl ?_
  refine g_sld (nx := 1023) F S dL_law_1022 rfl (sc_in (k := 5) hj hL (by decide)) ?_
  refine g_callV (nx := 1026) 5 2 [.int (xs (nI j + 1).toNatClampNeg), .int (xs (nI j + 2).toNatClampNeg), .int (xs (nI j + 3).toNatClampNeg), .int (xs (nI j + 4).toNatClampNeg), .int (xs (nI j + 5).toNatClampNeg)] F dL_law_1023 rfl ml_RL_120 mo_X11_odds rfl rfl rfl rfl (Nat.le_of_ble_eq_true rfl) (by decide) hC1 (fun r τ q1 => ?_)
  obtain ⟨Q2, hC2, hK2⟩ := hK1 r τ q1
  refine g_aload_n (nx := 1027) 2 F dL_law_1026 rfl rfl rfl ?_
  refine g_aload_n (nx := 1028) 0 F dL_law_1027 rfl rfl rfl ?_
  refine g_iload_n (nx := 1029) 3 F dL_law_1028 rfl rfl rfl ?_
  refine g_iconst (nx := 1030) 1 F dL_law_1029 rfl rfl ?_
  refine g_iadd (nx := 1031) F dL_law_1030 rfl ?_
  refine g_sld (nx := 1032) F S dL_law_1031 rfl (sc_in (k := 1) hj hL (by decide)) ?_
  refine g_aload_n (nx := 1033) 0 F dL_law_1032 rfl rfl rfl ?_
  refine g_iload_n (nx := 1034) 3 F dL_law_1033 rfl rfl rfl ?_
  refine g_iconst (nx := 1035) 2 F dL_law_1034 rfl rfl ?_
  refine g_iadd (nx := 1036) F dL_law_1035 rfl ?_
  refine g_sld (nx := 1037) F S dL_law_1036 rfl (sc_in (k := 2) hj hL (by decide)) ?_
  refine g_aload_n (nx := 1038) 0 F dL_law_1037 rfl rfl rfl ?_
  refine g_iload_n (nx := 1039) 3 F dL_law_1038 rfl rfl rfl ?_
  refine g_iconst (nx := 1040) 3 F dL_law_1039 rfl rfl ?_
  refine g_iadd (nx := 1041) F dL_law_1040 rfl ?_
  refine g_sld (nx := 1042) F S dL_law_1041 rfl (sc_in (k := 3) hj hL (by decide)) ?_
  refine g_aload_n (nx := 1043) 0 F dL_law_1042 rfl rfl rfl ?_
  refine g_iload_n (nx := 1044) 3 F dL_law_1043 rfl rfl rfl ?_
  refine g_iconst (nx := 1045) 4 F dL_law_1044 rfl rfl ?_
  refine g_iadd (nx := 1046) F dL_law_1045 rfl ?_
  refine g_sld (nx := 1047) F S dL_law_1046 rfl (sc_in (k := 4) hj hL (by decide)) ?_
  refine g_aload_n (nx := 1048) 0 F dL_law_1047 rfl rfl rfl ?_
  refine g_iload_n (nx := 1049) 3 F dL_law_1048 rfl rfl rfl ?_
  refine g_iconst (nx := 1050) 5 F dL_law_1049 rfl rfl ?_
  refine g_iadd (nx := 1051) F dL_law_1050 rfl ?_
  refine g_sld (nx := 1052) F S dL_law_1051 rfl (sc_in (k := 5) hj hL (by decide)) ?_
  refine g_callV (nx := 1055) 5 2 [.int (xs (nI j + 1).toNatClampNeg), .int (xs (nI j + 2).toNatClampNeg), .int (xs (nI j + 3).toNatClampNeg), .int (xs (nI j + 4).toNatClampNeg), .int (xs (nI j + 5).toNatClampNeg)] F dL_law_1052 rfl ml_RL_123 mo_X12_odds rfl rfl rfl rfl (st_r r) (by decide) hC2 (fun r2 ρ q2 => ?_)
  obtain ⟨v, hr1, hr2, hv⟩ := hK2 r2 ρ q2
  subst hr1
  subst hr2
  show Gs X 1055 (lwL j) [.int v, .int v] ρ
  exact g_icmp_eq (nx := 1058) 1205 F dL_law_1055 rfl (by decide) (fun _ => K ρ hv) (fun h => absurd rfl h)
theorem lc_26 {X : ZX} {b L : Nat} {xs : Nat → Int32} (F : Fx X cL_law RL 4 40) (S : Sc X b L xs) {j : Nat} {σ : zSt} (hj : j + 6 ≤ L) (hL : L ≤ 3072) (hI : Inv σ) (K : ∀ ρ, Inv ρ → Gs X 1205 (lwL j) [] ρ) : Gs X 1060 (lwL j) [] σ := by
  obtain ⟨Q1, hC1, hK1⟩ := pr_those (xs (nI j + 1).toNatClampNeg) (xs (nI j + 2).toNatClampNeg) (xs (nI j + 3).toNatClampNeg) (xs (nI j + 4).toNatClampNeg) (xs (nI j + 5).toNatClampNeg) hI
  refine g_aload_n (nx := 1061) 1 F dL_law_1060 rfl rfl rfl ?_
  refine g_aload_n (nx := 1062) 0 F dL_law_1061 rfl rfl rfl ?_
  refine g_iload_n (nx := 1063) 3 F dL_law_1062 rfl rfl rfl ?_
  refine g_iconst (nx := 1064) 1 F dL_law_1063 rfl rfl ?_
  refine g_iadd (nx := 1065) F dL_law_1064 rfl ?_
  refine g_sld (nx := 1066) F S dL_law_1065 rfl (sc_in (k := 1) hj hL (by decide)) ?_
  refine g_aload_n (nx := 1067) 0 F dL_law_1066 rfl rfl rfl ?_
  refine g_iload_n (nx := 1068) 3 F dL_law_1067 rfl rfl rfl ?_
  refine g_iconst (nx := 1069) 2 F dL_law_1068 rfl rfl ?_
  refine g_iadd (nx := 1070) F dL_law_1069 rfl ?_
  refine g_sld (nx := 1071) F S dL_law_1070 rfl (sc_in (k := 2) hj hL (by decide)) ?_
  refine g_aload_n (nx := 1072) 0 F dL_law_1071 rfl rfl rfl ?_
  refine g_iload_n (nx := 1073) 3 F dL_law_1072 rfl rfl rfl ?_
  refine g_iconst (nx := 1074) 3 F dL_law_1073 rfl rfl ?_
  refine g_iadd (nx := 1075) F dL_law_1074 rfl ?_
  refine g_sld (nx := 1076) F S dL_law_1075 rfl (sc_in (k := 3) hj hL (by decide)) ?_
  refine g_aload_n (nx := 1077) 0 F dL_law_1076 rfl rfl rfl ?_
  refine g_iload_n (nx := 1078) 3 F dL_law_1077 rfl rfl rfl ?_
  refine g_iconst (nx := 1079) 4 F dL_law_1078 rfl rfl ?_
  refine g_iadd (nx := 1080) F dL_law_1079 rfl ?_
  refine g_sld (nx := 1081) F S dL_law_1080 rfl (sc_in (k := 4) hj hL (by decide)) ?_
  refine g_aload_n (nx := 1082) 0 F dL_law_1081 rfl rfl rfl ?_
  refine g_iload_n (nx := 1083) 3 F dL_law_1082 rfl rfl rfl ?_
  refine g_iconst (nx := 1084) 5 F dL_law_1083 rfl rfl ?_
  refine g_iadd (nx := 1085) F dL_law_1084 rfl ?_
  refine g_sld (nx := 1086) F S dL_law_1085 rfl (sc_in (k := 5) hj hL (by decide)) ?_
  refine g_callV (nx := 1089) 5 2 [.int (xs (nI j + 1).toNatClampNeg), .int (xs (nI j + 2).toNatClampNeg), .int (xs (nI j + 3).toNatClampNeg), .int (xs (nI j + 4).toNatClampNeg), .int (xs (nI j + 5).toNatClampNeg)] F dL_law_1086 rfl ml_RL_124 mo_X11_those rfl rfl rfl rfl (Nat.le_of_ble_eq_true rfl) (by decide) hC1 (fun r τ q1 => ?_)
  obtain ⟨Q2, hC2, hK2⟩ := hK1 r τ q1
  refine g_aload_n (nx := 1090) 2 F dL_law_1089 rfl rfl rfl ?_
  refine g_aload_n (nx := 1091) 0 F dL_law_1090 rfl rfl rfl ?_
  refine g_iload_n (nx := 1092) 3 F dL_law_1091 rfl rfl rfl ?_
  refine g_iconst (nx := 1093) 1 F dL_law_1092 rfl rfl ?_
  refine g_iadd (nx := 1094) F dL_law_1093 rfl ?_
  refine g_sld (nx := 1095) F S dL_law_1094 rfl (sc_in (k := 1) hj hL (by decide)) ?_
  refine g_aload_n (nx := 1096) 0 F dL_law_1095 rfl rfl rfl ?_
  refine g_iload_n (nx := 1097) 3 F dL_law_1096 rfl rfl rfl ?_
  refine g_iconst (nx := 1098) 2 F dL_law_1097 rfl rfl ?_
  refine g_iadd (nx := 1099) F dL_law_1098 rfl ?_
  refine g_sld (nx := 1100) F S dL_law_1099 rfl (sc_in (k := 2) hj hL (by decide)) ?_
  refine g_aload_n (nx := 1101) 0 F dL_law_1100 rfl rfl rfl ?_
  refine g_iload_n (nx := 1102) 3 F dL_law_1101 rfl rfl rfl ?_
  refine g_iconst (nx := 1103) 3 F dL_law_1102 rfl rfl ?_
  refine g_iadd (nx := 1104) F dL_law_1103 rfl ?_
  refine g_sld (nx := 1105) F S dL_law_1104 rfl (sc_in (k := 3) hj hL (by decide)) ?_
  refine g_aload_n (nx := 1106) 0 F dL_law_1105 rfl rfl rfl ?_
  refine g_iload_n (nx := 1107) 3 F dL_law_1106 rfl rfl rfl ?_
  refine g_iconst (nx := 1108) 4 F dL_law_1107 rfl rfl ?_
  refine g_iadd (nx := 1109) F dL_law_1108 rfl ?_
  refine g_sld (nx := 1110) F S dL_law_1109 rfl (sc_in (k := 4) hj hL (by decide)) ?_
  refine g_aload_n (nx := 1111) 0 F dL_law_1110 rfl rfl rfl ?_
  refine g_iload_n (nx := 1112) 3 F dL_law_1111 rfl rfl rfl ?_
  refine g_iconst (nx := 1113) 5 F dL_law_1112 rfl rfl ?_
  refine g_iadd (nx := 1114) F dL_law_1113 rfl ?_
  refine g_sld (nx := 1115) F S dL_law_1114 rfl (sc_in (k := 5) hj hL (by decide)) ?_
  refine g_callV (nx := 1118) 5 2 [.int (xs (nI j + 1).toNatClampNeg), .int (xs (nI j + 2).toNatClampNeg), .int (xs (nI j + 3).toNatClampNeg), .int (xs (nI j + 4).toNatClampNeg), .int (xs (nI j + 5).toNatClampNeg)] F dL_law_1115 rfl ml_RL_127 mo_X12_those rfl rfl rfl rfl (st_r r) (by decide) hC2 (fun r2 ρ q2 => ?_)
  obtain ⟨v, hr1, hr2, hv⟩ := hK2 r2 ρ q2
  subst hr1
  subst hr2
  show Gs X 1118 (lwL j) [.int v, .int v] ρ
  exact g_icmp_eq (nx := 1121) 1205 F dL_law_1118 rfl (by decide) (fun _ => K ρ hv) (fun h => absurd rfl h)
theorem lc_27 {X : ZX} {b L : Nat} {xs : Nat → Int32} (F : Fx X cL_law RL 4 40) (S : Sc X b L xs) {j : Nat} {σ : zSt} (hj : j + 6 ≤ L) (hL : L ≤ 3072) (hI : Inv σ) (K : ∀ ρ, Inv ρ → Gs X 1205 (lwL j) [] ρ) : Gs X 1123 (lwL j) [] σ := by
  obtain ⟨Q1, hC1, hK1⟩ := pr_bears  hI
  refine g_aload_n (nx := 1124) 1 F dL_law_1123 rfl rfl rfl ?_
  refine g_callV (nx := 1127) 0 2 [] F dL_law_1124 rfl ml_RL_128 mo_X11_bears rfl rfl rfl rfl (Nat.le_of_ble_eq_true rfl) (by decide) hC1 (fun r τ q1 => ?_)
  obtain ⟨Q2, hC2, hK2⟩ := hK1 r τ q1
  refine g_aload_n (nx := 1128) 2 F dL_law_1127 rfl rfl rfl ?_
  refine g_callV (nx := 1131) 0 0 [] F dL_law_1128 rfl ml_RL_131 mo_X12_bears rfl rfl rfl rfl (st_r r) (by decide) hC2 (fun r2 ρ q2 => ?_)
  obtain ⟨v, hr1, hr2, hv⟩ := hK2 r2 ρ q2
  subst hr1
  subst hr2
  show Gs X 1131 (lwL j) [.int v, .int v] ρ
  exact g_icmp_eq (nx := 1134) 1205 F dL_law_1131 rfl (by decide) (fun _ => K ρ hv) (fun h => absurd rfl h)
theorem lc_28 {X : ZX} {b L : Nat} {xs : Nat → Int32} (F : Fx X cL_law RL 4 40) (S : Sc X b L xs) {j : Nat} {σ : zSt} (hj : j + 6 ≤ L) (hL : L ≤ 3072) (hI : Inv σ) (K : ∀ ρ, Inv ρ → Gs X 1205 (lwL j) [] ρ) : Gs X 1136 (lwL j) [] σ := by
  obtain ⟨Q1, hC1, hK1⟩ := pr_again (xs (nI j + 1).toNatClampNeg) hI
  refine g_aload_n (nx := 1137) 1 F dL_law_1136 rfl rfl rfl ?_
  refine g_aload_n (nx := 1138) 0 F dL_law_1137 rfl rfl rfl ?_
  refine g_iload_n (nx := 1139) 3 F dL_law_1138 rfl rfl rfl ?_
  refine g_iconst (nx := 1140) 1 F dL_law_1139 rfl rfl ?_
  refine g_iadd (nx := 1141) F dL_law_1140 rfl ?_
  refine g_sld (nx := 1142) F S dL_law_1141 rfl (sc_in (k := 1) hj hL (by decide)) ?_
  refine g_callV (nx := 1145) 1 7 [.int (xs (nI j + 1).toNatClampNeg)] F dL_law_1142 rfl ml_RL_132 mo_X11_again rfl rfl rfl rfl (Nat.le_of_ble_eq_true rfl) (by decide) hC1 (fun r τ q1 => ?_)
  obtain ⟨Q2, hC2, hK2⟩ := hK1 r τ q1
  refine g_aload_n (nx := 1146) 2 F dL_law_1145 rfl rfl rfl ?_
  refine g_aload_n (nx := 1147) 0 F dL_law_1146 rfl rfl rfl ?_
  refine g_iload_n (nx := 1148) 3 F dL_law_1147 rfl rfl rfl ?_
  refine g_iconst (nx := 1149) 1 F dL_law_1148 rfl rfl ?_
  refine g_iadd (nx := 1150) F dL_law_1149 rfl ?_
  refine g_sld (nx := 1151) F S dL_law_1150 rfl (sc_in (k := 1) hj hL (by decide)) ?_
  refine g_callV (nx := 1154) 1 6 [.int (xs (nI j + 1).toNatClampNeg)] F dL_law_1151 rfl ml_RL_135 mo_X12_again rfl rfl rfl rfl (st_r r) (by decide) hC2 (fun r2 ρ q2 => ?_)
  obtain ⟨v, hr1, hr2, hv⟩ := hK2 r2 ρ q2
  subst hr1
  subst hr2
  show Gs X 1154 (lwL j) [.int v, .int v] ρ
  exact g_icmp_eq (nx := 1157) 1205 F dL_law_1154 rfl (by decide) (fun _ => K ρ hv) (fun h => absurd rfl h)
theorem lc_29 {X : ZX} {b L : Nat} {xs : Nat → Int32} (F : Fx X cL_law RL 4 40) (S : Sc X b L xs) {j : Nat} {σ : zSt} (hj : j + 6 ≤ L) (hL : L ≤ 3072) (hI : Inv σ) (K : ∀ ρ, Inv ρ → Gs X 1205 (lwL j) [] ρ) : Gs X 1159 (lwL j) [] σ := by
  obtain ⟨Q1, hC1, hK1⟩ := pr_check (xs (nI j + 1).toNatClampNeg) hI
  refine g_aload_n (nx := 1160) 1 F dL_law_1159 rfl rfl rfl ?_
  refine g_aload_n (nx := 1161) 0 F dL_law_1160 rfl rfl rfl ?_
  refine g_iload_n (nx := 1162) 3 F dL_law_1161 rfl rfl rfl ?_
  refine g_iconst (nx := 1163) 1 F dL_law_1162 rfl rfl ?_
  refine g_iadd (nx := 1164) F dL_law_1163 rfl ?_
  refine g_sld (nx := 1165) F S dL_law_1164 rfl (sc_in (k := 1) hj hL (by decide)) ?_
  refine g_callV (nx := 1168) 1 3 [.int (xs (nI j + 1).toNatClampNeg)] F dL_law_1165 rfl ml_RL_136 mo_X11_check rfl rfl rfl rfl (Nat.le_of_ble_eq_true rfl) (by decide) hC1 (fun r τ q1 => ?_)
  obtain ⟨Q2, hC2, hK2⟩ := hK1 r τ q1
  refine g_aload_n (nx := 1169) 2 F dL_law_1168 rfl rfl rfl ?_
  refine g_aload_n (nx := 1170) 0 F dL_law_1169 rfl rfl rfl ?_
  refine g_iload_n (nx := 1171) 3 F dL_law_1170 rfl rfl rfl ?_
  refine g_iconst (nx := 1172) 1 F dL_law_1171 rfl rfl ?_
  refine g_iadd (nx := 1173) F dL_law_1172 rfl ?_
  refine g_sld (nx := 1174) F S dL_law_1173 rfl (sc_in (k := 1) hj hL (by decide)) ?_
  refine g_callV (nx := 1177) 1 1 [.int (xs (nI j + 1).toNatClampNeg)] F dL_law_1174 rfl ml_RL_139 mo_X12_check rfl rfl rfl rfl (st_r r) (by decide) hC2 (fun r2 ρ q2 => ?_)
  obtain ⟨v, hr1, hr2, hv⟩ := hK2 r2 ρ q2
  subst hr1
  subst hr2
  show Gs X 1177 (lwL j) [.int v, .int v] ρ
  exact g_icmp_eq (nx := 1180) 1205 F dL_law_1177 rfl (by decide) (fun _ => K ρ hv) (fun h => absurd rfl h)
theorem lc_30 {X : ZX} {b L : Nat} {xs : Nat → Int32} (F : Fx X cL_law RL 4 40) (S : Sc X b L xs) {j : Nat} {σ : zSt} (hj : j + 6 ≤ L) (hL : L ≤ 3072) (hI : Inv σ) (K : ∀ ρ, Inv ρ → Gs X 1205 (lwL j) [] ρ) : Gs X 1182 (lwL j) [] σ := by
  obtain ⟨Q1, hC1, hK1⟩ := pr_count (xs (nI j + 1).toNatClampNeg) hI
  refine g_aload_n (nx := 1183) 1 F dL_law_1182 rfl rfl rfl ?_
  refine g_aload_n (nx := 1184) 0 F dL_law_1183 rfl rfl rfl ?_
  refine g_iload_n (nx := 1185) 3 F dL_law_1184 rfl rfl rfl ?_
  refine g_iconst (nx := 1186) 1 F dL_law_1185 rfl rfl ?_
  refine g_iadd (nx := 1187) F dL_law_1186 rfl ?_
  refine g_sld (nx := 1188) F S dL_law_1187 rfl (sc_in (k := 1) hj hL (by decide)) ?_
  refine g_callV (nx := 1191) 1 1 [.int (xs (nI j + 1).toNatClampNeg)] F dL_law_1188 rfl ml_RL_140 mo_X11_count rfl rfl rfl rfl (Nat.le_of_ble_eq_true rfl) (by decide) hC1 (fun r τ q1 => ?_)
  obtain ⟨Q2, hC2, hK2⟩ := hK1 r τ q1
  refine g_aload_n (nx := 1192) 2 F dL_law_1191 rfl rfl rfl ?_
  refine g_aload_n (nx := 1193) 0 F dL_law_1192 rfl rfl rfl ?_
  refine g_iload_n (nx := 1194) 3 F dL_law_1193 rfl rfl rfl ?_
  refine g_iconst (nx := 1195) 1 F dL_law_1194 rfl rfl ?_
  refine g_iadd (nx := 1196) F dL_law_1195 rfl ?_
  refine g_sld (nx := 1197) F S dL_law_1196 rfl (sc_in (k := 1) hj hL (by decide)) ?_
  refine g_callV (nx := 1200) 1 1 [.int (xs (nI j + 1).toNatClampNeg)] F dL_law_1197 rfl ml_RL_143 mo_X12_count rfl rfl rfl rfl (st_r r) (by decide) hC2 (fun r2 ρ q2 => ?_)
  obtain ⟨v, hr1, hr2, hv⟩ := hK2 r2 ρ q2
  subst hr1
  subst hr2
  show Gs X 1200 (lwL j) [.int v, .int v] ρ
  exact g_icmp_eq (nx := 1203) 1205 F dL_law_1200 rfl (by decide) (fun _ => K ρ hv) (fun h => absurd rfl h)
theorem lw_sub6 {L : Nat} (h : L ≤ 3072) : (nI L - 6).toInt = (L : Int) - 6 := by
  rcases Nat.lt_or_ge L 6 with q | q
  · have : ∀ L, L < 6 → (nI L - 6).toInt = (L : Int) - 6 := by decide
    exact this L q
  · rw [show (6 : Int32) = nI 6 from rfl, pk_sub q, nI_toInt (by omega)]
    omega
theorem by31 (x : Int32) : ∃ b, b < 32 ∧ x &&& 31 = nI b := by
  obtain ⟨k, rfl⟩ : ∃ k, x = nI k := ⟨x.toBitVec.toNat, by
    apply Int32.toBitVec_inj.1
    show x.toBitVec = BitVec.ofNat 32 x.toBitVec.toNat
    simp⟩
  exact ⟨k % 2 ^ 5, Nat.mod_lt _ (by decide), fa_mask k 5⟩
set_option maxHeartbeats 4000000 in
theorem l_loop {X : ZX} {b L : Nat} {xs : Nat → Int32} (F : Fx X cL_law RL 4 40) (S : Sc X b L xs) (hL : L ≤ 3072) (hend : ∀ j ρ, Gs X 1211 (lwL j) [] ρ) : ∀ (q j : Nat) (σ : zSt), j ≤ 3100 → L ≤ j + q → Inv σ → Gs X 18 (lwL j) [] σ := by
  intro q
  induction q with
  | zero =>
    intro j σ hj0 hq hI
    refine g_iload_n (nx := 19) 3 F dL_law_18 rfl rfl rfl ?_
    refine g_aload_n (nx := 20) 0 F dL_law_19 rfl rfl rfl ?_
    refine g_slen (nx := 21) F S dL_law_20 rfl ?_
    refine g_bipush (nx := 23) 6 F dL_law_21 rfl rfl ?_
    refine g_isub (nx := 24) F dL_law_23 rfl ?_
    refine g_icmp_gt (nx := 27) 1211 F dL_law_24 rfl (by decide) (fun _ => hend j σ) (fun h => absurd ?_ h)
    rw [fa_lt, lw_sub6 hL, nI_toInt (by omega)]
    omega
  | succ q ih =>
    intro j σ hj0 hq hI
    refine g_iload_n (nx := 19) 3 F dL_law_18 rfl rfl rfl ?_
    refine g_aload_n (nx := 20) 0 F dL_law_19 rfl rfl rfl ?_
    refine g_slen (nx := 21) F S dL_law_20 rfl ?_
    refine g_bipush (nx := 23) 6 F dL_law_21 rfl rfl ?_
    refine g_isub (nx := 24) F dL_law_23 rfl ?_
    refine g_icmp_gt (nx := 27) 1211 F dL_law_24 rfl (by decide) (fun _ => hend j σ) (fun h => ?_)
    rw [fa_lt, lw_sub6 hL, nI_toInt (by omega)] at h
    have hj : j + 6 ≤ L := by omega
    have hnext : ∀ ρ, Inv ρ → Gs X 1205 (lwL j) [] ρ := fun ρ hv => by
      refine g_iinc (nx := 1208) 6 F dL_law_1205 rfl rfl rfl (by decide) ?_
      refine g_goto 18 F dL_law_1208 (by decide) ?_
      show Gs X 18 [.ref 4000, .ref 0, .ref 145, .int (nI j + 6)] [] ρ
      rw [show nI j + 6 = nI (j + 6) from nI_add j 6]
      exact ih (j + 6) ρ (by omega) (by omega) hv
    refine g_aload_n (nx := 28) 0 F dL_law_27 rfl rfl rfl ?_
    refine g_iload_n (nx := 29) 3 F dL_law_28 rfl rfl rfl ?_
    refine g_sld (nx := 30) F S dL_law_29 rfl (vp_in_nI (by omega) (by omega)) ?_
    refine g_bipush (nx := 32) 31 F dL_law_30 rfl rfl ?_
    refine g_iand (nx := 33) F dL_law_32 rfl ?_
    obtain ⟨w0, hw0, w⟩ := by31 (xs (nI j).toNatClampNeg)
    rcases (show w0 = 0 ∨ w0 = 1 ∨ w0 = 2 ∨ w0 = 3 ∨ w0 = 4 ∨ w0 = 5 ∨ w0 = 6 ∨ w0 = 7 ∨ w0 = 8 ∨ w0 = 9 ∨ w0 = 10 ∨ w0 = 11 ∨ w0 = 12 ∨ w0 = 13 ∨ w0 = 14 ∨ w0 = 15 ∨ w0 = 16 ∨ w0 = 17 ∨ w0 = 18 ∨ w0 = 19 ∨ w0 = 20 ∨ w0 = 21 ∨ w0 = 22 ∨ w0 = 23 ∨ w0 = 24 ∨ w0 = 25 ∨ w0 = 26 ∨ w0 = 27 ∨ w0 = 28 ∨ w0 = 29 ∨ w0 = 30 ∨ w0 = 31 by omega) with rfl | rfl | rfl | rfl | rfl | rfl | rfl | rfl | rfl | rfl | rfl | rfl | rfl | rfl | rfl | rfl | rfl | rfl | rfl | rfl | rfl | rfl | rfl | rfl | rfl | rfl | rfl | rfl | rfl | rfl | rfl | rfl
    · refine g_tabN 0 172 F dL_law_33 (by rw [w, nI_toInt (by omega)]; omega) (by omega) rfl (by decide) ?_
      exact lc_0 F S hj hL hI hnext
    · refine g_tabN 1 205 F dL_law_33 (by rw [w, nI_toInt (by omega)]; omega) (by omega) rfl (by decide) ?_
      exact lc_1 F S hj hL hI hnext
    · refine g_tabN 2 238 F dL_law_33 (by rw [w, nI_toInt (by omega)]; omega) (by omega) rfl (by decide) ?_
      exact lc_2 F S hj hL hI hnext
    · refine g_tabN 3 261 F dL_law_33 (by rw [w, nI_toInt (by omega)]; omega) (by omega) rfl (by decide) ?_
      exact lc_3 F S hj hL hI hnext
    · refine g_tabN 4 304 F dL_law_33 (by rw [w, nI_toInt (by omega)]; omega) (by omega) rfl (by decide) ?_
      exact lc_4 F S hj hL hI hnext
    · refine g_tabN 5 367 F dL_law_33 (by rw [w, nI_toInt (by omega)]; omega) (by omega) rfl (by decide) ?_
      exact lc_5 F S hj hL hI hnext
    · refine g_tabN 6 400 F dL_law_33 (by rw [w, nI_toInt (by omega)]; omega) (by omega) rfl (by decide) ?_
      exact lc_6 F S hj hL hI hnext
    · refine g_tabN 7 423 F dL_law_33 (by rw [w, nI_toInt (by omega)]; omega) (by omega) rfl (by decide) ?_
      exact lc_7 F S hj hL hI hnext
    · refine g_tabN 8 446 F dL_law_33 (by rw [w, nI_toInt (by omega)]; omega) (by omega) rfl (by decide) ?_
      exact lc_8 F S hj hL hI hnext
    · refine g_tabN 9 459 F dL_law_33 (by rw [w, nI_toInt (by omega)]; omega) (by omega) rfl (by decide) ?_
      exact lc_9 F S hj hL hI hnext
    · refine g_tabN 10 492 F dL_law_33 (by rw [w, nI_toInt (by omega)]; omega) (by omega) rfl (by decide) ?_
      exact lc_10 F S hj hL hI hnext
    · refine g_tabN 11 525 F dL_law_33 (by rw [w, nI_toInt (by omega)]; omega) (by omega) rfl (by decide) ?_
      exact lc_11 F S hj hL hI hnext
    · refine g_tabN 12 568 F dL_law_33 (by rw [w, nI_toInt (by omega)]; omega) (by omega) rfl (by decide) ?_
      exact lc_12 F S hj hL hI hnext
    · refine g_tabN 13 621 F dL_law_33 (by rw [w, nI_toInt (by omega)]; omega) (by omega) rfl (by decide) ?_
      exact lc_13 F S hj hL hI hnext
    · refine g_tabN 14 644 F dL_law_33 (by rw [w, nI_toInt (by omega)]; omega) (by omega) rfl (by decide) ?_
      exact lc_14 F S hj hL hI hnext
    · refine g_tabN 15 667 F dL_law_33 (by rw [w, nI_toInt (by omega)]; omega) (by omega) rfl (by decide) ?_
      exact lc_15 F S hj hL hI hnext
    · refine g_tabN 16 690 F dL_law_33 (by rw [w, nI_toInt (by omega)]; omega) (by omega) rfl (by decide) ?_
      exact lc_16 F S hj hL hI hnext
    · refine g_tabN 17 723 F dL_law_33 (by rw [w, nI_toInt (by omega)]; omega) (by omega) rfl (by decide) ?_
      exact lc_17 F S hj hL hI hnext
    · refine g_tabN 18 746 F dL_law_33 (by rw [w, nI_toInt (by omega)]; omega) (by omega) rfl (by decide) ?_
      exact lc_18 F S hj hL hI hnext
    · refine g_tabN 19 769 F dL_law_33 (by rw [w, nI_toInt (by omega)]; omega) (by omega) rfl (by decide) ?_
      exact lc_19 F S hj hL hI hnext
    · refine g_tabN 20 802 F dL_law_33 (by rw [w, nI_toInt (by omega)]; omega) (by omega) rfl (by decide) ?_
      exact lc_20 F S hj hL hI hnext
    · refine g_tabN 21 835 F dL_law_33 (by rw [w, nI_toInt (by omega)]; omega) (by omega) rfl (by decide) ?_
      exact lc_21 F S hj hL hI hnext
    · refine g_tabN 22 868 F dL_law_33 (by rw [w, nI_toInt (by omega)]; omega) (by omega) rfl (by decide) ?_
      exact lc_22 F S hj hL hI hnext
    · refine g_tabN 23 911 F dL_law_33 (by rw [w, nI_toInt (by omega)]; omega) (by omega) rfl (by decide) ?_
      exact lc_23 F S hj hL hI hnext
    · refine g_tabN 24 964 F dL_law_33 (by rw [w, nI_toInt (by omega)]; omega) (by omega) rfl (by decide) ?_
      exact lc_24 F S hj hL hI hnext
    · refine g_tabN 25 997 F dL_law_33 (by rw [w, nI_toInt (by omega)]; omega) (by omega) rfl (by decide) ?_
      exact lc_25 F S hj hL hI hnext
    · refine g_tabN 26 1060 F dL_law_33 (by rw [w, nI_toInt (by omega)]; omega) (by omega) rfl (by decide) ?_
      exact lc_26 F S hj hL hI hnext
    · refine g_tabN 27 1123 F dL_law_33 (by rw [w, nI_toInt (by omega)]; omega) (by omega) rfl (by decide) ?_
      exact lc_27 F S hj hL hI hnext
    · refine g_tabN 28 1136 F dL_law_33 (by rw [w, nI_toInt (by omega)]; omega) (by omega) rfl (by decide) ?_
      exact lc_28 F S hj hL hI hnext
    · refine g_tabN 29 1159 F dL_law_33 (by rw [w, nI_toInt (by omega)]; omega) (by omega) rfl (by decide) ?_
      exact lc_29 F S hj hL hI hnext
    · refine g_tabN 30 1182 F dL_law_33 (by rw [w, nI_toInt (by omega)]; omega) (by omega) rfl (by decide) ?_
      exact lc_30 F S hj hL hI hnext
    · refine g_tableOut 1205 F dL_law_33 (Or.inr (by rw [w, nI_toInt (by omega)]; omega)) (by decide) ?_
      exact hnext σ hI
