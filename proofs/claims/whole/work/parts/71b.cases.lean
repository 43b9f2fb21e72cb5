/-! the law's cases: one op of its script each -/
theorem JW.m {h : HP} {N k : Int} (hJ : JW N k h) : ∃ fs, h 200 = some (oO 10 fs) ∧ ∀ g : Gx, Ct g yX11_thrown (.code yX11_thrown cX11_thrown 1 (some .int)) 1 0 0 [vR 200] h (Rt (some (vI k)) h) := by
  obtain ⟨nw, rc, dc, mcn, mk, bg, la, ly, ar, mwl, mwa, mwp, mf, mm, cs, hm, hrest⟩ := hJ
  exact ⟨_, hm, fun g => k_thrown hm⟩
theorem JW.s {h : HP} {N k : Int} (hJ : JW N k h) : ∃ fs, h 0 = some (oO 9 fs) := by
  obtain ⟨nw, rc, dc, mcn, mk, bg, la, ly, ar, mwl, mwa, mwp, mf, mm, cs, hm, hrest⟩ := hJ
  exact ⟨_, cs⟩
theorem bo01 (a : Int) : (if a = 0 then (0 : Int) else 1) = 0 ∨ (if a = 0 then (0 : Int) else 1) = 1 := by
  by_cases q : a = 0
  · rw [if_pos q]; exact Or.inl rfl
  · rw [if_neg q]; exact Or.inr rfl
section LC
variable {x : Cx} {bL : Nat} {nm ds : String} {ret : Option FieldType} {tb : List (Nat × Nat × Nat × Nat)} {h : HP} {cl sl : Nat}
theorem tl_bool {y : MethodName} {cc : ByteArray} {nL d mc ms pc q1 q2 : Nat} {ls : List (Nat × PV)} {st : List PV} {a off off2 : Int} (C : Fr x y cc nL ret tb d mc ms) (d0 : decode cc pc = .ok (.ifCond .eq off, 3)) (t0 : (pc : Int) + off = (q1 : Int)) (d1 : decode cc (pc + 3) = .ok (.iconst 1, 1)) (d2 : decode cc (pc + 3 + 1) = .ok (.goto off2, 3)) (t2 : ((pc + 3 + 1 : Nat) : Int) + off2 = (q2 : Int)) (d3 : decode cc q1 = .ok (.iconst 0, 1)) (e3 : q1 + 1 = q2) (kk : TL x bL q2 ls (vI (if a = 0 then 0 else 1) :: st) h cl sl) : TL x bL pc ls (vI a :: st) h cl sl := by
  refine tl_if_eq C d0 t0 (fun c => ?_) (fun c => ?_)
  · rw [if_pos c] at kk
    refine tl_iconst C d3 (by decide) ?_
    rw [e3]
    exact kk
  · rw [if_neg c] at kk
    refine tl_iconst C d1 (by decide) ?_
    exact tl_goto C d2 t2 kk
theorem lc_0  (C : Fr x ⟨RL, nm, ds⟩ cL_law 9 ret tb 10 603072 7190634) {L : Nat} {xs : Nat → Int32} (hX : Scr x bL L xs) {i : Int} (hi : 0 ≤ i ∧ i ≤ 10000) (hiL : i + 7 ≤ (L : Int)) {N k0 : Int} (hJ : JW N k0 h) (hN1 : N ≤ 999) (hcl : cl + 5 ≤ 603072) (hsl : sl + 330 ≤ 7190634) (kk : ∀ (h2 : HP) (k2 : Int), JW (N + 1) k2 h2 → TL x bL 2432 [(1, vR 0), (2, vR 200), (3, vR 300), (4, vR 301), (5, vI i)] [] h2 (cl + 5) (sl + 330)) : TL x bL 200 [(1, vR 0), (2, vR 200), (3, vR 300), (4, vR 301), (5, vI i)] [] h cl sl := by
  refine tl_free 1000 (fun n0 hn1 hn0 => ?_)
  obtain ⟨k, d1, m1, s1, d2, Q, b1, b2, b3, b4, hc, hm⟩ := js_rule (g := gx x) (p0 := ((sx xs (i + 1)) % 65536)) (p1 := (sx xs (i + 2))) (p2 := (sx xs (i + 3))) hJ hN1 ⟨by omega, by omega⟩ n0 hn0 hn1
  refine tl_aload_n C 1 dL_law_200 rfl rfl ?_
  refine tl_scr C hX (p1 := 205) (p2 := 0) (p3 := 0) (i := i) (n := 1) rfl hi ⟨by decide, by decide⟩ (by omega) (by decide) dL_law_201 dL_law_202 (.inl ⟨dL_law_204, rfl⟩) dL_law_205 dL_law_206 ?_
  refine tl_i2c C dL_law_207 ?_
  refine tl_scr C hX (p1 := 212) (p2 := 0) (p3 := 0) (i := i) (n := 2) rfl hi ⟨by decide, by decide⟩ (by omega) (by decide) dL_law_208 dL_law_209 (.inl ⟨dL_law_211, rfl⟩) dL_law_212 dL_law_213 ?_
  refine tl_scr C hX (p1 := 218) (p2 := 0) (p3 := 0) (i := i) (n := 3) rfl hi ⟨by decide, by decide⟩ (by omega) (by decide) dL_law_214 dL_law_215 (.inl ⟨dL_law_217, rfl⟩) dL_law_218 dL_law_219 ?_
  refine tl_aload_n C 3 dL_law_220 rfl rfl ?_
  show TL x bL 221 [(1, vR 0), (2, vR 200), (3, vR 300), (4, vR 301), (5, vI i)] ([vR 0, vI ((sx xs (i + 1)) % 65536), vI (sx xs (i + 2)), vI (sx xs (i + 3)), vR 300].reverse ++ []) h cl sl
  refine tl_callSW C dL_law_221 [vR 0, vI ((sx xs (i + 1)) % 65536), vI (sx xs (i + 2)), vI (sx xs (i + 3)), vR 300] hc wl_128 rfl (by omega) (by decide) (by omega) (by omega) (Nat.le_of_ble_eq_true rfl) (fun r h1 hq => ?_)
  obtain ⟨rfl, hq⟩ := hq
  obtain ⟨⟨fs, h2⟩, hm⟩ := hm h1 hq
  show TL x bL 224 [(1, vR 0), (2, vR 200), (3, vR 300), (4, vR 301), (5, vI i)] [vI k] h1 (cl + m1) (sl + s1)
  refine tl_wide (cl' := cl + 5) (sl' := sl + 330) (by omega) (by omega) ?_
  refine tl_istore C dL_law_224 (by decide) (by decide) rfl ?_
  show TL x bL 226 [(1, vR 0), (2, vR 200), (3, vR 300), (4, vR 301), (5, vI i), (6, vI k)] [] h1 (cl + 5) (sl + 330)
  refine tl_aload_n C 2 dL_law_226 rfl rfl ?_
  refine tl_scr C hX (p1 := 231) (p2 := 0) (p3 := 0) (i := i) (n := 1) rfl hi ⟨by decide, by decide⟩ (by omega) (by decide) dL_law_227 dL_law_228 (.inl ⟨dL_law_230, rfl⟩) dL_law_231 dL_law_232 ?_
  refine tl_i2c C dL_law_233 ?_
  refine tl_scr C hX (p1 := 238) (p2 := 0) (p3 := 0) (i := i) (n := 2) rfl hi ⟨by decide, by decide⟩ (by omega) (by decide) dL_law_234 dL_law_235 (.inl ⟨dL_law_237, rfl⟩) dL_law_238 dL_law_239 ?_
  refine tl_scr C hX (p1 := 244) (p2 := 0) (p3 := 0) (i := i) (n := 3) rfl hi ⟨by decide, by decide⟩ (by omega) (by decide) dL_law_240 dL_law_241 (.inl ⟨dL_law_243, rfl⟩) dL_law_244 dL_law_245 ?_
  show TL x bL 246 [(1, vR 0), (2, vR 200), (3, vR 300), (4, vR 301), (5, vI i), (6, vI k)] ([vI ((sx xs (i + 1)) % 65536), vI (sx xs (i + 2)), vI (sx xs (i + 3))].reverse ++ vR 200 :: []) h1 (cl + 5) (sl + 330)
  refine tl_callV C dL_law_246 [vI ((sx xs (i + 1)) % 65536), vI (sx xs (i + 2)), vI (sx xs (i + 3))] hm h2 w_L_133 rfl (by omega) (by decide) (by omega) (by omega) (Nat.le_of_ble_eq_true rfl) (fun r h3 hq => ?_)
  obtain ⟨b, rfl, hout, hJ3⟩ := hq
  show TL x bL 249 [(1, vR 0), (2, vR 200), (3, vR 300), (4, vR 301), (5, vI i), (6, vI k)] [vI b] h3 (cl + 5) (sl + 330)
  refine tl_istore C dL_law_249 (by decide) (by decide) rfl ?_
  show TL x bL 251 [(1, vR 0), (2, vR 200), (3, vR 300), (4, vR 301), (5, vI i), (6, vI k), (7, vI b)] [] h3 (cl + 5) (sl + 330)
  obtain ⟨fs3, h3o, hthr⟩ := JW.m hJ3
  refine tl_aload_n C 2 dL_law_251 rfl rfl ?_
  show TL x bL 252 [(1, vR 0), (2, vR 200), (3, vR 300), (4, vR 301), (5, vI i), (6, vI k), (7, vI b)] (([] : List PV).reverse ++ vR 200 :: []) h3 (cl + 5) (sl + 330)
  refine tl_callV C dL_law_252 [] (hthr (gx x)) h3o w_L_134 rfl (by decide) (by decide) (by omega) (by omega) (Nat.le_of_ble_eq_true rfl) (fun r h4 hq => ?_)
  obtain ⟨rfl, hq⟩ := hq
  subst h4
  show TL x bL 255 [(1, vR 0), (2, vR 200), (3, vR 300), (4, vR 301), (5, vI i), (6, vI k), (7, vI b)] [vI k] h3 (cl + 5) (sl + 330)
  refine tl_iload C dL_law_255 rfl ?_
  refine tl_icmp_eq C dL_law_257 (tgt := 262) (by decide) (fun _ => ?_) (fun c => absurd rfl c)
  refine tl_iload C dL_law_262 rfl ?_
  have fin : TL x bL 279 [(1, vR 0), (2, vR 200), (3, vR 300), (4, vR 301), (5, vI i), (6, vI k), (7, vI b)] [] h3 (cl + 5) (sl + 330) := tl_goto C dL_law_279 (tgt := 2432) (by decide) (tl_sub (fun q hq => List.mem_append_left [(6, vI k), (7, vI b)] hq) (kk h3 k hJ3))
  refine tl_if_ne C dL_law_264 (tgt := 279) (by decide) (fun _ => fin) (fun c0 => ?_)
  obtain ⟨f, hf, hf0⟩ := hout c0
  refine tl_aload_n C 3 dL_law_267 rfl rfl ?_
  refine tl_iconst C dL_law_268 (by decide) ?_
  refine tl_lald C dL_law_269 (k := 300) (n := 1) (f := f) (a := 0) hf (by decide) (by decide) ?_
  rw [hf0]
  refine tl_iload C dL_law_270 rfl ?_
  refine tl_i2l C dL_law_272 ?_
  refine tl_lcmp C dL_law_273 ?_
  exact tl_if_eq C dL_law_274 (tgt := 279) (by decide) (fun _ => fin) (fun c => absurd rfl c)
theorem lc_1  (C : Fr x ⟨RL, nm, ds⟩ cL_law 9 ret tb 10 603072 7190634) {L : Nat} {xs : Nat → Int32} (hX : Scr x bL L xs) {i : Int} (hi : 0 ≤ i ∧ i ≤ 10000) (hiL : i + 7 ≤ (L : Int)) {N k0 : Int} (hJ : JW N k0 h) (hN1 : N ≤ 999) (hcl : cl + 5 ≤ 603072) (hsl : sl + 330 ≤ 7190634) (kk : ∀ (h2 : HP) (k2 : Int), JW (N + 1) k2 h2 → TL x bL 2432 [(1, vR 0), (2, vR 200), (3, vR 300), (4, vR 301), (5, vI i)] [] h2 (cl + 5) (sl + 330)) : TL x bL 282 [(1, vR 0), (2, vR 200), (3, vR 300), (4, vR 301), (5, vI i)] [] h cl sl := by
  obtain ⟨k, d1, m1, s1, d2, Q, b1, b2, b3, b4, hc, hm⟩ := js_open (g := gx x)  hJ hN1
  refine tl_aload_n C 1 dL_law_282 rfl rfl ?_
  refine tl_aload_n C 3 dL_law_283 rfl rfl ?_
  show TL x bL 284 [(1, vR 0), (2, vR 200), (3, vR 300), (4, vR 301), (5, vI i)] ([vR 0, vR 300].reverse ++ []) h cl sl
  refine tl_callSW C dL_law_284 [vR 0, vR 300] hc wl_137 rfl (by omega) (by decide) (by omega) (by omega) (Nat.le_of_ble_eq_true rfl) (fun r h1 hq => ?_)
  obtain ⟨rfl, hq⟩ := hq
  obtain ⟨⟨fs, h2⟩, hm⟩ := hm h1 hq
  show TL x bL 287 [(1, vR 0), (2, vR 200), (3, vR 300), (4, vR 301), (5, vI i)] [vI k] h1 (cl + m1) (sl + s1)
  refine tl_wide (cl' := cl + 5) (sl' := sl + 330) (by omega) (by omega) ?_
  refine tl_istore C dL_law_287 (by decide) (by decide) rfl ?_
  show TL x bL 289 [(1, vR 0), (2, vR 200), (3, vR 300), (4, vR 301), (5, vI i), (6, vI k)] [] h1 (cl + 5) (sl + 330)
  refine tl_aload_n C 2 dL_law_289 rfl rfl ?_
  show TL x bL 290 [(1, vR 0), (2, vR 200), (3, vR 300), (4, vR 301), (5, vI i), (6, vI k)] (([] : List PV).reverse ++ vR 200 :: []) h1 (cl + 5) (sl + 330)
  refine tl_callV C dL_law_290 ([] : List PV) hm h2 w_L_140 rfl (by omega) (by decide) (by omega) (by omega) (Nat.le_of_ble_eq_true rfl) (fun r h3 hq => ?_)
  obtain ⟨b, rfl, hout, hJ3⟩ := hq
  show TL x bL 293 [(1, vR 0), (2, vR 200), (3, vR 300), (4, vR 301), (5, vI i), (6, vI k)] [vI b] h3 (cl + 5) (sl + 330)
  refine tl_istore C dL_law_293 (by decide) (by decide) rfl ?_
  show TL x bL 295 [(1, vR 0), (2, vR 200), (3, vR 300), (4, vR 301), (5, vI i), (6, vI k), (7, vI b)] [] h3 (cl + 5) (sl + 330)
  obtain ⟨fs3, h3o, hthr⟩ := JW.m hJ3
  refine tl_aload_n C 2 dL_law_295 rfl rfl ?_
  show TL x bL 296 [(1, vR 0), (2, vR 200), (3, vR 300), (4, vR 301), (5, vI i), (6, vI k), (7, vI b)] (([] : List PV).reverse ++ vR 200 :: []) h3 (cl + 5) (sl + 330)
  refine tl_callV C dL_law_296 [] (hthr (gx x)) h3o w_L_134 rfl (by decide) (by decide) (by omega) (by omega) (Nat.le_of_ble_eq_true rfl) (fun r h4 hq => ?_)
  obtain ⟨rfl, hq⟩ := hq
  subst h4
  show TL x bL 299 [(1, vR 0), (2, vR 200), (3, vR 300), (4, vR 301), (5, vI i), (6, vI k), (7, vI b)] [vI k] h3 (cl + 5) (sl + 330)
  refine tl_iload C dL_law_299 rfl ?_
  refine tl_icmp_eq C dL_law_301 (tgt := 306) (by decide) (fun _ => ?_) (fun c => absurd rfl c)
  refine tl_iload C dL_law_306 rfl ?_
  have fin : TL x bL 323 [(1, vR 0), (2, vR 200), (3, vR 300), (4, vR 301), (5, vI i), (6, vI k), (7, vI b)] [] h3 (cl + 5) (sl + 330) := tl_goto C dL_law_323 (tgt := 2432) (by decide) (tl_sub (fun q hq => List.mem_append_left [(6, vI k), (7, vI b)] hq) (kk h3 k hJ3))
  refine tl_if_ne C dL_law_308 (tgt := 323) (by decide) (fun _ => fin) (fun c0 => ?_)
  obtain ⟨f, hf, hf0⟩ := hout c0
  refine tl_aload_n C 3 dL_law_311 rfl rfl ?_
  refine tl_iconst C dL_law_312 (by decide) ?_
  refine tl_lald C dL_law_313 (k := 300) (n := 1) (f := f) (a := 0) hf (by decide) (by decide) ?_
  rw [hf0]
  refine tl_iload C dL_law_314 rfl ?_
  refine tl_i2l C dL_law_316 ?_
  refine tl_lcmp C dL_law_317 ?_
  exact tl_if_eq C dL_law_318 (tgt := 323) (by decide) (fun _ => fin) (fun c => absurd rfl c)
theorem lc_2  (C : Fr x ⟨RL, nm, ds⟩ cL_law 9 ret tb 10 603072 7190634) {L : Nat} {xs : Nat → Int32} (hX : Scr x bL L xs) {i : Int} (hi : 0 ≤ i ∧ i ≤ 10000) (hiL : i + 7 ≤ (L : Int)) {N k0 : Int} (hJ : JW N k0 h) (hN1 : N ≤ 999) (hcl : cl + 5 ≤ 603072) (hsl : sl + 330 ≤ 7190634) (kk : ∀ (h2 : HP) (k2 : Int), JW (N + 1) k2 h2 → TL x bL 2432 [(1, vR 0), (2, vR 200), (3, vR 300), (4, vR 301), (5, vI i)] [] h2 (cl + 5) (sl + 330)) : TL x bL 326 [(1, vR 0), (2, vR 200), (3, vR 300), (4, vR 301), (5, vI i)] [] h cl sl := by
  obtain ⟨k, d1, m1, s1, d2, Q, b1, b2, b3, b4, hc, hm⟩ := js_drop (g := gx x) (p0 := (sx xs (i + 1))) hJ hN1
  refine tl_aload_n C 1 dL_law_326 rfl rfl ?_
  refine tl_scr C hX (p1 := 331) (p2 := 0) (p3 := 0) (i := i) (n := 1) rfl hi ⟨by decide, by decide⟩ (by omega) (by decide) dL_law_327 dL_law_328 (.inl ⟨dL_law_330, rfl⟩) dL_law_331 dL_law_332 ?_
  refine tl_aload_n C 3 dL_law_333 rfl rfl ?_
  show TL x bL 334 [(1, vR 0), (2, vR 200), (3, vR 300), (4, vR 301), (5, vI i)] ([vR 0, vI (sx xs (i + 1)), vR 300].reverse ++ []) h cl sl
  refine tl_callSW C dL_law_334 [vR 0, vI (sx xs (i + 1)), vR 300] hc wl_141 rfl (by omega) (by decide) (by omega) (by omega) (Nat.le_of_ble_eq_true rfl) (fun r h1 hq => ?_)
  obtain ⟨rfl, hq⟩ := hq
  obtain ⟨⟨fs, h2⟩, hm⟩ := hm h1 hq
  show TL x bL 337 [(1, vR 0), (2, vR 200), (3, vR 300), (4, vR 301), (5, vI i)] [vI k] h1 (cl + m1) (sl + s1)
  refine tl_wide (cl' := cl + 5) (sl' := sl + 330) (by omega) (by omega) ?_
  refine tl_istore C dL_law_337 (by decide) (by decide) rfl ?_
  show TL x bL 339 [(1, vR 0), (2, vR 200), (3, vR 300), (4, vR 301), (5, vI i), (6, vI k)] [] h1 (cl + 5) (sl + 330)
  refine tl_aload_n C 2 dL_law_339 rfl rfl ?_
  refine tl_scr C hX (p1 := 344) (p2 := 0) (p3 := 0) (i := i) (n := 1) rfl hi ⟨by decide, by decide⟩ (by omega) (by decide) dL_law_340 dL_law_341 (.inl ⟨dL_law_343, rfl⟩) dL_law_344 dL_law_345 ?_
  show TL x bL 346 [(1, vR 0), (2, vR 200), (3, vR 300), (4, vR 301), (5, vI i), (6, vI k)] ([vI (sx xs (i + 1))].reverse ++ vR 200 :: []) h1 (cl + 5) (sl + 330)
  refine tl_callV C dL_law_346 [vI (sx xs (i + 1))] hm h2 w_L_144 rfl (by omega) (by decide) (by omega) (by omega) (Nat.le_of_ble_eq_true rfl) (fun r h3 hq => ?_)
  obtain ⟨b, rfl, hout, hJ3⟩ := hq
  show TL x bL 349 [(1, vR 0), (2, vR 200), (3, vR 300), (4, vR 301), (5, vI i), (6, vI k)] [vI b] h3 (cl + 5) (sl + 330)
  refine tl_istore C dL_law_349 (by decide) (by decide) rfl ?_
  show TL x bL 351 [(1, vR 0), (2, vR 200), (3, vR 300), (4, vR 301), (5, vI i), (6, vI k), (7, vI b)] [] h3 (cl + 5) (sl + 330)
  obtain ⟨fs3, h3o, hthr⟩ := JW.m hJ3
  refine tl_aload_n C 2 dL_law_351 rfl rfl ?_
  show TL x bL 352 [(1, vR 0), (2, vR 200), (3, vR 300), (4, vR 301), (5, vI i), (6, vI k), (7, vI b)] (([] : List PV).reverse ++ vR 200 :: []) h3 (cl + 5) (sl + 330)
  refine tl_callV C dL_law_352 [] (hthr (gx x)) h3o w_L_134 rfl (by decide) (by decide) (by omega) (by omega) (Nat.le_of_ble_eq_true rfl) (fun r h4 hq => ?_)
  obtain ⟨rfl, hq⟩ := hq
  subst h4
  show TL x bL 355 [(1, vR 0), (2, vR 200), (3, vR 300), (4, vR 301), (5, vI i), (6, vI k), (7, vI b)] [vI k] h3 (cl + 5) (sl + 330)
  refine tl_iload C dL_law_355 rfl ?_
  refine tl_icmp_eq C dL_law_357 (tgt := 362) (by decide) (fun _ => ?_) (fun c => absurd rfl c)
  refine tl_iload C dL_law_362 rfl ?_
  have fin : TL x bL 379 [(1, vR 0), (2, vR 200), (3, vR 300), (4, vR 301), (5, vI i), (6, vI k), (7, vI b)] [] h3 (cl + 5) (sl + 330) := tl_goto C dL_law_379 (tgt := 2432) (by decide) (tl_sub (fun q hq => List.mem_append_left [(6, vI k), (7, vI b)] hq) (kk h3 k hJ3))
  refine tl_if_ne C dL_law_364 (tgt := 379) (by decide) (fun _ => fin) (fun c0 => ?_)
  obtain ⟨f, hf, hf0⟩ := hout c0
  refine tl_aload_n C 3 dL_law_367 rfl rfl ?_
  refine tl_iconst C dL_law_368 (by decide) ?_
  refine tl_lald C dL_law_369 (k := 300) (n := 1) (f := f) (a := 0) hf (by decide) (by decide) ?_
  rw [hf0]
  refine tl_iload C dL_law_370 rfl ?_
  refine tl_i2l C dL_law_372 ?_
  refine tl_lcmp C dL_law_373 ?_
  exact tl_if_eq C dL_law_374 (tgt := 379) (by decide) (fun _ => fin) (fun c => absurd rfl c)
theorem lc_3  (C : Fr x ⟨RL, nm, ds⟩ cL_law 9 ret tb 10 603072 7190634) {L : Nat} {xs : Nat → Int32} (hX : Scr x bL L xs) {i : Int} (hi : 0 ≤ i ∧ i ≤ 10000) (hiL : i + 7 ≤ (L : Int)) {N k0 : Int} (hJ : JW N k0 h) (hN1 : N ≤ 999) (hcl : cl + 5 ≤ 603072) (hsl : sl + 330 ≤ 7190634) (kk : ∀ (h2 : HP) (k2 : Int), JW (N + 1) k2 h2 → TL x bL 2432 [(1, vR 0), (2, vR 200), (3, vR 300), (4, vR 301), (5, vI i)] [] h2 (cl + 5) (sl + 330)) : TL x bL 382 [(1, vR 0), (2, vR 200), (3, vR 300), (4, vR 301), (5, vI i)] [] h cl sl := by
  obtain ⟨k, d1, m1, s1, d2, Q, b1, b2, b3, b4, hc, hm⟩ := js_paint (g := gx x) (p0 := (sx xs (i + 1))) (p1 := (sx xs (i + 2))) (p2 := (sx xs (i + 3))) (p3 := (sx xs (i + 4))) (p4 := (sx xs (i + 5))) hJ hN1
  refine tl_aload_n C 1 dL_law_382 rfl rfl ?_
  refine tl_scr C hX (p1 := 387) (p2 := 0) (p3 := 0) (i := i) (n := 1) rfl hi ⟨by decide, by decide⟩ (by omega) (by decide) dL_law_383 dL_law_384 (.inl ⟨dL_law_386, rfl⟩) dL_law_387 dL_law_388 ?_
  refine tl_scr C hX (p1 := 393) (p2 := 0) (p3 := 0) (i := i) (n := 2) rfl hi ⟨by decide, by decide⟩ (by omega) (by decide) dL_law_389 dL_law_390 (.inl ⟨dL_law_392, rfl⟩) dL_law_393 dL_law_394 ?_
  refine tl_scr C hX (p1 := 399) (p2 := 0) (p3 := 0) (i := i) (n := 3) rfl hi ⟨by decide, by decide⟩ (by omega) (by decide) dL_law_395 dL_law_396 (.inl ⟨dL_law_398, rfl⟩) dL_law_399 dL_law_400 ?_
  refine tl_scr C hX (p1 := 405) (p2 := 0) (p3 := 0) (i := i) (n := 4) rfl hi ⟨by decide, by decide⟩ (by omega) (by decide) dL_law_401 dL_law_402 (.inl ⟨dL_law_404, rfl⟩) dL_law_405 dL_law_406 ?_
  refine tl_scr C hX (p1 := 411) (p2 := 0) (p3 := 0) (i := i) (n := 5) rfl hi ⟨by decide, by decide⟩ (by omega) (by decide) dL_law_407 dL_law_408 (.inl ⟨dL_law_410, rfl⟩) dL_law_411 dL_law_412 ?_
  refine tl_aload_n C 3 dL_law_413 rfl rfl ?_
  show TL x bL 414 [(1, vR 0), (2, vR 200), (3, vR 300), (4, vR 301), (5, vI i)] ([vR 0, vI (sx xs (i + 1)), vI (sx xs (i + 2)), vI (sx xs (i + 3)), vI (sx xs (i + 4)), vI (sx xs (i + 5)), vR 300].reverse ++ []) h cl sl
  refine tl_callSW C dL_law_414 [vR 0, vI (sx xs (i + 1)), vI (sx xs (i + 2)), vI (sx xs (i + 3)), vI (sx xs (i + 4)), vI (sx xs (i + 5)), vR 300] hc wl_145 rfl (by omega) (by decide) (by omega) (by omega) (Nat.le_of_ble_eq_true rfl) (fun r h1 hq => ?_)
  obtain ⟨rfl, hq⟩ := hq
  obtain ⟨⟨fs, h2⟩, hm⟩ := hm h1 hq
  show TL x bL 417 [(1, vR 0), (2, vR 200), (3, vR 300), (4, vR 301), (5, vI i)] [vI k] h1 (cl + m1) (sl + s1)
  refine tl_wide (cl' := cl + 5) (sl' := sl + 330) (by omega) (by omega) ?_
  refine tl_istore C dL_law_417 (by decide) (by decide) rfl ?_
  show TL x bL 419 [(1, vR 0), (2, vR 200), (3, vR 300), (4, vR 301), (5, vI i), (6, vI k)] [] h1 (cl + 5) (sl + 330)
  refine tl_aload_n C 2 dL_law_419 rfl rfl ?_
  refine tl_scr C hX (p1 := 424) (p2 := 0) (p3 := 0) (i := i) (n := 1) rfl hi ⟨by decide, by decide⟩ (by omega) (by decide) dL_law_420 dL_law_421 (.inl ⟨dL_law_423, rfl⟩) dL_law_424 dL_law_425 ?_
  refine tl_scr C hX (p1 := 430) (p2 := 0) (p3 := 0) (i := i) (n := 2) rfl hi ⟨by decide, by decide⟩ (by omega) (by decide) dL_law_426 dL_law_427 (.inl ⟨dL_law_429, rfl⟩) dL_law_430 dL_law_431 ?_
  refine tl_scr C hX (p1 := 436) (p2 := 0) (p3 := 0) (i := i) (n := 3) rfl hi ⟨by decide, by decide⟩ (by omega) (by decide) dL_law_432 dL_law_433 (.inl ⟨dL_law_435, rfl⟩) dL_law_436 dL_law_437 ?_
  refine tl_scr C hX (p1 := 442) (p2 := 0) (p3 := 0) (i := i) (n := 4) rfl hi ⟨by decide, by decide⟩ (by omega) (by decide) dL_law_438 dL_law_439 (.inl ⟨dL_law_441, rfl⟩) dL_law_442 dL_law_443 ?_
  refine tl_scr C hX (p1 := 448) (p2 := 0) (p3 := 0) (i := i) (n := 5) rfl hi ⟨by decide, by decide⟩ (by omega) (by decide) dL_law_444 dL_law_445 (.inl ⟨dL_law_447, rfl⟩) dL_law_448 dL_law_449 ?_
  show TL x bL 450 [(1, vR 0), (2, vR 200), (3, vR 300), (4, vR 301), (5, vI i), (6, vI k)] ([vI (sx xs (i + 1)), vI (sx xs (i + 2)), vI (sx xs (i + 3)), vI (sx xs (i + 4)), vI (sx xs (i + 5))].reverse ++ vR 200 :: []) h1 (cl + 5) (sl + 330)
  refine tl_callV C dL_law_450 [vI (sx xs (i + 1)), vI (sx xs (i + 2)), vI (sx xs (i + 3)), vI (sx xs (i + 4)), vI (sx xs (i + 5))] hm h2 w_L_148 rfl (by omega) (by decide) (by omega) (by omega) (Nat.le_of_ble_eq_true rfl) (fun r h3 hq => ?_)
  obtain ⟨b, rfl, hout, hJ3⟩ := hq
  show TL x bL 453 [(1, vR 0), (2, vR 200), (3, vR 300), (4, vR 301), (5, vI i), (6, vI k)] [vI b] h3 (cl + 5) (sl + 330)
  refine tl_istore C dL_law_453 (by decide) (by decide) rfl ?_
  show TL x bL 455 [(1, vR 0), (2, vR 200), (3, vR 300), (4, vR 301), (5, vI i), (6, vI k), (7, vI b)] [] h3 (cl + 5) (sl + 330)
  obtain ⟨fs3, h3o, hthr⟩ := JW.m hJ3
  refine tl_aload_n C 2 dL_law_455 rfl rfl ?_
  show TL x bL 456 [(1, vR 0), (2, vR 200), (3, vR 300), (4, vR 301), (5, vI i), (6, vI k), (7, vI b)] (([] : List PV).reverse ++ vR 200 :: []) h3 (cl + 5) (sl + 330)
  refine tl_callV C dL_law_456 [] (hthr (gx x)) h3o w_L_134 rfl (by decide) (by decide) (by omega) (by omega) (Nat.le_of_ble_eq_true rfl) (fun r h4 hq => ?_)
  obtain ⟨rfl, hq⟩ := hq
  subst h4
  show TL x bL 459 [(1, vR 0), (2, vR 200), (3, vR 300), (4, vR 301), (5, vI i), (6, vI k), (7, vI b)] [vI k] h3 (cl + 5) (sl + 330)
  refine tl_iload C dL_law_459 rfl ?_
  refine tl_icmp_eq C dL_law_461 (tgt := 466) (by decide) (fun _ => ?_) (fun c => absurd rfl c)
  refine tl_iload C dL_law_466 rfl ?_
  have fin : TL x bL 483 [(1, vR 0), (2, vR 200), (3, vR 300), (4, vR 301), (5, vI i), (6, vI k), (7, vI b)] [] h3 (cl + 5) (sl + 330) := tl_goto C dL_law_483 (tgt := 2432) (by decide) (tl_sub (fun q hq => List.mem_append_left [(6, vI k), (7, vI b)] hq) (kk h3 k hJ3))
  refine tl_if_ne C dL_law_468 (tgt := 483) (by decide) (fun _ => fin) (fun c0 => ?_)
  obtain ⟨f, hf, hf0⟩ := hout c0
  refine tl_aload_n C 3 dL_law_471 rfl rfl ?_
  refine tl_iconst C dL_law_472 (by decide) ?_
  refine tl_lald C dL_law_473 (k := 300) (n := 1) (f := f) (a := 0) hf (by decide) (by decide) ?_
  rw [hf0]
  refine tl_iload C dL_law_474 rfl ?_
  refine tl_i2l C dL_law_476 ?_
  refine tl_lcmp C dL_law_477 ?_
  exact tl_if_eq C dL_law_478 (tgt := 483) (by decide) (fun _ => fin) (fun c => absurd rfl c)
theorem lc_4  (C : Fr x ⟨RL, nm, ds⟩ cL_law 9 ret tb 10 603072 7190634) {L : Nat} {xs : Nat → Int32} (hX : Scr x bL L xs) {i : Int} (hi : 0 ≤ i ∧ i ≤ 10000) (hiL : i + 7 ≤ (L : Int)) {N k0 : Int} (hJ : JW N k0 h) (hN1 : N ≤ 999) (hcl : cl + 5 ≤ 603072) (hsl : sl + 330 ≤ 7190634) (kk : ∀ (h2 : HP) (k2 : Int), JW (N + 1) k2 h2 → TL x bL 2432 [(1, vR 0), (2, vR 200), (3, vR 300), (4, vR 301), (5, vI i)] [] h2 (cl + 5) (sl + 330)) : TL x bL 486 [(1, vR 0), (2, vR 200), (3, vR 300), (4, vR 301), (5, vI i)] [] h cl sl := by
  obtain ⟨k, d1, m1, s1, d2, Q, b1, b2, b3, b4, hc, hm⟩ := js_road (g := gx x) (p0 := (sx xs (i + 1))) (p1 := (sx xs (i + 2))) (p2 := (sx xs (i + 3))) (p3 := (if (sx xs (i + 4)) = 0 then 0 else 1)) (p4 := (if (sx xs (i + 5)) = 0 then 0 else 1)) hJ hN1 (bo01 _) (bo01 _)
  refine tl_aload_n C 1 dL_law_486 rfl rfl ?_
  refine tl_scr C hX (p1 := 491) (p2 := 0) (p3 := 0) (i := i) (n := 1) rfl hi ⟨by decide, by decide⟩ (by omega) (by decide) dL_law_487 dL_law_488 (.inl ⟨dL_law_490, rfl⟩) dL_law_491 dL_law_492 ?_
  refine tl_scr C hX (p1 := 497) (p2 := 0) (p3 := 0) (i := i) (n := 2) rfl hi ⟨by decide, by decide⟩ (by omega) (by decide) dL_law_493 dL_law_494 (.inl ⟨dL_law_496, rfl⟩) dL_law_497 dL_law_498 ?_
  refine tl_scr C hX (p1 := 503) (p2 := 0) (p3 := 0) (i := i) (n := 3) rfl hi ⟨by decide, by decide⟩ (by omega) (by decide) dL_law_499 dL_law_500 (.inl ⟨dL_law_502, rfl⟩) dL_law_503 dL_law_504 ?_
  refine tl_scr C hX (p1 := 509) (p2 := 0) (p3 := 0) (i := i) (n := 4) rfl hi ⟨by decide, by decide⟩ (by omega) (by decide) dL_law_505 dL_law_506 (.inl ⟨dL_law_508, rfl⟩) dL_law_509 dL_law_510 ?_
  refine tl_bool C (q1 := 518) (q2 := 519) dL_law_511 (by decide) dL_law_514 dL_law_515 (by decide) dL_law_518 rfl ?_
  refine tl_scr C hX (p1 := 523) (p2 := 0) (p3 := 0) (i := i) (n := 5) rfl hi ⟨by decide, by decide⟩ (by omega) (by decide) dL_law_519 dL_law_520 (.inl ⟨dL_law_522, rfl⟩) dL_law_523 dL_law_524 ?_
  refine tl_bool C (q1 := 532) (q2 := 533) dL_law_525 (by decide) dL_law_528 dL_law_529 (by decide) dL_law_532 rfl ?_
  refine tl_aload_n C 3 dL_law_533 rfl rfl ?_
  show TL x bL 534 [(1, vR 0), (2, vR 200), (3, vR 300), (4, vR 301), (5, vI i)] ([vR 0, vI (sx xs (i + 1)), vI (sx xs (i + 2)), vI (sx xs (i + 3)), vI (if (sx xs (i + 4)) = 0 then 0 else 1), vI (if (sx xs (i + 5)) = 0 then 0 else 1), vR 300].reverse ++ []) h cl sl
  refine tl_callSW C dL_law_534 [vR 0, vI (sx xs (i + 1)), vI (sx xs (i + 2)), vI (sx xs (i + 3)), vI (if (sx xs (i + 4)) = 0 then 0 else 1), vI (if (sx xs (i + 5)) = 0 then 0 else 1), vR 300] hc wl_149 rfl (by omega) (by decide) (by omega) (by omega) (Nat.le_of_ble_eq_true rfl) (fun r h1 hq => ?_)
  obtain ⟨rfl, hq⟩ := hq
  obtain ⟨⟨fs, h2⟩, hm⟩ := hm h1 hq
  show TL x bL 537 [(1, vR 0), (2, vR 200), (3, vR 300), (4, vR 301), (5, vI i)] [vI k] h1 (cl + m1) (sl + s1)
  refine tl_wide (cl' := cl + 5) (sl' := sl + 330) (by omega) (by omega) ?_
  refine tl_istore C dL_law_537 (by decide) (by decide) rfl ?_
  show TL x bL 539 [(1, vR 0), (2, vR 200), (3, vR 300), (4, vR 301), (5, vI i), (6, vI k)] [] h1 (cl + 5) (sl + 330)
  refine tl_aload_n C 2 dL_law_539 rfl rfl ?_
  refine tl_scr C hX (p1 := 544) (p2 := 0) (p3 := 0) (i := i) (n := 1) rfl hi ⟨by decide, by decide⟩ (by omega) (by decide) dL_law_540 dL_law_541 (.inl ⟨dL_law_543, rfl⟩) dL_law_544 dL_law_545 ?_
  refine tl_scr C hX (p1 := 550) (p2 := 0) (p3 := 0) (i := i) (n := 2) rfl hi ⟨by decide, by decide⟩ (by omega) (by decide) dL_law_546 dL_law_547 (.inl ⟨dL_law_549, rfl⟩) dL_law_550 dL_law_551 ?_
  refine tl_scr C hX (p1 := 556) (p2 := 0) (p3 := 0) (i := i) (n := 3) rfl hi ⟨by decide, by decide⟩ (by omega) (by decide) dL_law_552 dL_law_553 (.inl ⟨dL_law_555, rfl⟩) dL_law_556 dL_law_557 ?_
  refine tl_scr C hX (p1 := 562) (p2 := 0) (p3 := 0) (i := i) (n := 4) rfl hi ⟨by decide, by decide⟩ (by omega) (by decide) dL_law_558 dL_law_559 (.inl ⟨dL_law_561, rfl⟩) dL_law_562 dL_law_563 ?_
  refine tl_bool C (q1 := 571) (q2 := 572) dL_law_564 (by decide) dL_law_567 dL_law_568 (by decide) dL_law_571 rfl ?_
  refine tl_scr C hX (p1 := 576) (p2 := 0) (p3 := 0) (i := i) (n := 5) rfl hi ⟨by decide, by decide⟩ (by omega) (by decide) dL_law_572 dL_law_573 (.inl ⟨dL_law_575, rfl⟩) dL_law_576 dL_law_577 ?_
  refine tl_bool C (q1 := 585) (q2 := 586) dL_law_578 (by decide) dL_law_581 dL_law_582 (by decide) dL_law_585 rfl ?_
  show TL x bL 586 [(1, vR 0), (2, vR 200), (3, vR 300), (4, vR 301), (5, vI i), (6, vI k)] ([vI (sx xs (i + 1)), vI (sx xs (i + 2)), vI (sx xs (i + 3)), vI (if (sx xs (i + 4)) = 0 then 0 else 1), vI (if (sx xs (i + 5)) = 0 then 0 else 1)].reverse ++ vR 200 :: []) h1 (cl + 5) (sl + 330)
  refine tl_callV C dL_law_586 [vI (sx xs (i + 1)), vI (sx xs (i + 2)), vI (sx xs (i + 3)), vI (if (sx xs (i + 4)) = 0 then 0 else 1), vI (if (sx xs (i + 5)) = 0 then 0 else 1)] hm h2 w_L_152 rfl (by omega) (by decide) (by omega) (by omega) (Nat.le_of_ble_eq_true rfl) (fun r h3 hq => ?_)
  obtain ⟨b, rfl, hout, hJ3⟩ := hq
  show TL x bL 589 [(1, vR 0), (2, vR 200), (3, vR 300), (4, vR 301), (5, vI i), (6, vI k)] [vI b] h3 (cl + 5) (sl + 330)
  refine tl_istore C dL_law_589 (by decide) (by decide) rfl ?_
  show TL x bL 591 [(1, vR 0), (2, vR 200), (3, vR 300), (4, vR 301), (5, vI i), (6, vI k), (7, vI b)] [] h3 (cl + 5) (sl + 330)
  obtain ⟨fs3, h3o, hthr⟩ := JW.m hJ3
  refine tl_aload_n C 2 dL_law_591 rfl rfl ?_
  show TL x bL 592 [(1, vR 0), (2, vR 200), (3, vR 300), (4, vR 301), (5, vI i), (6, vI k), (7, vI b)] (([] : List PV).reverse ++ vR 200 :: []) h3 (cl + 5) (sl + 330)
  refine tl_callV C dL_law_592 [] (hthr (gx x)) h3o w_L_134 rfl (by decide) (by decide) (by omega) (by omega) (Nat.le_of_ble_eq_true rfl) (fun r h4 hq => ?_)
  obtain ⟨rfl, hq⟩ := hq
  subst h4
  show TL x bL 595 [(1, vR 0), (2, vR 200), (3, vR 300), (4, vR 301), (5, vI i), (6, vI k), (7, vI b)] [vI k] h3 (cl + 5) (sl + 330)
  refine tl_iload C dL_law_595 rfl ?_
  refine tl_icmp_eq C dL_law_597 (tgt := 602) (by decide) (fun _ => ?_) (fun c => absurd rfl c)
  refine tl_iload C dL_law_602 rfl ?_
  have fin : TL x bL 619 [(1, vR 0), (2, vR 200), (3, vR 300), (4, vR 301), (5, vI i), (6, vI k), (7, vI b)] [] h3 (cl + 5) (sl + 330) := tl_goto C dL_law_619 (tgt := 2432) (by decide) (tl_sub (fun q hq => List.mem_append_left [(6, vI k), (7, vI b)] hq) (kk h3 k hJ3))
  refine tl_if_ne C dL_law_604 (tgt := 619) (by decide) (fun _ => fin) (fun c0 => ?_)
  obtain ⟨f, hf, hf0⟩ := hout c0
  refine tl_aload_n C 3 dL_law_607 rfl rfl ?_
  refine tl_iconst C dL_law_608 (by decide) ?_
  refine tl_lald C dL_law_609 (k := 300) (n := 1) (f := f) (a := 0) hf (by decide) (by decide) ?_
  rw [hf0]
  refine tl_iload C dL_law_610 rfl ?_
  refine tl_i2l C dL_law_612 ?_
  refine tl_lcmp C dL_law_613 ?_
  exact tl_if_eq C dL_law_614 (tgt := 619) (by decide) (fun _ => fin) (fun c => absurd rfl c)
theorem lc_5  (C : Fr x ⟨RL, nm, ds⟩ cL_law 9 ret tb 10 603072 7190634) {L : Nat} {xs : Nat → Int32} (hX : Scr x bL L xs) {i : Int} (hi : 0 ≤ i ∧ i ≤ 10000) (hiL : i + 7 ≤ (L : Int)) {N k0 : Int} (hJ : JW N k0 h) (hN1 : N ≤ 999) (hcl : cl + 5 ≤ 603072) (hsl : sl + 330 ≤ 7190634) (kk : ∀ (h2 : HP) (k2 : Int), JW (N + 1) k2 h2 → TL x bL 2432 [(1, vR 0), (2, vR 200), (3, vR 300), (4, vR 301), (5, vI i)] [] h2 (cl + 5) (sl + 330)) : TL x bL 622 [(1, vR 0), (2, vR 200), (3, vR 300), (4, vR 301), (5, vI i)] [] h cl sl := by
  obtain ⟨k, d1, m1, s1, d2, Q, b1, b2, b3, b4, hc, hm⟩ := js_seen (g := gx x) (p0 := (sx xs (i + 1))) (p1 := (sx xs (i + 2))) hJ hN1
  refine tl_aload_n C 1 dL_law_622 rfl rfl ?_
  refine tl_scr C hX (p1 := 627) (p2 := 0) (p3 := 0) (i := i) (n := 1) rfl hi ⟨by decide, by decide⟩ (by omega) (by decide) dL_law_623 dL_law_624 (.inl ⟨dL_law_626, rfl⟩) dL_law_627 dL_law_628 ?_
  refine tl_scr C hX (p1 := 633) (p2 := 0) (p3 := 0) (i := i) (n := 2) rfl hi ⟨by decide, by decide⟩ (by omega) (by decide) dL_law_629 dL_law_630 (.inl ⟨dL_law_632, rfl⟩) dL_law_633 dL_law_634 ?_
  refine tl_aload_n C 3 dL_law_635 rfl rfl ?_
  show TL x bL 636 [(1, vR 0), (2, vR 200), (3, vR 300), (4, vR 301), (5, vI i)] ([vR 0, vI (sx xs (i + 1)), vI (sx xs (i + 2)), vR 300].reverse ++ []) h cl sl
  refine tl_callSW C dL_law_636 [vR 0, vI (sx xs (i + 1)), vI (sx xs (i + 2)), vR 300] hc wl_153 rfl (by omega) (by decide) (by omega) (by omega) (Nat.le_of_ble_eq_true rfl) (fun r h1 hq => ?_)
  obtain ⟨rfl, hq⟩ := hq
  obtain ⟨⟨fs, h2⟩, hm⟩ := hm h1 hq
  show TL x bL 639 [(1, vR 0), (2, vR 200), (3, vR 300), (4, vR 301), (5, vI i)] [vI k] h1 (cl + m1) (sl + s1)
  refine tl_wide (cl' := cl + 5) (sl' := sl + 330) (by omega) (by omega) ?_
  refine tl_istore C dL_law_639 (by decide) (by decide) rfl ?_
  show TL x bL 641 [(1, vR 0), (2, vR 200), (3, vR 300), (4, vR 301), (5, vI i), (6, vI k)] [] h1 (cl + 5) (sl + 330)
  refine tl_aload_n C 2 dL_law_641 rfl rfl ?_
  refine tl_scr C hX (p1 := 646) (p2 := 0) (p3 := 0) (i := i) (n := 1) rfl hi ⟨by decide, by decide⟩ (by omega) (by decide) dL_law_642 dL_law_643 (.inl ⟨dL_law_645, rfl⟩) dL_law_646 dL_law_647 ?_
  refine tl_scr C hX (p1 := 652) (p2 := 0) (p3 := 0) (i := i) (n := 2) rfl hi ⟨by decide, by decide⟩ (by omega) (by decide) dL_law_648 dL_law_649 (.inl ⟨dL_law_651, rfl⟩) dL_law_652 dL_law_653 ?_
  show TL x bL 654 [(1, vR 0), (2, vR 200), (3, vR 300), (4, vR 301), (5, vI i), (6, vI k)] ([vI (sx xs (i + 1)), vI (sx xs (i + 2))].reverse ++ vR 200 :: []) h1 (cl + 5) (sl + 330)
  refine tl_callV C dL_law_654 [vI (sx xs (i + 1)), vI (sx xs (i + 2))] hm h2 w_L_156 rfl (by omega) (by decide) (by omega) (by omega) (Nat.le_of_ble_eq_true rfl) (fun r h3 hq => ?_)
  obtain ⟨b, rfl, hout, hJ3⟩ := hq
  show TL x bL 657 [(1, vR 0), (2, vR 200), (3, vR 300), (4, vR 301), (5, vI i), (6, vI k)] [vI b] h3 (cl + 5) (sl + 330)
  refine tl_istore C dL_law_657 (by decide) (by decide) rfl ?_
  show TL x bL 659 [(1, vR 0), (2, vR 200), (3, vR 300), (4, vR 301), (5, vI i), (6, vI k), (7, vI b)] [] h3 (cl + 5) (sl + 330)
  obtain ⟨fs3, h3o, hthr⟩ := JW.m hJ3
  refine tl_aload_n C 2 dL_law_659 rfl rfl ?_
  show TL x bL 660 [(1, vR 0), (2, vR 200), (3, vR 300), (4, vR 301), (5, vI i), (6, vI k), (7, vI b)] (([] : List PV).reverse ++ vR 200 :: []) h3 (cl + 5) (sl + 330)
  refine tl_callV C dL_law_660 [] (hthr (gx x)) h3o w_L_134 rfl (by decide) (by decide) (by omega) (by omega) (Nat.le_of_ble_eq_true rfl) (fun r h4 hq => ?_)
  obtain ⟨rfl, hq⟩ := hq
  subst h4
  show TL x bL 663 [(1, vR 0), (2, vR 200), (3, vR 300), (4, vR 301), (5, vI i), (6, vI k), (7, vI b)] [vI k] h3 (cl + 5) (sl + 330)
  refine tl_iload C dL_law_663 rfl ?_
  refine tl_icmp_eq C dL_law_665 (tgt := 670) (by decide) (fun _ => ?_) (fun c => absurd rfl c)
  refine tl_iload C dL_law_670 rfl ?_
  have fin : TL x bL 687 [(1, vR 0), (2, vR 200), (3, vR 300), (4, vR 301), (5, vI i), (6, vI k), (7, vI b)] [] h3 (cl + 5) (sl + 330) := tl_goto C dL_law_687 (tgt := 2432) (by decide) (tl_sub (fun q hq => List.mem_append_left [(6, vI k), (7, vI b)] hq) (kk h3 k hJ3))
  refine tl_if_ne C dL_law_672 (tgt := 687) (by decide) (fun _ => fin) (fun c0 => ?_)
  obtain ⟨f, hf, hf0⟩ := hout c0
  refine tl_aload_n C 3 dL_law_675 rfl rfl ?_
  refine tl_iconst C dL_law_676 (by decide) ?_
  refine tl_lald C dL_law_677 (k := 300) (n := 1) (f := f) (a := 0) hf (by decide) (by decide) ?_
  rw [hf0]
  refine tl_iload C dL_law_678 rfl ?_
  refine tl_i2l C dL_law_680 ?_
  refine tl_lcmp C dL_law_681 ?_
  exact tl_if_eq C dL_law_682 (tgt := 687) (by decide) (fun _ => fin) (fun c => absurd rfl c)
theorem lc_6  (C : Fr x ⟨RL, nm, ds⟩ cL_law 9 ret tb 10 603072 7190634) {L : Nat} {xs : Nat → Int32} (hX : Scr x bL L xs) {i : Int} (hi : 0 ≤ i ∧ i ≤ 10000) (hiL : i + 7 ≤ (L : Int)) {N k0 : Int} (hJ : JW N k0 h) (hN1 : N ≤ 999) (hcl : cl + 5 ≤ 603072) (hsl : sl + 330 ≤ 7190634) (kk : ∀ (h2 : HP) (k2 : Int), JW (N + 1) k2 h2 → TL x bL 2432 [(1, vR 0), (2, vR 200), (3, vR 300), (4, vR 301), (5, vI i)] [] h2 (cl + 5) (sl + 330)) : TL x bL 690 [(1, vR 0), (2, vR 200), (3, vR 300), (4, vR 301), (5, vI i)] [] h cl sl := by
  obtain ⟨k, d1, m1, s1, d2, Q, b1, b2, b3, b4, hc, hm⟩ := js_edits (g := gx x) (p0 := (sx xs (i + 1))) hJ hN1
  refine tl_aload_n C 1 dL_law_690 rfl rfl ?_
  refine tl_scr C hX (p1 := 695) (p2 := 0) (p3 := 0) (i := i) (n := 1) rfl hi ⟨by decide, by decide⟩ (by omega) (by decide) dL_law_691 dL_law_692 (.inl ⟨dL_law_694, rfl⟩) dL_law_695 dL_law_696 ?_
  refine tl_aload_n C 3 dL_law_697 rfl rfl ?_
  show TL x bL 698 [(1, vR 0), (2, vR 200), (3, vR 300), (4, vR 301), (5, vI i)] ([vR 0, vI (sx xs (i + 1)), vR 300].reverse ++ []) h cl sl
  refine tl_callSW C dL_law_698 [vR 0, vI (sx xs (i + 1)), vR 300] hc wl_157 rfl (by omega) (by decide) (by omega) (by omega) (Nat.le_of_ble_eq_true rfl) (fun r h1 hq => ?_)
  obtain ⟨rfl, hq⟩ := hq
  obtain ⟨⟨fs, h2⟩, hm⟩ := hm h1 hq
  show TL x bL 701 [(1, vR 0), (2, vR 200), (3, vR 300), (4, vR 301), (5, vI i)] [vI k] h1 (cl + m1) (sl + s1)
  refine tl_wide (cl' := cl + 5) (sl' := sl + 330) (by omega) (by omega) ?_
  refine tl_istore C dL_law_701 (by decide) (by decide) rfl ?_
  show TL x bL 703 [(1, vR 0), (2, vR 200), (3, vR 300), (4, vR 301), (5, vI i), (6, vI k)] [] h1 (cl + 5) (sl + 330)
  refine tl_aload_n C 2 dL_law_703 rfl rfl ?_
  refine tl_scr C hX (p1 := 708) (p2 := 0) (p3 := 0) (i := i) (n := 1) rfl hi ⟨by decide, by decide⟩ (by omega) (by decide) dL_law_704 dL_law_705 (.inl ⟨dL_law_707, rfl⟩) dL_law_708 dL_law_709 ?_
  show TL x bL 710 [(1, vR 0), (2, vR 200), (3, vR 300), (4, vR 301), (5, vI i), (6, vI k)] ([vI (sx xs (i + 1))].reverse ++ vR 200 :: []) h1 (cl + 5) (sl + 330)
  refine tl_callV C dL_law_710 [vI (sx xs (i + 1))] hm h2 w_L_159 rfl (by omega) (by decide) (by omega) (by omega) (Nat.le_of_ble_eq_true rfl) (fun r h3 hq => ?_)
  obtain ⟨b, rfl, hout, hJ3⟩ := hq
  show TL x bL 713 [(1, vR 0), (2, vR 200), (3, vR 300), (4, vR 301), (5, vI i), (6, vI k)] [vI b] h3 (cl + 5) (sl + 330)
  refine tl_istore C dL_law_713 (by decide) (by decide) rfl ?_
  show TL x bL 715 [(1, vR 0), (2, vR 200), (3, vR 300), (4, vR 301), (5, vI i), (6, vI k), (7, vI b)] [] h3 (cl + 5) (sl + 330)
  obtain ⟨fs3, h3o, hthr⟩ := JW.m hJ3
  refine tl_aload_n C 2 dL_law_715 rfl rfl ?_
  show TL x bL 716 [(1, vR 0), (2, vR 200), (3, vR 300), (4, vR 301), (5, vI i), (6, vI k), (7, vI b)] (([] : List PV).reverse ++ vR 200 :: []) h3 (cl + 5) (sl + 330)
  refine tl_callV C dL_law_716 [] (hthr (gx x)) h3o w_L_134 rfl (by decide) (by decide) (by omega) (by omega) (Nat.le_of_ble_eq_true rfl) (fun r h4 hq => ?_)
  obtain ⟨rfl, hq⟩ := hq
  subst h4
  show TL x bL 719 [(1, vR 0), (2, vR 200), (3, vR 300), (4, vR 301), (5, vI i), (6, vI k), (7, vI b)] [vI k] h3 (cl + 5) (sl + 330)
  refine tl_iload C dL_law_719 rfl ?_
  refine tl_icmp_eq C dL_law_721 (tgt := 726) (by decide) (fun _ => ?_) (fun c => absurd rfl c)
  refine tl_iload C dL_law_726 rfl ?_
  have fin : TL x bL 743 [(1, vR 0), (2, vR 200), (3, vR 300), (4, vR 301), (5, vI i), (6, vI k), (7, vI b)] [] h3 (cl + 5) (sl + 330) := tl_goto C dL_law_743 (tgt := 2432) (by decide) (tl_sub (fun q hq => List.mem_append_left [(6, vI k), (7, vI b)] hq) (kk h3 k hJ3))
  refine tl_if_ne C dL_law_728 (tgt := 743) (by decide) (fun _ => fin) (fun c0 => ?_)
  obtain ⟨f, hf, hf0⟩ := hout c0
  refine tl_aload_n C 3 dL_law_731 rfl rfl ?_
  refine tl_iconst C dL_law_732 (by decide) ?_
  refine tl_lald C dL_law_733 (k := 300) (n := 1) (f := f) (a := 0) hf (by decide) (by decide) ?_
  rw [hf0]
  refine tl_iload C dL_law_734 rfl ?_
  refine tl_i2l C dL_law_736 ?_
  refine tl_lcmp C dL_law_737 ?_
  exact tl_if_eq C dL_law_738 (tgt := 743) (by decide) (fun _ => fin) (fun c => absurd rfl c)
theorem lc_7  (C : Fr x ⟨RL, nm, ds⟩ cL_law 9 ret tb 10 603072 7190634) {L : Nat} {xs : Nat → Int32} (hX : Scr x bL L xs) {i : Int} (hi : 0 ≤ i ∧ i ≤ 10000) (hiL : i + 7 ≤ (L : Int)) {N k0 : Int} (hJ : JW N k0 h) (hN1 : N ≤ 999) (hcl : cl + 5 ≤ 603072) (hsl : sl + 330 ≤ 7190634) (kk : ∀ (h2 : HP) (k2 : Int), JW (N + 1) k2 h2 → TL x bL 2432 [(1, vR 0), (2, vR 200), (3, vR 300), (4, vR 301), (5, vI i)] [] h2 (cl + 5) (sl + 330)) : TL x bL 746 [(1, vR 0), (2, vR 200), (3, vR 300), (4, vR 301), (5, vI i)] [] h cl sl := by
  obtain ⟨k, d1, m1, s1, d2, Q, b1, b2, b3, b4, hc, hm⟩ := js_conflicts (g := gx x) (p0 := (sx xs (i + 1))) hJ hN1
  refine tl_aload_n C 1 dL_law_746 rfl rfl ?_
  refine tl_scr C hX (p1 := 751) (p2 := 0) (p3 := 0) (i := i) (n := 1) rfl hi ⟨by decide, by decide⟩ (by omega) (by decide) dL_law_747 dL_law_748 (.inl ⟨dL_law_750, rfl⟩) dL_law_751 dL_law_752 ?_
  refine tl_aload_n C 3 dL_law_753 rfl rfl ?_
  show TL x bL 754 [(1, vR 0), (2, vR 200), (3, vR 300), (4, vR 301), (5, vI i)] ([vR 0, vI (sx xs (i + 1)), vR 300].reverse ++ []) h cl sl
  refine tl_callSW C dL_law_754 [vR 0, vI (sx xs (i + 1)), vR 300] hc wl_160 rfl (by omega) (by decide) (by omega) (by omega) (Nat.le_of_ble_eq_true rfl) (fun r h1 hq => ?_)
  obtain ⟨rfl, hq⟩ := hq
  obtain ⟨⟨fs, h2⟩, hm⟩ := hm h1 hq
  show TL x bL 757 [(1, vR 0), (2, vR 200), (3, vR 300), (4, vR 301), (5, vI i)] [vI k] h1 (cl + m1) (sl + s1)
  refine tl_wide (cl' := cl + 5) (sl' := sl + 330) (by omega) (by omega) ?_
  refine tl_istore C dL_law_757 (by decide) (by decide) rfl ?_
  show TL x bL 759 [(1, vR 0), (2, vR 200), (3, vR 300), (4, vR 301), (5, vI i), (6, vI k)] [] h1 (cl + 5) (sl + 330)
  refine tl_aload_n C 2 dL_law_759 rfl rfl ?_
  refine tl_scr C hX (p1 := 764) (p2 := 0) (p3 := 0) (i := i) (n := 1) rfl hi ⟨by decide, by decide⟩ (by omega) (by decide) dL_law_760 dL_law_761 (.inl ⟨dL_law_763, rfl⟩) dL_law_764 dL_law_765 ?_
  show TL x bL 766 [(1, vR 0), (2, vR 200), (3, vR 300), (4, vR 301), (5, vI i), (6, vI k)] ([vI (sx xs (i + 1))].reverse ++ vR 200 :: []) h1 (cl + 5) (sl + 330)
  refine tl_callV C dL_law_766 [vI (sx xs (i + 1))] hm h2 w_L_162 rfl (by omega) (by decide) (by omega) (by omega) (Nat.le_of_ble_eq_true rfl) (fun r h3 hq => ?_)
  obtain ⟨b, rfl, hout, hJ3⟩ := hq
  show TL x bL 769 [(1, vR 0), (2, vR 200), (3, vR 300), (4, vR 301), (5, vI i), (6, vI k)] [vI b] h3 (cl + 5) (sl + 330)
  refine tl_istore C dL_law_769 (by decide) (by decide) rfl ?_
  show TL x bL 771 [(1, vR 0), (2, vR 200), (3, vR 300), (4, vR 301), (5, vI i), (6, vI k), (7, vI b)] [] h3 (cl + 5) (sl + 330)
  obtain ⟨fs3, h3o, hthr⟩ := JW.m hJ3
  refine tl_aload_n C 2 dL_law_771 rfl rfl ?_
  show TL x bL 772 [(1, vR 0), (2, vR 200), (3, vR 300), (4, vR 301), (5, vI i), (6, vI k), (7, vI b)] (([] : List PV).reverse ++ vR 200 :: []) h3 (cl + 5) (sl + 330)
  refine tl_callV C dL_law_772 [] (hthr (gx x)) h3o w_L_134 rfl (by decide) (by decide) (by omega) (by omega) (Nat.le_of_ble_eq_true rfl) (fun r h4 hq => ?_)
  obtain ⟨rfl, hq⟩ := hq
  subst h4
  show TL x bL 775 [(1, vR 0), (2, vR 200), (3, vR 300), (4, vR 301), (5, vI i), (6, vI k), (7, vI b)] [vI k] h3 (cl + 5) (sl + 330)
  refine tl_iload C dL_law_775 rfl ?_
  refine tl_icmp_eq C dL_law_777 (tgt := 782) (by decide) (fun _ => ?_) (fun c => absurd rfl c)
  refine tl_iload C dL_law_782 rfl ?_
  have fin : TL x bL 799 [(1, vR 0), (2, vR 200), (3, vR 300), (4, vR 301), (5, vI i), (6, vI k), (7, vI b)] [] h3 (cl + 5) (sl + 330) := tl_goto C dL_law_799 (tgt := 2432) (by decide) (tl_sub (fun q hq => List.mem_append_left [(6, vI k), (7, vI b)] hq) (kk h3 k hJ3))
  refine tl_if_ne C dL_law_784 (tgt := 799) (by decide) (fun _ => fin) (fun c0 => ?_)
  obtain ⟨f, hf, hf0⟩ := hout c0
  refine tl_aload_n C 3 dL_law_787 rfl rfl ?_
  refine tl_iconst C dL_law_788 (by decide) ?_
  refine tl_lald C dL_law_789 (k := 300) (n := 1) (f := f) (a := 0) hf (by decide) (by decide) ?_
  rw [hf0]
  refine tl_iload C dL_law_790 rfl ?_
  refine tl_i2l C dL_law_792 ?_
  refine tl_lcmp C dL_law_793 ?_
  exact tl_if_eq C dL_law_794 (tgt := 799) (by decide) (fun _ => fin) (fun c => absurd rfl c)
theorem lc_8  (C : Fr x ⟨RL, nm, ds⟩ cL_law 9 ret tb 10 603072 7190634) {L : Nat} {xs : Nat → Int32} (hX : Scr x bL L xs) {i : Int} (hi : 0 ≤ i ∧ i ≤ 10000) (hiL : i + 7 ≤ (L : Int)) {N k0 : Int} (hJ : JW N k0 h) (hN1 : N ≤ 999) (hcl : cl + 5 ≤ 603072) (hsl : sl + 330 ≤ 7190634) (kk : ∀ (h2 : HP) (k2 : Int), JW (N + 1) k2 h2 → TL x bL 2432 [(1, vR 0), (2, vR 200), (3, vR 300), (4, vR 301), (5, vI i)] [] h2 (cl + 5) (sl + 330)) : TL x bL 802 [(1, vR 0), (2, vR 200), (3, vR 300), (4, vR 301), (5, vI i)] [] h cl sl := by
  obtain ⟨k, d1, m1, s1, d2, Q, b1, b2, b3, b4, hc, hm⟩ := js_conflict (g := gx x) (p0 := (sx xs (i + 1))) (p1 := (sx xs (i + 2))) hJ hN1
  refine tl_aload_n C 1 dL_law_802 rfl rfl ?_
  refine tl_scr C hX (p1 := 807) (p2 := 0) (p3 := 0) (i := i) (n := 1) rfl hi ⟨by decide, by decide⟩ (by omega) (by decide) dL_law_803 dL_law_804 (.inl ⟨dL_law_806, rfl⟩) dL_law_807 dL_law_808 ?_
  refine tl_scr C hX (p1 := 813) (p2 := 0) (p3 := 0) (i := i) (n := 2) rfl hi ⟨by decide, by decide⟩ (by omega) (by decide) dL_law_809 dL_law_810 (.inl ⟨dL_law_812, rfl⟩) dL_law_813 dL_law_814 ?_
  refine tl_aload_n C 3 dL_law_815 rfl rfl ?_
  show TL x bL 816 [(1, vR 0), (2, vR 200), (3, vR 300), (4, vR 301), (5, vI i)] ([vR 0, vI (sx xs (i + 1)), vI (sx xs (i + 2)), vR 300].reverse ++ []) h cl sl
  refine tl_callSW C dL_law_816 [vR 0, vI (sx xs (i + 1)), vI (sx xs (i + 2)), vR 300] hc wl_163 rfl (by omega) (by decide) (by omega) (by omega) (Nat.le_of_ble_eq_true rfl) (fun r h1 hq => ?_)
  obtain ⟨rfl, hq⟩ := hq
  obtain ⟨⟨fs, h2⟩, hm⟩ := hm h1 hq
  show TL x bL 819 [(1, vR 0), (2, vR 200), (3, vR 300), (4, vR 301), (5, vI i)] [vI k] h1 (cl + m1) (sl + s1)
  refine tl_wide (cl' := cl + 5) (sl' := sl + 330) (by omega) (by omega) ?_
  refine tl_istore C dL_law_819 (by decide) (by decide) rfl ?_
  show TL x bL 821 [(1, vR 0), (2, vR 200), (3, vR 300), (4, vR 301), (5, vI i), (6, vI k)] [] h1 (cl + 5) (sl + 330)
  refine tl_aload_n C 2 dL_law_821 rfl rfl ?_
  refine tl_scr C hX (p1 := 826) (p2 := 0) (p3 := 0) (i := i) (n := 1) rfl hi ⟨by decide, by decide⟩ (by omega) (by decide) dL_law_822 dL_law_823 (.inl ⟨dL_law_825, rfl⟩) dL_law_826 dL_law_827 ?_
  refine tl_scr C hX (p1 := 832) (p2 := 0) (p3 := 0) (i := i) (n := 2) rfl hi ⟨by decide, by decide⟩ (by omega) (by decide) dL_law_828 dL_law_829 (.inl ⟨dL_law_831, rfl⟩) dL_law_832 dL_law_833 ?_
  show TL x bL 834 [(1, vR 0), (2, vR 200), (3, vR 300), (4, vR 301), (5, vI i), (6, vI k)] ([vI (sx xs (i + 1)), vI (sx xs (i + 2))].reverse ++ vR 200 :: []) h1 (cl + 5) (sl + 330)
  refine tl_callV C dL_law_834 [vI (sx xs (i + 1)), vI (sx xs (i + 2))] hm h2 w_L_165 rfl (by omega) (by decide) (by omega) (by omega) (Nat.le_of_ble_eq_true rfl) (fun r h3 hq => ?_)
  obtain ⟨b, rfl, hout, hJ3⟩ := hq
  show TL x bL 837 [(1, vR 0), (2, vR 200), (3, vR 300), (4, vR 301), (5, vI i), (6, vI k)] [vI b] h3 (cl + 5) (sl + 330)
  refine tl_istore C dL_law_837 (by decide) (by decide) rfl ?_
  show TL x bL 839 [(1, vR 0), (2, vR 200), (3, vR 300), (4, vR 301), (5, vI i), (6, vI k), (7, vI b)] [] h3 (cl + 5) (sl + 330)
  obtain ⟨fs3, h3o, hthr⟩ := JW.m hJ3
  refine tl_aload_n C 2 dL_law_839 rfl rfl ?_
  show TL x bL 840 [(1, vR 0), (2, vR 200), (3, vR 300), (4, vR 301), (5, vI i), (6, vI k), (7, vI b)] (([] : List PV).reverse ++ vR 200 :: []) h3 (cl + 5) (sl + 330)
  refine tl_callV C dL_law_840 [] (hthr (gx x)) h3o w_L_134 rfl (by decide) (by decide) (by omega) (by omega) (Nat.le_of_ble_eq_true rfl) (fun r h4 hq => ?_)
  obtain ⟨rfl, hq⟩ := hq
  subst h4
  show TL x bL 843 [(1, vR 0), (2, vR 200), (3, vR 300), (4, vR 301), (5, vI i), (6, vI k), (7, vI b)] [vI k] h3 (cl + 5) (sl + 330)
  refine tl_iload C dL_law_843 rfl ?_
  refine tl_icmp_eq C dL_law_845 (tgt := 850) (by decide) (fun _ => ?_) (fun c => absurd rfl c)
  refine tl_iload C dL_law_850 rfl ?_
  have fin : TL x bL 867 [(1, vR 0), (2, vR 200), (3, vR 300), (4, vR 301), (5, vI i), (6, vI k), (7, vI b)] [] h3 (cl + 5) (sl + 330) := tl_goto C dL_law_867 (tgt := 2432) (by decide) (tl_sub (fun q hq => List.mem_append_left [(6, vI k), (7, vI b)] hq) (kk h3 k hJ3))
  refine tl_if_ne C dL_law_852 (tgt := 867) (by decide) (fun _ => fin) (fun c0 => ?_)
  obtain ⟨f, hf, hf0⟩ := hout c0
  refine tl_aload_n C 3 dL_law_855 rfl rfl ?_
  refine tl_iconst C dL_law_856 (by decide) ?_
  refine tl_lald C dL_law_857 (k := 300) (n := 1) (f := f) (a := 0) hf (by decide) (by decide) ?_
  rw [hf0]
  refine tl_iload C dL_law_858 rfl ?_
  refine tl_i2l C dL_law_860 ?_
  refine tl_lcmp C dL_law_861 ?_
  exact tl_if_eq C dL_law_862 (tgt := 867) (by decide) (fun _ => fin) (fun c => absurd rfl c)
theorem lc_9  (C : Fr x ⟨RL, nm, ds⟩ cL_law 9 ret tb 10 603072 7190634) {L : Nat} {xs : Nat → Int32} (hX : Scr x bL L xs) {i : Int} (hi : 0 ≤ i ∧ i ≤ 10000) (hiL : i + 7 ≤ (L : Int)) {N k0 : Int} (hJ : JW N k0 h) (hN1 : N ≤ 999) (hcl : cl + 5 ≤ 603072) (hsl : sl + 330 ≤ 7190634) (kk : ∀ (h2 : HP) (k2 : Int), JW (N + 1) k2 h2 → TL x bL 2432 [(1, vR 0), (2, vR 200), (3, vR 300), (4, vR 301), (5, vI i)] [] h2 (cl + 5) (sl + 330)) : TL x bL 870 [(1, vR 0), (2, vR 200), (3, vR 300), (4, vR 301), (5, vI i)] [] h cl sl := by
  obtain ⟨k, d1, m1, s1, d2, Q, b1, b2, b3, b4, hc, hm⟩ := js_settle (g := gx x) (p0 := (sx xs (i + 1))) (p1 := (sx xs (i + 2))) (p2 := (if (sx xs (i + 3)) = 0 then 0 else 1)) hJ hN1
  refine tl_aload_n C 1 dL_law_870 rfl rfl ?_
  refine tl_scr C hX (p1 := 875) (p2 := 0) (p3 := 0) (i := i) (n := 1) rfl hi ⟨by decide, by decide⟩ (by omega) (by decide) dL_law_871 dL_law_872 (.inl ⟨dL_law_874, rfl⟩) dL_law_875 dL_law_876 ?_
  refine tl_scr C hX (p1 := 881) (p2 := 0) (p3 := 0) (i := i) (n := 2) rfl hi ⟨by decide, by decide⟩ (by omega) (by decide) dL_law_877 dL_law_878 (.inl ⟨dL_law_880, rfl⟩) dL_law_881 dL_law_882 ?_
  refine tl_scr C hX (p1 := 887) (p2 := 0) (p3 := 0) (i := i) (n := 3) rfl hi ⟨by decide, by decide⟩ (by omega) (by decide) dL_law_883 dL_law_884 (.inl ⟨dL_law_886, rfl⟩) dL_law_887 dL_law_888 ?_
  refine tl_bool C (q1 := 896) (q2 := 897) dL_law_889 (by decide) dL_law_892 dL_law_893 (by decide) dL_law_896 rfl ?_
  refine tl_aload_n C 3 dL_law_897 rfl rfl ?_
  show TL x bL 898 [(1, vR 0), (2, vR 200), (3, vR 300), (4, vR 301), (5, vI i)] ([vR 0, vI (sx xs (i + 1)), vI (sx xs (i + 2)), vI (if (sx xs (i + 3)) = 0 then 0 else 1), vR 300].reverse ++ []) h cl sl
  refine tl_callSW C dL_law_898 [vR 0, vI (sx xs (i + 1)), vI (sx xs (i + 2)), vI (if (sx xs (i + 3)) = 0 then 0 else 1), vR 300] hc wl_166 rfl (by omega) (by decide) (by omega) (by omega) (Nat.le_of_ble_eq_true rfl) (fun r h1 hq => ?_)
  obtain ⟨rfl, hq⟩ := hq
  obtain ⟨⟨fs, h2⟩, hm⟩ := hm h1 hq
  show TL x bL 901 [(1, vR 0), (2, vR 200), (3, vR 300), (4, vR 301), (5, vI i)] [vI k] h1 (cl + m1) (sl + s1)
  refine tl_wide (cl' := cl + 5) (sl' := sl + 330) (by omega) (by omega) ?_
  refine tl_istore C dL_law_901 (by decide) (by decide) rfl ?_
  show TL x bL 903 [(1, vR 0), (2, vR 200), (3, vR 300), (4, vR 301), (5, vI i), (6, vI k)] [] h1 (cl + 5) (sl + 330)
  refine tl_aload_n C 2 dL_law_903 rfl rfl ?_
  refine tl_scr C hX (p1 := 908) (p2 := 0) (p3 := 0) (i := i) (n := 1) rfl hi ⟨by decide, by decide⟩ (by omega) (by decide) dL_law_904 dL_law_905 (.inl ⟨dL_law_907, rfl⟩) dL_law_908 dL_law_909 ?_
  refine tl_scr C hX (p1 := 914) (p2 := 0) (p3 := 0) (i := i) (n := 2) rfl hi ⟨by decide, by decide⟩ (by omega) (by decide) dL_law_910 dL_law_911 (.inl ⟨dL_law_913, rfl⟩) dL_law_914 dL_law_915 ?_
  refine tl_scr C hX (p1 := 920) (p2 := 0) (p3 := 0) (i := i) (n := 3) rfl hi ⟨by decide, by decide⟩ (by omega) (by decide) dL_law_916 dL_law_917 (.inl ⟨dL_law_919, rfl⟩) dL_law_920 dL_law_921 ?_
  refine tl_bool C (q1 := 929) (q2 := 930) dL_law_922 (by decide) dL_law_925 dL_law_926 (by decide) dL_law_929 rfl ?_
  show TL x bL 930 [(1, vR 0), (2, vR 200), (3, vR 300), (4, vR 301), (5, vI i), (6, vI k)] ([vI (sx xs (i + 1)), vI (sx xs (i + 2)), vI (if (sx xs (i + 3)) = 0 then 0 else 1)].reverse ++ vR 200 :: []) h1 (cl + 5) (sl + 330)
  refine tl_callV C dL_law_930 [vI (sx xs (i + 1)), vI (sx xs (i + 2)), vI (if (sx xs (i + 3)) = 0 then 0 else 1)] hm h2 w_L_169 rfl (by omega) (by decide) (by omega) (by omega) (Nat.le_of_ble_eq_true rfl) (fun r h3 hq => ?_)
  obtain ⟨b, rfl, hout, hJ3⟩ := hq
  show TL x bL 933 [(1, vR 0), (2, vR 200), (3, vR 300), (4, vR 301), (5, vI i), (6, vI k)] [vI b] h3 (cl + 5) (sl + 330)
  refine tl_istore C dL_law_933 (by decide) (by decide) rfl ?_
  show TL x bL 935 [(1, vR 0), (2, vR 200), (3, vR 300), (4, vR 301), (5, vI i), (6, vI k), (7, vI b)] [] h3 (cl + 5) (sl + 330)
  obtain ⟨fs3, h3o, hthr⟩ := JW.m hJ3
  refine tl_aload_n C 2 dL_law_935 rfl rfl ?_
  show TL x bL 936 [(1, vR 0), (2, vR 200), (3, vR 300), (4, vR 301), (5, vI i), (6, vI k), (7, vI b)] (([] : List PV).reverse ++ vR 200 :: []) h3 (cl + 5) (sl + 330)
  refine tl_callV C dL_law_936 [] (hthr (gx x)) h3o w_L_134 rfl (by decide) (by decide) (by omega) (by omega) (Nat.le_of_ble_eq_true rfl) (fun r h4 hq => ?_)
  obtain ⟨rfl, hq⟩ := hq
  subst h4
  show TL x bL 939 [(1, vR 0), (2, vR 200), (3, vR 300), (4, vR 301), (5, vI i), (6, vI k), (7, vI b)] [vI k] h3 (cl + 5) (sl + 330)
  refine tl_iload C dL_law_939 rfl ?_
  refine tl_icmp_eq C dL_law_941 (tgt := 946) (by decide) (fun _ => ?_) (fun c => absurd rfl c)
  refine tl_iload C dL_law_946 rfl ?_
  have fin : TL x bL 963 [(1, vR 0), (2, vR 200), (3, vR 300), (4, vR 301), (5, vI i), (6, vI k), (7, vI b)] [] h3 (cl + 5) (sl + 330) := tl_goto C dL_law_963 (tgt := 2432) (by decide) (tl_sub (fun q hq => List.mem_append_left [(6, vI k), (7, vI b)] hq) (kk h3 k hJ3))
  refine tl_if_ne C dL_law_948 (tgt := 963) (by decide) (fun _ => fin) (fun c0 => ?_)
  obtain ⟨f, hf, hf0⟩ := hout c0
  refine tl_aload_n C 3 dL_law_951 rfl rfl ?_
  refine tl_iconst C dL_law_952 (by decide) ?_
  refine tl_lald C dL_law_953 (k := 300) (n := 1) (f := f) (a := 0) hf (by decide) (by decide) ?_
  rw [hf0]
  refine tl_iload C dL_law_954 rfl ?_
  refine tl_i2l C dL_law_956 ?_
  refine tl_lcmp C dL_law_957 ?_
  exact tl_if_eq C dL_law_958 (tgt := 963) (by decide) (fun _ => fin) (fun c => absurd rfl c)
theorem lc_10  (C : Fr x ⟨RL, nm, ds⟩ cL_law 9 ret tb 10 603072 7190634) {L : Nat} {xs : Nat → Int32} (hX : Scr x bL L xs) {i : Int} (hi : 0 ≤ i ∧ i ≤ 10000) (hiL : i + 7 ≤ (L : Int)) {N k0 : Int} (hJ : JW N k0 h) (hN1 : N ≤ 999) (hcl : cl + 5 ≤ 603072) (hsl : sl + 330 ≤ 7190634) (kk : ∀ (h2 : HP) (k2 : Int), JW (N + 1) k2 h2 → TL x bL 2432 [(1, vR 0), (2, vR 200), (3, vR 300), (4, vR 301), (5, vI i)] [] h2 (cl + 5) (sl + 330)) : TL x bL 966 [(1, vR 0), (2, vR 200), (3, vR 300), (4, vR 301), (5, vI i)] [] h cl sl := by
  obtain ⟨k, d1, m1, s1, d2, Q, b1, b2, b3, b4, hc, hm⟩ := js_breaks (g := gx x) (p0 := (sx xs (i + 1))) hJ hN1
  refine tl_aload_n C 1 dL_law_966 rfl rfl ?_
  refine tl_scr C hX (p1 := 971) (p2 := 0) (p3 := 0) (i := i) (n := 1) rfl hi ⟨by decide, by decide⟩ (by omega) (by decide) dL_law_967 dL_law_968 (.inl ⟨dL_law_970, rfl⟩) dL_law_971 dL_law_972 ?_
  refine tl_aload_n C 3 dL_law_973 rfl rfl ?_
  show TL x bL 974 [(1, vR 0), (2, vR 200), (3, vR 300), (4, vR 301), (5, vI i)] ([vR 0, vI (sx xs (i + 1)), vR 300].reverse ++ []) h cl sl
  refine tl_callSW C dL_law_974 [vR 0, vI (sx xs (i + 1)), vR 300] hc wl_170 rfl (by omega) (by decide) (by omega) (by omega) (Nat.le_of_ble_eq_true rfl) (fun r h1 hq => ?_)
  obtain ⟨rfl, hq⟩ := hq
  obtain ⟨⟨fs, h2⟩, hm⟩ := hm h1 hq
  show TL x bL 977 [(1, vR 0), (2, vR 200), (3, vR 300), (4, vR 301), (5, vI i)] [vI k] h1 (cl + m1) (sl + s1)
  refine tl_wide (cl' := cl + 5) (sl' := sl + 330) (by omega) (by omega) ?_
  refine tl_istore C dL_law_977 (by decide) (by decide) rfl ?_
  show TL x bL 979 [(1, vR 0), (2, vR 200), (3, vR 300), (4, vR 301), (5, vI i), (6, vI k)] [] h1 (cl + 5) (sl + 330)
  refine tl_aload_n C 2 dL_law_979 rfl rfl ?_
  refine tl_scr C hX (p1 := 984) (p2 := 0) (p3 := 0) (i := i) (n := 1) rfl hi ⟨by decide, by decide⟩ (by omega) (by decide) dL_law_980 dL_law_981 (.inl ⟨dL_law_983, rfl⟩) dL_law_984 dL_law_985 ?_
  show TL x bL 986 [(1, vR 0), (2, vR 200), (3, vR 300), (4, vR 301), (5, vI i), (6, vI k)] ([vI (sx xs (i + 1))].reverse ++ vR 200 :: []) h1 (cl + 5) (sl + 330)
  refine tl_callV C dL_law_986 [vI (sx xs (i + 1))] hm h2 w_L_172 rfl (by omega) (by decide) (by omega) (by omega) (Nat.le_of_ble_eq_true rfl) (fun r h3 hq => ?_)
  obtain ⟨b, rfl, hout, hJ3⟩ := hq
  show TL x bL 989 [(1, vR 0), (2, vR 200), (3, vR 300), (4, vR 301), (5, vI i), (6, vI k)] [vI b] h3 (cl + 5) (sl + 330)
  refine tl_istore C dL_law_989 (by decide) (by decide) rfl ?_
  show TL x bL 991 [(1, vR 0), (2, vR 200), (3, vR 300), (4, vR 301), (5, vI i), (6, vI k), (7, vI b)] [] h3 (cl + 5) (sl + 330)
  obtain ⟨fs3, h3o, hthr⟩ := JW.m hJ3
  refine tl_aload_n C 2 dL_law_991 rfl rfl ?_
  show TL x bL 992 [(1, vR 0), (2, vR 200), (3, vR 300), (4, vR 301), (5, vI i), (6, vI k), (7, vI b)] (([] : List PV).reverse ++ vR 200 :: []) h3 (cl + 5) (sl + 330)
  refine tl_callV C dL_law_992 [] (hthr (gx x)) h3o w_L_134 rfl (by decide) (by decide) (by omega) (by omega) (Nat.le_of_ble_eq_true rfl) (fun r h4 hq => ?_)
  obtain ⟨rfl, hq⟩ := hq
  subst h4
  show TL x bL 995 [(1, vR 0), (2, vR 200), (3, vR 300), (4, vR 301), (5, vI i), (6, vI k), (7, vI b)] [vI k] h3 (cl + 5) (sl + 330)
  refine tl_iload C dL_law_995 rfl ?_
  refine tl_icmp_eq C dL_law_997 (tgt := 1002) (by decide) (fun _ => ?_) (fun c => absurd rfl c)
  refine tl_iload C dL_law_1002 rfl ?_
  have fin : TL x bL 1019 [(1, vR 0), (2, vR 200), (3, vR 300), (4, vR 301), (5, vI i), (6, vI k), (7, vI b)] [] h3 (cl + 5) (sl + 330) := tl_goto C dL_law_1019 (tgt := 2432) (by decide) (tl_sub (fun q hq => List.mem_append_left [(6, vI k), (7, vI b)] hq) (kk h3 k hJ3))
  refine tl_if_ne C dL_law_1004 (tgt := 1019) (by decide) (fun _ => fin) (fun c0 => ?_)
  obtain ⟨f, hf, hf0⟩ := hout c0
  refine tl_aload_n C 3 dL_law_1007 rfl rfl ?_
  refine tl_iconst C dL_law_1008 (by decide) ?_
  refine tl_lald C dL_law_1009 (k := 300) (n := 1) (f := f) (a := 0) hf (by decide) (by decide) ?_
  rw [hf0]
  refine tl_iload C dL_law_1010 rfl ?_
  refine tl_i2l C dL_law_1012 ?_
  refine tl_lcmp C dL_law_1013 ?_
  exact tl_if_eq C dL_law_1014 (tgt := 1019) (by decide) (fun _ => fin) (fun c => absurd rfl c)
theorem lc_11  (C : Fr x ⟨RL, nm, ds⟩ cL_law 9 ret tb 10 603072 7190634) {L : Nat} {xs : Nat → Int32} (hX : Scr x bL L xs) {i : Int} (hi : 0 ≤ i ∧ i ≤ 10000) (hiL : i + 7 ≤ (L : Int)) {N k0 : Int} (hJ : JW N k0 h) (hN1 : N ≤ 999) (hcl : cl + 5 ≤ 603072) (hsl : sl + 330 ≤ 7190634) (kk : ∀ (h2 : HP) (k2 : Int), JW (N + 1) k2 h2 → TL x bL 2432 [(1, vR 0), (2, vR 200), (3, vR 300), (4, vR 301), (5, vI i)] [] h2 (cl + 5) (sl + 330)) : TL x bL 1022 [(1, vR 0), (2, vR 200), (3, vR 300), (4, vR 301), (5, vI i)] [] h cl sl := by
  obtain ⟨k, d1, m1, s1, d2, Q, b1, b2, b3, b4, hc, hm⟩ := js_merge (g := gx x) (p0 := (sx xs (i + 1))) hJ hN1
  refine tl_aload_n C 1 dL_law_1022 rfl rfl ?_
  refine tl_scr C hX (p1 := 1027) (p2 := 0) (p3 := 0) (i := i) (n := 1) rfl hi ⟨by decide, by decide⟩ (by omega) (by decide) dL_law_1023 dL_law_1024 (.inl ⟨dL_law_1026, rfl⟩) dL_law_1027 dL_law_1028 ?_
  refine tl_aload_n C 3 dL_law_1029 rfl rfl ?_
  show TL x bL 1030 [(1, vR 0), (2, vR 200), (3, vR 300), (4, vR 301), (5, vI i)] ([vR 0, vI (sx xs (i + 1)), vR 300].reverse ++ []) h cl sl
  refine tl_callSW C dL_law_1030 [vR 0, vI (sx xs (i + 1)), vR 300] hc wl_173 rfl (by omega) (by decide) (by omega) (by omega) (Nat.le_of_ble_eq_true rfl) (fun r h1 hq => ?_)
  obtain ⟨rfl, hq⟩ := hq
  obtain ⟨⟨fs, h2⟩, hm⟩ := hm h1 hq
  show TL x bL 1033 [(1, vR 0), (2, vR 200), (3, vR 300), (4, vR 301), (5, vI i)] [vI k] h1 (cl + m1) (sl + s1)
  refine tl_wide (cl' := cl + 5) (sl' := sl + 330) (by omega) (by omega) ?_
  refine tl_istore C dL_law_1033 (by decide) (by decide) rfl ?_
  show TL x bL 1035 [(1, vR 0), (2, vR 200), (3, vR 300), (4, vR 301), (5, vI i), (6, vI k)] [] h1 (cl + 5) (sl + 330)
  refine tl_aload_n C 2 dL_law_1035 rfl rfl ?_
  refine tl_scr C hX (p1 := 1040) (p2 := 0) (p3 := 0) (i := i) (n := 1) rfl hi ⟨by decide, by decide⟩ (by omega) (by decide) dL_law_1036 dL_law_1037 (.inl ⟨dL_law_1039, rfl⟩) dL_law_1040 dL_law_1041 ?_
  show TL x bL 1042 [(1, vR 0), (2, vR 200), (3, vR 300), (4, vR 301), (5, vI i), (6, vI k)] ([vI (sx xs (i + 1))].reverse ++ vR 200 :: []) h1 (cl + 5) (sl + 330)
  refine tl_callV C dL_law_1042 [vI (sx xs (i + 1))] hm h2 w_L_175 rfl (by omega) (by decide) (by omega) (by omega) (Nat.le_of_ble_eq_true rfl) (fun r h3 hq => ?_)
  obtain ⟨b, rfl, hout, hJ3⟩ := hq
  show TL x bL 1045 [(1, vR 0), (2, vR 200), (3, vR 300), (4, vR 301), (5, vI i), (6, vI k)] [vI b] h3 (cl + 5) (sl + 330)
  refine tl_istore C dL_law_1045 (by decide) (by decide) rfl ?_
  show TL x bL 1047 [(1, vR 0), (2, vR 200), (3, vR 300), (4, vR 301), (5, vI i), (6, vI k), (7, vI b)] [] h3 (cl + 5) (sl + 330)
  obtain ⟨fs3, h3o, hthr⟩ := JW.m hJ3
  refine tl_aload_n C 2 dL_law_1047 rfl rfl ?_
  show TL x bL 1048 [(1, vR 0), (2, vR 200), (3, vR 300), (4, vR 301), (5, vI i), (6, vI k), (7, vI b)] (([] : List PV).reverse ++ vR 200 :: []) h3 (cl + 5) (sl + 330)
  refine tl_callV C dL_law_1048 [] (hthr (gx x)) h3o w_L_134 rfl (by decide) (by decide) (by omega) (by omega) (Nat.le_of_ble_eq_true rfl) (fun r h4 hq => ?_)
  obtain ⟨rfl, hq⟩ := hq
  subst h4
  show TL x bL 1051 [(1, vR 0), (2, vR 200), (3, vR 300), (4, vR 301), (5, vI i), (6, vI k), (7, vI b)] [vI k] h3 (cl + 5) (sl + 330)
  refine tl_iload C dL_law_1051 rfl ?_
  refine tl_icmp_eq C dL_law_1053 (tgt := 1058) (by decide) (fun _ => ?_) (fun c => absurd rfl c)
  refine tl_iload C dL_law_1058 rfl ?_
  have fin : TL x bL 1075 [(1, vR 0), (2, vR 200), (3, vR 300), (4, vR 301), (5, vI i), (6, vI k), (7, vI b)] [] h3 (cl + 5) (sl + 330) := tl_goto C dL_law_1075 (tgt := 2432) (by decide) (tl_sub (fun q hq => List.mem_append_left [(6, vI k), (7, vI b)] hq) (kk h3 k hJ3))
  refine tl_if_ne C dL_law_1060 (tgt := 1075) (by decide) (fun _ => fin) (fun c0 => ?_)
  obtain ⟨f, hf, hf0⟩ := hout c0
  refine tl_aload_n C 3 dL_law_1063 rfl rfl ?_
  refine tl_iconst C dL_law_1064 (by decide) ?_
  refine tl_lald C dL_law_1065 (k := 300) (n := 1) (f := f) (a := 0) hf (by decide) (by decide) ?_
  rw [hf0]
  refine tl_iload C dL_law_1066 rfl ?_
  refine tl_i2l C dL_law_1068 ?_
  refine tl_lcmp C dL_law_1069 ?_
  exact tl_if_eq C dL_law_1070 (tgt := 1075) (by decide) (fun _ => fin) (fun c => absurd rfl c)
theorem lc_12  (C : Fr x ⟨RL, nm, ds⟩ cL_law 9 ret tb 10 603072 7190634) {L : Nat} {xs : Nat → Int32} (hX : Scr x bL L xs) {i : Int} (hi : 0 ≤ i ∧ i ≤ 10000) (hiL : i + 7 ≤ (L : Int)) {N k0 : Int} (hJ : JW N k0 h) (hN1 : N ≤ 999) (hcl : cl + 5 ≤ 603072) (hsl : sl + 330 ≤ 7190634) (kk : ∀ (h2 : HP) (k2 : Int), JW (N + 1) k2 h2 → TL x bL 2432 [(1, vR 0), (2, vR 200), (3, vR 300), (4, vR 301), (5, vI i)] [] h2 (cl + 5) (sl + 330)) : TL x bL 1078 [(1, vR 0), (2, vR 200), (3, vR 300), (4, vR 301), (5, vI i)] [] h cl sl := by
  obtain ⟨k, d1, m1, s1, d2, Q, b1, b2, b3, b4, hc, hm⟩ := js_undo (g := gx x)  hJ hN1
  refine tl_aload_n C 1 dL_law_1078 rfl rfl ?_
  refine tl_aload_n C 3 dL_law_1079 rfl rfl ?_
  show TL x bL 1080 [(1, vR 0), (2, vR 200), (3, vR 300), (4, vR 301), (5, vI i)] ([vR 0, vR 300].reverse ++ []) h cl sl
  refine tl_callSW C dL_law_1080 [vR 0, vR 300] hc wl_176 rfl (by omega) (by decide) (by omega) (by omega) (Nat.le_of_ble_eq_true rfl) (fun r h1 hq => ?_)
  obtain ⟨rfl, hq⟩ := hq
  obtain ⟨⟨fs, h2⟩, hm⟩ := hm h1 hq
  show TL x bL 1083 [(1, vR 0), (2, vR 200), (3, vR 300), (4, vR 301), (5, vI i)] [vI k] h1 (cl + m1) (sl + s1)
  refine tl_wide (cl' := cl + 5) (sl' := sl + 330) (by omega) (by omega) ?_
  refine tl_istore C dL_law_1083 (by decide) (by decide) rfl ?_
  show TL x bL 1085 [(1, vR 0), (2, vR 200), (3, vR 300), (4, vR 301), (5, vI i), (6, vI k)] [] h1 (cl + 5) (sl + 330)
  refine tl_aload_n C 2 dL_law_1085 rfl rfl ?_
  show TL x bL 1086 [(1, vR 0), (2, vR 200), (3, vR 300), (4, vR 301), (5, vI i), (6, vI k)] (([] : List PV).reverse ++ vR 200 :: []) h1 (cl + 5) (sl + 330)
  refine tl_callV C dL_law_1086 ([] : List PV) hm h2 w_L_178 rfl (by omega) (by decide) (by omega) (by omega) (Nat.le_of_ble_eq_true rfl) (fun r h3 hq => ?_)
  obtain ⟨b, rfl, hout, hJ3⟩ := hq
  show TL x bL 1089 [(1, vR 0), (2, vR 200), (3, vR 300), (4, vR 301), (5, vI i), (6, vI k)] [vI b] h3 (cl + 5) (sl + 330)
  refine tl_istore C dL_law_1089 (by decide) (by decide) rfl ?_
  show TL x bL 1091 [(1, vR 0), (2, vR 200), (3, vR 300), (4, vR 301), (5, vI i), (6, vI k), (7, vI b)] [] h3 (cl + 5) (sl + 330)
  obtain ⟨fs3, h3o, hthr⟩ := JW.m hJ3
  refine tl_aload_n C 2 dL_law_1091 rfl rfl ?_
  show TL x bL 1092 [(1, vR 0), (2, vR 200), (3, vR 300), (4, vR 301), (5, vI i), (6, vI k), (7, vI b)] (([] : List PV).reverse ++ vR 200 :: []) h3 (cl + 5) (sl + 330)
  refine tl_callV C dL_law_1092 [] (hthr (gx x)) h3o w_L_134 rfl (by decide) (by decide) (by omega) (by omega) (Nat.le_of_ble_eq_true rfl) (fun r h4 hq => ?_)
  obtain ⟨rfl, hq⟩ := hq
  subst h4
  show TL x bL 1095 [(1, vR 0), (2, vR 200), (3, vR 300), (4, vR 301), (5, vI i), (6, vI k), (7, vI b)] [vI k] h3 (cl + 5) (sl + 330)
  refine tl_iload C dL_law_1095 rfl ?_
  refine tl_icmp_eq C dL_law_1097 (tgt := 1102) (by decide) (fun _ => ?_) (fun c => absurd rfl c)
  refine tl_iload C dL_law_1102 rfl ?_
  have fin : TL x bL 1119 [(1, vR 0), (2, vR 200), (3, vR 300), (4, vR 301), (5, vI i), (6, vI k), (7, vI b)] [] h3 (cl + 5) (sl + 330) := tl_goto C dL_law_1119 (tgt := 2432) (by decide) (tl_sub (fun q hq => List.mem_append_left [(6, vI k), (7, vI b)] hq) (kk h3 k hJ3))
  refine tl_if_ne C dL_law_1104 (tgt := 1119) (by decide) (fun _ => fin) (fun c0 => ?_)
  obtain ⟨f, hf, hf0⟩ := hout c0
  refine tl_aload_n C 3 dL_law_1107 rfl rfl ?_
  refine tl_iconst C dL_law_1108 (by decide) ?_
  refine tl_lald C dL_law_1109 (k := 300) (n := 1) (f := f) (a := 0) hf (by decide) (by decide) ?_
  rw [hf0]
  refine tl_iload C dL_law_1110 rfl ?_
  refine tl_i2l C dL_law_1112 ?_
  refine tl_lcmp C dL_law_1113 ?_
  exact tl_if_eq C dL_law_1114 (tgt := 1119) (by decide) (fun _ => fin) (fun c => absurd rfl c)
theorem lc_13  (C : Fr x ⟨RL, nm, ds⟩ cL_law 9 ret tb 10 603072 7190634) {L : Nat} {xs : Nat → Int32} (hX : Scr x bL L xs) {i : Int} (hi : 0 ≤ i ∧ i ≤ 10000) (hiL : i + 7 ≤ (L : Int)) {N k0 : Int} (hJ : JW N k0 h) (hN1 : N ≤ 999) (hcl : cl + 5 ≤ 603072) (hsl : sl + 330 ≤ 7190634) (kk : ∀ (h2 : HP) (k2 : Int), JW (N + 1) k2 h2 → TL x bL 2432 [(1, vR 0), (2, vR 200), (3, vR 300), (4, vR 301), (5, vI i)] [] h2 (cl + 5) (sl + 330)) : TL x bL 1122 [(1, vR 0), (2, vR 200), (3, vR 300), (4, vR 301), (5, vI i)] [] h cl sl := by
  obtain ⟨v, k, d1, m1, s1, d2, Q, b1, b2, b3, b4, hc, hm⟩ := jd_version (g := gx x) hJ hN1
  obtain ⟨fs0, h0⟩ := JW.s hJ
  refine tl_aload_n C 1 dL_law_1122 rfl rfl ?_
  show TL x bL 1123 [(1, vR 0), (2, vR 200), (3, vR 300), (4, vR 301), (5, vI i)] (([] : List PV).reverse ++ vR 0 :: []) h cl sl
  refine tl_callV C dL_law_1123 [] hc h0 w_L_179 rfl (by omega) (by decide) (by omega) (by omega) (Nat.le_of_ble_eq_true rfl) (fun r h1 hq => ?_)
  obtain ⟨rfl, hq⟩ := hq
  obtain ⟨⟨fs, h2⟩, hm⟩ := hm h1 hq
  show TL x bL 1126 [(1, vR 0), (2, vR 200), (3, vR 300), (4, vR 301), (5, vI i)] [vI v] h1 (cl + m1) (sl + s1)
  refine tl_wide (cl' := cl + 5) (sl' := sl + 330) (by omega) (by omega) ?_
  refine tl_aload_n C 2 dL_law_1126 rfl rfl ?_
  show TL x bL 1127 [(1, vR 0), (2, vR 200), (3, vR 300), (4, vR 301), (5, vI i)] (([] : List PV).reverse ++ vR 200 :: [vI v]) h1 (cl + 5) (sl + 330)
  refine tl_callV C dL_law_1127 [] hm h2 w_L_182 rfl (by omega) (by decide) (by omega) (by omega) (Nat.le_of_ble_eq_true rfl) (fun r h3 hq => ?_)
  obtain ⟨rfl, hJ3⟩ := hq
  show TL x bL 1130 [(1, vR 0), (2, vR 200), (3, vR 300), (4, vR 301), (5, vI i)] [vI v, vI v] h3 (cl + 5) (sl + 330)
  refine tl_icmp_eq C dL_law_1130 (tgt := 2432) (by decide) (fun _ => kk h3 k hJ3) (fun c => absurd rfl c)
theorem lc_14  (C : Fr x ⟨RL, nm, ds⟩ cL_law 9 ret tb 10 603072 7190634) {L : Nat} {xs : Nat → Int32} (hX : Scr x bL L xs) {i : Int} (hi : 0 ≤ i ∧ i ≤ 10000) (hiL : i + 7 ≤ (L : Int)) {N k0 : Int} (hJ : JW N k0 h) (hN1 : N ≤ 999) (hcl : cl + 5 ≤ 603072) (hsl : sl + 330 ≤ 7190634) (kk : ∀ (h2 : HP) (k2 : Int), JW (N + 1) k2 h2 → TL x bL 2432 [(1, vR 0), (2, vR 200), (3, vR 300), (4, vR 301), (5, vI i)] [] h2 (cl + 5) (sl + 330)) : TL x bL 1135 [(1, vR 0), (2, vR 200), (3, vR 300), (4, vR 301), (5, vI i)] [] h cl sl := by
  obtain ⟨k, d1, m1, s1, d2, Q, b1, b2, b3, b4, hc, hm⟩ := js_value (g := gx x) (p0 := (sx xs (i + 1))) (p1 := (sx xs (i + 2))) hJ hN1
  refine tl_aload_n C 1 dL_law_1135 rfl rfl ?_
  refine tl_scr C hX (p1 := 1140) (p2 := 0) (p3 := 0) (i := i) (n := 1) rfl hi ⟨by decide, by decide⟩ (by omega) (by decide) dL_law_1136 dL_law_1137 (.inl ⟨dL_law_1139, rfl⟩) dL_law_1140 dL_law_1141 ?_
  refine tl_scr C hX (p1 := 1146) (p2 := 0) (p3 := 0) (i := i) (n := 2) rfl hi ⟨by decide, by decide⟩ (by omega) (by decide) dL_law_1142 dL_law_1143 (.inl ⟨dL_law_1145, rfl⟩) dL_law_1146 dL_law_1147 ?_
  refine tl_aload_n C 3 dL_law_1148 rfl rfl ?_
  show TL x bL 1149 [(1, vR 0), (2, vR 200), (3, vR 300), (4, vR 301), (5, vI i)] ([vR 0, vI (sx xs (i + 1)), vI (sx xs (i + 2)), vR 300].reverse ++ []) h cl sl
  refine tl_callSW C dL_law_1149 [vR 0, vI (sx xs (i + 1)), vI (sx xs (i + 2)), vR 300] hc wl_183 rfl (by omega) (by decide) (by omega) (by omega) (Nat.le_of_ble_eq_true rfl) (fun r h1 hq => ?_)
  obtain ⟨rfl, hq⟩ := hq
  obtain ⟨⟨fs, h2⟩, hm⟩ := hm h1 hq
  show TL x bL 1152 [(1, vR 0), (2, vR 200), (3, vR 300), (4, vR 301), (5, vI i)] [vI k] h1 (cl + m1) (sl + s1)
  refine tl_wide (cl' := cl + 5) (sl' := sl + 330) (by omega) (by omega) ?_
  refine tl_istore C dL_law_1152 (by decide) (by decide) rfl ?_
  show TL x bL 1154 [(1, vR 0), (2, vR 200), (3, vR 300), (4, vR 301), (5, vI i), (6, vI k)] [] h1 (cl + 5) (sl + 330)
  refine tl_aload_n C 2 dL_law_1154 rfl rfl ?_
  refine tl_scr C hX (p1 := 1159) (p2 := 0) (p3 := 0) (i := i) (n := 1) rfl hi ⟨by decide, by decide⟩ (by omega) (by decide) dL_law_1155 dL_law_1156 (.inl ⟨dL_law_1158, rfl⟩) dL_law_1159 dL_law_1160 ?_
  refine tl_scr C hX (p1 := 1165) (p2 := 0) (p3 := 0) (i := i) (n := 2) rfl hi ⟨by decide, by decide⟩ (by omega) (by decide) dL_law_1161 dL_law_1162 (.inl ⟨dL_law_1164, rfl⟩) dL_law_1165 dL_law_1166 ?_
  show TL x bL 1167 [(1, vR 0), (2, vR 200), (3, vR 300), (4, vR 301), (5, vI i), (6, vI k)] ([vI (sx xs (i + 1)), vI (sx xs (i + 2))].reverse ++ vR 200 :: []) h1 (cl + 5) (sl + 330)
  refine tl_callV C dL_law_1167 [vI (sx xs (i + 1)), vI (sx xs (i + 2))] hm h2 w_L_185 rfl (by omega) (by decide) (by omega) (by omega) (Nat.le_of_ble_eq_true rfl) (fun r h3 hq => ?_)
  obtain ⟨b, rfl, hout, hJ3⟩ := hq
  show TL x bL 1170 [(1, vR 0), (2, vR 200), (3, vR 300), (4, vR 301), (5, vI i), (6, vI k)] [vI b] h3 (cl + 5) (sl + 330)
  refine tl_istore C dL_law_1170 (by decide) (by decide) rfl ?_
  show TL x bL 1172 [(1, vR 0), (2, vR 200), (3, vR 300), (4, vR 301), (5, vI i), (6, vI k), (7, vI b)] [] h3 (cl + 5) (sl + 330)
  obtain ⟨fs3, h3o, hthr⟩ := JW.m hJ3
  refine tl_aload_n C 2 dL_law_1172 rfl rfl ?_
  show TL x bL 1173 [(1, vR 0), (2, vR 200), (3, vR 300), (4, vR 301), (5, vI i), (6, vI k), (7, vI b)] (([] : List PV).reverse ++ vR 200 :: []) h3 (cl + 5) (sl + 330)
  refine tl_callV C dL_law_1173 [] (hthr (gx x)) h3o w_L_134 rfl (by decide) (by decide) (by omega) (by omega) (Nat.le_of_ble_eq_true rfl) (fun r h4 hq => ?_)
  obtain ⟨rfl, hq⟩ := hq
  subst h4
  show TL x bL 1176 [(1, vR 0), (2, vR 200), (3, vR 300), (4, vR 301), (5, vI i), (6, vI k), (7, vI b)] [vI k] h3 (cl + 5) (sl + 330)
  refine tl_iload C dL_law_1176 rfl ?_
  refine tl_icmp_eq C dL_law_1178 (tgt := 1183) (by decide) (fun _ => ?_) (fun c => absurd rfl c)
  refine tl_iload C dL_law_1183 rfl ?_
  have fin : TL x bL 1200 [(1, vR 0), (2, vR 200), (3, vR 300), (4, vR 301), (5, vI i), (6, vI k), (7, vI b)] [] h3 (cl + 5) (sl + 330) := tl_goto C dL_law_1200 (tgt := 2432) (by decide) (tl_sub (fun q hq => List.mem_append_left [(6, vI k), (7, vI b)] hq) (kk h3 k hJ3))
  refine tl_if_ne C dL_law_1185 (tgt := 1200) (by decide) (fun _ => fin) (fun c0 => ?_)
  obtain ⟨f, hf, hf0⟩ := hout c0
  refine tl_aload_n C 3 dL_law_1188 rfl rfl ?_
  refine tl_iconst C dL_law_1189 (by decide) ?_
  refine tl_lald C dL_law_1190 (k := 300) (n := 1) (f := f) (a := 0) hf (by decide) (by decide) ?_
  rw [hf0]
  refine tl_iload C dL_law_1191 rfl ?_
  refine tl_i2l C dL_law_1193 ?_
  refine tl_lcmp C dL_law_1194 ?_
  exact tl_if_eq C dL_law_1195 (tgt := 1200) (by decide) (fun _ => fin) (fun c => absurd rfl c)
theorem lc_15  (C : Fr x ⟨RL, nm, ds⟩ cL_law 9 ret tb 10 603072 7190634) {L : Nat} {xs : Nat → Int32} (hX : Scr x bL L xs) {i : Int} (hi : 0 ≤ i ∧ i ≤ 10000) (hiL : i + 7 ≤ (L : Int)) {N k0 : Int} (hJ : JW N k0 h) (hN1 : N ≤ 999) (hcl : cl + 5 ≤ 603072) (hsl : sl + 330 ≤ 7190634) (kk : ∀ (h2 : HP) (k2 : Int), JW (N + 1) k2 h2 → TL x bL 2432 [(1, vR 0), (2, vR 200), (3, vR 300), (4, vR 301), (5, vI i)] [] h2 (cl + 5) (sl + 330)) : TL x bL 1203 [(1, vR 0), (2, vR 200), (3, vR 300), (4, vR 301), (5, vI i)] [] h cl sl := by
  obtain ⟨k, d1, m1, s1, d2, Q, b1, b2, b3, b4, hc, hm⟩ := js_changes (g := gx x) (p0 := (sx xs (i + 1))) hJ hN1
  refine tl_aload_n C 1 dL_law_1203 rfl rfl ?_
  refine tl_scr C hX (p1 := 1208) (p2 := 0) (p3 := 0) (i := i) (n := 1) rfl hi ⟨by decide, by decide⟩ (by omega) (by decide) dL_law_1204 dL_law_1205 (.inl ⟨dL_law_1207, rfl⟩) dL_law_1208 dL_law_1209 ?_
  refine tl_aload_n C 3 dL_law_1210 rfl rfl ?_
  show TL x bL 1211 [(1, vR 0), (2, vR 200), (3, vR 300), (4, vR 301), (5, vI i)] ([vR 0, vI (sx xs (i + 1)), vR 300].reverse ++ []) h cl sl
  refine tl_callSW C dL_law_1211 [vR 0, vI (sx xs (i + 1)), vR 300] hc wl_186 rfl (by omega) (by decide) (by omega) (by omega) (Nat.le_of_ble_eq_true rfl) (fun r h1 hq => ?_)
  obtain ⟨rfl, hq⟩ := hq
  obtain ⟨⟨fs, h2⟩, hm⟩ := hm h1 hq
  show TL x bL 1214 [(1, vR 0), (2, vR 200), (3, vR 300), (4, vR 301), (5, vI i)] [vI k] h1 (cl + m1) (sl + s1)
  refine tl_wide (cl' := cl + 5) (sl' := sl + 330) (by omega) (by omega) ?_
  refine tl_istore C dL_law_1214 (by decide) (by decide) rfl ?_
  show TL x bL 1216 [(1, vR 0), (2, vR 200), (3, vR 300), (4, vR 301), (5, vI i), (6, vI k)] [] h1 (cl + 5) (sl + 330)
  refine tl_aload_n C 2 dL_law_1216 rfl rfl ?_
  refine tl_scr C hX (p1 := 1221) (p2 := 0) (p3 := 0) (i := i) (n := 1) rfl hi ⟨by decide, by decide⟩ (by omega) (by decide) dL_law_1217 dL_law_1218 (.inl ⟨dL_law_1220, rfl⟩) dL_law_1221 dL_law_1222 ?_
  show TL x bL 1223 [(1, vR 0), (2, vR 200), (3, vR 300), (4, vR 301), (5, vI i), (6, vI k)] ([vI (sx xs (i + 1))].reverse ++ vR 200 :: []) h1 (cl + 5) (sl + 330)
  refine tl_callV C dL_law_1223 [vI (sx xs (i + 1))] hm h2 w_L_188 rfl (by omega) (by decide) (by omega) (by omega) (Nat.le_of_ble_eq_true rfl) (fun r h3 hq => ?_)
  obtain ⟨b, rfl, hout, hJ3⟩ := hq
  show TL x bL 1226 [(1, vR 0), (2, vR 200), (3, vR 300), (4, vR 301), (5, vI i), (6, vI k)] [vI b] h3 (cl + 5) (sl + 330)
  refine tl_istore C dL_law_1226 (by decide) (by decide) rfl ?_
  show TL x bL 1228 [(1, vR 0), (2, vR 200), (3, vR 300), (4, vR 301), (5, vI i), (6, vI k), (7, vI b)] [] h3 (cl + 5) (sl + 330)
  obtain ⟨fs3, h3o, hthr⟩ := JW.m hJ3
  refine tl_aload_n C 2 dL_law_1228 rfl rfl ?_
  show TL x bL 1229 [(1, vR 0), (2, vR 200), (3, vR 300), (4, vR 301), (5, vI i), (6, vI k), (7, vI b)] (([] : List PV).reverse ++ vR 200 :: []) h3 (cl + 5) (sl + 330)
  refine tl_callV C dL_law_1229 [] (hthr (gx x)) h3o w_L_134 rfl (by decide) (by decide) (by omega) (by omega) (Nat.le_of_ble_eq_true rfl) (fun r h4 hq => ?_)
  obtain ⟨rfl, hq⟩ := hq
  subst h4
  show TL x bL 1232 [(1, vR 0), (2, vR 200), (3, vR 300), (4, vR 301), (5, vI i), (6, vI k), (7, vI b)] [vI k] h3 (cl + 5) (sl + 330)
  refine tl_iload C dL_law_1232 rfl ?_
  refine tl_icmp_eq C dL_law_1234 (tgt := 1239) (by decide) (fun _ => ?_) (fun c => absurd rfl c)
  refine tl_iload C dL_law_1239 rfl ?_
  have fin : TL x bL 1256 [(1, vR 0), (2, vR 200), (3, vR 300), (4, vR 301), (5, vI i), (6, vI k), (7, vI b)] [] h3 (cl + 5) (sl + 330) := tl_goto C dL_law_1256 (tgt := 2432) (by decide) (tl_sub (fun q hq => List.mem_append_left [(6, vI k), (7, vI b)] hq) (kk h3 k hJ3))
  refine tl_if_ne C dL_law_1241 (tgt := 1256) (by decide) (fun _ => fin) (fun c0 => ?_)
  obtain ⟨f, hf, hf0⟩ := hout c0
  refine tl_aload_n C 3 dL_law_1244 rfl rfl ?_
  refine tl_iconst C dL_law_1245 (by decide) ?_
  refine tl_lald C dL_law_1246 (k := 300) (n := 1) (f := f) (a := 0) hf (by decide) (by decide) ?_
  rw [hf0]
  refine tl_iload C dL_law_1247 rfl ?_
  refine tl_i2l C dL_law_1249 ?_
  refine tl_lcmp C dL_law_1250 ?_
  exact tl_if_eq C dL_law_1251 (tgt := 1256) (by decide) (fun _ => fin) (fun c => absurd rfl c)
theorem lc_16  (C : Fr x ⟨RL, nm, ds⟩ cL_law 9 ret tb 10 603072 7190634) {L : Nat} {xs : Nat → Int32} (hX : Scr x bL L xs) {i : Int} (hi : 0 ≤ i ∧ i ≤ 10000) (hiL : i + 7 ≤ (L : Int)) {N k0 : Int} (hJ : JW N k0 h) (hN1 : N ≤ 999) (hcl : cl + 5 ≤ 603072) (hsl : sl + 330 ≤ 7190634) (kk : ∀ (h2 : HP) (k2 : Int), JW (N + 1) k2 h2 → TL x bL 2432 [(1, vR 0), (2, vR 200), (3, vR 300), (4, vR 301), (5, vI i)] [] h2 (cl + 5) (sl + 330)) : TL x bL 1259 [(1, vR 0), (2, vR 200), (3, vR 300), (4, vR 301), (5, vI i)] [] h cl sl := by
  obtain ⟨k, d1, m1, s1, d2, Q, b1, b2, b3, b4, hc, hm⟩ := js_changed (g := gx x) (p0 := (sx xs (i + 1))) (p1 := (sx xs (i + 2))) hJ hN1
  refine tl_aload_n C 1 dL_law_1259 rfl rfl ?_
  refine tl_scr C hX (p1 := 1264) (p2 := 0) (p3 := 0) (i := i) (n := 1) rfl hi ⟨by decide, by decide⟩ (by omega) (by decide) dL_law_1260 dL_law_1261 (.inl ⟨dL_law_1263, rfl⟩) dL_law_1264 dL_law_1265 ?_
  refine tl_scr C hX (p1 := 1270) (p2 := 0) (p3 := 0) (i := i) (n := 2) rfl hi ⟨by decide, by decide⟩ (by omega) (by decide) dL_law_1266 dL_law_1267 (.inl ⟨dL_law_1269, rfl⟩) dL_law_1270 dL_law_1271 ?_
  refine tl_aload_n C 3 dL_law_1272 rfl rfl ?_
  show TL x bL 1273 [(1, vR 0), (2, vR 200), (3, vR 300), (4, vR 301), (5, vI i)] ([vR 0, vI (sx xs (i + 1)), vI (sx xs (i + 2)), vR 300].reverse ++ []) h cl sl
  refine tl_callSW C dL_law_1273 [vR 0, vI (sx xs (i + 1)), vI (sx xs (i + 2)), vR 300] hc wl_189 rfl (by omega) (by decide) (by omega) (by omega) (Nat.le_of_ble_eq_true rfl) (fun r h1 hq => ?_)
  obtain ⟨rfl, hq⟩ := hq
  obtain ⟨⟨fs, h2⟩, hm⟩ := hm h1 hq
  show TL x bL 1276 [(1, vR 0), (2, vR 200), (3, vR 300), (4, vR 301), (5, vI i)] [vI k] h1 (cl + m1) (sl + s1)
  refine tl_wide (cl' := cl + 5) (sl' := sl + 330) (by omega) (by omega) ?_
  refine tl_istore C dL_law_1276 (by decide) (by decide) rfl ?_
  show TL x bL 1278 [(1, vR 0), (2, vR 200), (3, vR 300), (4, vR 301), (5, vI i), (6, vI k)] [] h1 (cl + 5) (sl + 330)
  refine tl_aload_n C 2 dL_law_1278 rfl rfl ?_
  refine tl_scr C hX (p1 := 1283) (p2 := 0) (p3 := 0) (i := i) (n := 1) rfl hi ⟨by decide, by decide⟩ (by omega) (by decide) dL_law_1279 dL_law_1280 (.inl ⟨dL_law_1282, rfl⟩) dL_law_1283 dL_law_1284 ?_
  refine tl_scr C hX (p1 := 1289) (p2 := 0) (p3 := 0) (i := i) (n := 2) rfl hi ⟨by decide, by decide⟩ (by omega) (by decide) dL_law_1285 dL_law_1286 (.inl ⟨dL_law_1288, rfl⟩) dL_law_1289 dL_law_1290 ?_
  show TL x bL 1291 [(1, vR 0), (2, vR 200), (3, vR 300), (4, vR 301), (5, vI i), (6, vI k)] ([vI (sx xs (i + 1)), vI (sx xs (i + 2))].reverse ++ vR 200 :: []) h1 (cl + 5) (sl + 330)
  refine tl_callV C dL_law_1291 [vI (sx xs (i + 1)), vI (sx xs (i + 2))] hm h2 w_L_191 rfl (by omega) (by decide) (by omega) (by omega) (Nat.le_of_ble_eq_true rfl) (fun r h3 hq => ?_)
  obtain ⟨b, rfl, hout, hJ3⟩ := hq
  show TL x bL 1294 [(1, vR 0), (2, vR 200), (3, vR 300), (4, vR 301), (5, vI i), (6, vI k)] [vI b] h3 (cl + 5) (sl + 330)
  refine tl_istore C dL_law_1294 (by decide) (by decide) rfl ?_
  show TL x bL 1296 [(1, vR 0), (2, vR 200), (3, vR 300), (4, vR 301), (5, vI i), (6, vI k), (7, vI b)] [] h3 (cl + 5) (sl + 330)
  obtain ⟨fs3, h3o, hthr⟩ := JW.m hJ3
  refine tl_aload_n C 2 dL_law_1296 rfl rfl ?_
  show TL x bL 1297 [(1, vR 0), (2, vR 200), (3, vR 300), (4, vR 301), (5, vI i), (6, vI k), (7, vI b)] (([] : List PV).reverse ++ vR 200 :: []) h3 (cl + 5) (sl + 330)
  refine tl_callV C dL_law_1297 [] (hthr (gx x)) h3o w_L_134 rfl (by decide) (by decide) (by omega) (by omega) (Nat.le_of_ble_eq_true rfl) (fun r h4 hq => ?_)
  obtain ⟨rfl, hq⟩ := hq
  subst h4
  show TL x bL 1300 [(1, vR 0), (2, vR 200), (3, vR 300), (4, vR 301), (5, vI i), (6, vI k), (7, vI b)] [vI k] h3 (cl + 5) (sl + 330)
  refine tl_iload C dL_law_1300 rfl ?_
  refine tl_icmp_eq C dL_law_1302 (tgt := 1307) (by decide) (fun _ => ?_) (fun c => absurd rfl c)
  refine tl_iload C dL_law_1307 rfl ?_
  have fin : TL x bL 1324 [(1, vR 0), (2, vR 200), (3, vR 300), (4, vR 301), (5, vI i), (6, vI k), (7, vI b)] [] h3 (cl + 5) (sl + 330) := tl_goto C dL_law_1324 (tgt := 2432) (by decide) (tl_sub (fun q hq => List.mem_append_left [(6, vI k), (7, vI b)] hq) (kk h3 k hJ3))
  refine tl_if_ne C dL_law_1309 (tgt := 1324) (by decide) (fun _ => fin) (fun c0 => ?_)
  obtain ⟨f, hf, hf0⟩ := hout c0
  refine tl_aload_n C 3 dL_law_1312 rfl rfl ?_
  refine tl_iconst C dL_law_1313 (by decide) ?_
  refine tl_lald C dL_law_1314 (k := 300) (n := 1) (f := f) (a := 0) hf (by decide) (by decide) ?_
  rw [hf0]
  refine tl_iload C dL_law_1315 rfl ?_
  refine tl_i2l C dL_law_1317 ?_
  refine tl_lcmp C dL_law_1318 ?_
  exact tl_if_eq C dL_law_1319 (tgt := 1324) (by decide) (fun _ => fin) (fun c => absurd rfl c)
theorem lc_17  (C : Fr x ⟨RL, nm, ds⟩ cL_law 9 ret tb 10 603072 7190634) {L : Nat} {xs : Nat → Int32} (hX : Scr x bL L xs) {i : Int} (hi : 0 ≤ i ∧ i ≤ 10000) (hiL : i + 7 ≤ (L : Int)) {N k0 : Int} (hJ : JW N k0 h) (hN1 : N ≤ 999) (hcl : cl + 5 ≤ 603072) (hsl : sl + 330 ≤ 7190634) (kk : ∀ (h2 : HP) (k2 : Int), JW (N + 1) k2 h2 → TL x bL 2432 [(1, vR 0), (2, vR 200), (3, vR 300), (4, vR 301), (5, vI i)] [] h2 (cl + 5) (sl + 330)) : TL x bL 1327 [(1, vR 0), (2, vR 200), (3, vR 300), (4, vR 301), (5, vI i)] [] h cl sl := by
  obtain ⟨k, d1, m1, s1, d2, Q, b1, b2, b3, b4, hc, hm⟩ := js_route (g := gx x) (p0 := (sx xs (i + 1))) (p1 := (sx xs (i + 2))) (p2 := (sx xs (i + 3))) hJ hN1
  refine tl_aload_n C 1 dL_law_1327 rfl rfl ?_
  refine tl_scr C hX (p1 := 1332) (p2 := 0) (p3 := 0) (i := i) (n := 1) rfl hi ⟨by decide, by decide⟩ (by omega) (by decide) dL_law_1328 dL_law_1329 (.inl ⟨dL_law_1331, rfl⟩) dL_law_1332 dL_law_1333 ?_
  refine tl_scr C hX (p1 := 1338) (p2 := 0) (p3 := 0) (i := i) (n := 2) rfl hi ⟨by decide, by decide⟩ (by omega) (by decide) dL_law_1334 dL_law_1335 (.inl ⟨dL_law_1337, rfl⟩) dL_law_1338 dL_law_1339 ?_
  refine tl_scr C hX (p1 := 1344) (p2 := 0) (p3 := 0) (i := i) (n := 3) rfl hi ⟨by decide, by decide⟩ (by omega) (by decide) dL_law_1340 dL_law_1341 (.inl ⟨dL_law_1343, rfl⟩) dL_law_1344 dL_law_1345 ?_
  refine tl_aload_n C 3 dL_law_1346 rfl rfl ?_
  show TL x bL 1347 [(1, vR 0), (2, vR 200), (3, vR 300), (4, vR 301), (5, vI i)] ([vR 0, vI (sx xs (i + 1)), vI (sx xs (i + 2)), vI (sx xs (i + 3)), vR 300].reverse ++ []) h cl sl
  refine tl_callSW C dL_law_1347 [vR 0, vI (sx xs (i + 1)), vI (sx xs (i + 2)), vI (sx xs (i + 3)), vR 300] hc wl_192 rfl (by omega) (by decide) (by omega) (by omega) (Nat.le_of_ble_eq_true rfl) (fun r h1 hq => ?_)
  obtain ⟨rfl, hq⟩ := hq
  obtain ⟨⟨fs, h2⟩, hm⟩ := hm h1 hq
  show TL x bL 1350 [(1, vR 0), (2, vR 200), (3, vR 300), (4, vR 301), (5, vI i)] [vI k] h1 (cl + m1) (sl + s1)
  refine tl_wide (cl' := cl + 5) (sl' := sl + 330) (by omega) (by omega) ?_
  refine tl_istore C dL_law_1350 (by decide) (by decide) rfl ?_
  show TL x bL 1352 [(1, vR 0), (2, vR 200), (3, vR 300), (4, vR 301), (5, vI i), (6, vI k)] [] h1 (cl + 5) (sl + 330)
  refine tl_aload_n C 2 dL_law_1352 rfl rfl ?_
  refine tl_scr C hX (p1 := 1357) (p2 := 0) (p3 := 0) (i := i) (n := 1) rfl hi ⟨by decide, by decide⟩ (by omega) (by decide) dL_law_1353 dL_law_1354 (.inl ⟨dL_law_1356, rfl⟩) dL_law_1357 dL_law_1358 ?_
  refine tl_scr C hX (p1 := 1363) (p2 := 0) (p3 := 0) (i := i) (n := 2) rfl hi ⟨by decide, by decide⟩ (by omega) (by decide) dL_law_1359 dL_law_1360 (.inl ⟨dL_law_1362, rfl⟩) dL_law_1363 dL_law_1364 ?_
  refine tl_scr C hX (p1 := 1369) (p2 := 0) (p3 := 0) (i := i) (n := 3) rfl hi ⟨by decide, by decide⟩ (by omega) (by decide) dL_law_1365 dL_law_1366 (.inl ⟨dL_law_1368, rfl⟩) dL_law_1369 dL_law_1370 ?_
  show TL x bL 1371 [(1, vR 0), (2, vR 200), (3, vR 300), (4, vR 301), (5, vI i), (6, vI k)] ([vI (sx xs (i + 1)), vI (sx xs (i + 2)), vI (sx xs (i + 3))].reverse ++ vR 200 :: []) h1 (cl + 5) (sl + 330)
  refine tl_callV C dL_law_1371 [vI (sx xs (i + 1)), vI (sx xs (i + 2)), vI (sx xs (i + 3))] hm h2 w_L_195 rfl (by omega) (by decide) (by omega) (by omega) (Nat.le_of_ble_eq_true rfl) (fun r h3 hq => ?_)
  obtain ⟨b, rfl, hout, hJ3⟩ := hq
  show TL x bL 1374 [(1, vR 0), (2, vR 200), (3, vR 300), (4, vR 301), (5, vI i), (6, vI k)] [vI b] h3 (cl + 5) (sl + 330)
  refine tl_istore C dL_law_1374 (by decide) (by decide) rfl ?_
  show TL x bL 1376 [(1, vR 0), (2, vR 200), (3, vR 300), (4, vR 301), (5, vI i), (6, vI k), (7, vI b)] [] h3 (cl + 5) (sl + 330)
  obtain ⟨fs3, h3o, hthr⟩ := JW.m hJ3
  refine tl_aload_n C 2 dL_law_1376 rfl rfl ?_
  show TL x bL 1377 [(1, vR 0), (2, vR 200), (3, vR 300), (4, vR 301), (5, vI i), (6, vI k), (7, vI b)] (([] : List PV).reverse ++ vR 200 :: []) h3 (cl + 5) (sl + 330)
  refine tl_callV C dL_law_1377 [] (hthr (gx x)) h3o w_L_134 rfl (by decide) (by decide) (by omega) (by omega) (Nat.le_of_ble_eq_true rfl) (fun r h4 hq => ?_)
  obtain ⟨rfl, hq⟩ := hq
  subst h4
  show TL x bL 1380 [(1, vR 0), (2, vR 200), (3, vR 300), (4, vR 301), (5, vI i), (6, vI k), (7, vI b)] [vI k] h3 (cl + 5) (sl + 330)
  refine tl_iload C dL_law_1380 rfl ?_
  refine tl_icmp_eq C dL_law_1382 (tgt := 1387) (by decide) (fun _ => ?_) (fun c => absurd rfl c)
  refine tl_iload C dL_law_1387 rfl ?_
  have fin : TL x bL 1404 [(1, vR 0), (2, vR 200), (3, vR 300), (4, vR 301), (5, vI i), (6, vI k), (7, vI b)] [] h3 (cl + 5) (sl + 330) := tl_goto C dL_law_1404 (tgt := 2432) (by decide) (tl_sub (fun q hq => List.mem_append_left [(6, vI k), (7, vI b)] hq) (kk h3 k hJ3))
  refine tl_if_ne C dL_law_1389 (tgt := 1404) (by decide) (fun _ => fin) (fun c0 => ?_)
  obtain ⟨f, hf, hf0⟩ := hout c0
  refine tl_aload_n C 3 dL_law_1392 rfl rfl ?_
  refine tl_iconst C dL_law_1393 (by decide) ?_
  refine tl_lald C dL_law_1394 (k := 300) (n := 1) (f := f) (a := 0) hf (by decide) (by decide) ?_
  rw [hf0]
  refine tl_iload C dL_law_1395 rfl ?_
  refine tl_i2l C dL_law_1397 ?_
  refine tl_lcmp C dL_law_1398 ?_
  exact tl_if_eq C dL_law_1399 (tgt := 1404) (by decide) (fun _ => fin) (fun c => absurd rfl c)
theorem lc_18  (C : Fr x ⟨RL, nm, ds⟩ cL_law 9 ret tb 10 603072 7190634) {L : Nat} {xs : Nat → Int32} (hX : Scr x bL L xs) {i : Int} (hi : 0 ≤ i ∧ i ≤ 10000) (hiL : i + 7 ≤ (L : Int)) {N k0 : Int} (hJ : JW N k0 h) (hN1 : N ≤ 999) (hcl : cl + 5 ≤ 603072) (hsl : sl + 330 ≤ 7190634) (kk : ∀ (h2 : HP) (k2 : Int), JW (N + 1) k2 h2 → TL x bL 2432 [(1, vR 0), (2, vR 200), (3, vR 300), (4, vR 301), (5, vI i)] [] h2 (cl + 5) (sl + 330)) : TL x bL 1407 [(1, vR 0), (2, vR 200), (3, vR 300), (4, vR 301), (5, vI i)] [] h cl sl := by
  obtain ⟨k, d1, m1, s1, d2, Q, b1, b2, b3, b4, hc, hm⟩ := js_tile (g := gx x) (p0 := (sx xs (i + 1))) (p1 := (sx xs (i + 2))) (p2 := (sx xs (i + 3))) (p3 := (sx xs (i + 4))) hJ hN1
  refine tl_aload_n C 1 dL_law_1407 rfl rfl ?_
  refine tl_scr C hX (p1 := 1412) (p2 := 0) (p3 := 0) (i := i) (n := 1) rfl hi ⟨by decide, by decide⟩ (by omega) (by decide) dL_law_1408 dL_law_1409 (.inl ⟨dL_law_1411, rfl⟩) dL_law_1412 dL_law_1413 ?_
  refine tl_scr C hX (p1 := 1418) (p2 := 0) (p3 := 0) (i := i) (n := 2) rfl hi ⟨by decide, by decide⟩ (by omega) (by decide) dL_law_1414 dL_law_1415 (.inl ⟨dL_law_1417, rfl⟩) dL_law_1418 dL_law_1419 ?_
  refine tl_scr C hX (p1 := 1424) (p2 := 0) (p3 := 0) (i := i) (n := 3) rfl hi ⟨by decide, by decide⟩ (by omega) (by decide) dL_law_1420 dL_law_1421 (.inl ⟨dL_law_1423, rfl⟩) dL_law_1424 dL_law_1425 ?_
  refine tl_scr C hX (p1 := 1430) (p2 := 0) (p3 := 0) (i := i) (n := 4) rfl hi ⟨by decide, by decide⟩ (by omega) (by decide) dL_law_1426 dL_law_1427 (.inl ⟨dL_law_1429, rfl⟩) dL_law_1430 dL_law_1431 ?_
  refine tl_aload_n C 3 dL_law_1432 rfl rfl ?_
  show TL x bL 1433 [(1, vR 0), (2, vR 200), (3, vR 300), (4, vR 301), (5, vI i)] ([vR 0, vI (sx xs (i + 1)), vI (sx xs (i + 2)), vI (sx xs (i + 3)), vI (sx xs (i + 4)), vR 300].reverse ++ []) h cl sl
  refine tl_callSW C dL_law_1433 [vR 0, vI (sx xs (i + 1)), vI (sx xs (i + 2)), vI (sx xs (i + 3)), vI (sx xs (i + 4)), vR 300] hc wl_196 rfl (by omega) (by decide) (by omega) (by omega) (Nat.le_of_ble_eq_true rfl) (fun r h1 hq => ?_)
  obtain ⟨rfl, hq⟩ := hq
  obtain ⟨⟨fs, h2⟩, hm⟩ := hm h1 hq
  show TL x bL 1436 [(1, vR 0), (2, vR 200), (3, vR 300), (4, vR 301), (5, vI i)] [vI k] h1 (cl + m1) (sl + s1)
  refine tl_wide (cl' := cl + 5) (sl' := sl + 330) (by omega) (by omega) ?_
  refine tl_istore C dL_law_1436 (by decide) (by decide) rfl ?_
  show TL x bL 1438 [(1, vR 0), (2, vR 200), (3, vR 300), (4, vR 301), (5, vI i), (6, vI k)] [] h1 (cl + 5) (sl + 330)
  refine tl_aload_n C 2 dL_law_1438 rfl rfl ?_
  refine tl_scr C hX (p1 := 1443) (p2 := 0) (p3 := 0) (i := i) (n := 1) rfl hi ⟨by decide, by decide⟩ (by omega) (by decide) dL_law_1439 dL_law_1440 (.inl ⟨dL_law_1442, rfl⟩) dL_law_1443 dL_law_1444 ?_
  refine tl_scr C hX (p1 := 1449) (p2 := 0) (p3 := 0) (i := i) (n := 2) rfl hi ⟨by decide, by decide⟩ (by omega) (by decide) dL_law_1445 dL_law_1446 (.inl ⟨dL_law_1448, rfl⟩) dL_law_1449 dL_law_1450 ?_
  refine tl_scr C hX (p1 := 1455) (p2 := 0) (p3 := 0) (i := i) (n := 3) rfl hi ⟨by decide, by decide⟩ (by omega) (by decide) dL_law_1451 dL_law_1452 (.inl ⟨dL_law_1454, rfl⟩) dL_law_1455 dL_law_1456 ?_
  refine tl_scr C hX (p1 := 1461) (p2 := 0) (p3 := 0) (i := i) (n := 4) rfl hi ⟨by decide, by decide⟩ (by omega) (by decide) dL_law_1457 dL_law_1458 (.inl ⟨dL_law_1460, rfl⟩) dL_law_1461 dL_law_1462 ?_
  show TL x bL 1463 [(1, vR 0), (2, vR 200), (3, vR 300), (4, vR 301), (5, vI i), (6, vI k)] ([vI (sx xs (i + 1)), vI (sx xs (i + 2)), vI (sx xs (i + 3)), vI (sx xs (i + 4))].reverse ++ vR 200 :: []) h1 (cl + 5) (sl + 330)
  refine tl_callV C dL_law_1463 [vI (sx xs (i + 1)), vI (sx xs (i + 2)), vI (sx xs (i + 3)), vI (sx xs (i + 4))] hm h2 w_L_199 rfl (by omega) (by decide) (by omega) (by omega) (Nat.le_of_ble_eq_true rfl) (fun r h3 hq => ?_)
  obtain ⟨b, rfl, hout, hJ3⟩ := hq
  show TL x bL 1466 [(1, vR 0), (2, vR 200), (3, vR 300), (4, vR 301), (5, vI i), (6, vI k)] [vI b] h3 (cl + 5) (sl + 330)
  refine tl_istore C dL_law_1466 (by decide) (by decide) rfl ?_
  show TL x bL 1468 [(1, vR 0), (2, vR 200), (3, vR 300), (4, vR 301), (5, vI i), (6, vI k), (7, vI b)] [] h3 (cl + 5) (sl + 330)
  obtain ⟨fs3, h3o, hthr⟩ := JW.m hJ3
  refine tl_aload_n C 2 dL_law_1468 rfl rfl ?_
  show TL x bL 1469 [(1, vR 0), (2, vR 200), (3, vR 300), (4, vR 301), (5, vI i), (6, vI k), (7, vI b)] (([] : List PV).reverse ++ vR 200 :: []) h3 (cl + 5) (sl + 330)
  refine tl_callV C dL_law_1469 [] (hthr (gx x)) h3o w_L_134 rfl (by decide) (by decide) (by omega) (by omega) (Nat.le_of_ble_eq_true rfl) (fun r h4 hq => ?_)
  obtain ⟨rfl, hq⟩ := hq
  subst h4
  show TL x bL 1472 [(1, vR 0), (2, vR 200), (3, vR 300), (4, vR 301), (5, vI i), (6, vI k), (7, vI b)] [vI k] h3 (cl + 5) (sl + 330)
  refine tl_iload C dL_law_1472 rfl ?_
  refine tl_icmp_eq C dL_law_1474 (tgt := 1479) (by decide) (fun _ => ?_) (fun c => absurd rfl c)
  refine tl_iload C dL_law_1479 rfl ?_
  have fin : TL x bL 1496 [(1, vR 0), (2, vR 200), (3, vR 300), (4, vR 301), (5, vI i), (6, vI k), (7, vI b)] [] h3 (cl + 5) (sl + 330) := tl_goto C dL_law_1496 (tgt := 2432) (by decide) (tl_sub (fun q hq => List.mem_append_left [(6, vI k), (7, vI b)] hq) (kk h3 k hJ3))
  refine tl_if_ne C dL_law_1481 (tgt := 1496) (by decide) (fun _ => fin) (fun c0 => ?_)
  obtain ⟨f, hf, hf0⟩ := hout c0
  refine tl_aload_n C 3 dL_law_1484 rfl rfl ?_
  refine tl_iconst C dL_law_1485 (by decide) ?_
  refine tl_lald C dL_law_1486 (k := 300) (n := 1) (f := f) (a := 0) hf (by decide) (by decide) ?_
  rw [hf0]
  refine tl_iload C dL_law_1487 rfl ?_
  refine tl_i2l C dL_law_1489 ?_
  refine tl_lcmp C dL_law_1490 ?_
  exact tl_if_eq C dL_law_1491 (tgt := 1496) (by decide) (fun _ => fin) (fun c => absurd rfl c)
theorem lc_19  (C : Fr x ⟨RL, nm, ds⟩ cL_law 9 ret tb 10 603072 7190634) {L : Nat} {xs : Nat → Int32} (hX : Scr x bL L xs) {i : Int} (hi : 0 ≤ i ∧ i ≤ 10000) (hiL : i + 7 ≤ (L : Int)) {N k0 : Int} (hJ : JW N k0 h) (hN1 : N ≤ 999) (hcl : cl + 5 ≤ 603072) (hsl : sl + 330 ≤ 7190634) (kk : ∀ (h2 : HP) (k2 : Int), JW (N + 1) k2 h2 → TL x bL 2432 [(1, vR 0), (2, vR 200), (3, vR 300), (4, vR 301), (5, vI i)] [] h2 (cl + 5) (sl + 330)) : TL x bL 1499 [(1, vR 0), (2, vR 200), (3, vR 300), (4, vR 301), (5, vI i)] [] h cl sl := by
  obtain ⟨k, d1, m1, s1, d2, Q, b1, b2, b3, b4, hc, hm⟩ := js_isKept (g := gx x) (p0 := (sx xs (i + 1))) (p1 := (sx xs (i + 2))) (p2 := (sx xs (i + 3))) (p3 := (sx xs (i + 4))) hJ hN1
  refine tl_aload_n C 1 dL_law_1499 rfl rfl ?_
  refine tl_scr C hX (p1 := 1504) (p2 := 0) (p3 := 0) (i := i) (n := 1) rfl hi ⟨by decide, by decide⟩ (by omega) (by decide) dL_law_1500 dL_law_1501 (.inl ⟨dL_law_1503, rfl⟩) dL_law_1504 dL_law_1505 ?_
  refine tl_scr C hX (p1 := 1510) (p2 := 0) (p3 := 0) (i := i) (n := 2) rfl hi ⟨by decide, by decide⟩ (by omega) (by decide) dL_law_1506 dL_law_1507 (.inl ⟨dL_law_1509, rfl⟩) dL_law_1510 dL_law_1511 ?_
  refine tl_scr C hX (p1 := 1516) (p2 := 0) (p3 := 0) (i := i) (n := 3) rfl hi ⟨by decide, by decide⟩ (by omega) (by decide) dL_law_1512 dL_law_1513 (.inl ⟨dL_law_1515, rfl⟩) dL_law_1516 dL_law_1517 ?_
  refine tl_scr C hX (p1 := 1522) (p2 := 0) (p3 := 0) (i := i) (n := 4) rfl hi ⟨by decide, by decide⟩ (by omega) (by decide) dL_law_1518 dL_law_1519 (.inl ⟨dL_law_1521, rfl⟩) dL_law_1522 dL_law_1523 ?_
  refine tl_aload_n C 3 dL_law_1524 rfl rfl ?_
  show TL x bL 1525 [(1, vR 0), (2, vR 200), (3, vR 300), (4, vR 301), (5, vI i)] ([vR 0, vI (sx xs (i + 1)), vI (sx xs (i + 2)), vI (sx xs (i + 3)), vI (sx xs (i + 4)), vR 300].reverse ++ []) h cl sl
  refine tl_callSW C dL_law_1525 [vR 0, vI (sx xs (i + 1)), vI (sx xs (i + 2)), vI (sx xs (i + 3)), vI (sx xs (i + 4)), vR 300] hc wl_200 rfl (by omega) (by decide) (by omega) (by omega) (Nat.le_of_ble_eq_true rfl) (fun r h1 hq => ?_)
  obtain ⟨rfl, hq⟩ := hq
  obtain ⟨⟨fs, h2⟩, hm⟩ := hm h1 hq
  show TL x bL 1528 [(1, vR 0), (2, vR 200), (3, vR 300), (4, vR 301), (5, vI i)] [vI k] h1 (cl + m1) (sl + s1)
  refine tl_wide (cl' := cl + 5) (sl' := sl + 330) (by omega) (by omega) ?_
  refine tl_istore C dL_law_1528 (by decide) (by decide) rfl ?_
  show TL x bL 1530 [(1, vR 0), (2, vR 200), (3, vR 300), (4, vR 301), (5, vI i), (6, vI k)] [] h1 (cl + 5) (sl + 330)
  refine tl_aload_n C 2 dL_law_1530 rfl rfl ?_
  refine tl_scr C hX (p1 := 1535) (p2 := 0) (p3 := 0) (i := i) (n := 1) rfl hi ⟨by decide, by decide⟩ (by omega) (by decide) dL_law_1531 dL_law_1532 (.inl ⟨dL_law_1534, rfl⟩) dL_law_1535 dL_law_1536 ?_
  refine tl_scr C hX (p1 := 1541) (p2 := 0) (p3 := 0) (i := i) (n := 2) rfl hi ⟨by decide, by decide⟩ (by omega) (by decide) dL_law_1537 dL_law_1538 (.inl ⟨dL_law_1540, rfl⟩) dL_law_1541 dL_law_1542 ?_
  refine tl_scr C hX (p1 := 1547) (p2 := 0) (p3 := 0) (i := i) (n := 3) rfl hi ⟨by decide, by decide⟩ (by omega) (by decide) dL_law_1543 dL_law_1544 (.inl ⟨dL_law_1546, rfl⟩) dL_law_1547 dL_law_1548 ?_
  refine tl_scr C hX (p1 := 1553) (p2 := 0) (p3 := 0) (i := i) (n := 4) rfl hi ⟨by decide, by decide⟩ (by omega) (by decide) dL_law_1549 dL_law_1550 (.inl ⟨dL_law_1552, rfl⟩) dL_law_1553 dL_law_1554 ?_
  show TL x bL 1555 [(1, vR 0), (2, vR 200), (3, vR 300), (4, vR 301), (5, vI i), (6, vI k)] ([vI (sx xs (i + 1)), vI (sx xs (i + 2)), vI (sx xs (i + 3)), vI (sx xs (i + 4))].reverse ++ vR 200 :: []) h1 (cl + 5) (sl + 330)
  refine tl_callV C dL_law_1555 [vI (sx xs (i + 1)), vI (sx xs (i + 2)), vI (sx xs (i + 3)), vI (sx xs (i + 4))] hm h2 w_L_202 rfl (by omega) (by decide) (by omega) (by omega) (Nat.le_of_ble_eq_true rfl) (fun r h3 hq => ?_)
  obtain ⟨b, rfl, hb01, hout, hJ3⟩ := hq
  show TL x bL 1558 [(1, vR 0), (2, vR 200), (3, vR 300), (4, vR 301), (5, vI i), (6, vI k)] [vI b] h3 (cl + 5) (sl + 330)
  refine tl_istore C dL_law_1558 (by decide) (by decide) rfl ?_
  show TL x bL 1560 [(1, vR 0), (2, vR 200), (3, vR 300), (4, vR 301), (5, vI i), (6, vI k), (7, vI b)] [] h3 (cl + 5) (sl + 330)
  obtain ⟨fs3, h3o, hthr⟩ := JW.m hJ3
  refine tl_aload_n C 2 dL_law_1560 rfl rfl ?_
  show TL x bL 1561 [(1, vR 0), (2, vR 200), (3, vR 300), (4, vR 301), (5, vI i), (6, vI k), (7, vI b)] (([] : List PV).reverse ++ vR 200 :: []) h3 (cl + 5) (sl + 330)
  refine tl_callV C dL_law_1561 [] (hthr (gx x)) h3o w_L_134 rfl (by decide) (by decide) (by omega) (by omega) (Nat.le_of_ble_eq_true rfl) (fun r h4 hq => ?_)
  obtain ⟨rfl, hq⟩ := hq
  subst h4
  show TL x bL 1564 [(1, vR 0), (2, vR 200), (3, vR 300), (4, vR 301), (5, vI i), (6, vI k), (7, vI b)] [vI k] h3 (cl + 5) (sl + 330)
  refine tl_iload C dL_law_1564 rfl ?_
  refine tl_icmp_eq C dL_law_1566 (tgt := 1571) (by decide) (fun _ => ?_) (fun c => absurd rfl c)
  refine tl_iload C dL_law_1571 rfl ?_
  have fin : TL x bL 1595 [(1, vR 0), (2, vR 200), (3, vR 300), (4, vR 301), (5, vI i), (6, vI k), (7, vI b)] [] h3 (cl + 5) (sl + 330) := tl_goto C dL_law_1595 (tgt := 2432) (by decide) (tl_sub (fun q hq => List.mem_append_left [(6, vI k), (7, vI b)] hq) (kk h3 k hJ3))
  refine tl_if_ne C dL_law_1573 (tgt := 1595) (by decide) (fun _ => fin) (fun c0 => ?_)
  obtain ⟨f, hf, hf0⟩ := hout c0
  refine tl_aload_n C 3 dL_law_1576 rfl rfl ?_
  refine tl_iconst C dL_law_1577 (by decide) ?_
  refine tl_lald C dL_law_1578 (k := 300) (n := 1) (f := f) (a := 0) hf (by decide) (by decide) ?_
  rw [hf0]
  refine tl_iload C dL_law_1579 rfl ?_
  have go : ∀ v : Int, v = b → TL x bL 1589 [(1, vR 0), (2, vR 200), (3, vR 300), (4, vR 301), (5, vI i), (6, vI k), (7, vI b)] [vL v, vL b] h3 (cl + 5) (sl + 330) := fun v hv => by
    subst hv
    refine tl_lcmp C dL_law_1589 ?_
    exact tl_if_eq C dL_law_1590 (tgt := 1595) (by decide) (fun _ => fin) (fun c => absurd rfl c)
  refine tl_if_eq C dL_law_1581 (tgt := 1588) (by decide) (fun c1 => ?_) (fun c1 => ?_)
  · exact tl_lconst C dL_law_1588 (a := 0) rfl (go 0 c1.symm)
  · refine tl_lconst C dL_law_1584 (a := 1) rfl ?_
    exact tl_goto C dL_law_1585 (tgt := 1589) (by decide) (go 1 (hb01.elim (fun z => absurd z c1) Eq.symm))
theorem lc_20  (C : Fr x ⟨RL, nm, ds⟩ cL_law 9 ret tb 10 603072 7190634) {L : Nat} {xs : Nat → Int32} (hX : Scr x bL L xs) {i : Int} (hi : 0 ≤ i ∧ i ≤ 10000) (hiL : i + 7 ≤ (L : Int)) {N k0 : Int} (hJ : JW N k0 h) (hN1 : N ≤ 999) (hcl : cl + 5 ≤ 603072) (hsl : sl + 330 ≤ 7190634) (kk : ∀ (h2 : HP) (k2 : Int), JW (N + 1) k2 h2 → TL x bL 2432 [(1, vR 0), (2, vR 200), (3, vR 300), (4, vR 301), (5, vI i)] [] h2 (cl + 5) (sl + 330)) : TL x bL 1598 [(1, vR 0), (2, vR 200), (3, vR 300), (4, vR 301), (5, vI i)] [] h cl sl := by
  obtain ⟨v, k, d1, m1, s1, d2, Q, b1, b2, b3, b4, hc, hm⟩ := jd_made (g := gx x) hJ hN1
  obtain ⟨fs0, h0⟩ := JW.s hJ
  refine tl_aload_n C 1 dL_law_1598 rfl rfl ?_
  show TL x bL 1599 [(1, vR 0), (2, vR 200), (3, vR 300), (4, vR 301), (5, vI i)] (([] : List PV).reverse ++ vR 0 :: []) h cl sl
  refine tl_callV C dL_law_1599 [] hc h0 w_L_203 rfl (by omega) (by decide) (by omega) (by omega) (Nat.le_of_ble_eq_true rfl) (fun r h1 hq => ?_)
  obtain ⟨rfl, hq⟩ := hq
  obtain ⟨⟨fs, h2⟩, hm⟩ := hm h1 hq
  show TL x bL 1602 [(1, vR 0), (2, vR 200), (3, vR 300), (4, vR 301), (5, vI i)] [vI v] h1 (cl + m1) (sl + s1)
  refine tl_wide (cl' := cl + 5) (sl' := sl + 330) (by omega) (by omega) ?_
  refine tl_aload_n C 2 dL_law_1602 rfl rfl ?_
  show TL x bL 1603 [(1, vR 0), (2, vR 200), (3, vR 300), (4, vR 301), (5, vI i)] (([] : List PV).reverse ++ vR 200 :: [vI v]) h1 (cl + 5) (sl + 330)
  refine tl_callV C dL_law_1603 [] hm h2 w_L_206 rfl (by omega) (by decide) (by omega) (by omega) (Nat.le_of_ble_eq_true rfl) (fun r h3 hq => ?_)
  obtain ⟨rfl, hJ3⟩ := hq
  show TL x bL 1606 [(1, vR 0), (2, vR 200), (3, vR 300), (4, vR 301), (5, vI i)] [vI v, vI v] h3 (cl + 5) (sl + 330)
  refine tl_icmp_eq C dL_law_1606 (tgt := 2432) (by decide) (fun _ => kk h3 k hJ3) (fun c => absurd rfl c)
theorem lc_21  (C : Fr x ⟨RL, nm, ds⟩ cL_law 9 ret tb 10 603072 7190634) {L : Nat} {xs : Nat → Int32} (hX : Scr x bL L xs) {i : Int} (hi : 0 ≤ i ∧ i ≤ 10000) (hiL : i + 7 ≤ (L : Int)) {N k0 : Int} (hJ : JW N k0 h) (hN1 : N ≤ 999) (hcl : cl + 5 ≤ 603072) (hsl : sl + 330 ≤ 7190634) (kk : ∀ (h2 : HP) (k2 : Int), JW (N + 1) k2 h2 → TL x bL 2432 [(1, vR 0), (2, vR 200), (3, vR 300), (4, vR 301), (5, vI i)] [] h2 (cl + 5) (sl + 330)) : TL x bL 1611 [(1, vR 0), (2, vR 200), (3, vR 300), (4, vR 301), (5, vI i)] [] h cl sl := by
  obtain ⟨k, d1, m1, s1, d2, Q, b1, b2, b3, b4, hc, hm⟩ := js_leaves (g := gx x) (p0 := (sx xs (i + 1))) hJ hN1
  refine tl_aload_n C 1 dL_law_1611 rfl rfl ?_
  refine tl_scr C hX (p1 := 1616) (p2 := 0) (p3 := 0) (i := i) (n := 1) rfl hi ⟨by decide, by decide⟩ (by omega) (by decide) dL_law_1612 dL_law_1613 (.inl ⟨dL_law_1615, rfl⟩) dL_law_1616 dL_law_1617 ?_
  refine tl_aload_n C 3 dL_law_1618 rfl rfl ?_
  show TL x bL 1619 [(1, vR 0), (2, vR 200), (3, vR 300), (4, vR 301), (5, vI i)] ([vR 0, vI (sx xs (i + 1)), vR 300].reverse ++ []) h cl sl
  refine tl_callSW C dL_law_1619 [vR 0, vI (sx xs (i + 1)), vR 300] hc wl_207 rfl (by omega) (by decide) (by omega) (by omega) (Nat.le_of_ble_eq_true rfl) (fun r h1 hq => ?_)
  obtain ⟨rfl, hq⟩ := hq
  obtain ⟨⟨fs, h2⟩, hm⟩ := hm h1 hq
  show TL x bL 1622 [(1, vR 0), (2, vR 200), (3, vR 300), (4, vR 301), (5, vI i)] [vI k] h1 (cl + m1) (sl + s1)
  refine tl_wide (cl' := cl + 5) (sl' := sl + 330) (by omega) (by omega) ?_
  refine tl_istore C dL_law_1622 (by decide) (by decide) rfl ?_
  show TL x bL 1624 [(1, vR 0), (2, vR 200), (3, vR 300), (4, vR 301), (5, vI i), (6, vI k)] [] h1 (cl + 5) (sl + 330)
  refine tl_aload_n C 2 dL_law_1624 rfl rfl ?_
  refine tl_scr C hX (p1 := 1629) (p2 := 0) (p3 := 0) (i := i) (n := 1) rfl hi ⟨by decide, by decide⟩ (by omega) (by decide) dL_law_1625 dL_law_1626 (.inl ⟨dL_law_1628, rfl⟩) dL_law_1629 dL_law_1630 ?_
  show TL x bL 1631 [(1, vR 0), (2, vR 200), (3, vR 300), (4, vR 301), (5, vI i), (6, vI k)] ([vI (sx xs (i + 1))].reverse ++ vR 200 :: []) h1 (cl + 5) (sl + 330)
  refine tl_callV C dL_law_1631 [vI (sx xs (i + 1))] hm h2 w_L_209 rfl (by omega) (by decide) (by omega) (by omega) (Nat.le_of_ble_eq_true rfl) (fun r h3 hq => ?_)
  obtain ⟨b, rfl, hout, hJ3⟩ := hq
  show TL x bL 1634 [(1, vR 0), (2, vR 200), (3, vR 300), (4, vR 301), (5, vI i), (6, vI k)] [vI b] h3 (cl + 5) (sl + 330)
  refine tl_istore C dL_law_1634 (by decide) (by decide) rfl ?_
  show TL x bL 1636 [(1, vR 0), (2, vR 200), (3, vR 300), (4, vR 301), (5, vI i), (6, vI k), (7, vI b)] [] h3 (cl + 5) (sl + 330)
  obtain ⟨fs3, h3o, hthr⟩ := JW.m hJ3
  refine tl_aload_n C 2 dL_law_1636 rfl rfl ?_
  show TL x bL 1637 [(1, vR 0), (2, vR 200), (3, vR 300), (4, vR 301), (5, vI i), (6, vI k), (7, vI b)] (([] : List PV).reverse ++ vR 200 :: []) h3 (cl + 5) (sl + 330)
  refine tl_callV C dL_law_1637 [] (hthr (gx x)) h3o w_L_134 rfl (by decide) (by decide) (by omega) (by omega) (Nat.le_of_ble_eq_true rfl) (fun r h4 hq => ?_)
  obtain ⟨rfl, hq⟩ := hq
  subst h4
  show TL x bL 1640 [(1, vR 0), (2, vR 200), (3, vR 300), (4, vR 301), (5, vI i), (6, vI k), (7, vI b)] [vI k] h3 (cl + 5) (sl + 330)
  refine tl_iload C dL_law_1640 rfl ?_
  refine tl_icmp_eq C dL_law_1642 (tgt := 1647) (by decide) (fun _ => ?_) (fun c => absurd rfl c)
  refine tl_iload C dL_law_1647 rfl ?_
  have fin : TL x bL 1664 [(1, vR 0), (2, vR 200), (3, vR 300), (4, vR 301), (5, vI i), (6, vI k), (7, vI b)] [] h3 (cl + 5) (sl + 330) := tl_goto C dL_law_1664 (tgt := 2432) (by decide) (tl_sub (fun q hq => List.mem_append_left [(6, vI k), (7, vI b)] hq) (kk h3 k hJ3))
  refine tl_if_ne C dL_law_1649 (tgt := 1664) (by decide) (fun _ => fin) (fun c0 => ?_)
  obtain ⟨f, hf, hf0⟩ := hout c0
  refine tl_aload_n C 3 dL_law_1652 rfl rfl ?_
  refine tl_iconst C dL_law_1653 (by decide) ?_
  refine tl_lald C dL_law_1654 (k := 300) (n := 1) (f := f) (a := 0) hf (by decide) (by decide) ?_
  rw [hf0]
  refine tl_iload C dL_law_1655 rfl ?_
  refine tl_i2l C dL_law_1657 ?_
  refine tl_lcmp C dL_law_1658 ?_
  exact tl_if_eq C dL_law_1659 (tgt := 1664) (by decide) (fun _ => fin) (fun c => absurd rfl c)
theorem lc_22  (C : Fr x ⟨RL, nm, ds⟩ cL_law 9 ret tb 10 603072 7190634) {L : Nat} {xs : Nat → Int32} (hX : Scr x bL L xs) {i : Int} (hi : 0 ≤ i ∧ i ≤ 10000) (hiL : i + 7 ≤ (L : Int)) {N k0 : Int} (hJ : JW N k0 h) (hN1 : N ≤ 999) (hcl : cl + 5 ≤ 603072) (hsl : sl + 330 ≤ 7190634) (kk : ∀ (h2 : HP) (k2 : Int), JW (N + 1) k2 h2 → TL x bL 2432 [(1, vR 0), (2, vR 200), (3, vR 300), (4, vR 301), (5, vI i)] [] h2 (cl + 5) (sl + 330)) : TL x bL 1667 [(1, vR 0), (2, vR 200), (3, vR 300), (4, vR 301), (5, vI i)] [] h cl sl := by
  obtain ⟨k, d1, m1, s1, d2, Q, b1, b2, b3, b4, hc, hm⟩ := js_border (g := gx x) (p0 := (sx xs (i + 1))) (p1 := (sx xs (i + 2))) (p2 := (sx xs (i + 3))) hJ hN1
  refine tl_aload_n C 1 dL_law_1667 rfl rfl ?_
  refine tl_scr C hX (p1 := 1672) (p2 := 0) (p3 := 0) (i := i) (n := 1) rfl hi ⟨by decide, by decide⟩ (by omega) (by decide) dL_law_1668 dL_law_1669 (.inl ⟨dL_law_1671, rfl⟩) dL_law_1672 dL_law_1673 ?_
  refine tl_scr C hX (p1 := 1678) (p2 := 0) (p3 := 0) (i := i) (n := 2) rfl hi ⟨by decide, by decide⟩ (by omega) (by decide) dL_law_1674 dL_law_1675 (.inl ⟨dL_law_1677, rfl⟩) dL_law_1678 dL_law_1679 ?_
  refine tl_scr C hX (p1 := 1684) (p2 := 0) (p3 := 0) (i := i) (n := 3) rfl hi ⟨by decide, by decide⟩ (by omega) (by decide) dL_law_1680 dL_law_1681 (.inl ⟨dL_law_1683, rfl⟩) dL_law_1684 dL_law_1685 ?_
  refine tl_aload_n C 3 dL_law_1686 rfl rfl ?_
  show TL x bL 1687 [(1, vR 0), (2, vR 200), (3, vR 300), (4, vR 301), (5, vI i)] ([vR 0, vI (sx xs (i + 1)), vI (sx xs (i + 2)), vI (sx xs (i + 3)), vR 300].reverse ++ []) h cl sl
  refine tl_callSW C dL_law_1687 [vR 0, vI (sx xs (i + 1)), vI (sx xs (i + 2)), vI (sx xs (i + 3)), vR 300] hc wl_210 rfl (by omega) (by decide) (by omega) (by omega) (Nat.le_of_ble_eq_true rfl) (fun r h1 hq => ?_)
  obtain ⟨rfl, hq⟩ := hq
  obtain ⟨⟨fs, h2⟩, hm⟩ := hm h1 hq
  show TL x bL 1690 [(1, vR 0), (2, vR 200), (3, vR 300), (4, vR 301), (5, vI i)] [vI k] h1 (cl + m1) (sl + s1)
  refine tl_wide (cl' := cl + 5) (sl' := sl + 330) (by omega) (by omega) ?_
  refine tl_istore C dL_law_1690 (by decide) (by decide) rfl ?_
  show TL x bL 1692 [(1, vR 0), (2, vR 200), (3, vR 300), (4, vR 301), (5, vI i), (6, vI k)] [] h1 (cl + 5) (sl + 330)
  refine tl_aload_n C 2 dL_law_1692 rfl rfl ?_
  refine tl_scr C hX (p1 := 1697) (p2 := 0) (p3 := 0) (i := i) (n := 1) rfl hi ⟨by decide, by decide⟩ (by omega) (by decide) dL_law_1693 dL_law_1694 (.inl ⟨dL_law_1696, rfl⟩) dL_law_1697 dL_law_1698 ?_
  refine tl_scr C hX (p1 := 1703) (p2 := 0) (p3 := 0) (i := i) (n := 2) rfl hi ⟨by decide, by decide⟩ (by omega) (by decide) dL_law_1699 dL_law_1700 (.inl ⟨dL_law_1702, rfl⟩) dL_law_1703 dL_law_1704 ?_
  refine tl_scr C hX (p1 := 1709) (p2 := 0) (p3 := 0) (i := i) (n := 3) rfl hi ⟨by decide, by decide⟩ (by omega) (by decide) dL_law_1705 dL_law_1706 (.inl ⟨dL_law_1708, rfl⟩) dL_law_1709 dL_law_1710 ?_
  show TL x bL 1711 [(1, vR 0), (2, vR 200), (3, vR 300), (4, vR 301), (5, vI i), (6, vI k)] ([vI (sx xs (i + 1)), vI (sx xs (i + 2)), vI (sx xs (i + 3))].reverse ++ vR 200 :: []) h1 (cl + 5) (sl + 330)
  refine tl_callV C dL_law_1711 [vI (sx xs (i + 1)), vI (sx xs (i + 2)), vI (sx xs (i + 3))] hm h2 w_L_212 rfl (by omega) (by decide) (by omega) (by omega) (Nat.le_of_ble_eq_true rfl) (fun r h3 hq => ?_)
  obtain ⟨b, rfl, hout, hJ3⟩ := hq
  show TL x bL 1714 [(1, vR 0), (2, vR 200), (3, vR 300), (4, vR 301), (5, vI i), (6, vI k)] [vI b] h3 (cl + 5) (sl + 330)
  refine tl_istore C dL_law_1714 (by decide) (by decide) rfl ?_
  show TL x bL 1716 [(1, vR 0), (2, vR 200), (3, vR 300), (4, vR 301), (5, vI i), (6, vI k), (7, vI b)] [] h3 (cl + 5) (sl + 330)
  obtain ⟨fs3, h3o, hthr⟩ := JW.m hJ3
  refine tl_aload_n C 2 dL_law_1716 rfl rfl ?_
  show TL x bL 1717 [(1, vR 0), (2, vR 200), (3, vR 300), (4, vR 301), (5, vI i), (6, vI k), (7, vI b)] (([] : List PV).reverse ++ vR 200 :: []) h3 (cl + 5) (sl + 330)
  refine tl_callV C dL_law_1717 [] (hthr (gx x)) h3o w_L_134 rfl (by decide) (by decide) (by omega) (by omega) (Nat.le_of_ble_eq_true rfl) (fun r h4 hq => ?_)
  obtain ⟨rfl, hq⟩ := hq
  subst h4
  show TL x bL 1720 [(1, vR 0), (2, vR 200), (3, vR 300), (4, vR 301), (5, vI i), (6, vI k), (7, vI b)] [vI k] h3 (cl + 5) (sl + 330)
  refine tl_iload C dL_law_1720 rfl ?_
  refine tl_icmp_eq C dL_law_1722 (tgt := 1727) (by decide) (fun _ => ?_) (fun c => absurd rfl c)
  refine tl_iload C dL_law_1727 rfl ?_
  have fin : TL x bL 1744 [(1, vR 0), (2, vR 200), (3, vR 300), (4, vR 301), (5, vI i), (6, vI k), (7, vI b)] [] h3 (cl + 5) (sl + 330) := tl_goto C dL_law_1744 (tgt := 2432) (by decide) (tl_sub (fun q hq => List.mem_append_left [(6, vI k), (7, vI b)] hq) (kk h3 k hJ3))
  refine tl_if_ne C dL_law_1729 (tgt := 1744) (by decide) (fun _ => fin) (fun c0 => ?_)
  obtain ⟨f, hf, hf0⟩ := hout c0
  refine tl_aload_n C 3 dL_law_1732 rfl rfl ?_
  refine tl_iconst C dL_law_1733 (by decide) ?_
  refine tl_lald C dL_law_1734 (k := 300) (n := 1) (f := f) (a := 0) hf (by decide) (by decide) ?_
  rw [hf0]
  refine tl_iload C dL_law_1735 rfl ?_
  refine tl_i2l C dL_law_1737 ?_
  refine tl_lcmp C dL_law_1738 ?_
  exact tl_if_eq C dL_law_1739 (tgt := 1744) (by decide) (fun _ => fin) (fun c => absurd rfl c)
theorem lc_23  (C : Fr x ⟨RL, nm, ds⟩ cL_law 9 ret tb 10 603072 7190634) {L : Nat} {xs : Nat → Int32} (hX : Scr x bL L xs) {i : Int} (hi : 0 ≤ i ∧ i ≤ 10000) (hiL : i + 7 ≤ (L : Int)) {N k0 : Int} (hJ : JW N k0 h) (hN1 : N ≤ 999) (hcl : cl + 5 ≤ 603072) (hsl : sl + 330 ≤ 7190634) (kk : ∀ (h2 : HP) (k2 : Int), JW (N + 1) k2 h2 → TL x bL 2432 [(1, vR 0), (2, vR 200), (3, vR 300), (4, vR 301), (5, vI i)] [] h2 (cl + 5) (sl + 330)) : TL x bL 1747 [(1, vR 0), (2, vR 200), (3, vR 300), (4, vR 301), (5, vI i)] [] h cl sl := by
  obtain ⟨k, d1, m1, s1, d2, Q, b1, b2, b3, b4, hc, hm⟩ := js_size (g := gx x) (p0 := (sx xs (i + 1))) (p1 := (sx xs (i + 2))) hJ hN1
  refine tl_aload_n C 1 dL_law_1747 rfl rfl ?_
  refine tl_scr C hX (p1 := 1752) (p2 := 0) (p3 := 0) (i := i) (n := 1) rfl hi ⟨by decide, by decide⟩ (by omega) (by decide) dL_law_1748 dL_law_1749 (.inl ⟨dL_law_1751, rfl⟩) dL_law_1752 dL_law_1753 ?_
  refine tl_scr C hX (p1 := 1758) (p2 := 0) (p3 := 0) (i := i) (n := 2) rfl hi ⟨by decide, by decide⟩ (by omega) (by decide) dL_law_1754 dL_law_1755 (.inl ⟨dL_law_1757, rfl⟩) dL_law_1758 dL_law_1759 ?_
  refine tl_aload_n C 3 dL_law_1760 rfl rfl ?_
  show TL x bL 1761 [(1, vR 0), (2, vR 200), (3, vR 300), (4, vR 301), (5, vI i)] ([vR 0, vI (sx xs (i + 1)), vI (sx xs (i + 2)), vR 300].reverse ++ []) h cl sl
  refine tl_callSW C dL_law_1761 [vR 0, vI (sx xs (i + 1)), vI (sx xs (i + 2)), vR 300] hc wl_213 rfl (by omega) (by decide) (by omega) (by omega) (Nat.le_of_ble_eq_true rfl) (fun r h1 hq => ?_)
  obtain ⟨rfl, hq⟩ := hq
  obtain ⟨⟨fs, h2⟩, hm⟩ := hm h1 hq
  show TL x bL 1764 [(1, vR 0), (2, vR 200), (3, vR 300), (4, vR 301), (5, vI i)] [vI k] h1 (cl + m1) (sl + s1)
  refine tl_wide (cl' := cl + 5) (sl' := sl + 330) (by omega) (by omega) ?_
  refine tl_istore C dL_law_1764 (by decide) (by decide) rfl ?_
  show TL x bL 1766 [(1, vR 0), (2, vR 200), (3, vR 300), (4, vR 301), (5, vI i), (6, vI k)] [] h1 (cl + 5) (sl + 330)
  refine tl_aload_n C 2 dL_law_1766 rfl rfl ?_
  refine tl_scr C hX (p1 := 1771) (p2 := 0) (p3 := 0) (i := i) (n := 1) rfl hi ⟨by decide, by decide⟩ (by omega) (by decide) dL_law_1767 dL_law_1768 (.inl ⟨dL_law_1770, rfl⟩) dL_law_1771 dL_law_1772 ?_
  refine tl_scr C hX (p1 := 1777) (p2 := 0) (p3 := 0) (i := i) (n := 2) rfl hi ⟨by decide, by decide⟩ (by omega) (by decide) dL_law_1773 dL_law_1774 (.inl ⟨dL_law_1776, rfl⟩) dL_law_1777 dL_law_1778 ?_
  show TL x bL 1779 [(1, vR 0), (2, vR 200), (3, vR 300), (4, vR 301), (5, vI i), (6, vI k)] ([vI (sx xs (i + 1)), vI (sx xs (i + 2))].reverse ++ vR 200 :: []) h1 (cl + 5) (sl + 330)
  refine tl_callV C dL_law_1779 [vI (sx xs (i + 1)), vI (sx xs (i + 2))] hm h2 w_L_215 rfl (by omega) (by decide) (by omega) (by omega) (Nat.le_of_ble_eq_true rfl) (fun r h3 hq => ?_)
  obtain ⟨b, rfl, hout, hJ3⟩ := hq
  show TL x bL 1782 [(1, vR 0), (2, vR 200), (3, vR 300), (4, vR 301), (5, vI i), (6, vI k)] [vI b] h3 (cl + 5) (sl + 330)
  refine tl_istore C dL_law_1782 (by decide) (by decide) rfl ?_
  show TL x bL 1784 [(1, vR 0), (2, vR 200), (3, vR 300), (4, vR 301), (5, vI i), (6, vI k), (7, vI b)] [] h3 (cl + 5) (sl + 330)
  obtain ⟨fs3, h3o, hthr⟩ := JW.m hJ3
  refine tl_aload_n C 2 dL_law_1784 rfl rfl ?_
  show TL x bL 1785 [(1, vR 0), (2, vR 200), (3, vR 300), (4, vR 301), (5, vI i), (6, vI k), (7, vI b)] (([] : List PV).reverse ++ vR 200 :: []) h3 (cl + 5) (sl + 330)
  refine tl_callV C dL_law_1785 [] (hthr (gx x)) h3o w_L_134 rfl (by decide) (by decide) (by omega) (by omega) (Nat.le_of_ble_eq_true rfl) (fun r h4 hq => ?_)
  obtain ⟨rfl, hq⟩ := hq
  subst h4
  show TL x bL 1788 [(1, vR 0), (2, vR 200), (3, vR 300), (4, vR 301), (5, vI i), (6, vI k), (7, vI b)] [vI k] h3 (cl + 5) (sl + 330)
  refine tl_iload C dL_law_1788 rfl ?_
  refine tl_icmp_eq C dL_law_1790 (tgt := 1795) (by decide) (fun _ => ?_) (fun c => absurd rfl c)
  refine tl_iload C dL_law_1795 rfl ?_
  have fin : TL x bL 1812 [(1, vR 0), (2, vR 200), (3, vR 300), (4, vR 301), (5, vI i), (6, vI k), (7, vI b)] [] h3 (cl + 5) (sl + 330) := tl_goto C dL_law_1812 (tgt := 2432) (by decide) (tl_sub (fun q hq => List.mem_append_left [(6, vI k), (7, vI b)] hq) (kk h3 k hJ3))
  refine tl_if_ne C dL_law_1797 (tgt := 1812) (by decide) (fun _ => fin) (fun c0 => ?_)
  obtain ⟨f, hf, hf0⟩ := hout c0
  refine tl_aload_n C 3 dL_law_1800 rfl rfl ?_
  refine tl_iconst C dL_law_1801 (by decide) ?_
  refine tl_lald C dL_law_1802 (k := 300) (n := 1) (f := f) (a := 0) hf (by decide) (by decide) ?_
  rw [hf0]
  refine tl_iload C dL_law_1803 rfl ?_
  refine tl_i2l C dL_law_1805 ?_
  refine tl_lcmp C dL_law_1806 ?_
  exact tl_if_eq C dL_law_1807 (tgt := 1812) (by decide) (fun _ => fin) (fun c => absurd rfl c)
theorem lc_24  (C : Fr x ⟨RL, nm, ds⟩ cL_law 9 ret tb 10 603072 7190634) {L : Nat} {xs : Nat → Int32} (hX : Scr x bL L xs) {i : Int} (hi : 0 ≤ i ∧ i ≤ 10000) (hiL : i + 7 ≤ (L : Int)) {N k0 : Int} (hJ : JW N k0 h) (hN1 : N ≤ 999) (hcl : cl + 5 ≤ 603072) (hsl : sl + 330 ≤ 7190634) (kk : ∀ (h2 : HP) (k2 : Int), JW (N + 1) k2 h2 → TL x bL 2432 [(1, vR 0), (2, vR 200), (3, vR 300), (4, vR 301), (5, vI i)] [] h2 (cl + 5) (sl + 330)) : TL x bL 1815 [(1, vR 0), (2, vR 200), (3, vR 300), (4, vR 301), (5, vI i)] [] h cl sl := by
  obtain ⟨k, d1, m1, s1, d2, Q, b1, b2, b3, b4, hc, hm⟩ := js_walk (g := gx x) (p0 := (sx xs (i + 1))) (p1 := (sx xs (i + 2))) hJ hN1
  refine tl_aload_n C 1 dL_law_1815 rfl rfl ?_
  refine tl_scr C hX (p1 := 1820) (p2 := 0) (p3 := 0) (i := i) (n := 1) rfl hi ⟨by decide, by decide⟩ (by omega) (by decide) dL_law_1816 dL_law_1817 (.inl ⟨dL_law_1819, rfl⟩) dL_law_1820 dL_law_1821 ?_
  refine tl_scr C hX (p1 := 1826) (p2 := 0) (p3 := 0) (i := i) (n := 2) rfl hi ⟨by decide, by decide⟩ (by omega) (by decide) dL_law_1822 dL_law_1823 (.inl ⟨dL_law_1825, rfl⟩) dL_law_1826 dL_law_1827 ?_
  refine tl_aload_n C 3 dL_law_1828 rfl rfl ?_
  show TL x bL 1829 [(1, vR 0), (2, vR 200), (3, vR 300), (4, vR 301), (5, vI i)] ([vR 0, vI (sx xs (i + 1)), vI (sx xs (i + 2)), vR 300].reverse ++ []) h cl sl
  refine tl_callSW C dL_law_1829 [vR 0, vI (sx xs (i + 1)), vI (sx xs (i + 2)), vR 300] hc wl_216 rfl (by omega) (by decide) (by omega) (by omega) (Nat.le_of_ble_eq_true rfl) (fun r h1 hq => ?_)
  obtain ⟨rfl, hq⟩ := hq
  obtain ⟨⟨fs, h2⟩, hm⟩ := hm h1 hq
  show TL x bL 1832 [(1, vR 0), (2, vR 200), (3, vR 300), (4, vR 301), (5, vI i)] [vI k] h1 (cl + m1) (sl + s1)
  refine tl_wide (cl' := cl + 5) (sl' := sl + 330) (by omega) (by omega) ?_
  refine tl_istore C dL_law_1832 (by decide) (by decide) rfl ?_
  show TL x bL 1834 [(1, vR 0), (2, vR 200), (3, vR 300), (4, vR 301), (5, vI i), (6, vI k)] [] h1 (cl + 5) (sl + 330)
  refine tl_aload_n C 2 dL_law_1834 rfl rfl ?_
  refine tl_scr C hX (p1 := 1839) (p2 := 0) (p3 := 0) (i := i) (n := 1) rfl hi ⟨by decide, by decide⟩ (by omega) (by decide) dL_law_1835 dL_law_1836 (.inl ⟨dL_law_1838, rfl⟩) dL_law_1839 dL_law_1840 ?_
  refine tl_scr C hX (p1 := 1845) (p2 := 0) (p3 := 0) (i := i) (n := 2) rfl hi ⟨by decide, by decide⟩ (by omega) (by decide) dL_law_1841 dL_law_1842 (.inl ⟨dL_law_1844, rfl⟩) dL_law_1845 dL_law_1846 ?_
  show TL x bL 1847 [(1, vR 0), (2, vR 200), (3, vR 300), (4, vR 301), (5, vI i), (6, vI k)] ([vI (sx xs (i + 1)), vI (sx xs (i + 2))].reverse ++ vR 200 :: []) h1 (cl + 5) (sl + 330)
  refine tl_callV C dL_law_1847 [vI (sx xs (i + 1)), vI (sx xs (i + 2))] hm h2 w_L_218 rfl (by omega) (by decide) (by omega) (by omega) (Nat.le_of_ble_eq_true rfl) (fun r h3 hq => ?_)
  obtain ⟨b, rfl, hout, hJ3⟩ := hq
  show TL x bL 1850 [(1, vR 0), (2, vR 200), (3, vR 300), (4, vR 301), (5, vI i), (6, vI k)] [vI b] h3 (cl + 5) (sl + 330)
  refine tl_istore C dL_law_1850 (by decide) (by decide) rfl ?_
  show TL x bL 1852 [(1, vR 0), (2, vR 200), (3, vR 300), (4, vR 301), (5, vI i), (6, vI k), (7, vI b)] [] h3 (cl + 5) (sl + 330)
  obtain ⟨fs3, h3o, hthr⟩ := JW.m hJ3
  refine tl_aload_n C 2 dL_law_1852 rfl rfl ?_
  show TL x bL 1853 [(1, vR 0), (2, vR 200), (3, vR 300), (4, vR 301), (5, vI i), (6, vI k), (7, vI b)] (([] : List PV).reverse ++ vR 200 :: []) h3 (cl + 5) (sl + 330)
  refine tl_callV C dL_law_1853 [] (hthr (gx x)) h3o w_L_134 rfl (by decide) (by decide) (by omega) (by omega) (Nat.le_of_ble_eq_true rfl) (fun r h4 hq => ?_)
  obtain ⟨rfl, hq⟩ := hq
  subst h4
  show TL x bL 1856 [(1, vR 0), (2, vR 200), (3, vR 300), (4, vR 301), (5, vI i), (6, vI k), (7, vI b)] [vI k] h3 (cl + 5) (sl + 330)
  refine tl_iload C dL_law_1856 rfl ?_
  refine tl_icmp_eq C dL_law_1858 (tgt := 1863) (by decide) (fun _ => ?_) (fun c => absurd rfl c)
  refine tl_iload C dL_law_1863 rfl ?_
  have fin : TL x bL 1880 [(1, vR 0), (2, vR 200), (3, vR 300), (4, vR 301), (5, vI i), (6, vI k), (7, vI b)] [] h3 (cl + 5) (sl + 330) := tl_goto C dL_law_1880 (tgt := 2432) (by decide) (tl_sub (fun q hq => List.mem_append_left [(6, vI k), (7, vI b)] hq) (kk h3 k hJ3))
  refine tl_if_ne C dL_law_1865 (tgt := 1880) (by decide) (fun _ => fin) (fun c0 => ?_)
  obtain ⟨f, hf, hf0⟩ := hout c0
  refine tl_aload_n C 3 dL_law_1868 rfl rfl ?_
  refine tl_iconst C dL_law_1869 (by decide) ?_
  refine tl_lald C dL_law_1870 (k := 300) (n := 1) (f := f) (a := 0) hf (by decide) (by decide) ?_
  rw [hf0]
  refine tl_iload C dL_law_1871 rfl ?_
  refine tl_i2l C dL_law_1873 ?_
  refine tl_lcmp C dL_law_1874 ?_
  exact tl_if_eq C dL_law_1875 (tgt := 1880) (by decide) (fun _ => fin) (fun c => absurd rfl c)
theorem lc_25  (C : Fr x ⟨RL, nm, ds⟩ cL_law 9 ret tb 10 603072 7190634) {L : Nat} {xs : Nat → Int32} (hX : Scr x bL L xs) {i : Int} (hi : 0 ≤ i ∧ i ≤ 10000) (hiL : i + 7 ≤ (L : Int)) {N k0 : Int} (hJ : JW N k0 h) (hN1 : N ≤ 999) (hcl : cl + 5 ≤ 603072) (hsl : sl + 330 ≤ 7190634) (kk : ∀ (h2 : HP) (k2 : Int), JW (N + 1) k2 h2 → TL x bL 2432 [(1, vR 0), (2, vR 200), (3, vR 300), (4, vR 301), (5, vI i)] [] h2 (cl + 5) (sl + 330)) : TL x bL 1883 [(1, vR 0), (2, vR 200), (3, vR 300), (4, vR 301), (5, vI i)] [] h cl sl := by
  obtain ⟨v, k, d1, m1, s1, d2, Q, b1, b2, b3, b4, hc, hm⟩ := jd_hasNext (g := gx x) hJ hN1
  obtain ⟨fs0, h0⟩ := JW.s hJ
  refine tl_aload_n C 1 dL_law_1883 rfl rfl ?_
  show TL x bL 1884 [(1, vR 0), (2, vR 200), (3, vR 300), (4, vR 301), (5, vI i)] (([] : List PV).reverse ++ vR 0 :: []) h cl sl
  refine tl_callV C dL_law_1884 [] hc h0 w_L_219 rfl (by omega) (by decide) (by omega) (by omega) (Nat.le_of_ble_eq_true rfl) (fun r h1 hq => ?_)
  obtain ⟨rfl, hq⟩ := hq
  obtain ⟨⟨fs, h2⟩, hm⟩ := hm h1 hq
  show TL x bL 1887 [(1, vR 0), (2, vR 200), (3, vR 300), (4, vR 301), (5, vI i)] [vI v] h1 (cl + m1) (sl + s1)
  refine tl_wide (cl' := cl + 5) (sl' := sl + 330) (by omega) (by omega) ?_
  refine tl_aload_n C 2 dL_law_1887 rfl rfl ?_
  show TL x bL 1888 [(1, vR 0), (2, vR 200), (3, vR 300), (4, vR 301), (5, vI i)] (([] : List PV).reverse ++ vR 200 :: [vI v]) h1 (cl + 5) (sl + 330)
  refine tl_callV C dL_law_1888 [] hm h2 w_L_223 rfl (by omega) (by decide) (by omega) (by omega) (Nat.le_of_ble_eq_true rfl) (fun r h3 hq => ?_)
  obtain ⟨rfl, hJ3⟩ := hq
  show TL x bL 1891 [(1, vR 0), (2, vR 200), (3, vR 300), (4, vR 301), (5, vI i)] [vI v, vI v] h3 (cl + 5) (sl + 330)
  refine tl_icmp_eq C dL_law_1891 (tgt := 2432) (by decide) (fun _ => kk h3 k hJ3) (fun c => absurd rfl c)
theorem lc_26  (C : Fr x ⟨RL, nm, ds⟩ cL_law 9 ret tb 10 603072 7190634) {L : Nat} {xs : Nat → Int32} (hX : Scr x bL L xs) {i : Int} (hi : 0 ≤ i ∧ i ≤ 10000) (hiL : i + 7 ≤ (L : Int)) {N k0 : Int} (hJ : JW N k0 h) (hN1 : N ≤ 999) (hcl : cl + 5 ≤ 603072) (hsl : sl + 330 ≤ 7190634) (kk : ∀ (h2 : HP) (k2 : Int), JW (N + 1) k2 h2 → TL x bL 2432 [(1, vR 0), (2, vR 200), (3, vR 300), (4, vR 301), (5, vI i)] [] h2 (cl + 5) (sl + 330)) : TL x bL 1896 [(1, vR 0), (2, vR 200), (3, vR 300), (4, vR 301), (5, vI i)] [] h cl sl := by
  obtain ⟨k, d1, m1, s1, d2, Q, b1, b2, b3, b4, hc, hm⟩ := js_next (g := gx x)  hJ hN1
  refine tl_aload_n C 1 dL_law_1896 rfl rfl ?_
  refine tl_aload_n C 3 dL_law_1897 rfl rfl ?_
  show TL x bL 1898 [(1, vR 0), (2, vR 200), (3, vR 300), (4, vR 301), (5, vI i)] ([vR 0, vR 300].reverse ++ []) h cl sl
  refine tl_callSW C dL_law_1898 [vR 0, vR 300] hc wl_224 rfl (by omega) (by decide) (by omega) (by omega) (Nat.le_of_ble_eq_true rfl) (fun r h1 hq => ?_)
  obtain ⟨rfl, hq⟩ := hq
  obtain ⟨⟨fs, h2⟩, hm⟩ := hm h1 hq
  show TL x bL 1901 [(1, vR 0), (2, vR 200), (3, vR 300), (4, vR 301), (5, vI i)] [vI k] h1 (cl + m1) (sl + s1)
  refine tl_wide (cl' := cl + 5) (sl' := sl + 330) (by omega) (by omega) ?_
  refine tl_istore C dL_law_1901 (by decide) (by decide) rfl ?_
  show TL x bL 1903 [(1, vR 0), (2, vR 200), (3, vR 300), (4, vR 301), (5, vI i), (6, vI k)] [] h1 (cl + 5) (sl + 330)
  refine tl_aload_n C 2 dL_law_1903 rfl rfl ?_
  show TL x bL 1904 [(1, vR 0), (2, vR 200), (3, vR 300), (4, vR 301), (5, vI i), (6, vI k)] (([] : List PV).reverse ++ vR 200 :: []) h1 (cl + 5) (sl + 330)
  refine tl_callV C dL_law_1904 ([] : List PV) hm h2 w_L_226 rfl (by omega) (by decide) (by omega) (by omega) (Nat.le_of_ble_eq_true rfl) (fun r h3 hq => ?_)
  obtain ⟨b, rfl, hout, hJ3⟩ := hq
  show TL x bL 1907 [(1, vR 0), (2, vR 200), (3, vR 300), (4, vR 301), (5, vI i), (6, vI k)] [vI b] h3 (cl + 5) (sl + 330)
  refine tl_istore C dL_law_1907 (by decide) (by decide) rfl ?_
  show TL x bL 1909 [(1, vR 0), (2, vR 200), (3, vR 300), (4, vR 301), (5, vI i), (6, vI k), (7, vI b)] [] h3 (cl + 5) (sl + 330)
  obtain ⟨fs3, h3o, hthr⟩ := JW.m hJ3
  refine tl_aload_n C 2 dL_law_1909 rfl rfl ?_
  show TL x bL 1910 [(1, vR 0), (2, vR 200), (3, vR 300), (4, vR 301), (5, vI i), (6, vI k), (7, vI b)] (([] : List PV).reverse ++ vR 200 :: []) h3 (cl + 5) (sl + 330)
  refine tl_callV C dL_law_1910 [] (hthr (gx x)) h3o w_L_134 rfl (by decide) (by decide) (by omega) (by omega) (Nat.le_of_ble_eq_true rfl) (fun r h4 hq => ?_)
  obtain ⟨rfl, hq⟩ := hq
  subst h4
  show TL x bL 1913 [(1, vR 0), (2, vR 200), (3, vR 300), (4, vR 301), (5, vI i), (6, vI k), (7, vI b)] [vI k] h3 (cl + 5) (sl + 330)
  refine tl_iload C dL_law_1913 rfl ?_
  refine tl_icmp_eq C dL_law_1915 (tgt := 1920) (by decide) (fun _ => ?_) (fun c => absurd rfl c)
  refine tl_iload C dL_law_1920 rfl ?_
  have fin : TL x bL 1937 [(1, vR 0), (2, vR 200), (3, vR 300), (4, vR 301), (5, vI i), (6, vI k), (7, vI b)] [] h3 (cl + 5) (sl + 330) := tl_goto C dL_law_1937 (tgt := 2432) (by decide) (tl_sub (fun q hq => List.mem_append_left [(6, vI k), (7, vI b)] hq) (kk h3 k hJ3))
  refine tl_if_ne C dL_law_1922 (tgt := 1937) (by decide) (fun _ => fin) (fun c0 => ?_)
  obtain ⟨f, hf, hf0⟩ := hout c0
  refine tl_aload_n C 3 dL_law_1925 rfl rfl ?_
  refine tl_iconst C dL_law_1926 (by decide) ?_
  refine tl_lald C dL_law_1927 (k := 300) (n := 1) (f := f) (a := 0) hf (by decide) (by decide) ?_
  rw [hf0]
  refine tl_iload C dL_law_1928 rfl ?_
  refine tl_i2l C dL_law_1930 ?_
  refine tl_lcmp C dL_law_1931 ?_
  exact tl_if_eq C dL_law_1932 (tgt := 1937) (by decide) (fun _ => fin) (fun c => absurd rfl c)
theorem lc_27  (C : Fr x ⟨RL, nm, ds⟩ cL_law 9 ret tb 10 603072 7190634) {L : Nat} {xs : Nat → Int32} (hX : Scr x bL L xs) {i : Int} (hi : 0 ≤ i ∧ i ≤ 10000) (hiL : i + 7 ≤ (L : Int)) {N k0 : Int} (hJ : JW N k0 h) (hN1 : N ≤ 999) (hcl : cl + 5 ≤ 603072) (hsl : sl + 330 ≤ 7190634) (kk : ∀ (h2 : HP) (k2 : Int), JW (N + 1) k2 h2 → TL x bL 2432 [(1, vR 0), (2, vR 200), (3, vR 300), (4, vR 301), (5, vI i)] [] h2 (cl + 5) (sl + 330)) : TL x bL 1940 [(1, vR 0), (2, vR 200), (3, vR 300), (4, vR 301), (5, vI i)] [] h cl sl := by
  obtain ⟨k, d1, m1, s1, d2, Q, b1, b2, b3, b4, hc, hm⟩ := js_device (g := gx x)  hJ hN1
  refine tl_aload_n C 1 dL_law_1940 rfl rfl ?_
  refine tl_aload_n C 3 dL_law_1941 rfl rfl ?_
  show TL x bL 1942 [(1, vR 0), (2, vR 200), (3, vR 300), (4, vR 301), (5, vI i)] ([vR 0, vR 300].reverse ++ []) h cl sl
  refine tl_callSW C dL_law_1942 [vR 0, vR 300] hc wl_227 rfl (by omega) (by decide) (by omega) (by omega) (Nat.le_of_ble_eq_true rfl) (fun r h1 hq => ?_)
  obtain ⟨rfl, hq⟩ := hq
  obtain ⟨⟨fs, h2⟩, hm⟩ := hm h1 hq
  show TL x bL 1945 [(1, vR 0), (2, vR 200), (3, vR 300), (4, vR 301), (5, vI i)] [vI k] h1 (cl + m1) (sl + s1)
  refine tl_wide (cl' := cl + 5) (sl' := sl + 330) (by omega) (by omega) ?_
  refine tl_istore C dL_law_1945 (by decide) (by decide) rfl ?_
  show TL x bL 1947 [(1, vR 0), (2, vR 200), (3, vR 300), (4, vR 301), (5, vI i), (6, vI k)] [] h1 (cl + 5) (sl + 330)
  refine tl_aload_n C 2 dL_law_1947 rfl rfl ?_
  show TL x bL 1948 [(1, vR 0), (2, vR 200), (3, vR 300), (4, vR 301), (5, vI i), (6, vI k)] (([] : List PV).reverse ++ vR 200 :: []) h1 (cl + 5) (sl + 330)
  refine tl_callV C dL_law_1948 ([] : List PV) hm h2 w_L_229 rfl (by omega) (by decide) (by omega) (by omega) (Nat.le_of_ble_eq_true rfl) (fun r h3 hq => ?_)
  obtain ⟨b, rfl, hout, hJ3⟩ := hq
  show TL x bL 1951 [(1, vR 0), (2, vR 200), (3, vR 300), (4, vR 301), (5, vI i), (6, vI k)] [vI b] h3 (cl + 5) (sl + 330)
  refine tl_istore C dL_law_1951 (by decide) (by decide) rfl ?_
  show TL x bL 1953 [(1, vR 0), (2, vR 200), (3, vR 300), (4, vR 301), (5, vI i), (6, vI k), (7, vI b)] [] h3 (cl + 5) (sl + 330)
  obtain ⟨fs3, h3o, hthr⟩ := JW.m hJ3
  refine tl_aload_n C 2 dL_law_1953 rfl rfl ?_
  show TL x bL 1954 [(1, vR 0), (2, vR 200), (3, vR 300), (4, vR 301), (5, vI i), (6, vI k), (7, vI b)] (([] : List PV).reverse ++ vR 200 :: []) h3 (cl + 5) (sl + 330)
  refine tl_callV C dL_law_1954 [] (hthr (gx x)) h3o w_L_134 rfl (by decide) (by decide) (by omega) (by omega) (Nat.le_of_ble_eq_true rfl) (fun r h4 hq => ?_)
  obtain ⟨rfl, hq⟩ := hq
  subst h4
  show TL x bL 1957 [(1, vR 0), (2, vR 200), (3, vR 300), (4, vR 301), (5, vI i), (6, vI k), (7, vI b)] [vI k] h3 (cl + 5) (sl + 330)
  refine tl_iload C dL_law_1957 rfl ?_
  refine tl_icmp_eq C dL_law_1959 (tgt := 1964) (by decide) (fun _ => ?_) (fun c => absurd rfl c)
  refine tl_iload C dL_law_1964 rfl ?_
  have fin : TL x bL 1981 [(1, vR 0), (2, vR 200), (3, vR 300), (4, vR 301), (5, vI i), (6, vI k), (7, vI b)] [] h3 (cl + 5) (sl + 330) := tl_goto C dL_law_1981 (tgt := 2432) (by decide) (tl_sub (fun q hq => List.mem_append_left [(6, vI k), (7, vI b)] hq) (kk h3 k hJ3))
  refine tl_if_ne C dL_law_1966 (tgt := 1981) (by decide) (fun _ => fin) (fun c0 => ?_)
  obtain ⟨f, hf, hf0⟩ := hout c0
  refine tl_aload_n C 3 dL_law_1969 rfl rfl ?_
  refine tl_iconst C dL_law_1970 (by decide) ?_
  refine tl_lald C dL_law_1971 (k := 300) (n := 1) (f := f) (a := 0) hf (by decide) (by decide) ?_
  rw [hf0]
  refine tl_iload C dL_law_1972 rfl ?_
  refine tl_i2l C dL_law_1974 ?_
  refine tl_lcmp C dL_law_1975 ?_
  exact tl_if_eq C dL_law_1976 (tgt := 1981) (by decide) (fun _ => fin) (fun c => absurd rfl c)
theorem lc_28  (C : Fr x ⟨RL, nm, ds⟩ cL_law 9 ret tb 10 603072 7190634) {L : Nat} {xs : Nat → Int32} (hX : Scr x bL L xs) {i : Int} (hi : 0 ≤ i ∧ i ≤ 10000) (hiL : i + 7 ≤ (L : Int)) {N k0 : Int} (hJ : JW N k0 h) (hN1 : N ≤ 999) (hcl : cl + 5 ≤ 603072) (hsl : sl + 330 ≤ 7190634) (kk : ∀ (h2 : HP) (k2 : Int), JW (N + 1) k2 h2 → TL x bL 2432 [(1, vR 0), (2, vR 200), (3, vR 300), (4, vR 301), (5, vI i)] [] h2 (cl + 5) (sl + 330)) : TL x bL 1984 [(1, vR 0), (2, vR 200), (3, vR 300), (4, vR 301), (5, vI i)] [] h cl sl := by
  obtain ⟨k, d1, m1, s1, d2, Q, b1, b2, b3, b4, hc, hm⟩ := js_note (g := gx x) (p0 := (sx xs (i + 1))) (p1 := (sx xs (i + 2))) (p2 := (sx xs (i + 3))) (p3 := (sx xs (i + 4))) (p4 := (sx xs (i + 5))) (p5 := (sx xs (i + 6))) hJ hN1
  refine tl_aload_n C 1 dL_law_1984 rfl rfl ?_
  refine tl_scr C hX (p1 := 1989) (p2 := 0) (p3 := 0) (i := i) (n := 1) rfl hi ⟨by decide, by decide⟩ (by omega) (by decide) dL_law_1985 dL_law_1986 (.inl ⟨dL_law_1988, rfl⟩) dL_law_1989 dL_law_1990 ?_
  refine tl_scr C hX (p1 := 1995) (p2 := 0) (p3 := 0) (i := i) (n := 2) rfl hi ⟨by decide, by decide⟩ (by omega) (by decide) dL_law_1991 dL_law_1992 (.inl ⟨dL_law_1994, rfl⟩) dL_law_1995 dL_law_1996 ?_
  refine tl_scr C hX (p1 := 2001) (p2 := 0) (p3 := 0) (i := i) (n := 3) rfl hi ⟨by decide, by decide⟩ (by omega) (by decide) dL_law_1997 dL_law_1998 (.inl ⟨dL_law_2000, rfl⟩) dL_law_2001 dL_law_2002 ?_
  refine tl_scr C hX (p1 := 2007) (p2 := 0) (p3 := 0) (i := i) (n := 4) rfl hi ⟨by decide, by decide⟩ (by omega) (by decide) dL_law_2003 dL_law_2004 (.inl ⟨dL_law_2006, rfl⟩) dL_law_2007 dL_law_2008 ?_
  refine tl_scr C hX (p1 := 2013) (p2 := 0) (p3 := 0) (i := i) (n := 5) rfl hi ⟨by decide, by decide⟩ (by omega) (by decide) dL_law_2009 dL_law_2010 (.inl ⟨dL_law_2012, rfl⟩) dL_law_2013 dL_law_2014 ?_
  refine tl_scr C hX (p1 := 2020) (p2 := 0) (p3 := 0) (i := i) (n := 6) rfl hi ⟨by decide, by decide⟩ (by omega) (by decide) dL_law_2015 dL_law_2016 (.inr ⟨dL_law_2018, rfl⟩) dL_law_2020 dL_law_2021 ?_
  refine tl_aload_n C 3 dL_law_2022 rfl rfl ?_
  show TL x bL 2023 [(1, vR 0), (2, vR 200), (3, vR 300), (4, vR 301), (5, vI i)] ([vR 0, vI (sx xs (i + 1)), vI (sx xs (i + 2)), vI (sx xs (i + 3)), vI (sx xs (i + 4)), vI (sx xs (i + 5)), vI (sx xs (i + 6)), vR 300].reverse ++ []) h cl sl
  refine tl_callSW C dL_law_2023 [vR 0, vI (sx xs (i + 1)), vI (sx xs (i + 2)), vI (sx xs (i + 3)), vI (sx xs (i + 4)), vI (sx xs (i + 5)), vI (sx xs (i + 6)), vR 300] hc wl_230 rfl (by omega) (by decide) (by omega) (by omega) (Nat.le_of_ble_eq_true rfl) (fun r h1 hq => ?_)
  obtain ⟨rfl, hq⟩ := hq
  obtain ⟨⟨fs, h2⟩, hm⟩ := hm h1 hq
  show TL x bL 2026 [(1, vR 0), (2, vR 200), (3, vR 300), (4, vR 301), (5, vI i)] [vI k] h1 (cl + m1) (sl + s1)
  refine tl_wide (cl' := cl + 5) (sl' := sl + 330) (by omega) (by omega) ?_
  refine tl_istore C dL_law_2026 (by decide) (by decide) rfl ?_
  show TL x bL 2028 [(1, vR 0), (2, vR 200), (3, vR 300), (4, vR 301), (5, vI i), (6, vI k)] [] h1 (cl + 5) (sl + 330)
  refine tl_aload_n C 2 dL_law_2028 rfl rfl ?_
  refine tl_scr C hX (p1 := 2033) (p2 := 0) (p3 := 0) (i := i) (n := 1) rfl hi ⟨by decide, by decide⟩ (by omega) (by decide) dL_law_2029 dL_law_2030 (.inl ⟨dL_law_2032, rfl⟩) dL_law_2033 dL_law_2034 ?_
  refine tl_scr C hX (p1 := 2039) (p2 := 0) (p3 := 0) (i := i) (n := 2) rfl hi ⟨by decide, by decide⟩ (by omega) (by decide) dL_law_2035 dL_law_2036 (.inl ⟨dL_law_2038, rfl⟩) dL_law_2039 dL_law_2040 ?_
  refine tl_scr C hX (p1 := 2045) (p2 := 0) (p3 := 0) (i := i) (n := 3) rfl hi ⟨by decide, by decide⟩ (by omega) (by decide) dL_law_2041 dL_law_2042 (.inl ⟨dL_law_2044, rfl⟩) dL_law_2045 dL_law_2046 ?_
  refine tl_scr C hX (p1 := 2051) (p2 := 0) (p3 := 0) (i := i) (n := 4) rfl hi ⟨by decide, by decide⟩ (by omega) (by decide) dL_law_2047 dL_law_2048 (.inl ⟨dL_law_2050, rfl⟩) dL_law_2051 dL_law_2052 ?_
  refine tl_scr C hX (p1 := 2057) (p2 := 0) (p3 := 0) (i := i) (n := 5) rfl hi ⟨by decide, by decide⟩ (by omega) (by decide) dL_law_2053 dL_law_2054 (.inl ⟨dL_law_2056, rfl⟩) dL_law_2057 dL_law_2058 ?_
  refine tl_scr C hX (p1 := 2064) (p2 := 0) (p3 := 0) (i := i) (n := 6) rfl hi ⟨by decide, by decide⟩ (by omega) (by decide) dL_law_2059 dL_law_2060 (.inr ⟨dL_law_2062, rfl⟩) dL_law_2064 dL_law_2065 ?_
  show TL x bL 2066 [(1, vR 0), (2, vR 200), (3, vR 300), (4, vR 301), (5, vI i), (6, vI k)] ([vI (sx xs (i + 1)), vI (sx xs (i + 2)), vI (sx xs (i + 3)), vI (sx xs (i + 4)), vI (sx xs (i + 5)), vI (sx xs (i + 6))].reverse ++ vR 200 :: []) h1 (cl + 5) (sl + 330)
  refine tl_callV C dL_law_2066 [vI (sx xs (i + 1)), vI (sx xs (i + 2)), vI (sx xs (i + 3)), vI (sx xs (i + 4)), vI (sx xs (i + 5)), vI (sx xs (i + 6))] hm h2 w_L_233 rfl (by omega) (by decide) (by omega) (by omega) (Nat.le_of_ble_eq_true rfl) (fun r h3 hq => ?_)
  obtain ⟨b, rfl, hout, hJ3⟩ := hq
  show TL x bL 2069 [(1, vR 0), (2, vR 200), (3, vR 300), (4, vR 301), (5, vI i), (6, vI k)] [vI b] h3 (cl + 5) (sl + 330)
  refine tl_istore C dL_law_2069 (by decide) (by decide) rfl ?_
  show TL x bL 2071 [(1, vR 0), (2, vR 200), (3, vR 300), (4, vR 301), (5, vI i), (6, vI k), (7, vI b)] [] h3 (cl + 5) (sl + 330)
  obtain ⟨fs3, h3o, hthr⟩ := JW.m hJ3
  refine tl_aload_n C 2 dL_law_2071 rfl rfl ?_
  show TL x bL 2072 [(1, vR 0), (2, vR 200), (3, vR 300), (4, vR 301), (5, vI i), (6, vI k), (7, vI b)] (([] : List PV).reverse ++ vR 200 :: []) h3 (cl + 5) (sl + 330)
  refine tl_callV C dL_law_2072 [] (hthr (gx x)) h3o w_L_134 rfl (by decide) (by decide) (by omega) (by omega) (Nat.le_of_ble_eq_true rfl) (fun r h4 hq => ?_)
  obtain ⟨rfl, hq⟩ := hq
  subst h4
  show TL x bL 2075 [(1, vR 0), (2, vR 200), (3, vR 300), (4, vR 301), (5, vI i), (6, vI k), (7, vI b)] [vI k] h3 (cl + 5) (sl + 330)
  refine tl_iload C dL_law_2075 rfl ?_
  refine tl_icmp_eq C dL_law_2077 (tgt := 2082) (by decide) (fun _ => ?_) (fun c => absurd rfl c)
  refine tl_iload C dL_law_2082 rfl ?_
  have fin : TL x bL 2099 [(1, vR 0), (2, vR 200), (3, vR 300), (4, vR 301), (5, vI i), (6, vI k), (7, vI b)] [] h3 (cl + 5) (sl + 330) := tl_goto C dL_law_2099 (tgt := 2432) (by decide) (tl_sub (fun q hq => List.mem_append_left [(6, vI k), (7, vI b)] hq) (kk h3 k hJ3))
  refine tl_if_ne C dL_law_2084 (tgt := 2099) (by decide) (fun _ => fin) (fun c0 => ?_)
  obtain ⟨f, hf, hf0⟩ := hout c0
  refine tl_aload_n C 3 dL_law_2087 rfl rfl ?_
  refine tl_iconst C dL_law_2088 (by decide) ?_
  refine tl_lald C dL_law_2089 (k := 300) (n := 1) (f := f) (a := 0) hf (by decide) (by decide) ?_
  rw [hf0]
  refine tl_iload C dL_law_2090 rfl ?_
  refine tl_i2l C dL_law_2092 ?_
  refine tl_lcmp C dL_law_2093 ?_
  exact tl_if_eq C dL_law_2094 (tgt := 2099) (by decide) (fun _ => fin) (fun c => absurd rfl c)
theorem lc_29  (C : Fr x ⟨RL, nm, ds⟩ cL_law 9 ret tb 10 603072 7190634) {L : Nat} {xs : Nat → Int32} (hX : Scr x bL L xs) {i : Int} (hi : 0 ≤ i ∧ i ≤ 10000) (hiL : i + 7 ≤ (L : Int)) {N k0 : Int} (hJ : JW N k0 h) (hN1 : N ≤ 999) (hcl : cl + 5 ≤ 603072) (hsl : sl + 330 ≤ 7190634) (kk : ∀ (h2 : HP) (k2 : Int), JW (N + 1) k2 h2 → TL x bL 2432 [(1, vR 0), (2, vR 200), (3, vR 300), (4, vR 301), (5, vI i)] [] h2 (cl + 5) (sl + 330)) : TL x bL 2102 [(1, vR 0), (2, vR 200), (3, vR 300), (4, vR 301), (5, vI i)] [] h cl sl := by
  obtain ⟨k, d1, m1, s1, d2, Q, b1, b2, b3, b4, hc, hm⟩ := js_home (g := gx x) (p0 := (sx xs (i + 1))) (p1 := (sx xs (i + 2))) (p2 := (sx xs (i + 3))) (p3 := (sx xs (i + 4))) hJ hN1
  refine tl_aload_n C 1 dL_law_2102 rfl rfl ?_
  refine tl_scr C hX (p1 := 2107) (p2 := 0) (p3 := 0) (i := i) (n := 1) rfl hi ⟨by decide, by decide⟩ (by omega) (by decide) dL_law_2103 dL_law_2104 (.inl ⟨dL_law_2106, rfl⟩) dL_law_2107 dL_law_2108 ?_
  refine tl_scr C hX (p1 := 2113) (p2 := 0) (p3 := 0) (i := i) (n := 2) rfl hi ⟨by decide, by decide⟩ (by omega) (by decide) dL_law_2109 dL_law_2110 (.inl ⟨dL_law_2112, rfl⟩) dL_law_2113 dL_law_2114 ?_
  refine tl_scr C hX (p1 := 2119) (p2 := 0) (p3 := 0) (i := i) (n := 3) rfl hi ⟨by decide, by decide⟩ (by omega) (by decide) dL_law_2115 dL_law_2116 (.inl ⟨dL_law_2118, rfl⟩) dL_law_2119 dL_law_2120 ?_
  refine tl_scr C hX (p1 := 2125) (p2 := 0) (p3 := 0) (i := i) (n := 4) rfl hi ⟨by decide, by decide⟩ (by omega) (by decide) dL_law_2121 dL_law_2122 (.inl ⟨dL_law_2124, rfl⟩) dL_law_2125 dL_law_2126 ?_
  refine tl_aload_n C 3 dL_law_2127 rfl rfl ?_
  show TL x bL 2128 [(1, vR 0), (2, vR 200), (3, vR 300), (4, vR 301), (5, vI i)] ([vR 0, vI (sx xs (i + 1)), vI (sx xs (i + 2)), vI (sx xs (i + 3)), vI (sx xs (i + 4)), vR 300].reverse ++ []) h cl sl
  refine tl_callSW C dL_law_2128 [vR 0, vI (sx xs (i + 1)), vI (sx xs (i + 2)), vI (sx xs (i + 3)), vI (sx xs (i + 4)), vR 300] hc wl_234 rfl (by omega) (by decide) (by omega) (by omega) (Nat.le_of_ble_eq_true rfl) (fun r h1 hq => ?_)
  obtain ⟨rfl, hq⟩ := hq
  obtain ⟨⟨fs, h2⟩, hm⟩ := hm h1 hq
  show TL x bL 2131 [(1, vR 0), (2, vR 200), (3, vR 300), (4, vR 301), (5, vI i)] [vI k] h1 (cl + m1) (sl + s1)
  refine tl_wide (cl' := cl + 5) (sl' := sl + 330) (by omega) (by omega) ?_
  refine tl_istore C dL_law_2131 (by decide) (by decide) rfl ?_
  show TL x bL 2133 [(1, vR 0), (2, vR 200), (3, vR 300), (4, vR 301), (5, vI i), (6, vI k)] [] h1 (cl + 5) (sl + 330)
  refine tl_aload_n C 2 dL_law_2133 rfl rfl ?_
  refine tl_scr C hX (p1 := 2138) (p2 := 0) (p3 := 0) (i := i) (n := 1) rfl hi ⟨by decide, by decide⟩ (by omega) (by decide) dL_law_2134 dL_law_2135 (.inl ⟨dL_law_2137, rfl⟩) dL_law_2138 dL_law_2139 ?_
  refine tl_scr C hX (p1 := 2144) (p2 := 0) (p3 := 0) (i := i) (n := 2) rfl hi ⟨by decide, by decide⟩ (by omega) (by decide) dL_law_2140 dL_law_2141 (.inl ⟨dL_law_2143, rfl⟩) dL_law_2144 dL_law_2145 ?_
  refine tl_scr C hX (p1 := 2150) (p2 := 0) (p3 := 0) (i := i) (n := 3) rfl hi ⟨by decide, by decide⟩ (by omega) (by decide) dL_law_2146 dL_law_2147 (.inl ⟨dL_law_2149, rfl⟩) dL_law_2150 dL_law_2151 ?_
  refine tl_scr C hX (p1 := 2156) (p2 := 0) (p3 := 0) (i := i) (n := 4) rfl hi ⟨by decide, by decide⟩ (by omega) (by decide) dL_law_2152 dL_law_2153 (.inl ⟨dL_law_2155, rfl⟩) dL_law_2156 dL_law_2157 ?_
  show TL x bL 2158 [(1, vR 0), (2, vR 200), (3, vR 300), (4, vR 301), (5, vI i), (6, vI k)] ([vI (sx xs (i + 1)), vI (sx xs (i + 2)), vI (sx xs (i + 3)), vI (sx xs (i + 4))].reverse ++ vR 200 :: []) h1 (cl + 5) (sl + 330)
  refine tl_callV C dL_law_2158 [vI (sx xs (i + 1)), vI (sx xs (i + 2)), vI (sx xs (i + 3)), vI (sx xs (i + 4))] hm h2 w_L_236 rfl (by omega) (by decide) (by omega) (by omega) (Nat.le_of_ble_eq_true rfl) (fun r h3 hq => ?_)
  obtain ⟨b, rfl, hout, hJ3⟩ := hq
  show TL x bL 2161 [(1, vR 0), (2, vR 200), (3, vR 300), (4, vR 301), (5, vI i), (6, vI k)] [vI b] h3 (cl + 5) (sl + 330)
  refine tl_istore C dL_law_2161 (by decide) (by decide) rfl ?_
  show TL x bL 2163 [(1, vR 0), (2, vR 200), (3, vR 300), (4, vR 301), (5, vI i), (6, vI k), (7, vI b)] [] h3 (cl + 5) (sl + 330)
  obtain ⟨fs3, h3o, hthr⟩ := JW.m hJ3
  refine tl_aload_n C 2 dL_law_2163 rfl rfl ?_
  show TL x bL 2164 [(1, vR 0), (2, vR 200), (3, vR 300), (4, vR 301), (5, vI i), (6, vI k), (7, vI b)] (([] : List PV).reverse ++ vR 200 :: []) h3 (cl + 5) (sl + 330)
  refine tl_callV C dL_law_2164 [] (hthr (gx x)) h3o w_L_134 rfl (by decide) (by decide) (by omega) (by omega) (Nat.le_of_ble_eq_true rfl) (fun r h4 hq => ?_)
  obtain ⟨rfl, hq⟩ := hq
  subst h4
  show TL x bL 2167 [(1, vR 0), (2, vR 200), (3, vR 300), (4, vR 301), (5, vI i), (6, vI k), (7, vI b)] [vI k] h3 (cl + 5) (sl + 330)
  refine tl_iload C dL_law_2167 rfl ?_
  refine tl_icmp_eq C dL_law_2169 (tgt := 2174) (by decide) (fun _ => ?_) (fun c => absurd rfl c)
  refine tl_iload C dL_law_2174 rfl ?_
  have fin : TL x bL 2191 [(1, vR 0), (2, vR 200), (3, vR 300), (4, vR 301), (5, vI i), (6, vI k), (7, vI b)] [] h3 (cl + 5) (sl + 330) := tl_goto C dL_law_2191 (tgt := 2432) (by decide) (tl_sub (fun q hq => List.mem_append_left [(6, vI k), (7, vI b)] hq) (kk h3 k hJ3))
  refine tl_if_ne C dL_law_2176 (tgt := 2191) (by decide) (fun _ => fin) (fun c0 => ?_)
  obtain ⟨f, hf, hf0⟩ := hout c0
  refine tl_aload_n C 3 dL_law_2179 rfl rfl ?_
  refine tl_iconst C dL_law_2180 (by decide) ?_
  refine tl_lald C dL_law_2181 (k := 300) (n := 1) (f := f) (a := 0) hf (by decide) (by decide) ?_
  rw [hf0]
  refine tl_iload C dL_law_2182 rfl ?_
  refine tl_i2l C dL_law_2184 ?_
  refine tl_lcmp C dL_law_2185 ?_
  exact tl_if_eq C dL_law_2186 (tgt := 2191) (by decide) (fun _ => fin) (fun c => absurd rfl c)
theorem lc_30  (C : Fr x ⟨RL, nm, ds⟩ cL_law 9 ret tb 10 603072 7190634) {L : Nat} {xs : Nat → Int32} (hX : Scr x bL L xs) {i : Int} (hi : 0 ≤ i ∧ i ≤ 10000) (hiL : i + 7 ≤ (L : Int)) {N k0 : Int} (hJ : JW N k0 h) (hN1 : N ≤ 999) (hcl : cl + 5 ≤ 603072) (hsl : sl + 330 ≤ 7190634) (kk : ∀ (h2 : HP) (k2 : Int), JW (N + 1) k2 h2 → TL x bL 2432 [(1, vR 0), (2, vR 200), (3, vR 300), (4, vR 301), (5, vI i)] [] h2 (cl + 5) (sl + 330)) : TL x bL 2194 [(1, vR 0), (2, vR 200), (3, vR 300), (4, vR 301), (5, vI i)] [] h cl sl := by
  obtain ⟨k, d1, m1, s1, d2, Q, b1, b2, b3, b4, hc, hm⟩ := js_ahead (g := gx x) (p0 := (sx xs (i + 1))) hJ hN1
  refine tl_aload_n C 1 dL_law_2194 rfl rfl ?_
  refine tl_scr C hX (p1 := 2199) (p2 := 0) (p3 := 0) (i := i) (n := 1) rfl hi ⟨by decide, by decide⟩ (by omega) (by decide) dL_law_2195 dL_law_2196 (.inl ⟨dL_law_2198, rfl⟩) dL_law_2199 dL_law_2200 ?_
  refine tl_aload_n C 3 dL_law_2201 rfl rfl ?_
  show TL x bL 2202 [(1, vR 0), (2, vR 200), (3, vR 300), (4, vR 301), (5, vI i)] ([vR 0, vI (sx xs (i + 1)), vR 300].reverse ++ []) h cl sl
  refine tl_callSW C dL_law_2202 [vR 0, vI (sx xs (i + 1)), vR 300] hc wl_237 rfl (by omega) (by decide) (by omega) (by omega) (Nat.le_of_ble_eq_true rfl) (fun r h1 hq => ?_)
  obtain ⟨rfl, hq⟩ := hq
  obtain ⟨⟨fs, h2⟩, hm⟩ := hm h1 hq
  show TL x bL 2205 [(1, vR 0), (2, vR 200), (3, vR 300), (4, vR 301), (5, vI i)] [vI k] h1 (cl + m1) (sl + s1)
  refine tl_wide (cl' := cl + 5) (sl' := sl + 330) (by omega) (by omega) ?_
  refine tl_istore C dL_law_2205 (by decide) (by decide) rfl ?_
  show TL x bL 2207 [(1, vR 0), (2, vR 200), (3, vR 300), (4, vR 301), (5, vI i), (6, vI k)] [] h1 (cl + 5) (sl + 330)
  refine tl_aload_n C 2 dL_law_2207 rfl rfl ?_
  refine tl_scr C hX (p1 := 2212) (p2 := 0) (p3 := 0) (i := i) (n := 1) rfl hi ⟨by decide, by decide⟩ (by omega) (by decide) dL_law_2208 dL_law_2209 (.inl ⟨dL_law_2211, rfl⟩) dL_law_2212 dL_law_2213 ?_
  show TL x bL 2214 [(1, vR 0), (2, vR 200), (3, vR 300), (4, vR 301), (5, vI i), (6, vI k)] ([vI (sx xs (i + 1))].reverse ++ vR 200 :: []) h1 (cl + 5) (sl + 330)
  refine tl_callV C dL_law_2214 [vI (sx xs (i + 1))] hm h2 w_L_239 rfl (by omega) (by decide) (by omega) (by omega) (Nat.le_of_ble_eq_true rfl) (fun r h3 hq => ?_)
  obtain ⟨b, rfl, hout, hJ3⟩ := hq
  show TL x bL 2217 [(1, vR 0), (2, vR 200), (3, vR 300), (4, vR 301), (5, vI i), (6, vI k)] [vI b] h3 (cl + 5) (sl + 330)
  refine tl_istore C dL_law_2217 (by decide) (by decide) rfl ?_
  show TL x bL 2219 [(1, vR 0), (2, vR 200), (3, vR 300), (4, vR 301), (5, vI i), (6, vI k), (7, vI b)] [] h3 (cl + 5) (sl + 330)
  obtain ⟨fs3, h3o, hthr⟩ := JW.m hJ3
  refine tl_aload_n C 2 dL_law_2219 rfl rfl ?_
  show TL x bL 2220 [(1, vR 0), (2, vR 200), (3, vR 300), (4, vR 301), (5, vI i), (6, vI k), (7, vI b)] (([] : List PV).reverse ++ vR 200 :: []) h3 (cl + 5) (sl + 330)
  refine tl_callV C dL_law_2220 [] (hthr (gx x)) h3o w_L_134 rfl (by decide) (by decide) (by omega) (by omega) (Nat.le_of_ble_eq_true rfl) (fun r h4 hq => ?_)
  obtain ⟨rfl, hq⟩ := hq
  subst h4
  show TL x bL 2223 [(1, vR 0), (2, vR 200), (3, vR 300), (4, vR 301), (5, vI i), (6, vI k), (7, vI b)] [vI k] h3 (cl + 5) (sl + 330)
  refine tl_iload C dL_law_2223 rfl ?_
  refine tl_icmp_eq C dL_law_2225 (tgt := 2230) (by decide) (fun _ => ?_) (fun c => absurd rfl c)
  refine tl_iload C dL_law_2230 rfl ?_
  have fin : TL x bL 2247 [(1, vR 0), (2, vR 200), (3, vR 300), (4, vR 301), (5, vI i), (6, vI k), (7, vI b)] [] h3 (cl + 5) (sl + 330) := tl_goto C dL_law_2247 (tgt := 2432) (by decide) (tl_sub (fun q hq => List.mem_append_left [(6, vI k), (7, vI b)] hq) (kk h3 k hJ3))
  refine tl_if_ne C dL_law_2232 (tgt := 2247) (by decide) (fun _ => fin) (fun c0 => ?_)
  obtain ⟨f, hf, hf0⟩ := hout c0
  refine tl_aload_n C 3 dL_law_2235 rfl rfl ?_
  refine tl_iconst C dL_law_2236 (by decide) ?_
  refine tl_lald C dL_law_2237 (k := 300) (n := 1) (f := f) (a := 0) hf (by decide) (by decide) ?_
  rw [hf0]
  refine tl_iload C dL_law_2238 rfl ?_
  refine tl_i2l C dL_law_2240 ?_
  refine tl_lcmp C dL_law_2241 ?_
  exact tl_if_eq C dL_law_2242 (tgt := 2247) (by decide) (fun _ => fin) (fun c => absurd rfl c)
theorem lc_31  (C : Fr x ⟨RL, nm, ds⟩ cL_law 9 ret tb 10 603072 7190634) {L : Nat} {xs : Nat → Int32} (hX : Scr x bL L xs) {i : Int} (hi : 0 ≤ i ∧ i ≤ 10000) (hiL : i + 7 ≤ (L : Int)) {N k0 : Int} (hJ : JW N k0 h) (hN1 : N ≤ 999) (hcl : cl + 5 ≤ 603072) (hsl : sl + 330 ≤ 7190634) (kk : ∀ (h2 : HP) (k2 : Int), JW (N + 1) k2 h2 → TL x bL 2432 [(1, vR 0), (2, vR 200), (3, vR 300), (4, vR 301), (5, vI i)] [] h2 (cl + 5) (sl + 330)) : TL x bL 2250 [(1, vR 0), (2, vR 200), (3, vR 300), (4, vR 301), (5, vI i)] [] h cl sl := by
  obtain ⟨k, d1, m1, s1, d2, Q, b1, b2, b3, b4, hc, hm⟩ := js_fullShare (g := gx x) (p0 := (sx xs (i + 1))) hJ hN1
  refine tl_aload_n C 1 dL_law_2250 rfl rfl ?_
  refine tl_scr C hX (p1 := 2255) (p2 := 0) (p3 := 0) (i := i) (n := 1) rfl hi ⟨by decide, by decide⟩ (by omega) (by decide) dL_law_2251 dL_law_2252 (.inl ⟨dL_law_2254, rfl⟩) dL_law_2255 dL_law_2256 ?_
  refine tl_aload C (i := 4) dL_law_2257 rfl ?_
  show TL x bL 2259 [(1, vR 0), (2, vR 200), (3, vR 300), (4, vR 301), (5, vI i)] ([vR 0, vI (sx xs (i + 1)), vR 301].reverse ++ []) h cl sl
  refine tl_callSW C dL_law_2259 [vR 0, vI (sx xs (i + 1)), vR 301] hc wl_240 rfl (by omega) (by decide) (by omega) (by omega) (Nat.le_of_ble_eq_true rfl) (fun r h1 hq => ?_)
  obtain ⟨rfl, hq⟩ := hq
  obtain ⟨⟨fs, h2⟩, hm⟩ := hm h1 hq
  show TL x bL 2262 [(1, vR 0), (2, vR 200), (3, vR 300), (4, vR 301), (5, vI i)] [vI k] h1 (cl + m1) (sl + s1)
  refine tl_wide (cl' := cl + 5) (sl' := sl + 330) (by omega) (by omega) ?_
  refine tl_istore C dL_law_2262 (by decide) (by decide) rfl ?_
  show TL x bL 2264 [(1, vR 0), (2, vR 200), (3, vR 300), (4, vR 301), (5, vI i), (6, vI k)] [] h1 (cl + 5) (sl + 330)
  refine tl_aload_n C 2 dL_law_2264 rfl rfl ?_
  refine tl_scr C hX (p1 := 2269) (p2 := 0) (p3 := 0) (i := i) (n := 1) rfl hi ⟨by decide, by decide⟩ (by omega) (by decide) dL_law_2265 dL_law_2266 (.inl ⟨dL_law_2268, rfl⟩) dL_law_2269 dL_law_2270 ?_
  show TL x bL 2271 [(1, vR 0), (2, vR 200), (3, vR 300), (4, vR 301), (5, vI i), (6, vI k)] ([vI (sx xs (i + 1))].reverse ++ vR 200 :: []) h1 (cl + 5) (sl + 330)
  refine tl_callV C dL_law_2271 [vI (sx xs (i + 1))] hm h2 w_L_243 rfl (by omega) (by decide) (by omega) (by omega) (Nat.le_of_ble_eq_true rfl) (fun r h3 hq => ?_)
  obtain ⟨b, rfl, hout, hJ3⟩ := hq
  show TL x bL 2274 [(1, vR 0), (2, vR 200), (3, vR 300), (4, vR 301), (5, vI i), (6, vI k)] [vF b] h3 (cl + 5) (sl + 330)
  refine tl_fstore C dL_law_2274 (by decide) (by decide) rfl ?_
  show TL x bL 2276 [(1, vR 0), (2, vR 200), (3, vR 300), (4, vR 301), (5, vI i), (6, vI k), (7, vF b)] [] h3 (cl + 5) (sl + 330)
  obtain ⟨fs3, h3o, hthr⟩ := JW.m hJ3
  refine tl_aload_n C 2 dL_law_2276 rfl rfl ?_
  show TL x bL 2277 [(1, vR 0), (2, vR 200), (3, vR 300), (4, vR 301), (5, vI i), (6, vI k), (7, vF b)] (([] : List PV).reverse ++ vR 200 :: []) h3 (cl + 5) (sl + 330)
  refine tl_callV C dL_law_2277 [] (hthr (gx x)) h3o w_L_134 rfl (by decide) (by decide) (by omega) (by omega) (Nat.le_of_ble_eq_true rfl) (fun r h4 hq => ?_)
  obtain ⟨rfl, hq⟩ := hq
  subst h4
  show TL x bL 2280 [(1, vR 0), (2, vR 200), (3, vR 300), (4, vR 301), (5, vI i), (6, vI k), (7, vF b)] [vI k] h3 (cl + 5) (sl + 330)
  refine tl_iload C dL_law_2280 rfl ?_
  refine tl_icmp_eq C dL_law_2282 (tgt := 2287) (by decide) (fun _ => ?_) (fun c => absurd rfl c)
  refine tl_iload C dL_law_2287 rfl ?_
  have fin : TL x bL 2325 [(1, vR 0), (2, vR 200), (3, vR 300), (4, vR 301), (5, vI i), (6, vI k), (7, vF b)] [] h3 (cl + 5) (sl + 330) := tl_goto C dL_law_2325 (tgt := 2432) (by decide) (tl_sub (fun q hq => List.mem_append_left [(6, vI k), (7, vF b)] hq) (kk h3 k hJ3))
  refine tl_if_ne C dL_law_2289 (tgt := 2325) (by decide) (fun _ => fin) (fun c0 => ?_)
  obtain ⟨⟨f, hf, hf0⟩, hnn, hcm⟩ := hout c0
  refine tl_aload C (i := 4) dL_law_2292 rfl ?_
  refine tl_iconst C dL_law_2294 (by decide) ?_
  refine tl_dald C dL_law_2295 (k := 301) (n := 1) (f := f) (a := 0) hf (by decide) (by decide) ?_
  rw [hf0]
  refine tl_fload C dL_law_2296 rfl ?_
  refine tl_f2d C dL_law_2298 hnn ?_
  refine tl_dcmp C dL_law_2299 hcm ?_
  exact tl_if_eq C dL_law_2300 (tgt := 2325) (by decide) (fun _ => fin) (fun c => absurd rfl c)
theorem lc_32  (C : Fr x ⟨RL, nm, ds⟩ cL_law 9 ret tb 10 603072 7190634) {L : Nat} {xs : Nat → Int32} (hX : Scr x bL L xs) {i : Int} (hi : 0 ≤ i ∧ i ≤ 10000) (hiL : i + 7 ≤ (L : Int)) {N k0 : Int} (hJ : JW N k0 h) (hN1 : N ≤ 999) (hcl : cl + 5 ≤ 603072) (hsl : sl + 330 ≤ 7190634) (kk : ∀ (h2 : HP) (k2 : Int), JW (N + 1) k2 h2 → TL x bL 2432 [(1, vR 0), (2, vR 200), (3, vR 300), (4, vR 301), (5, vI i)] [] h2 (cl + 5) (sl + 330)) : TL x bL 2328 [(1, vR 0), (2, vR 200), (3, vR 300), (4, vR 301), (5, vI i)] [] h cl sl := by
  obtain ⟨k, d1, m1, s1, d2, Q, b1, b2, b3, b4, hc, hm⟩ := js_meanSize (g := gx x) (p0 := (sx xs (i + 1))) hJ hN1
  refine tl_aload_n C 1 dL_law_2328 rfl rfl ?_
  refine tl_scr C hX (p1 := 2333) (p2 := 0) (p3 := 0) (i := i) (n := 1) rfl hi ⟨by decide, by decide⟩ (by omega) (by decide) dL_law_2329 dL_law_2330 (.inl ⟨dL_law_2332, rfl⟩) dL_law_2333 dL_law_2334 ?_
  refine tl_aload C (i := 4) dL_law_2335 rfl ?_
  show TL x bL 2337 [(1, vR 0), (2, vR 200), (3, vR 300), (4, vR 301), (5, vI i)] ([vR 0, vI (sx xs (i + 1)), vR 301].reverse ++ []) h cl sl
  refine tl_callSW C dL_law_2337 [vR 0, vI (sx xs (i + 1)), vR 301] hc wl_244 rfl (by omega) (by decide) (by omega) (by omega) (Nat.le_of_ble_eq_true rfl) (fun r h1 hq => ?_)
  obtain ⟨rfl, hq⟩ := hq
  obtain ⟨⟨fs, h2⟩, hm⟩ := hm h1 hq
  show TL x bL 2340 [(1, vR 0), (2, vR 200), (3, vR 300), (4, vR 301), (5, vI i)] [vI k] h1 (cl + m1) (sl + s1)
  refine tl_wide (cl' := cl + 5) (sl' := sl + 330) (by omega) (by omega) ?_
  refine tl_istore C dL_law_2340 (by decide) (by decide) rfl ?_
  show TL x bL 2342 [(1, vR 0), (2, vR 200), (3, vR 300), (4, vR 301), (5, vI i), (6, vI k)] [] h1 (cl + 5) (sl + 330)
  refine tl_aload_n C 2 dL_law_2342 rfl rfl ?_
  refine tl_scr C hX (p1 := 2347) (p2 := 0) (p3 := 0) (i := i) (n := 1) rfl hi ⟨by decide, by decide⟩ (by omega) (by decide) dL_law_2343 dL_law_2344 (.inl ⟨dL_law_2346, rfl⟩) dL_law_2347 dL_law_2348 ?_
  show TL x bL 2349 [(1, vR 0), (2, vR 200), (3, vR 300), (4, vR 301), (5, vI i), (6, vI k)] ([vI (sx xs (i + 1))].reverse ++ vR 200 :: []) h1 (cl + 5) (sl + 330)
  refine tl_callV C dL_law_2349 [vI (sx xs (i + 1))] hm h2 w_L_246 rfl (by omega) (by decide) (by omega) (by omega) (Nat.le_of_ble_eq_true rfl) (fun r h3 hq => ?_)
  obtain ⟨b, rfl, hout, hJ3⟩ := hq
  show TL x bL 2352 [(1, vR 0), (2, vR 200), (3, vR 300), (4, vR 301), (5, vI i), (6, vI k)] [vD b] h3 (cl + 5) (sl + 330)
  refine tl_dstore C dL_law_2352 (by decide) (by decide) rfl ?_
  show TL x bL 2354 [(1, vR 0), (2, vR 200), (3, vR 300), (4, vR 301), (5, vI i), (6, vI k), (7, vD b)] [] h3 (cl + 5) (sl + 330)
  obtain ⟨fs3, h3o, hthr⟩ := JW.m hJ3
  refine tl_aload_n C 2 dL_law_2354 rfl rfl ?_
  show TL x bL 2355 [(1, vR 0), (2, vR 200), (3, vR 300), (4, vR 301), (5, vI i), (6, vI k), (7, vD b)] (([] : List PV).reverse ++ vR 200 :: []) h3 (cl + 5) (sl + 330)
  refine tl_callV C dL_law_2355 [] (hthr (gx x)) h3o w_L_134 rfl (by decide) (by decide) (by omega) (by omega) (Nat.le_of_ble_eq_true rfl) (fun r h4 hq => ?_)
  obtain ⟨rfl, hq⟩ := hq
  subst h4
  show TL x bL 2358 [(1, vR 0), (2, vR 200), (3, vR 300), (4, vR 301), (5, vI i), (6, vI k), (7, vD b)] [vI k] h3 (cl + 5) (sl + 330)
  refine tl_iload C dL_law_2358 rfl ?_
  refine tl_icmp_eq C dL_law_2360 (tgt := 2365) (by decide) (fun _ => ?_) (fun c => absurd rfl c)
  refine tl_iload C dL_law_2365 rfl ?_
  have fin : TL x bL 2402 [(1, vR 0), (2, vR 200), (3, vR 300), (4, vR 301), (5, vI i), (6, vI k), (7, vD b)] [] h3 (cl + 5) (sl + 330) := tl_goto C dL_law_2402 (tgt := 2432) (by decide) (tl_sub (fun q hq => List.mem_append_left [(6, vI k), (7, vD b)] hq) (kk h3 k hJ3))
  refine tl_if_ne C dL_law_2367 (tgt := 2402) (by decide) (fun _ => fin) (fun c0 => ?_)
  obtain ⟨⟨f, hf, hf0⟩, hcm⟩ := hout c0
  refine tl_aload C (i := 4) dL_law_2370 rfl ?_
  refine tl_iconst C dL_law_2372 (by decide) ?_
  refine tl_dald C dL_law_2373 (k := 301) (n := 1) (f := f) (a := 0) hf (by decide) (by decide) ?_
  rw [hf0]
  refine tl_dload C dL_law_2374 rfl ?_
  refine tl_dcmp C dL_law_2376 hcm ?_
  exact tl_if_eq C dL_law_2377 (tgt := 2402) (by decide) (fun _ => fin) (fun c => absurd rfl c)
theorem lc_33  (C : Fr x ⟨RL, nm, ds⟩ cL_law 9 ret tb 10 603072 7190634) {L : Nat} {xs : Nat → Int32} (hX : Scr x bL L xs) {i : Int} (hi : 0 ≤ i ∧ i ≤ 10000) (hiL : i + 7 ≤ (L : Int)) {N k0 : Int} (hJ : JW N k0 h) (hN1 : N ≤ 999) (hcl : cl + 5 ≤ 603072) (hsl : sl + 330 ≤ 7190634) (kk : ∀ (h2 : HP) (k2 : Int), JW (N + 1) k2 h2 → TL x bL 2432 [(1, vR 0), (2, vR 200), (3, vR 300), (4, vR 301), (5, vI i)] [] h2 (cl + 5) (sl + 330)) : TL x bL 2405 [(1, vR 0), (2, vR 200), (3, vR 300), (4, vR 301), (5, vI i)] [] h cl sl := by
  obtain ⟨v, k, d1, m1, s1, d2, Q, b1, b2, b3, b4, hc, hm⟩ := jd_checksum (g := gx x) hJ hN1
  obtain ⟨fs0, h0⟩ := JW.s hJ
  refine tl_aload_n C 1 dL_law_2405 rfl rfl ?_
  show TL x bL 2406 [(1, vR 0), (2, vR 200), (3, vR 300), (4, vR 301), (5, vI i)] (([] : List PV).reverse ++ vR 0 :: []) h cl sl
  refine tl_callV C dL_law_2406 [] hc h0 w_L_247 rfl (by omega) (by decide) (by omega) (by omega) (Nat.le_of_ble_eq_true rfl) (fun r h1 hq => ?_)
  obtain ⟨rfl, hq⟩ := hq
  obtain ⟨⟨fs, h2⟩, hm⟩ := hm h1 hq
  show TL x bL 2409 [(1, vR 0), (2, vR 200), (3, vR 300), (4, vR 301), (5, vI i)] [vL v] h1 (cl + m1) (sl + s1)
  refine tl_wide (cl' := cl + 5) (sl' := sl + 330) (by omega) (by omega) ?_
  refine tl_aload_n C 2 dL_law_2409 rfl rfl ?_
  show TL x bL 2410 [(1, vR 0), (2, vR 200), (3, vR 300), (4, vR 301), (5, vI i)] (([] : List PV).reverse ++ vR 200 :: [vL v]) h1 (cl + 5) (sl + 330)
  refine tl_callV C dL_law_2410 [] hm h2 w_L_251 rfl (by omega) (by decide) (by omega) (by omega) (Nat.le_of_ble_eq_true rfl) (fun r h3 hq => ?_)
  obtain ⟨rfl, hJ3⟩ := hq
  show TL x bL 2413 [(1, vR 0), (2, vR 200), (3, vR 300), (4, vR 301), (5, vI i)] [vL v, vL v] h3 (cl + 5) (sl + 330)
  refine tl_lcmp C dL_law_2413 ?_
  refine tl_if_eq C dL_law_2414 (tgt := 2432) (by decide) (fun _ => kk h3 k hJ3) (fun c => absurd rfl c)
theorem lc_34  (C : Fr x ⟨RL, nm, ds⟩ cL_law 9 ret tb 10 603072 7190634) {L : Nat} {xs : Nat → Int32} (hX : Scr x bL L xs) {i : Int} (hi : 0 ≤ i ∧ i ≤ 10000) (hiL : i + 7 ≤ (L : Int)) {N k0 : Int} (hJ : JW N k0 h) (hN1 : N ≤ 999) (hcl : cl + 5 ≤ 603072) (hsl : sl + 330 ≤ 7190634) (kk : ∀ (h2 : HP) (k2 : Int), JW (N + 1) k2 h2 → TL x bL 2432 [(1, vR 0), (2, vR 200), (3, vR 300), (4, vR 301), (5, vI i)] [] h2 (cl + 5) (sl + 330)) : TL x bL 2419 [(1, vR 0), (2, vR 200), (3, vR 300), (4, vR 301), (5, vI i)] [] h cl sl := by
  obtain ⟨v, k, d1, m1, s1, d2, Q, b1, b2, b3, b4, hc, hm⟩ := jd_isSound (g := gx x) hJ hN1
  obtain ⟨fs0, h0⟩ := JW.s hJ
  refine tl_aload_n C 1 dL_law_2419 rfl rfl ?_
  show TL x bL 2420 [(1, vR 0), (2, vR 200), (3, vR 300), (4, vR 301), (5, vI i)] (([] : List PV).reverse ++ vR 0 :: []) h cl sl
  refine tl_callV C dL_law_2420 [] hc h0 w_L_252 rfl (by omega) (by decide) (by omega) (by omega) (Nat.le_of_ble_eq_true rfl) (fun r h1 hq => ?_)
  obtain ⟨rfl, hq⟩ := hq
  obtain ⟨⟨fs, h2⟩, hm⟩ := hm h1 hq
  show TL x bL 2423 [(1, vR 0), (2, vR 200), (3, vR 300), (4, vR 301), (5, vI i)] [vI v] h1 (cl + m1) (sl + s1)
  refine tl_wide (cl' := cl + 5) (sl' := sl + 330) (by omega) (by omega) ?_
  refine tl_aload_n C 2 dL_law_2423 rfl rfl ?_
  show TL x bL 2424 [(1, vR 0), (2, vR 200), (3, vR 300), (4, vR 301), (5, vI i)] (([] : List PV).reverse ++ vR 200 :: [vI v]) h1 (cl + 5) (sl + 330)
  refine tl_callV C dL_law_2424 [] hm h2 w_L_255 rfl (by omega) (by decide) (by omega) (by omega) (Nat.le_of_ble_eq_true rfl) (fun r h3 hq => ?_)
  obtain ⟨rfl, hJ3⟩ := hq
  show TL x bL 2427 [(1, vR 0), (2, vR 200), (3, vR 300), (4, vR 301), (5, vI i)] [vI v, vI v] h3 (cl + 5) (sl + 330)
  refine tl_icmp_eq C dL_law_2427 (tgt := 2432) (by decide) (fun _ => kk h3 k hJ3) (fun c => absurd rfl c)
end LC
