section MORE
variable {x : Cx} {y : MethodName} {cc : ByteArray} {nL : Nat} {ret : Option FieldType} {tb : List (Nat × Nat × Nat × Nat)} {d mc ms : Nat} {pc : Nat} {ls : List (Nat × PV)} {st : List PV} {h : HP} {cl sl : Nat}
theorem st_objInit (C : Fr x y cc nL ret tb d mc ms) {idx a : Nat} (hd : decode cc pc = .ok (.invokespecial idx, 3)) (w1 : Cond.methodLink y.cls idx Lib.objectInit ∈ lw_tbl) (w2 : Cond.instanceMethod Lib.objectInit ∈ lw_tbl) (w3 : Cond.code Lib.objectInit ⟨#[0xb1]⟩ 1 none ∈ lw_tbl) (hd1 : 1 ≤ d) (hcat : catS st ≤ 8) (k : T x (pc + 3) ls st h cl sl) : T x pc ls (vR a :: st) h cl sl := by
  obtain ⟨p, l, e, R, s, m, args, below, meth, c, dC, dI, cA, H0, Qf, ad0, h0⟩ := x
  obtain ⟨hx, hb, hml, hret, htb, hown, hnm, hlk, hst, hdR, hlR, hcR, hsR, hS0, hTB, hNC, hST, hK0⟩ := C
  intro ad H locs rls hS hR hE hL hK hl
  refine W.objInit hx hb hown (hTB.at w1 rfl) (hTB.at w2 rfl) (hTB.at w3 rfl) (g := F0 m pc rls ((vR a :: st).map (mapV ad))) rfl hl.1 rfl hd (by omega) ?_ (k ad H locs rls hS hR hE hL (okS_t hK) hl)
  have h1 := catS_map (st := st) (ad := ad)
  show 2 * 0 + ((st.map (mapV ad)).map fun v => v.category).sum + 12 ≤ R.locals
  omega
theorem st_mmax (C : Fr x y cc nL ret tb d mc ms) {a b : Int} {idx : Nat} (hd : decode cc pc = .ok (.invokestatic idx, 3)) (w1 : Cond.methodLink y.cls idx Lib.Math.max.name ∈ lw_tbl) (w2 : Cond.static Lib.Math.max.name ∈ lw_tbl) (w3 : Cond.initialized "java/lang/Math" ∈ lw_tbl) (w4 : Cond.code Lib.Math.max.name Lib.Math.max.code 2 (some .int) ∈ lw_tbl) (hd1 : 1 ≤ d) (hcat : catS st ≤ 8) (hc1 : cl ≤ mc) (hs1 : sl ≤ ms) (k : T x (pc + 3) ls (vI (if a < b then b else a) :: st) h cl sl) : T x pc ls (vI b :: vI a :: st) h cl sl := by
  obtain ⟨p, l, e, R, s, m, args, below, meth, c, dC, dI, cA, H0, Qf, ad0, h0⟩ := x
  obtain ⟨hx, hb, hml, hret, htb, hown, hnm, hlk, hst, hdR, hlR, hcR, hsR, hS0, hTB, hNC, hST, hK0⟩ := C
  intro ad H locs rls hS hR hE hL hK hl
  have hva : inI a := okS_h (okS_t hK)
  have hvb : inI b := okS_h hK
  have hr : inI (if a < b then b else a) := by split <;> assumption
  have e1 : (if Int32.ofInt a < Int32.ofInt b then Int32.ofInt b else Int32.ofInt a) = Int32.ofInt (if a < b then b else a) := by
    by_cases hc : a < b
    · rw [if_pos hc, if_pos ((i_lt hva hvb).mpr hc)]
    · rw [if_neg hc, if_neg (fun z => hc ((i_lt hva hvb).mp z))]
  have h3 := k ad H locs rls hS hR hE hL (okS_c (v := vI (if a < b then b else a)) hr (okS_t (okS_t hK))) hl
  have h4 := catS_map (st := st) (ad := ad)
  refine va_mmax hx hb (hml.trans (hl.1.trans hml).symm) hown (hTB.at w1 rfl) (hTB.at w2 rfl) (hTB.at w3 rfl) (hTB.at w4 rfl) (by omega) (by omega) (Nat.le_trans hc1 hcR) (Nat.le_trans hs1 hsR) hd ?_
  rw [e1]
  exact h3
theorem st_mmin (C : Fr x y cc nL ret tb d mc ms) {a b : Int} {idx : Nat} (hd : decode cc pc = .ok (.invokestatic idx, 3)) (w1 : Cond.methodLink y.cls idx Lib.Math.min.name ∈ lw_tbl) (w2 : Cond.static Lib.Math.min.name ∈ lw_tbl) (w3 : Cond.initialized "java/lang/Math" ∈ lw_tbl) (w4 : Cond.code Lib.Math.min.name Lib.Math.min.code 2 (some .int) ∈ lw_tbl) (hd1 : 1 ≤ d) (hcat : catS st ≤ 8) (hc1 : cl ≤ mc) (hs1 : sl ≤ ms) (k : T x (pc + 3) ls (vI (if b < a then b else a) :: st) h cl sl) : T x pc ls (vI b :: vI a :: st) h cl sl := by
  obtain ⟨p, l, e, R, s, m, args, below, meth, c, dC, dI, cA, H0, Qf, ad0, h0⟩ := x
  obtain ⟨hx, hb, hml, hret, htb, hown, hnm, hlk, hst, hdR, hlR, hcR, hsR, hS0, hTB, hNC, hST, hK0⟩ := C
  intro ad H locs rls hS hR hE hL hK hl
  have hva : inI a := okS_h (okS_t hK)
  have hvb : inI b := okS_h hK
  have hr : inI (if b < a then b else a) := by split <;> assumption
  have e1 : (if Int32.ofInt b < Int32.ofInt a then Int32.ofInt b else Int32.ofInt a) = Int32.ofInt (if b < a then b else a) := by
    by_cases hc : b < a
    · rw [if_pos hc, if_pos ((i_lt hvb hva).mpr hc)]
    · rw [if_neg hc, if_neg (fun z => hc ((i_lt hvb hva).mp z))]
  have h3 := k ad H locs rls hS hR hE hL (okS_c (v := vI (if b < a then b else a)) hr (okS_t (okS_t hK))) hl
  have h4 := catS_map (st := st) (ad := ad)
  refine va_mmin hx hb (hml.trans (hl.1.trans hml).symm) hown (hTB.at w1 rfl) (hTB.at w2 rfl) (hTB.at w3 rfl) (hTB.at w4 rfl) (by omega) (by omega) (Nat.le_trans hc1 hcR) (Nat.le_trans hs1 hsR) hd ?_
  rw [e1]
  exact h3
theorem st_mabs (C : Fr x y cc nL ret tb d mc ms) {a : Int} (hr : inI (if 0 ≤ a then a else 0 - a)) {idx : Nat} (hd : decode cc pc = .ok (.invokestatic idx, 3)) (w1 : Cond.methodLink y.cls idx Lib.Math.abs.name ∈ lw_tbl) (w2 : Cond.static Lib.Math.abs.name ∈ lw_tbl) (w3 : Cond.initialized "java/lang/Math" ∈ lw_tbl) (w4 : Cond.code Lib.Math.abs.name Lib.Math.abs.code 1 (some .int) ∈ lw_tbl) (hd1 : 1 ≤ d) (hcat : catS st ≤ 8) (hc1 : cl ≤ mc) (hs1 : sl ≤ ms) (k : T x (pc + 3) ls (vI (if 0 ≤ a then a else 0 - a) :: st) h cl sl) : T x pc ls (vI a :: st) h cl sl := by
  obtain ⟨p, l, e, R, s, m, args, below, meth, c, dC, dI, cA, H0, Qf, ad0, h0⟩ := x
  obtain ⟨hx, hb, hml, hret, htb, hown, hnm, hlk, hst, hdR, hlR, hcR, hsR, hS0, hTB, hNC, hST, hK0⟩ := C
  intro ad H locs rls hS hR hE hL hK hl
  have hva : inI a := okS_h hK
  have e1 : (if 0 ≤ Int32.ofInt a then Int32.ofInt a else 0 - Int32.ofInt a) = Int32.ofInt (if 0 ≤ a then a else 0 - a) := by
    by_cases hc : 0 ≤ a
    · rw [if_pos hc, if_pos (by rw [i_0]; exact (i_le i_z hva).mpr hc)]
    · rw [if_neg hc, if_neg (fun z => hc ((i_le i_z hva).mp (by rw [i_0] at z; exact z))), Int32.ofInt_sub, ← i_0]
  have h3 := k ad H locs rls hS hR hE hL (okS_c (v := vI (if 0 ≤ a then a else 0 - a)) hr (okS_t hK)) hl
  have h4 := catS_map (st := st) (ad := ad)
  refine va_mabs hx hb (hml.trans (hl.1.trans hml).symm) hown (hTB.at w1 rfl) (hTB.at w2 rfl) (hTB.at w3 rfl) (hTB.at w4 rfl) (by omega) (by omega) (Nat.le_trans hc1 hcR) (Nat.le_trans hs1 hsR) hd ?_
  rw [e1]
  exact h3
def fcpy (f g : Int → Int) (sp dp n : Int) : Int → Int := fun j => if dp ≤ j ∧ j < dp + n then f (sp + (j - dp)) else g j
theorem st_copy (C : Fr x y cc nL ret tb d mc ms) {idx k0 k1 n0 n1 : Nat} {f g : Int → Int} {sp dp n : Int} (hd : decode cc pc = .ok (.invokestatic idx, 3)) (w1 : Cond.methodLink y.cls idx arraycopyName ∈ lw_tbl) (w2 : Cond.native arraycopyName ∈ lw_tbl) (w3 : Cond.static arraycopyName ∈ lw_tbl) (w4 : Cond.initialized "java/lang/System" ∈ lw_tbl)
    (he0 : h k0 = some (oI n0 f)) (he1 : h k1 = some (oI n1 g)) (h1 : 0 ≤ sp) (h2 : 0 ≤ dp) (h3 : 0 ≤ n) (h4 : sp + n ≤ n0) (h5 : dp + n ≤ n1) (hd1 : 1 ≤ d) (hcat : catS st ≤ 8) (k : T x (pc + 3) ls st (hput h k1 (oI n1 (fcpy f g sp dp n))) cl sl) : T x pc ls (vI n :: vI dp :: vR k1 :: vI sp :: vR k0 :: st) h cl sl := by
  obtain ⟨p, l, e, R, s, m, args, below, meth, c, dC, dI, cA, H0, Qf, ad0, h0⟩ := x
  obtain ⟨hx, hb, hml, hret, htb, hown, hnm, hlk, hst, hdR, hlR, hcR, hsR, hS0, hTB, hNC, hST, hK0⟩ := C
  intro ad H locs rls hS hR hE hL hK hl
  have hsp : inI sp := okS_h (okS_t (okS_t (okS_t hK)))
  have hdp : inI dp := okS_h (okS_t hK)
  have hn : inI n := okS_h hK
  have hKs := okS_t (okS_t (okS_t (okS_t (okS_t hK))))
  obtain ⟨dom, hdom, hP, hD, hok⟩ := id hR
  obtain ⟨i0, -, hi0⟩ := ws_at (cA := cA) (ad := ad) hdom he0
  obtain ⟨i1, hdi, hi1⟩ := ws_at (cA := cA) (ad := ad) hdom he1
  have hno : okE h (oI n1 (fcpy f g sp dp n)) := fun j => by
    show inI (fcpy f g sp dp n j)
    unfold fcpy
    split
    · exact hok k0 _ he0 _
    · exact hok k1 _ he1 _
  have e1 : va_cpy (fun j : Nat => Int32.ofInt (f (j : Int))) (fun j : Nat => Int32.ofInt (g (j : Int))) (Int32.ofInt sp).toNatClampNeg (Int32.ofInt dp).toNatClampNeg (Int32.ofInt n).toNatClampNeg = fun j : Nat => Int32.ofInt (fcpy f g sp dp n (j : Int)) := by
    funext j
    rw [i_cl hsp, i_cl hdp, i_cl hn]
    unfold va_cpy fcpy
    by_cases hc : dp.toNat ≤ j ∧ j < dp.toNat + n.toNat
    · have e3 : ((sp.toNat + (j - dp.toNat) : Nat) : Int) = sp + ((j : Int) - dp) := by omega
      rw [if_pos hc, if_pos (by omega), ← e3]
    · rw [if_neg hc, if_neg (by omega)]
  have h9 := catS_map (st := st) (ad := ad)
  have hnw : nativeFrameWords "java/lang/System" "arraycopy" 5 = 7 := by decide
  refine va_copyi (D := (dC, dI)) hx hb (hml.trans (hl.1.trans hml).symm) hown (hTB.at w1 rfl) (hTB.at w2 rfl) (hTB.at w3 rfl) (hTB.at w4 rfl) hK0 hP hD hS i0 i1 0 0 hi0 hi1 rfl rfl rfl (by rw [i_0, i_lt hsp i_z]; omega) (by rw [i_0, i_lt hdp i_z]; omega) (by rw [i_0, i_lt hn i_z]; omega) (by rw [i_cl hsp, i_cl hn]; omega) (by rw [i_cl hdp, i_cl hn]; omega) (fun _ _ => rfl) (by omega) (by rw [hnw]; omega) hd (fun H1 locs1 hP1 hD1 hS1 => ?_)
  rw [e1] at hP1 hD1
  have hP2 := (ws_set hD hdi (oI n1 (fcpy f g sp dp n))) ▸ hP1
  have hD2 := (ws_set hD hdi (oI n1 (fcpy f g sp dp n))) ▸ hD1
  have hE1 : Ext ad h ad (hput h k1 (oI n1 (fcpy f g sp dp n))) := ext_put k1 _
  exact k ad H1 locs1 rls hS1 (Rw.put hdom hok he1 hno hP2 hD2) (hE.tr hE1) (okL_ext hE1 hL).1 (okS_ext hE1 hKs).1 hl
theorem st_catch (C : Fr x y cc nL ret tb d mc ms) {E nm : String} (pre suf : List (Nat × Nat × Nat × Nat)) (r : Nat × Nat × Nat × Nat) {j : Nat} {len : Nat} (htb2 : tb = pre ++ r :: suf) (hpass : ∀ z ∈ tableOf pre, covers z pc = false ∨ (z.catchType ≠ 0 ∧ ∃ n9 : String, Cond.classLink y.cls z.catchType n9 ∈ lw_tbl ∧ (E, n9) ∈ ncL)) (hsp : ∃ x0, tableOf tb = tableOf pre ++ x0 :: tableOf suf ∧ covers x0 pc = true ∧ x0.catchType ≠ 0 ∧ x0.handlerPc = r.2.2.1 ∧ Cond.classLink y.cls x0.catchType nm ∈ lw_tbl)
    (hcast : Cond.castable E nm ∈ lw_tbl) (hn : j < nL) (hd : decode cc r.2.2.1 = .ok (.astore j, 2) ∧ len = 2 ∨ ∃ q : Fin 4, decode cc r.2.2.1 = .ok (.astore_n q, 1) ∧ (q : Nat) = j ∧ len = 1) (ls' : List (Nat × PV)) (hls : ls.filter (fun q => !(Nat.beq q.1 j) && !(Nat.beq (q.1 + 1) j)) = ls') (k : T x (r.2.2.1 + len) ls' [] h cl sl) : TX x pc ls h cl sl E := by
  obtain ⟨p, l, e, R, s, m, args, below, meth, c, dC, dI, cA, H0, Qf, ad0, h0⟩ := x
  obtain ⟨hx, hb, hml, hret, htb, hown, hnm, hlk, hst, hdR, hlR, hcR, hsR, hS0, hTB, hNC, hST, hK0⟩ := C
  intro ad H locs rls rest q ce hS hR hE hL hl g1 g2 g3
  obtain ⟨x0, e0, c0, c1, c2, c3⟩ := hsp
  subst hls
  have hsub : ∀ {ls2 : List (Nat × Value)} {rls' : Array Slot}, ls2 = (j, Value.ref q) :: (ls.map (fun q => (q.1, mapV ad q.2))).filter (fun q => !(q.1 == j) && !(q.1 + 1 == j && q.2.category == 2)) → lv_has rls' c.maxLocals ls2 → lv_has rls' c.maxLocals ((ls.filter (fun q => !(Nat.beq q.1 j) && !(Nat.beq (q.1 + 1) j))).map (fun q => (q.1, mapV ad q.2))) := by
    intro ls2 rls' e2 h2
    refine has_sub h2 fun z hz => ?_
    rw [e2]
    obtain ⟨a, ha, rfl⟩ := List.mem_map.mp hz
    obtain ⟨ha1, ha2⟩ := List.mem_filter.mp ha
    simp only [Bool.and_eq_true, Bool.not_eq_true'] at ha2
    refine List.mem_cons_of_mem _ (List.mem_filter.mpr ⟨List.mem_map.mpr ⟨a, ha1, rfl⟩, ?_⟩)
    have h5 : a.1 ≠ j := fun z => by rw [z] at ha2; simp at ha2
    have h6 : a.1 + 1 ≠ j := fun z => by rw [z] at ha2; simp at ha2
    simp [h5, h6]
  have hL2 : ∀ z ∈ ls.filter (fun q => !(Nat.beq q.1 j) && !(Nat.beq (q.1 + 1) j)), okV h z.2 := fun z hz => hL z (List.mem_filter.mp hz).1
  refine vx_catch (name := nm) hown (tableOf pre) x0 (tableOf suf) (by rw [htb, e0]) (fun z hz => ?_) c0 c1 (hTB.at c3 rfl) (hTB.at hcast rfl) g1 g2 g3 ?_
  · rcases hpass z hz with h5 | ⟨h5, n9, h6, h7⟩
    · exact Or.inl h5
    · exact Or.inr ⟨h5, n9, hTB.at h6 rfl, hNC _ h7⟩
  · rw [c2]
    rcases hd with ⟨hd, rfl⟩ | ⟨q4, hd, hq4, rfl⟩
    · exact lv_astore hx hb hd hl (by rw [hml]; exact hn) rfl (fun rls' hl' => k ad H locs rls' hS hR hE hL2 (fun _ hm => nomatch hm) (hsub rfl hl'))
    · exact lv_astore_n hx hb hd hq4 hl (by rw [hml]; exact hn) rfl (fun rls' hl' => k ad H locs rls' hS hR hE hL2 (fun _ hm => nomatch hm) (hsub rfl hl'))
theorem j_toInt {a : Int} (ha : inJ a) : (Int64.ofInt a).toInt = a := Int64.toInt_ofInt_of_le ha.1 ha.2
def wJ (a : Int) : Int := (Int64.ofInt a).toInt
theorem wJ_in (a : Int) : inJ (wJ a) := ⟨Int64.le_toInt _, Int64.toInt_lt _⟩
theorem wJ_of (a : Int) : Int64.ofInt (wJ a) = Int64.ofInt a := Int64.ofInt_toInt _
theorem wJ_id {a : Int} (ha : inJ a) : wJ a = a := j_toInt ha
theorem st_i2l (C : Fr x y cc nL ret tb d mc ms) {a : Int} (hd : decode cc pc = .ok (.i2l, 1)) (k : T x (pc + 1) ls (vL a :: st) h cl sl) : T x pc ls (vI a :: st) h cl sl := by
  obtain ⟨p, l, e, R, s, m, args, below, meth, c, dC, dI, cA, H0, Qf, ad0, h0⟩ := x
  obtain ⟨hx, hb, hml, hret, htb, hown, hnm, hlk, hst, hdR, hlR, hcR, hsR, hS0, hTB, hNC, hST, hK0⟩ := C
  intro ad H locs rls hS hR hE hL hK hl
  have ha : inI a := okS_h hK
  refine lv_i2l hx hb hd ?_ (k ad H locs rls hS hR hE hL (okS_c (v := vL a) ⟨by omega, by omega⟩ (okS_t hK)) hl)
  exact Int32.toInt64_ofInt (by have : Int32.minValue.toInt = -2147483648 := by decide
                                omega) (by have : Int32.maxValue.toInt = 2147483647 := by decide
                                           omega)
theorem st_lconst (C : Fr x y cc nL ret tb d mc ms) {n : Fin 2} {a : Int} (hd : decode cc pc = .ok (.lconst n, 1)) (ha : a = ((n : Nat) : Int)) (k : T x (pc + 1) ls (vL a :: st) h cl sl) : T x pc ls st h cl sl := by
  obtain ⟨p, l, e, R, s, m, args, below, meth, c, dC, dI, cA, H0, Qf, ad0, h0⟩ := x
  obtain ⟨hx, hb, hml, hret, htb, hown, hnm, hlk, hst, hdR, hlR, hcR, hsR, hS0, hTB, hNC, hST, hK0⟩ := C
  intro ad H locs rls hS hR hE hL hK hl
  subst ha
  refine lv_lconst hx hb hd Int64.ofInt_eq_ofNat.symm (k ad H locs rls hS hR hE hL (okS_c (v := vL ((n : Nat) : Int)) ⟨by omega, by omega⟩ hK) hl)
theorem st_ladd (C : Fr x y cc nL ret tb d mc ms) {a b : Int} (hd : decode cc pc = .ok (.ladd, 1)) (k : T x (pc + 1) ls (vL (wJ (a + b)) :: st) h cl sl) : T x pc ls (vL b :: vL a :: st) h cl sl := by
  obtain ⟨p, l, e, R, s, m, args, below, meth, c, dC, dI, cA, H0, Qf, ad0, h0⟩ := x
  obtain ⟨hx, hb, hml, hret, htb, hown, hnm, hlk, hst, hdR, hlR, hcR, hsR, hS0, hTB, hNC, hST, hK0⟩ := C
  intro ad H locs rls hS hR hE hL hK hl
  have h1 := k ad H locs rls hS hR hE hL (okS_c (v := vL (wJ (a + b))) (wJ_in _) (okS_t (okS_t hK))) hl
  refine lv_ladd hx hb hd ?_
  rw [← Int64.ofInt_add, ← wJ_of]
  exact h1
theorem st_lmul (C : Fr x y cc nL ret tb d mc ms) {a b : Int} (hd : decode cc pc = .ok (.lmul, 1)) (k : T x (pc + 1) ls (vL (wJ (a * b)) :: st) h cl sl) : T x pc ls (vL b :: vL a :: st) h cl sl := by
  obtain ⟨p, l, e, R, s, m, args, below, meth, c, dC, dI, cA, H0, Qf, ad0, h0⟩ := x
  obtain ⟨hx, hb, hml, hret, htb, hown, hnm, hlk, hst, hdR, hlR, hcR, hsR, hS0, hTB, hNC, hST, hK0⟩ := C
  intro ad H locs rls hS hR hE hL hK hl
  have h1 := k ad H locs rls hS hR hE hL (okS_c (v := vL (wJ (a * b))) (wJ_in _) (okS_t (okS_t hK))) hl
  refine lv_lmul hx hb hd ?_
  rw [← Int64.ofInt_mul, ← wJ_of]
  exact h1
theorem st_ldc2 (C : Fr x y cc nL ret tb d mc ms) {idx : Nat} {a : Int} {v : Int64} (hd : decode cc pc = .ok (.ldc2_w idx, 3)) (hv : v = Int64.ofInt a) (ha : inJ a) (hw : Cond.constantLong y.cls idx v ∈ lw_tbl) (k : T x (pc + 3) ls (vL a :: st) h cl sl) : T x pc ls st h cl sl := by
  obtain ⟨p, l, e, R, s, m, args, below, meth, c, dC, dI, cA, H0, Qf, ad0, h0⟩ := x
  obtain ⟨hx, hb, hml, hret, htb, hown, hnm, hlk, hst, hdR, hlR, hcR, hsR, hS0, hTB, hNC, hST, hK0⟩ := C
  intro ad H locs rls hS hR hE hL hK hl
  subst hv
  exact lv_ldc2 hx hb hown (hTB.at hw rfl) hd (k ad H locs rls hS hR hE hL (okS_c (v := vL a) ha hK) hl)
theorem st_ldc (C : Fr x y cc nL ret tb d mc ms) {idx : Nat} {a : Int} {v : Int32} (hd : decode cc pc = .ok (.ldc idx, 2)) (hv : v = Int32.ofInt a) (ha : inI a) (hw : Cond.constant y.cls idx v ∈ lw_tbl) (k : T x (pc + 2) ls (vI a :: st) h cl sl) : T x pc ls st h cl sl := by
  obtain ⟨p, l, e, R, s, m, args, below, meth, c, dC, dI, cA, H0, Qf, ad0, h0⟩ := x
  obtain ⟨hx, hb, hml, hret, htb, hown, hnm, hlk, hst, hdR, hlR, hcR, hsR, hS0, hTB, hNC, hST, hK0⟩ := C
  intro ad H locs rls hS hR hE hL hK hl
  subst hv
  exact lv_ldc hx hb hown (hTB.at hw rfl) hd (k ad H locs rls hS hR hE hL (okS_c (v := vI a) ha hK) hl)
theorem st_ldcf (C : Fr x y cc nL ret tb d mc ms) {idx : Nat} {v : UInt32} (hd : decode cc pc = .ok (.ldc idx, 2)) (hw : Cond.constantFloat y.cls idx v ∈ lw_tbl) (k : T x (pc + 2) ls (vF v :: st) h cl sl) : T x pc ls st h cl sl := by
  obtain ⟨p, l, e, R, s, m, args, below, meth, c, dC, dI, cA, H0, Qf, ad0, h0⟩ := x
  obtain ⟨hx, hb, hml, hret, htb, hown, hnm, hlk, hst, hdR, hlR, hcR, hsR, hS0, hTB, hNC, hST, hK0⟩ := C
  intro ad H locs rls hS hR hE hL hK hl
  exact lv_ldcf hx hb hown (hTB.at hw rfl) hd (k ad H locs rls hS hR hE hL (okS_c (v := vF v) trivial hK) hl)
theorem st_ldcfw (C : Fr x y cc nL ret tb d mc ms) {idx : Nat} {v : UInt32} (hd : decode cc pc = .ok (.ldc_w idx, 3)) (hw : Cond.constantFloat y.cls idx v ∈ lw_tbl) (k : T x (pc + 3) ls (vF v :: st) h cl sl) : T x pc ls st h cl sl := by
  obtain ⟨p, l, e, R, s, m, args, below, meth, c, dC, dI, cA, H0, Qf, ad0, h0⟩ := x
  obtain ⟨hx, hb, hml, hret, htb, hown, hnm, hlk, hst, hdR, hlR, hcR, hsR, hS0, hTB, hNC, hST, hK0⟩ := C
  intro ad H locs rls hS hR hE hL hK hl
  intro T0 hT0 X0
  obtain ⟨k9, cf, hk, hcf, hcp⟩ := Cond.constantFloat_spec hown (hTB.at (args := args) hw rfl)
  obtain ⟨k', hk', he⟩ := X0.warmed.alike.2.2 _ _ hk
  obtain ⟨t, a, b⟩ := k ad H locs rls hS hR hE hL (okS_c (v := vF v) trivial hK) hl T0 hT0 X0
  refine ⟨t, ?_, b⟩
  jvm_step X0.here [hx, hb, hd, ldc_w.wp_float (s := T0) (f := F0 m pc rls (st.map (mapV ad))) X0.here.top hk' (by rw [he]; exact hcf) hcp]
  exact a
theorem st_lload_z : True := trivial
theorem st_lstore_n (C : Fr x y cc nL ret tb d mc ms) {j : Fin 4} (i : Nat) {a : Int} (hd : decode cc pc = .ok (.lstore_n j, 1)) (hj : (j : Nat) = i) (hn : i + 1 < nL) (hf : lfree ls i (vL a) = true) (k : T x (pc + 1) (lset ls i (vL a)) st h cl sl) : T x pc ls (vL a :: st) h cl sl := by
  obtain ⟨p, l, e, R, s, m, args, below, meth, c, dC, dI, cA, H0, Qf, ad0, h0⟩ := x
  obtain ⟨hx, hb, hml, hret, htb, hown, hnm, hlk, hst, hdR, hlR, hcR, hsR, hS0, hTB, hNC, hST, hK0⟩ := C
  intro ad H locs rls hS hR hE hL hK hl
  refine lv_lstore_n hx hb hd hj hl (by rw [hml]; exact hn) rfl (fun rls' hl' => k ad H locs rls' hS hR hE (okL_set hL (okS_h hK)) (okS_t hK) (has_set hf hl' (fun q hq e1 e2 e3 => List.mem_cons_of_mem _ (List.mem_filter.mpr ⟨hq, by
    simp only [Bool.and_eq_true, Bool.not_eq_true', Bool.and_eq_false_iff, beq_eq_false_iff_ne]
    exact ⟨e1, e3 rfl, (Decidable.em (q.1 + 1 = i)).symm.elim (fun z => Or.inl z) (fun z => Or.inr (e2 z))⟩⟩)) List.mem_cons_self))
theorem st_dstore (C : Fr x y cc nL ret tb d mc ms) {i : Nat} {a : UInt64} (hd : decode cc pc = .ok (.dstore i, 2)) (hn : i + 1 < nL) (hf : lfree ls i (vD a) = true) (k : T x (pc + 2) (lset ls i (vD a)) st h cl sl) : T x pc ls (vD a :: st) h cl sl := by
  obtain ⟨p, l, e, R, s, m, args, below, meth, c, dC, dI, cA, H0, Qf, ad0, h0⟩ := x
  obtain ⟨hx, hb, hml, hret, htb, hown, hnm, hlk, hst, hdR, hlR, hcR, hsR, hS0, hTB, hNC, hST, hK0⟩ := C
  intro ad H locs rls hS hR hE hL hK hl
  refine lv_dstore hx hb hd hl (by rw [hml]; exact hn) rfl (fun rls' hl' => k ad H locs rls' hS hR hE (okL_set hL (okS_h hK)) (okS_t hK) (has_set hf hl' (fun q hq e1 e2 e3 => List.mem_cons_of_mem _ (List.mem_filter.mpr ⟨hq, by
    simp only [Bool.and_eq_true, Bool.not_eq_true', Bool.and_eq_false_iff, beq_eq_false_iff_ne]
    exact ⟨e1, e3 rfl, (Decidable.em (q.1 + 1 = i)).symm.elim (fun z => Or.inl z) (fun z => Or.inr (e2 z))⟩⟩)) List.mem_cons_self))
theorem st_i2f (C : Fr x y cc nL ret tb d mc ms) {a : Int} (hd : decode cc pc = .ok (.i2f, 1)) (k : T x (pc + 1) ls (vF (FP.i2f (Int32.ofInt a)) :: st) h cl sl) : T x pc ls (vI a :: st) h cl sl := by
  obtain ⟨p, l, e, R, s, m, args, below, meth, c, dC, dI, cA, H0, Qf, ad0, h0⟩ := x
  obtain ⟨hx, hb, hml, hret, htb, hown, hnm, hlk, hst, hdR, hlR, hcR, hsR, hS0, hTB, hNC, hST, hK0⟩ := C
  intro ad H locs rls hS hR hE hL hK hl
  exact lv_i2f hx hb hd (k ad H locs rls hS hR hE hL (okS_c (v := vF _) trivial (okS_t hK)) hl)
theorem st_i2d (C : Fr x y cc nL ret tb d mc ms) {a : Int} (hd : decode cc pc = .ok (.i2d, 1)) (k : T x (pc + 1) ls (vD (FP.i2d (Int32.ofInt a)) :: st) h cl sl) : T x pc ls (vI a :: st) h cl sl := by
  obtain ⟨p, l, e, R, s, m, args, below, meth, c, dC, dI, cA, H0, Qf, ad0, h0⟩ := x
  obtain ⟨hx, hb, hml, hret, htb, hown, hnm, hlk, hst, hdR, hlR, hcR, hsR, hS0, hTB, hNC, hST, hK0⟩ := C
  intro ad H locs rls hS hR hE hL hK hl
  exact lv_i2d hx hb hd (k ad H locs rls hS hR hE hL (okS_c (v := vD _) trivial (okS_t hK)) hl)
theorem st_f2d (C : Fr x y cc nL ret tb d mc ms) {a : UInt32} (hd : decode cc pc = .ok (.f2d, 1)) (hn : vf_n64 (FP.f2d a)) (k : T x (pc + 1) ls (vD (FP.f2d a) :: st) h cl sl) : T x pc ls (vF a :: st) h cl sl := by
  obtain ⟨p, l, e, R, s, m, args, below, meth, c, dC, dI, cA, H0, Qf, ad0, h0⟩ := x
  obtain ⟨hx, hb, hml, hret, htb, hown, hnm, hlk, hst, hdR, hlR, hcR, hsR, hS0, hTB, hNC, hST, hK0⟩ := C
  intro ad H locs rls hS hR hE hL hK hl
  exact lv_f2d hx hb hd hn (k ad H locs rls hS hR hE hL (okS_c (v := vD _) trivial (okS_t hK)) hl)
theorem st_fdiv (C : Fr x y cc nL ret tb d mc ms) {a b : UInt32} (hd : decode cc pc = .ok (.fdiv, 1)) (hn : vf_n32 (FP.fdiv a b)) (k : T x (pc + 1) ls (vF (FP.fdiv a b) :: st) h cl sl) : T x pc ls (vF b :: vF a :: st) h cl sl := by
  obtain ⟨p, l, e, R, s, m, args, below, meth, c, dC, dI, cA, H0, Qf, ad0, h0⟩ := x
  obtain ⟨hx, hb, hml, hret, htb, hown, hnm, hlk, hst, hdR, hlR, hcR, hsR, hS0, hTB, hNC, hST, hK0⟩ := C
  intro ad H locs rls hS hR hE hL hK hl
  exact lv_fdiv hx hb hd hn (k ad H locs rls hS hR hE hL (okS_c (v := vF _) trivial (okS_t (okS_t hK))) hl)
theorem st_ddiv (C : Fr x y cc nL ret tb d mc ms) {a b : UInt64} (hd : decode cc pc = .ok (.ddiv, 1)) (hn : vf_n64 (FP.ddiv a b)) (k : T x (pc + 1) ls (vD (FP.ddiv a b) :: st) h cl sl) : T x pc ls (vD b :: vD a :: st) h cl sl := by
  obtain ⟨p, l, e, R, s, m, args, below, meth, c, dC, dI, cA, H0, Qf, ad0, h0⟩ := x
  obtain ⟨hx, hb, hml, hret, htb, hown, hnm, hlk, hst, hdR, hlR, hcR, hsR, hS0, hTB, hNC, hST, hK0⟩ := C
  intro ad H locs rls hS hR hE hL hK hl
  exact lv_ddiv hx hb hd hn (k ad H locs rls hS hR hE hL (okS_c (v := vD _) trivial (okS_t (okS_t hK))) hl)
theorem st_fconst0 (C : Fr x y cc nL ret tb d mc ms) (hd : decode cc pc = .ok (.fconst 0, 1)) (k : T x (pc + 1) ls (vF FP.fconst0 :: st) h cl sl) : T x pc ls st h cl sl := by
  obtain ⟨p, l, e, R, s, m, args, below, meth, c, dC, dI, cA, H0, Qf, ad0, h0⟩ := x
  obtain ⟨hx, hb, hml, hret, htb, hown, hnm, hlk, hst, hdR, hlR, hcR, hsR, hS0, hTB, hNC, hST, hK0⟩ := C
  intro ad H locs rls hS hR hE hL hK hl
  exact lv_fconst0 hx hb hd (k ad H locs rls hS hR hE hL (okS_c (v := vF _) trivial hK) hl)
theorem st_dconst0 (C : Fr x y cc nL ret tb d mc ms) (hd : decode cc pc = .ok (.dconst 0, 1)) (k : T x (pc + 1) ls (vD FP.dconst0 :: st) h cl sl) : T x pc ls st h cl sl := by
  obtain ⟨p, l, e, R, s, m, args, below, meth, c, dC, dI, cA, H0, Qf, ad0, h0⟩ := x
  obtain ⟨hx, hb, hml, hret, htb, hown, hnm, hlk, hst, hdR, hlR, hcR, hsR, hS0, hTB, hNC, hST, hK0⟩ := C
  intro ad H locs rls hS hR hE hL hK hl
  exact lv_dconst0 hx hb hd (k ad H locs rls hS hR hE hL (okS_c (v := vD _) trivial hK) hl)
theorem st_dup2 (C : Fr x y cc nL ret tb d mc ms) {v w : PV} (hd : decode cc pc = .ok (.dup2, 1)) (hc : cat2 v = false) (hc2 : cat2 w = false) (k : T x (pc + 1) ls (v :: w :: v :: w :: st) h cl sl) : T x pc ls (v :: w :: st) h cl sl := by
  obtain ⟨p, l, e, R, s, m, args, below, meth, c, dC, dI, cA, H0, Qf, ad0, h0⟩ := x
  obtain ⟨hx, hb, hml, hret, htb, hown, hnm, hlk, hst, hdR, hlR, hcR, hsR, hS0, hTB, hNC, hST, hK0⟩ := C
  intro ad H locs rls hS hR hE hL hK hl
  exact lv_dup2_11 hx hb hd (by rw [mapV_cat, hc]; rfl) (by rw [mapV_cat, hc2]; rfl) (k ad H locs rls hS hR hE hL (okS_c (okS_h hK) (okS_c (okS_h (okS_t hK)) hK)) hl)
theorem st_i2c (C : Fr x y cc nL ret tb d mc ms) {a : Int} (hd : decode cc pc = .ok (.i2c, 1)) (k : T x (pc + 1) ls (vI (a % 65536) :: st) h cl sl) : T x pc ls (vI a :: st) h cl sl := by
  obtain ⟨p, l, e, R, s, m, args, below, meth, c, dC, dI, cA, H0, Qf, ad0, h0⟩ := x
  obtain ⟨hx, hb, hml, hret, htb, hown, hnm, hlk, hst, hdR, hlR, hcR, hsR, hS0, hTB, hNC, hST, hK0⟩ := C
  intro ad H locs rls hS hR hE hL hK hl
  have ha : inI a := okS_h hK
  have hr : inI (a % 65536) := ⟨by omega, by omega⟩
  refine lv_i2c hx hb hd ?_ (k ad H locs rls hS hR hE hL (okS_c (v := vI (a % 65536)) hr (okS_t hK)) hl)
  rw [pk_char, ← i_nat]
  congr 1
  rw [Int32.toBitVec_ofInt, BitVec.toNat_ofInt]
  omega
theorem st_lookup (C : Fr x y cc nL ret tb d mc ms) {a dflt off : Int} {ps : Array (Int × Int)} {len tgt : Nat} (hd : decode cc pc = .ok (.lookupswitch dflt ps, len)) (hp : (ps.toList.zip (ps.toList.drop 1)).all (fun (a, next) => a.1 < next.1) = true) (ho : Op.lookupswitch.offset ps.toList dflt a = off) (ht : (pc : Int) + off = (tgt : Int)) (k : T x tgt ls st h cl sl)  : T x pc ls (vI a :: st) h cl sl := by
  obtain ⟨p, l, e, R, s, m, args, below, meth, c, dC, dI, cA, H0, Qf, ad0, h0⟩ := x
  obtain ⟨hx, hb, hml, hret, htb, hown, hnm, hlk, hst, hdR, hlR, hcR, hsR, hS0, hTB, hNC, hST, hK0⟩ := C
  intro ad H locs rls hS hR hE hL hK hl
  have ha : inI a := okS_h hK
  exact lv_lookup hx hb hd hp (by rw [i_toInt ha]; exact ho) ht (k ad H locs rls hS hR hE hL (okS_t hK) hl)
end MORE
