/-! the law's own rows: its script lies in slot 0, outside of the names -/
section TL
def TL (x : Cx) (bL : Nat) (pc : Nat) (ls : List (Nat × PV)) (st : List PV) (h : HP) (cl sl : Nat) : Prop := match x with
  | (p, l, e, R, s, m, args, below, meth, c, dC, dI, cA, H0, Qf, ad0, h0) =>
    ∀ (ad : Nat → Nat) (H : Heap) (locs : List Loc) (rls : Array Slot), va_S (AA H0) H0 H locs → Rw dC dI cA H0 ad h H → Ext ad0 h0 ad h → (∀ q ∈ ls, okV h q.2) → (∀ v ∈ st, okV h v) →
      lv_has rls c.maxLocals ((0, Value.ref bL) :: ls.map (fun q => (q.1, mapV ad q.2))) → W p l e R s m args below meth c H locs cl sl Qf (F0 m pc rls (st.map (mapV ad)))
variable {x : Cx} {bL : Nat} {y : MethodName} {cc : ByteArray} {nL : Nat} {ret : Option FieldType} {tb : List (Nat × Nat × Nat × Nat)} {d mc ms : Nat} {pc : Nat} {ls : List (Nat × PV)} {st : List PV} {h : HP} {cl sl : Nat}
theorem has_atL {rls : Array Slot} {ad : Nat → Nat} (h : lv_has rls nL ((0, Value.ref bL) :: ls.map (fun q => (q.1, mapV ad q.2)))) {i : Nat} {v : PV} (hv : lget ls i = some v) : rls[i]? = some (.val (mapV ad v)) :=
  h.2.2 (i, mapV ad v) (List.mem_cons_of_mem _ (List.mem_map.mpr ⟨(i, v), lget_mem hv, rfl⟩))
theorem has_setL {rls : Array Slot} {ad : Nat → Nat} {i : Nat} {v : PV} (hi : i ≠ 0) (hf : lfree ls i v = true) {l' : List (Nat × Value)}
    (h : lv_has rls nL l') (hl : ∀ q ∈ (0, Value.ref bL) :: ls.map (fun q => (q.1, mapV ad q.2)), q.1 ≠ i → (q.1 + 1 = i → q.2.category ≠ 2) → ((mapV ad v).category = 2 → q.1 ≠ i + 1) → q ∈ l') (h0 : (i, mapV ad v) ∈ l') : lv_has rls nL ((0, Value.ref bL) :: (lset ls i v).map (fun q => (q.1, mapV ad q.2))) := by
  have h1 := has_set (ad := ad) hf h (fun q hq => hl q (List.mem_cons_of_mem _ hq)) h0
  have h2 := hl (0, Value.ref bL) List.mem_cons_self (fun z => hi z.symm) (fun _ => by show (1 : Nat) ≠ 2; decide) (fun _ => by show 0 ≠ i + 1; omega)
  refine ⟨h1.1, h1.2.1, fun q hq => ?_⟩
  rcases List.mem_cons.mp hq with e | hq
  · rw [e]; exact h.2.2 _ h2
  · exact h1.2.2 q hq
theorem tl_wide {cl' sl' : Nat} (h1 : cl ≤ cl') (h2 : sl ≤ sl') (k : TL x bL pc ls st h cl' sl') : TL x bL pc ls st h cl sl := by
  obtain ⟨p, l, e, R, s, m, args, below, meth, c, dC, dI, cA, H0, Qf, ad0, h0⟩ := x
  intro ad H locs rls hS hR hE hL hK hl
  exact W.widen h1 h2 (k ad H locs rls hS hR hE hL hK hl)
theorem tl_free (b : Nat) (kk : ∀ k, b ≤ k → h k = none → TL x bL pc ls st h cl sl) : TL x bL pc ls st h cl sl := by
  obtain ⟨p, l, e, R, s, m, args, below, meth, c, dC, dI, cA, H0, Qf, ad0, h0⟩ := x
  intro ad H locs rls hS hR hE hL hK hl
  obtain ⟨dom, hdom, -⟩ := id hR
  obtain ⟨k, h1, h2⟩ := dom_fresh dom b
  have hk : h k = none := by
    cases hh : h k with
    | none => rfl
    | some e9 => exact absurd ((hdom k).mpr (by rw [hh]; exact fun q => by cases q)) h2
  exact kk k h1 hk ad H locs rls hS hR hE hL hK hl
/-- the locals known, fewer of them -/
theorem tl_sub {ls' : List (Nat × PV)} (hs : ∀ q ∈ ls', q ∈ ls) (k : TL x bL pc ls' st h cl sl) : TL x bL pc ls st h cl sl := by
  obtain ⟨p, l, e, R, s, m, args, below, meth, c, dC, dI, cA, H0, Qf, ad0, h0⟩ := x
  intro ad H locs rls hS hR hE hL hK hl
  refine k ad H locs rls hS hR hE (fun q hq => hL q (hs q hq)) hK (has_sub hl (fun q hq => ?_))
  rcases List.mem_cons.mp hq with e | hq
  · rw [e]; exact List.mem_cons_self
  · obtain ⟨a, ha, rfl⟩ := List.mem_map.mp hq
    exact List.mem_cons_of_mem _ (List.mem_map.mpr ⟨a, hs a ha, rfl⟩)
theorem tl_iload (C : Fr x y cc nL ret tb d mc ms) {i : Nat} {a : Int} (hd : decode cc pc = .ok (.iload i, 2)) (hv : lget ls i = some (vI a)) (k : TL x bL (pc + 2) ls (vI a :: st) h cl sl) : TL x bL pc ls st h cl sl := by
  obtain ⟨p, l, e, R, s, m, args, below, meth, c, dC, dI, cA, H0, Qf, ad0, h0⟩ := x
  obtain ⟨hx, hb, hml, -⟩ := C
  intro ad H locs rls hS hR hE hL hK hl
  exact lv_iload hx hb hd (has_atL hl hv) (k ad H locs rls hS hR hE hL (okS_c (hL _ (lget_mem hv)) hK) hl)
theorem tl_iload_n (C : Fr x y cc nL ret tb d mc ms) {j : Fin 4} (i : Nat) {a : Int} (hd : decode cc pc = .ok (.iload_n j, 1)) (hj : (j : Nat) = i) (hv : lget ls i = some (vI a)) (k : TL x bL (pc + 1) ls (vI a :: st) h cl sl) : TL x bL pc ls st h cl sl := by
  obtain ⟨p, l, e, R, s, m, args, below, meth, c, dC, dI, cA, H0, Qf, ad0, h0⟩ := x
  obtain ⟨hx, hb, hml, -⟩ := C
  intro ad H locs rls hS hR hE hL hK hl
  exact lv_iload_n hx hb hd hj (has_atL hl hv) (k ad H locs rls hS hR hE hL (okS_c (hL _ (lget_mem hv)) hK) hl)
theorem tl_aload (C : Fr x y cc nL ret tb d mc ms) {i : Nat} {a : Nat} (hd : decode cc pc = .ok (.aload i, 2)) (hv : lget ls i = some (vR a)) (k : TL x bL (pc + 2) ls (vR a :: st) h cl sl) : TL x bL pc ls st h cl sl := by
  obtain ⟨p, l, e, R, s, m, args, below, meth, c, dC, dI, cA, H0, Qf, ad0, h0⟩ := x
  obtain ⟨hx, hb, hml, -⟩ := C
  intro ad H locs rls hS hR hE hL hK hl
  exact lv_aload hx hb hd (has_atL hl hv) (k ad H locs rls hS hR hE hL (okS_c (hL _ (lget_mem hv)) hK) hl)
theorem tl_aload_n (C : Fr x y cc nL ret tb d mc ms) {j : Fin 4} (i : Nat) {a : Nat} (hd : decode cc pc = .ok (.aload_n j, 1)) (hj : (j : Nat) = i) (hv : lget ls i = some (vR a)) (k : TL x bL (pc + 1) ls (vR a :: st) h cl sl) : TL x bL pc ls st h cl sl := by
  obtain ⟨p, l, e, R, s, m, args, below, meth, c, dC, dI, cA, H0, Qf, ad0, h0⟩ := x
  obtain ⟨hx, hb, hml, -⟩ := C
  intro ad H locs rls hS hR hE hL hK hl
  exact lv_aload_n hx hb hd hj (has_atL hl hv) (k ad H locs rls hS hR hE hL (okS_c (hL _ (lget_mem hv)) hK) hl)
theorem tl_fload (C : Fr x y cc nL ret tb d mc ms) {i : Nat} {a : UInt32} (hd : decode cc pc = .ok (.fload i, 2)) (hv : lget ls i = some (vF a)) (k : TL x bL (pc + 2) ls (vF a :: st) h cl sl) : TL x bL pc ls st h cl sl := by
  obtain ⟨p, l, e, R, s, m, args, below, meth, c, dC, dI, cA, H0, Qf, ad0, h0⟩ := x
  obtain ⟨hx, hb, hml, -⟩ := C
  intro ad H locs rls hS hR hE hL hK hl
  exact lv_fload hx hb hd (has_atL hl hv) (k ad H locs rls hS hR hE hL (okS_c (hL _ (lget_mem hv)) hK) hl)
theorem tl_dload (C : Fr x y cc nL ret tb d mc ms) {i : Nat} {a : UInt64} (hd : decode cc pc = .ok (.dload i, 2)) (hv : lget ls i = some (vD a)) (k : TL x bL (pc + 2) ls (vD a :: st) h cl sl) : TL x bL pc ls st h cl sl := by
  obtain ⟨p, l, e, R, s, m, args, below, meth, c, dC, dI, cA, H0, Qf, ad0, h0⟩ := x
  obtain ⟨hx, hb, hml, -⟩ := C
  intro ad H locs rls hS hR hE hL hK hl
  exact lv_dload hx hb hd (has_atL hl hv) (k ad H locs rls hS hR hE hL (okS_c (hL _ (lget_mem hv)) hK) hl)
theorem tl_istore (C : Fr x y cc nL ret tb d mc ms) {i : Nat} {a : Int} (hd : decode cc pc = .ok (.istore i, 2)) (hn : i < nL) (hi0 : i ≠ 0) (hf : lfree ls i (vI a) = true) (k : TL x bL (pc + 2) (lset ls i (vI a)) st h cl sl) : TL x bL pc ls (vI a :: st) h cl sl := by
  obtain ⟨p, l, e, R, s, m, args, below, meth, c, dC, dI, cA, H0, Qf, ad0, h0⟩ := x
  obtain ⟨hx, hb, hml, -⟩ := C
  intro ad H locs rls hS hR hE hL hK hl
  refine lv_istore hx hb hd hl (by rw [hml]; exact hn) rfl (fun rls' hl' => k ad H locs rls' hS hR hE (okL_set hL (okS_h hK)) (okS_t hK) (has_setL hi0 hf hl' (fun q hq e1 e2 e3 => List.mem_cons_of_mem _ (List.mem_filter.mpr ⟨hq, by
    simp only [Bool.and_eq_true, Bool.not_eq_true', Bool.and_eq_false_iff, beq_eq_false_iff_ne]
    exact ⟨e1, (Decidable.em (q.1 + 1 = i)).symm.elim (fun z => Or.inl z) (fun z => Or.inr (e2 z))⟩⟩)) List.mem_cons_self))
theorem tl_astore (C : Fr x y cc nL ret tb d mc ms) {i : Nat} {a : Nat} (hd : decode cc pc = .ok (.astore i, 2)) (hn : i < nL) (hi0 : i ≠ 0) (hf : lfree ls i (vR a) = true) (k : TL x bL (pc + 2) (lset ls i (vR a)) st h cl sl) : TL x bL pc ls (vR a :: st) h cl sl := by
  obtain ⟨p, l, e, R, s, m, args, below, meth, c, dC, dI, cA, H0, Qf, ad0, h0⟩ := x
  obtain ⟨hx, hb, hml, -⟩ := C
  intro ad H locs rls hS hR hE hL hK hl
  refine lv_astore hx hb hd hl (by rw [hml]; exact hn) rfl (fun rls' hl' => k ad H locs rls' hS hR hE (okL_set hL (okS_h hK)) (okS_t hK) (has_setL hi0 hf hl' (fun q hq e1 e2 e3 => List.mem_cons_of_mem _ (List.mem_filter.mpr ⟨hq, by
    simp only [Bool.and_eq_true, Bool.not_eq_true', Bool.and_eq_false_iff, beq_eq_false_iff_ne]
    exact ⟨e1, (Decidable.em (q.1 + 1 = i)).symm.elim (fun z => Or.inl z) (fun z => Or.inr (e2 z))⟩⟩)) List.mem_cons_self))
theorem tl_astore_n (C : Fr x y cc nL ret tb d mc ms) {j : Fin 4} (i : Nat) {a : Nat} (hd : decode cc pc = .ok (.astore_n j, 1)) (hj : (j : Nat) = i) (hn : i < nL) (hi0 : i ≠ 0) (hf : lfree ls i (vR a) = true) (k : TL x bL (pc + 1) (lset ls i (vR a)) st h cl sl) : TL x bL pc ls (vR a :: st) h cl sl := by
  obtain ⟨p, l, e, R, s, m, args, below, meth, c, dC, dI, cA, H0, Qf, ad0, h0⟩ := x
  obtain ⟨hx, hb, hml, -⟩ := C
  intro ad H locs rls hS hR hE hL hK hl
  refine lv_astore_n hx hb hd hj hl (by rw [hml]; exact hn) rfl (fun rls' hl' => k ad H locs rls' hS hR hE (okL_set hL (okS_h hK)) (okS_t hK) (has_setL hi0 hf hl' (fun q hq e1 e2 e3 => List.mem_cons_of_mem _ (List.mem_filter.mpr ⟨hq, by
    simp only [Bool.and_eq_true, Bool.not_eq_true', Bool.and_eq_false_iff, beq_eq_false_iff_ne]
    exact ⟨e1, (Decidable.em (q.1 + 1 = i)).symm.elim (fun z => Or.inl z) (fun z => Or.inr (e2 z))⟩⟩)) List.mem_cons_self))
theorem tl_fstore (C : Fr x y cc nL ret tb d mc ms) {i : Nat} {a : UInt32} (hd : decode cc pc = .ok (.fstore i, 2)) (hn : i < nL) (hi0 : i ≠ 0) (hf : lfree ls i (vF a) = true) (k : TL x bL (pc + 2) (lset ls i (vF a)) st h cl sl) : TL x bL pc ls (vF a :: st) h cl sl := by
  obtain ⟨p, l, e, R, s, m, args, below, meth, c, dC, dI, cA, H0, Qf, ad0, h0⟩ := x
  obtain ⟨hx, hb, hml, -⟩ := C
  intro ad H locs rls hS hR hE hL hK hl
  refine lv_fstore hx hb hd hl (by rw [hml]; exact hn) rfl (fun rls' hl' => k ad H locs rls' hS hR hE (okL_set hL (okS_h hK)) (okS_t hK) (has_setL hi0 hf hl' (fun q hq e1 e2 e3 => List.mem_cons_of_mem _ (List.mem_filter.mpr ⟨hq, by
    simp only [Bool.and_eq_true, Bool.not_eq_true', Bool.and_eq_false_iff, beq_eq_false_iff_ne]
    exact ⟨e1, (Decidable.em (q.1 + 1 = i)).symm.elim (fun z => Or.inl z) (fun z => Or.inr (e2 z))⟩⟩)) List.mem_cons_self))
theorem tl_dstore (C : Fr x y cc nL ret tb d mc ms) {i : Nat} {a : UInt64} (hd : decode cc pc = .ok (.dstore i, 2)) (hn : i + 1 < nL) (hi0 : i ≠ 0) (hf : lfree ls i (vD a) = true) (k : TL x bL (pc + 2) (lset ls i (vD a)) st h cl sl) : TL x bL pc ls (vD a :: st) h cl sl := by
  obtain ⟨p, l, e, R, s, m, args, below, meth, c, dC, dI, cA, H0, Qf, ad0, h0⟩ := x
  obtain ⟨hx, hb, hml, hret, htb, hown, hnm, hlk, hst, hdR, hlR, hcR, hsR, hS0, hTB, hNC, hST, hK0⟩ := C
  intro ad H locs rls hS hR hE hL hK hl
  refine lv_dstore hx hb hd hl (by rw [hml]; exact hn) rfl (fun rls' hl' => k ad H locs rls' hS hR hE (okL_set hL (okS_h hK)) (okS_t hK) (has_setL hi0 hf hl' (fun q hq e1 e2 e3 => List.mem_cons_of_mem _ (List.mem_filter.mpr ⟨hq, by
    simp only [Bool.and_eq_true, Bool.not_eq_true', Bool.and_eq_false_iff, beq_eq_false_iff_ne]
    exact ⟨e1, e3 rfl, (Decidable.em (q.1 + 1 = i)).symm.elim (fun z => Or.inl z) (fun z => Or.inr (e2 z))⟩⟩)) List.mem_cons_self))
theorem tl_iinc (C : Fr x y cc nL ret tb d mc ms) {i : Nat} {n a : Int} (hd : decode cc pc = .ok (.iinc i n, 3)) (hv : lget ls i = some (vI a)) (hn : i < nL) (hi0 : i ≠ 0) (hf : lfree ls i (vI (a + n)) = true) (hr : inI (a + n)) (k : TL x bL (pc + 3) (lset ls i (vI (a + n))) st h cl sl) : TL x bL pc ls st h cl sl := by
  obtain ⟨p, l, e, R, s, m, args, below, meth, c, dC, dI, cA, H0, Qf, ad0, h0⟩ := x
  obtain ⟨hx, hb, hml, -⟩ := C
  intro ad H locs rls hS hR hE hL hK hl
  obtain ⟨j, hj⟩ := List.getElem?_of_mem (List.mem_cons_of_mem _ (List.mem_map.mpr ⟨(i, vI a), lget_mem hv, rfl⟩) : (i, mapV ad (vI a)) ∈ (0, Value.ref bL) :: ls.map (fun q => (q.1, mapV ad q.2)))
  refine lv_iinc hx hb hd hl hj (Int32.ofInt_add a n).symm (by rw [hml]; exact hn) rfl (fun rls' hl' => k ad H locs rls' hS hR hE (okL_set hL hr) hK (has_setL hi0 hf hl' (fun q hq e1 e2 e3 => List.mem_cons_of_mem _ (List.mem_filter.mpr ⟨hq, by
    simp only [Bool.and_eq_true, Bool.not_eq_true', Bool.and_eq_false_iff, beq_eq_false_iff_ne]
    exact ⟨e1, (Decidable.em (q.1 + 1 = i)).symm.elim (fun z => Or.inl z) (fun z => Or.inr (e2 z))⟩⟩)) List.mem_cons_self))
theorem tl_iconst (C : Fr x y cc nL ret tb d mc ms) {n : Int} (hd : decode cc pc = .ok (.iconst n, 1)) (hr : inI n) (k : TL x bL (pc + 1) ls (vI n :: st) h cl sl) : TL x bL pc ls st h cl sl := by
  obtain ⟨p, l, e, R, s, m, args, below, meth, c, dC, dI, cA, H0, Qf, ad0, h0⟩ := x
  obtain ⟨hx, hb, hml, -⟩ := C
  intro ad H locs rls hS hR hE hL hK hl
  exact lv_iconst hx hb hd rfl (k ad H locs rls hS hR hE hL (okS_c (v := vI n) hr hK) hl)
theorem tl_bipush (C : Fr x y cc nL ret tb d mc ms) {n : Int} (hd : decode cc pc = .ok (.bipush n, 2)) (hr : inI n) (hc : (Int8.ofInt n).toInt32 = Int32.ofInt n) (k : TL x bL (pc + 2) ls (vI n :: st) h cl sl) : TL x bL pc ls st h cl sl := by
  obtain ⟨p, l, e, R, s, m, args, below, meth, c, dC, dI, cA, H0, Qf, ad0, h0⟩ := x
  obtain ⟨hx, hb, hml, -⟩ := C
  intro ad H locs rls hS hR hE hL hK hl
  exact lv_bipush hx hb hd hc (k ad H locs rls hS hR hE hL (okS_c (v := vI n) hr hK) hl)
theorem tl_iadd (C : Fr x y cc nL ret tb d mc ms) {a b : Int} (hd : decode cc pc = .ok (.iadd, 1)) (hr : inI (a + b)) (k : TL x bL (pc + 1) ls (vI (a + b) :: st) h cl sl) : TL x bL pc ls (vI b :: vI a :: st) h cl sl := by
  obtain ⟨p, l, e, R, s, m, args, below, meth, c, dC, dI, cA, H0, Qf, ad0, h0⟩ := x
  obtain ⟨hx, hb, hml, -⟩ := C
  intro ad H locs rls hS hR hE hL hK hl
  have h1 := k ad H locs rls hS hR hE hL (okS_c (v := vI (a + b)) hr (okS_t (okS_t hK))) hl
  refine lv_iadd hx hb hd ?_
  rw [← Int32.ofInt_add]
  exact h1
theorem tl_isub (C : Fr x y cc nL ret tb d mc ms) {a b : Int} (hd : decode cc pc = .ok (.isub, 1)) (hr : inI (a - b)) (k : TL x bL (pc + 1) ls (vI (a - b) :: st) h cl sl) : TL x bL pc ls (vI b :: vI a :: st) h cl sl := by
  obtain ⟨p, l, e, R, s, m, args, below, meth, c, dC, dI, cA, H0, Qf, ad0, h0⟩ := x
  obtain ⟨hx, hb, hml, -⟩ := C
  intro ad H locs rls hS hR hE hL hK hl
  have h1 := k ad H locs rls hS hR hE hL (okS_c (v := vI (a - b)) hr (okS_t (okS_t hK))) hl
  refine lv_isub hx hb hd ?_
  rw [← Int32.ofInt_sub]
  exact h1
theorem tl_i2l (C : Fr x y cc nL ret tb d mc ms) {a : Int} (hd : decode cc pc = .ok (.i2l, 1)) (k : TL x bL (pc + 1) ls (vL a :: st) h cl sl) : TL x bL pc ls (vI a :: st) h cl sl := by
  obtain ⟨p, l, e, R, s, m, args, below, meth, c, dC, dI, cA, H0, Qf, ad0, h0⟩ := x
  obtain ⟨hx, hb, hml, hret, htb, hown, hnm, hlk, hst, hdR, hlR, hcR, hsR, hS0, hTB, hNC, hST, hK0⟩ := C
  intro ad H locs rls hS hR hE hL hK hl
  have ha : inI a := okS_h hK
  refine lv_i2l hx hb hd ?_ (k ad H locs rls hS hR hE hL (okS_c (v := vL a) ⟨by omega, by omega⟩ (okS_t hK)) hl)
  exact Int32.toInt64_ofInt (by have : Int32.minValue.toInt = -2147483648 := by decide
                                omega) (by have : Int32.maxValue.toInt = 2147483647 := by decide
                                           omega)
theorem tl_i2c (C : Fr x y cc nL ret tb d mc ms) {a : Int} (hd : decode cc pc = .ok (.i2c, 1)) (k : TL x bL (pc + 1) ls (vI (a % 65536) :: st) h cl sl) : TL x bL pc ls (vI a :: st) h cl sl := by
  obtain ⟨p, l, e, R, s, m, args, below, meth, c, dC, dI, cA, H0, Qf, ad0, h0⟩ := x
  obtain ⟨hx, hb, hml, hret, htb, hown, hnm, hlk, hst, hdR, hlR, hcR, hsR, hS0, hTB, hNC, hST, hK0⟩ := C
  intro ad H locs rls hS hR hE hL hK hl
  have ha : inI a := okS_h hK
  have hr : inI (a % 65536) := ⟨by omega, by omega⟩
  refine lv_i2c hx hb hd ?_ (k ad H locs rls hS hR hE hL (okS_c (v := vI (a % 65536)) hr (okS_t hK)) hl)
  rw [pk_char, ← i_nat]
  congr 1
  rw [Int32.toBitVec_ofInt, BitVec.toNat_ofInt]
  omega
theorem tl_lconst (C : Fr x y cc nL ret tb d mc ms) {n : Fin 2} {a : Int} (hd : decode cc pc = .ok (.lconst n, 1)) (ha : a = ((n : Nat) : Int)) (k : TL x bL (pc + 1) ls (vL a :: st) h cl sl) : TL x bL pc ls st h cl sl := by
  obtain ⟨p, l, e, R, s, m, args, below, meth, c, dC, dI, cA, H0, Qf, ad0, h0⟩ := x
  obtain ⟨hx, hb, hml, hret, htb, hown, hnm, hlk, hst, hdR, hlR, hcR, hsR, hS0, hTB, hNC, hST, hK0⟩ := C
  intro ad H locs rls hS hR hE hL hK hl
  subst ha
  refine lv_lconst hx hb hd Int64.ofInt_eq_ofNat.symm (k ad H locs rls hS hR hE hL (okS_c (v := vL ((n : Nat) : Int)) ⟨by omega, by omega⟩ hK) hl)
theorem tl_f2d (C : Fr x y cc nL ret tb d mc ms) {a : UInt32} (hd : decode cc pc = .ok (.f2d, 1)) (hn : vf_n64 (FP.f2d a)) (k : TL x bL (pc + 1) ls (vD (FP.f2d a) :: st) h cl sl) : TL x bL pc ls (vF a :: st) h cl sl := by
  obtain ⟨p, l, e, R, s, m, args, below, meth, c, dC, dI, cA, H0, Qf, ad0, h0⟩ := x
  obtain ⟨hx, hb, hml, hret, htb, hown, hnm, hlk, hst, hdR, hlR, hcR, hsR, hS0, hTB, hNC, hST, hK0⟩ := C
  intro ad H locs rls hS hR hE hL hK hl
  exact lv_f2d hx hb hd hn (k ad H locs rls hS hR hE hL (okS_c (v := vD _) trivial (okS_t hK)) hl)
theorem tl_goto (C : Fr x y cc nL ret tb d mc ms) {off : Int} {tgt : Nat} (hd : decode cc pc = .ok (.goto off, 3)) (ht : (pc : Int) + off = (tgt : Int)) (k : TL x bL tgt ls st h cl sl)  : TL x bL pc ls st h cl sl := by
  obtain ⟨p, l, e, R, s, m, args, below, meth, c, dC, dI, cA, H0, Qf, ad0, h0⟩ := x
  obtain ⟨hx, hb, hml, -⟩ := C
  intro ad H locs rls hS hR hE hL hK hl
  exact lv_goto hx hb hd ht (k ad H locs rls hS hR hE hL hK hl)
theorem tl_dup (C : Fr x y cc nL ret tb d mc ms) {v : PV} (hd : decode cc pc = .ok (.dup, 1)) (hc : cat2 v = false) (k : TL x bL (pc + 1) ls (v :: v :: st) h cl sl) : TL x bL pc ls (v :: st) h cl sl := by
  obtain ⟨p, l, e, R, s, m, args, below, meth, c, dC, dI, cA, H0, Qf, ad0, h0⟩ := x
  obtain ⟨hx, hb, hml, -⟩ := C
  intro ad H locs rls hS hR hE hL hK hl
  exact lv_dup hx hb hd (by rw [mapV_cat, hc]; rfl) (k ad H locs rls hS hR hE hL (okS_c (okS_h hK) hK) hl)
theorem tl_lald (C : Fr x y cc nL ret tb d mc ms) (hd : decode cc pc = .ok (.laload, 1)) {k n : Nat} {f : Int → Int} {a : Int} (he : h k = some (oJ n f)) (h1 : 0 ≤ a) (h2 : a < n) (kk : TL x bL (pc + 1) ls (vL (f a) :: st) h cl sl) : TL x bL pc ls (vI a :: vR k :: st) h cl sl := by
  obtain ⟨p, l, e, R, s, m, args, below, meth, c, dC, dI, cA, H0, Qf, ad0, h0⟩ := x
  obtain ⟨hx, hb, hml, hret, htb, hown, hnm, hlk, hst, hdR, hlR, hcR, hsR, hS0, hTB, hNC, hST, hK0⟩ := C
  intro ad H locs rls hS hR hE hL hK hl
  obtain ⟨dom, hdom, hP, hD, hok⟩ := id hR
  obtain ⟨i, -, hi⟩ := ws_at (cA := cA) (ad := ad) hdom he
  have ha : inI a := okS_h hK
  have hvo : okV h (vL (f a)) := hok k _ he a
  have h3 := kk ad H locs rls hS hR hE hL (okS_c hvo (okS_t (okS_t hK))) hl
  refine va_lald (D := (dC, dI)) hx hb hK0 hP i 2 hi rfl (i_in h1 h2 ha) hd ?_
  rw [i_cl ha, Int.toNat_of_nonneg h1]
  exact h3
theorem tl_dald (C : Fr x y cc nL ret tb d mc ms) (hd : decode cc pc = .ok (.daload, 1)) {k n : Nat} {f : Int → UInt64} {a : Int} (he : h k = some (oD n f)) (h1 : 0 ≤ a) (h2 : a < n) (kk : TL x bL (pc + 1) ls (vD (f a) :: st) h cl sl) : TL x bL pc ls (vI a :: vR k :: st) h cl sl := by
  obtain ⟨p, l, e, R, s, m, args, below, meth, c, dC, dI, cA, H0, Qf, ad0, h0⟩ := x
  obtain ⟨hx, hb, hml, hret, htb, hown, hnm, hlk, hst, hdR, hlR, hcR, hsR, hS0, hTB, hNC, hST, hK0⟩ := C
  intro ad H locs rls hS hR hE hL hK hl
  obtain ⟨dom, hdom, hP, hD, hok⟩ := id hR
  obtain ⟨i, -, hi⟩ := ws_at (cA := cA) (ad := ad) hdom he
  have ha : inI a := okS_h hK
  have hvo : okV h (vD (f a)) := trivial
  have h3 := kk ad H locs rls hS hR hE hL (okS_c hvo (okS_t (okS_t hK))) hl
  refine va_dald (D := (dC, dI)) hx hb hK0 hP i 3 hi rfl (i_in h1 h2 ha) hd ?_
  rw [i_cl ha, Int.toNat_of_nonneg h1]
  exact h3
theorem tl_icmp_eq (C : Fr x y cc nL ret tb d mc ms) {a b off : Int} {tgt : Nat} (hd : decode cc pc = .ok (.if_icmp .eq off, 3)) (ht : (pc : Int) + off = (tgt : Int)) (kt : a = b → TL x bL tgt ls st h cl sl) (kf : a ≠ b → TL x bL (pc + 3) ls st h cl sl)  : TL x bL pc ls (vI b :: vI a :: st) h cl sl := by
  obtain ⟨p, l, e, R, s, m, args, below, meth, c, dC, dI, cA, H0, Qf, ad0, h0⟩ := x
  obtain ⟨hx, hb, hml, -⟩ := C
  intro ad H locs rls hS hR hE hL hK hl
  have hva : inI a := okS_h (okS_t hK)
  have hvb : inI b := okS_h hK
  refine lv_icmp_eq hx hb hd ht (fun q => kt ?_ ad H locs rls hS hR hE hL (okS_t (okS_t hK)) hl) (fun q => kf ?_ ad H locs rls hS hR hE hL (okS_t (okS_t hK)) hl)
  · simp only [Int32.lt_iff_toInt_lt, Int32.le_iff_toInt_le, ← Int32.toInt_inj, i_toInt hva, i_toInt hvb, gt_iff_lt, ge_iff_le, ne_eq] at q; omega
  · simp only [Int32.lt_iff_toInt_lt, Int32.le_iff_toInt_le, ← Int32.toInt_inj, i_toInt hva, i_toInt hvb, gt_iff_lt, ge_iff_le, ne_eq] at q; omega
theorem tl_if_eq (C : Fr x y cc nL ret tb d mc ms) {a off : Int} {tgt : Nat} (hd : decode cc pc = .ok (.ifCond .eq off, 3)) (ht : (pc : Int) + off = (tgt : Int)) (kt : a = 0 → TL x bL tgt ls st h cl sl) (kf : a ≠ 0 → TL x bL (pc + 3) ls st h cl sl)  : TL x bL pc ls (vI a :: st) h cl sl := by
  obtain ⟨p, l, e, R, s, m, args, below, meth, c, dC, dI, cA, H0, Qf, ad0, h0⟩ := x
  obtain ⟨hx, hb, hml, -⟩ := C
  intro ad H locs rls hS hR hE hL hK hl
  have hva : inI a := okS_h hK
  have hvb : inI 0 := i_z
  refine lv_if_eq hx hb hd ht (fun q => kt ?_ ad H locs rls hS hR hE hL (okS_t hK) hl) (fun q => kf ?_ ad H locs rls hS hR hE hL (okS_t hK) hl)
  · simp only [i_0, Int32.lt_iff_toInt_lt, Int32.le_iff_toInt_le, ← Int32.toInt_inj, i_toInt hva, i_toInt hvb, gt_iff_lt, ge_iff_le, ne_eq] at q; omega
  · simp only [i_0, Int32.lt_iff_toInt_lt, Int32.le_iff_toInt_le, ← Int32.toInt_inj, i_toInt hva, i_toInt hvb, gt_iff_lt, ge_iff_le, ne_eq] at q; omega
theorem tl_icmp_ne (C : Fr x y cc nL ret tb d mc ms) {a b off : Int} {tgt : Nat} (hd : decode cc pc = .ok (.if_icmp .ne off, 3)) (ht : (pc : Int) + off = (tgt : Int)) (kt : a ≠ b → TL x bL tgt ls st h cl sl) (kf : a = b → TL x bL (pc + 3) ls st h cl sl)  : TL x bL pc ls (vI b :: vI a :: st) h cl sl := by
  obtain ⟨p, l, e, R, s, m, args, below, meth, c, dC, dI, cA, H0, Qf, ad0, h0⟩ := x
  obtain ⟨hx, hb, hml, -⟩ := C
  intro ad H locs rls hS hR hE hL hK hl
  have hva : inI a := okS_h (okS_t hK)
  have hvb : inI b := okS_h hK
  refine lv_icmp_ne hx hb hd ht (fun q => kt ?_ ad H locs rls hS hR hE hL (okS_t (okS_t hK)) hl) (fun q => kf ?_ ad H locs rls hS hR hE hL (okS_t (okS_t hK)) hl)
  · simp only [Int32.lt_iff_toInt_lt, Int32.le_iff_toInt_le, ← Int32.toInt_inj, i_toInt hva, i_toInt hvb, gt_iff_lt, ge_iff_le, ne_eq] at q; omega
  · simp only [Int32.lt_iff_toInt_lt, Int32.le_iff_toInt_le, ← Int32.toInt_inj, i_toInt hva, i_toInt hvb, gt_iff_lt, ge_iff_le, ne_eq] at q; omega
theorem tl_if_ne (C : Fr x y cc nL ret tb d mc ms) {a off : Int} {tgt : Nat} (hd : decode cc pc = .ok (.ifCond .ne off, 3)) (ht : (pc : Int) + off = (tgt : Int)) (kt : a ≠ 0 → TL x bL tgt ls st h cl sl) (kf : a = 0 → TL x bL (pc + 3) ls st h cl sl)  : TL x bL pc ls (vI a :: st) h cl sl := by
  obtain ⟨p, l, e, R, s, m, args, below, meth, c, dC, dI, cA, H0, Qf, ad0, h0⟩ := x
  obtain ⟨hx, hb, hml, -⟩ := C
  intro ad H locs rls hS hR hE hL hK hl
  have hva : inI a := okS_h hK
  have hvb : inI 0 := i_z
  refine lv_if_ne hx hb hd ht (fun q => kt ?_ ad H locs rls hS hR hE hL (okS_t hK) hl) (fun q => kf ?_ ad H locs rls hS hR hE hL (okS_t hK) hl)
  · simp only [i_0, Int32.lt_iff_toInt_lt, Int32.le_iff_toInt_le, ← Int32.toInt_inj, i_toInt hva, i_toInt hvb, gt_iff_lt, ge_iff_le, ne_eq] at q; omega
  · simp only [i_0, Int32.lt_iff_toInt_lt, Int32.le_iff_toInt_le, ← Int32.toInt_inj, i_toInt hva, i_toInt hvb, gt_iff_lt, ge_iff_le, ne_eq] at q; omega
theorem tl_icmp_lt (C : Fr x y cc nL ret tb d mc ms) {a b off : Int} {tgt : Nat} (hd : decode cc pc = .ok (.if_icmp .lt off, 3)) (ht : (pc : Int) + off = (tgt : Int)) (kt : a < b → TL x bL tgt ls st h cl sl) (kf : b ≤ a → TL x bL (pc + 3) ls st h cl sl)  : TL x bL pc ls (vI b :: vI a :: st) h cl sl := by
  obtain ⟨p, l, e, R, s, m, args, below, meth, c, dC, dI, cA, H0, Qf, ad0, h0⟩ := x
  obtain ⟨hx, hb, hml, -⟩ := C
  intro ad H locs rls hS hR hE hL hK hl
  have hva : inI a := okS_h (okS_t hK)
  have hvb : inI b := okS_h hK
  refine lv_icmp_lt hx hb hd ht (fun q => kt ?_ ad H locs rls hS hR hE hL (okS_t (okS_t hK)) hl) (fun q => kf ?_ ad H locs rls hS hR hE hL (okS_t (okS_t hK)) hl)
  · simp only [Int32.lt_iff_toInt_lt, Int32.le_iff_toInt_le, ← Int32.toInt_inj, i_toInt hva, i_toInt hvb, gt_iff_lt, ge_iff_le, ne_eq] at q; omega
  · simp only [Int32.lt_iff_toInt_lt, Int32.le_iff_toInt_le, ← Int32.toInt_inj, i_toInt hva, i_toInt hvb, gt_iff_lt, ge_iff_le, ne_eq] at q; omega
theorem tl_if_lt (C : Fr x y cc nL ret tb d mc ms) {a off : Int} {tgt : Nat} (hd : decode cc pc = .ok (.ifCond .lt off, 3)) (ht : (pc : Int) + off = (tgt : Int)) (kt : a < 0 → TL x bL tgt ls st h cl sl) (kf : 0 ≤ a → TL x bL (pc + 3) ls st h cl sl)  : TL x bL pc ls (vI a :: st) h cl sl := by
  obtain ⟨p, l, e, R, s, m, args, below, meth, c, dC, dI, cA, H0, Qf, ad0, h0⟩ := x
  obtain ⟨hx, hb, hml, -⟩ := C
  intro ad H locs rls hS hR hE hL hK hl
  have hva : inI a := okS_h hK
  have hvb : inI 0 := i_z
  refine lv_if_lt hx hb hd ht (fun q => kt ?_ ad H locs rls hS hR hE hL (okS_t hK) hl) (fun q => kf ?_ ad H locs rls hS hR hE hL (okS_t hK) hl)
  · simp only [i_0, Int32.lt_iff_toInt_lt, Int32.le_iff_toInt_le, ← Int32.toInt_inj, i_toInt hva, i_toInt hvb, gt_iff_lt, ge_iff_le, ne_eq] at q; omega
  · simp only [i_0, Int32.lt_iff_toInt_lt, Int32.le_iff_toInt_le, ← Int32.toInt_inj, i_toInt hva, i_toInt hvb, gt_iff_lt, ge_iff_le, ne_eq] at q; omega
theorem tl_icmp_ge (C : Fr x y cc nL ret tb d mc ms) {a b off : Int} {tgt : Nat} (hd : decode cc pc = .ok (.if_icmp .ge off, 3)) (ht : (pc : Int) + off = (tgt : Int)) (kt : b ≤ a → TL x bL tgt ls st h cl sl) (kf : a < b → TL x bL (pc + 3) ls st h cl sl)  : TL x bL pc ls (vI b :: vI a :: st) h cl sl := by
  obtain ⟨p, l, e, R, s, m, args, below, meth, c, dC, dI, cA, H0, Qf, ad0, h0⟩ := x
  obtain ⟨hx, hb, hml, -⟩ := C
  intro ad H locs rls hS hR hE hL hK hl
  have hva : inI a := okS_h (okS_t hK)
  have hvb : inI b := okS_h hK
  refine lv_icmp_ge hx hb hd ht (fun q => kt ?_ ad H locs rls hS hR hE hL (okS_t (okS_t hK)) hl) (fun q => kf ?_ ad H locs rls hS hR hE hL (okS_t (okS_t hK)) hl)
  · simp only [Int32.lt_iff_toInt_lt, Int32.le_iff_toInt_le, ← Int32.toInt_inj, i_toInt hva, i_toInt hvb, gt_iff_lt, ge_iff_le, ne_eq] at q; omega
  · simp only [Int32.lt_iff_toInt_lt, Int32.le_iff_toInt_le, ← Int32.toInt_inj, i_toInt hva, i_toInt hvb, gt_iff_lt, ge_iff_le, ne_eq] at q; omega
theorem tl_if_ge (C : Fr x y cc nL ret tb d mc ms) {a off : Int} {tgt : Nat} (hd : decode cc pc = .ok (.ifCond .ge off, 3)) (ht : (pc : Int) + off = (tgt : Int)) (kt : 0 ≤ a → TL x bL tgt ls st h cl sl) (kf : a < 0 → TL x bL (pc + 3) ls st h cl sl)  : TL x bL pc ls (vI a :: st) h cl sl := by
  obtain ⟨p, l, e, R, s, m, args, below, meth, c, dC, dI, cA, H0, Qf, ad0, h0⟩ := x
  obtain ⟨hx, hb, hml, -⟩ := C
  intro ad H locs rls hS hR hE hL hK hl
  have hva : inI a := okS_h hK
  have hvb : inI 0 := i_z
  refine lv_if_ge hx hb hd ht (fun q => kt ?_ ad H locs rls hS hR hE hL (okS_t hK) hl) (fun q => kf ?_ ad H locs rls hS hR hE hL (okS_t hK) hl)
  · simp only [i_0, Int32.lt_iff_toInt_lt, Int32.le_iff_toInt_le, ← Int32.toInt_inj, i_toInt hva, i_toInt hvb, gt_iff_lt, ge_iff_le, ne_eq] at q; omega
  · simp only [i_0, Int32.lt_iff_toInt_lt, Int32.le_iff_toInt_le, ← Int32.toInt_inj, i_toInt hva, i_toInt hvb, gt_iff_lt, ge_iff_le, ne_eq] at q; omega
theorem tl_icmp_gt (C : Fr x y cc nL ret tb d mc ms) {a b off : Int} {tgt : Nat} (hd : decode cc pc = .ok (.if_icmp .gt off, 3)) (ht : (pc : Int) + off = (tgt : Int)) (kt : b < a → TL x bL tgt ls st h cl sl) (kf : a ≤ b → TL x bL (pc + 3) ls st h cl sl)  : TL x bL pc ls (vI b :: vI a :: st) h cl sl := by
  obtain ⟨p, l, e, R, s, m, args, below, meth, c, dC, dI, cA, H0, Qf, ad0, h0⟩ := x
  obtain ⟨hx, hb, hml, -⟩ := C
  intro ad H locs rls hS hR hE hL hK hl
  have hva : inI a := okS_h (okS_t hK)
  have hvb : inI b := okS_h hK
  refine lv_icmp_gt hx hb hd ht (fun q => kt ?_ ad H locs rls hS hR hE hL (okS_t (okS_t hK)) hl) (fun q => kf ?_ ad H locs rls hS hR hE hL (okS_t (okS_t hK)) hl)
  · simp only [Int32.lt_iff_toInt_lt, Int32.le_iff_toInt_le, ← Int32.toInt_inj, i_toInt hva, i_toInt hvb, gt_iff_lt, ge_iff_le, ne_eq] at q; omega
  · simp only [Int32.lt_iff_toInt_lt, Int32.le_iff_toInt_le, ← Int32.toInt_inj, i_toInt hva, i_toInt hvb, gt_iff_lt, ge_iff_le, ne_eq] at q; omega
theorem tl_if_gt (C : Fr x y cc nL ret tb d mc ms) {a off : Int} {tgt : Nat} (hd : decode cc pc = .ok (.ifCond .gt off, 3)) (ht : (pc : Int) + off = (tgt : Int)) (kt : 0 < a → TL x bL tgt ls st h cl sl) (kf : a ≤ 0 → TL x bL (pc + 3) ls st h cl sl)  : TL x bL pc ls (vI a :: st) h cl sl := by
  obtain ⟨p, l, e, R, s, m, args, below, meth, c, dC, dI, cA, H0, Qf, ad0, h0⟩ := x
  obtain ⟨hx, hb, hml, -⟩ := C
  intro ad H locs rls hS hR hE hL hK hl
  have hva : inI a := okS_h hK
  have hvb : inI 0 := i_z
  refine lv_if_gt hx hb hd ht (fun q => kt ?_ ad H locs rls hS hR hE hL (okS_t hK) hl) (fun q => kf ?_ ad H locs rls hS hR hE hL (okS_t hK) hl)
  · simp only [i_0, Int32.lt_iff_toInt_lt, Int32.le_iff_toInt_le, ← Int32.toInt_inj, i_toInt hva, i_toInt hvb, gt_iff_lt, ge_iff_le, ne_eq] at q; omega
  · simp only [i_0, Int32.lt_iff_toInt_lt, Int32.le_iff_toInt_le, ← Int32.toInt_inj, i_toInt hva, i_toInt hvb, gt_iff_lt, ge_iff_le, ne_eq] at q; omega
theorem tl_icmp_le (C : Fr x y cc nL ret tb d mc ms) {a b off : Int} {tgt : Nat} (hd : decode cc pc = .ok (.if_icmp .le off, 3)) (ht : (pc : Int) + off = (tgt : Int)) (kt : a ≤ b → TL x bL tgt ls st h cl sl) (kf : b < a → TL x bL (pc + 3) ls st h cl sl)  : TL x bL pc ls (vI b :: vI a :: st) h cl sl := by
  obtain ⟨p, l, e, R, s, m, args, below, meth, c, dC, dI, cA, H0, Qf, ad0, h0⟩ := x
  obtain ⟨hx, hb, hml, -⟩ := C
  intro ad H locs rls hS hR hE hL hK hl
  have hva : inI a := okS_h (okS_t hK)
  have hvb : inI b := okS_h hK
  refine lv_icmp_le hx hb hd ht (fun q => kt ?_ ad H locs rls hS hR hE hL (okS_t (okS_t hK)) hl) (fun q => kf ?_ ad H locs rls hS hR hE hL (okS_t (okS_t hK)) hl)
  · simp only [Int32.lt_iff_toInt_lt, Int32.le_iff_toInt_le, ← Int32.toInt_inj, i_toInt hva, i_toInt hvb, gt_iff_lt, ge_iff_le, ne_eq] at q; omega
  · simp only [Int32.lt_iff_toInt_lt, Int32.le_iff_toInt_le, ← Int32.toInt_inj, i_toInt hva, i_toInt hvb, gt_iff_lt, ge_iff_le, ne_eq] at q; omega
theorem tl_if_le (C : Fr x y cc nL ret tb d mc ms) {a off : Int} {tgt : Nat} (hd : decode cc pc = .ok (.ifCond .le off, 3)) (ht : (pc : Int) + off = (tgt : Int)) (kt : a ≤ 0 → TL x bL tgt ls st h cl sl) (kf : 0 < a → TL x bL (pc + 3) ls st h cl sl)  : TL x bL pc ls (vI a :: st) h cl sl := by
  obtain ⟨p, l, e, R, s, m, args, below, meth, c, dC, dI, cA, H0, Qf, ad0, h0⟩ := x
  obtain ⟨hx, hb, hml, -⟩ := C
  intro ad H locs rls hS hR hE hL hK hl
  have hva : inI a := okS_h hK
  have hvb : inI 0 := i_z
  refine lv_if_le hx hb hd ht (fun q => kt ?_ ad H locs rls hS hR hE hL (okS_t hK) hl) (fun q => kf ?_ ad H locs rls hS hR hE hL (okS_t hK) hl)
  · simp only [i_0, Int32.lt_iff_toInt_lt, Int32.le_iff_toInt_le, ← Int32.toInt_inj, i_toInt hva, i_toInt hvb, gt_iff_lt, ge_iff_le, ne_eq] at q; omega
  · simp only [i_0, Int32.lt_iff_toInt_lt, Int32.le_iff_toInt_le, ← Int32.toInt_inj, i_toInt hva, i_toInt hvb, gt_iff_lt, ge_iff_le, ne_eq] at q; omega
/-! its script -/
def sx (xs : Nat → Int32) (i : Int) : Int := (xs i.toNat).toInt
theorem sx_in {xs : Nat → Int32} {i : Int} : inI (sx xs i) := ⟨Int32.le_toInt _, Int32.toInt_lt _⟩
def Scr (x : Cx) (bL L : Nat) (xs : Nat → Int32) : Prop := match x with
  | (_, _, _, _, s, _, _, _, _, _, _, _, _, H0, _, _, _) => va_X bL L xs s H0 ∧ bL < H0.size ∧ L ≤ 3584
theorem tl_scr (C : Fr x y cc nL ret tb d mc ms) {L : Nat} {xs : Nat → Int32} (hX : Scr x bL L xs) {p1 p2 p3 : Nat} {i n : Int} (hv : lget ls 5 = some (vI i)) (hi : 0 ≤ i ∧ i ≤ 10000) (h0 : 0 ≤ n ∧ n ≤ 6) (hn : i + n < L) (hc : (Int8.ofInt n).toInt32 = Int32.ofInt n) (d0 : decode cc pc = .ok (.aload_n 0, 1)) (d1 : decode cc (pc + 1) = .ok (.iload 5, 2)) (d2 : decode cc (pc + 1 + 2) = .ok (.iconst n, 1) ∧ p1 = pc + 1 + 2 + 1 ∨ decode cc (pc + 1 + 2) = .ok (.bipush n, 2) ∧ p1 = pc + 1 + 2 + 2) (d3 : decode cc p1 = .ok (.iadd, 1)) (d4 : decode cc (p1 + 1) = .ok (.iaload, 1)) (kk : TL x bL (p1 + 1 + 1) ls (vI (sx xs (i + n)) :: st) h cl sl) : TL x bL pc ls st h cl sl := by
  obtain ⟨p, l, e, R, s, m, args, below, meth, c, dC, dI, cA, H0, Qf, ad0, h0⟩ := x
  obtain ⟨hx, hb, hml, -⟩ := C
  obtain ⟨hX, hbl, hL0⟩ := hX
  intro ad H locs rls hS hR hE hL hK hl
  have k1 := kk ad H locs rls hS hR hE hL (okS_c (v := vI _) sx_in hK) hl
  have hr : inI (i + n) := ⟨by omega, by omega⟩
  have hin : inI n := ⟨by omega, by omega⟩
  refine lv_aload_n hx hb d0 rfl (hl.2.2 (0, Value.ref bL) List.mem_cons_self) ?_
  refine lv_iload hx hb d1 (has_atL hl hv) ?_
  have fin : W p l e R s m args below meth c H locs cl sl Qf (F0 m p1 rls (Value.int (Int32.ofInt n) :: Value.int (Int32.ofInt i) :: Value.ref bL :: st.map (mapV ad))) := by
    refine lv_iadd hx hb d3 ?_
    rw [← Int32.ofInt_add]
    refine va_sld hx hb hX hbl (fun q => absurd q (Nat.not_le.mpr hbl)) hS (i_in (by omega) hn hr) d4 ?_
    rw [i_cl hr]
    have e1 : Value.int (xs (i + n).toNat) = mapV ad (vI (sx xs (i + n))) := by show _ = Value.int (Int32.ofInt (xs (i + n).toNat).toInt); rw [Int32.ofInt_toInt]
    rw [e1]
    exact k1
  rcases d2 with ⟨d2, rfl⟩ | ⟨d2, rfl⟩
  · exact lv_iconst hx hb d2 rfl fin
  · exact lv_bipush hx hb d2 hc fin
theorem tl_scr0 (C : Fr x y cc nL ret tb d mc ms) {L : Nat} {xs : Nat → Int32} (hX : Scr x bL L xs) {i : Int} (hv : lget ls 5 = some (vI i)) (hi : 0 ≤ i ∧ i ≤ 10000) (hn : i < L) (d0 : decode cc pc = .ok (.aload_n 0, 1)) (d1 : decode cc (pc + 1) = .ok (.iload 5, 2)) (d4 : decode cc (pc + 1 + 2) = .ok (.iaload, 1)) (kk : TL x bL (pc + 1 + 2 + 1) ls (vI (sx xs i) :: st) h cl sl) : TL x bL pc ls st h cl sl := by
  obtain ⟨p, l, e, R, s, m, args, below, meth, c, dC, dI, cA, H0, Qf, ad0, h0⟩ := x
  obtain ⟨hx, hb, hml, -⟩ := C
  obtain ⟨hX, hbl, hL0⟩ := hX
  intro ad H locs rls hS hR hE hL hK hl
  have k1 := kk ad H locs rls hS hR hE hL (okS_c (v := vI _) sx_in hK) hl
  have hr : inI i := ⟨by omega, by omega⟩
  refine lv_aload_n hx hb d0 rfl (hl.2.2 (0, Value.ref bL) List.mem_cons_self) ?_
  refine lv_iload hx hb d1 (has_atL hl hv) ?_
  refine va_sld hx hb hX hbl (fun q => absurd q (Nat.not_le.mpr hbl)) hS (i_in hi.1 hn hr) d4 ?_
  rw [i_cl hr]
  have e1 : Value.int (xs i.toNat) = mapV ad (vI (sx xs i)) := by show _ = Value.int (Int32.ofInt (xs i.toNat).toInt); rw [Int32.ofInt_toInt]
  rw [e1]
  exact k1
theorem tl_slen (C : Fr x y cc nL ret tb d mc ms) {L : Nat} {xs : Nat → Int32} (hX : Scr x bL L xs) (d0 : decode cc pc = .ok (.aload_n 0, 1)) (d1 : decode cc (pc + 1) = .ok (.arraylength, 1)) (kk : TL x bL (pc + 1 + 1) ls (vI (L : Int) :: st) h cl sl) : TL x bL pc ls st h cl sl := by
  obtain ⟨p, l, e, R, s, m, args, below, meth, c, dC, dI, cA, H0, Qf, ad0, h0⟩ := x
  obtain ⟨hx, hb, hml, -⟩ := C
  obtain ⟨hX, hbl, hL0⟩ := hX
  intro ad H locs rls hS hR hE hL hK hl
  have k1 := kk ad H locs rls hS hR hE hL (okS_c (v := vI _) ⟨by omega, by omega⟩ hK) hl
  refine lv_aload_n hx hb d0 rfl (hl.2.2 (0, Value.ref bL) List.mem_cons_self) ?_
  refine va_slen hx hb hX hbl (fun q => absurd q (Nat.not_le.mpr hbl)) hS d1 ?_
  have e1 : Value.int (Int32.ofNat L) = mapV ad (vI (L : Int)) := by show _ = Value.int (Int32.ofInt (L : Int)); rw [Int32.ofInt_eq_ofNat]
  rw [e1]
  exact k1
theorem tl_iand (C : Fr x y cc nL ret tb d mc ms) {a b : Int} (hd : decode cc pc = .ok (.iand, 1)) (k : TL x bL (pc + 1) ls (vI (Int32.ofInt a &&& Int32.ofInt b).toInt :: st) h cl sl) : TL x bL pc ls (vI b :: vI a :: st) h cl sl := by
  obtain ⟨p, l, e, R, s, m, args, below, meth, c, dC, dI, cA, H0, Qf, ad0, h0⟩ := x
  obtain ⟨hx, hb, hml, -⟩ := C
  intro ad H locs rls hS hR hE hL hK hl
  have k1 := k ad H locs rls hS hR hE hL (okS_c (v := vI _) ⟨Int32.le_toInt _, Int32.toInt_lt _⟩ (okS_t (okS_t hK))) hl
  refine lv_iand hx hb hd ?_
  have e1 : Value.int (Int32.ofInt a &&& Int32.ofInt b) = mapV ad (vI (Int32.ofInt a &&& Int32.ofInt b).toInt) := by show _ = Value.int (Int32.ofInt _); rw [Int32.ofInt_toInt]
  rw [e1]
  exact k1
theorem tl_tabI (C : Fr x y cc nL ret tb d mc ms) {dflt lo hi a off : Int} {offs : Array Int} {len tgt : Nat} (hd : decode cc pc = .ok (.tableswitch dflt lo hi offs, len)) (h1 : lo ≤ a) (h2 : a ≤ hi) (ho : offs[(a - lo).toNat]? = some off) (ht : (pc : Int) + off = (tgt : Int)) (k : TL x bL tgt ls st h cl sl) : TL x bL pc ls (vI a :: st) h cl sl := by
  obtain ⟨p, l, e, R, s, m, args, below, meth, c, dC, dI, cA, H0, Qf, ad0, h0⟩ := x
  obtain ⟨hx, hb, hml, -⟩ := C
  intro ad H locs rls hS hR hE hL hK hl
  have ha : inI a := okS_h hK
  exact lv_tableIn hx hb hd (by rw [i_toInt ha]; omega) (by rw [i_toInt ha]; omega) (by rw [i_toInt ha]; exact ho) ht (k ad H locs rls hS hR hE hL (okS_t hK) hl)
theorem tl_tabO (C : Fr x y cc nL ret tb d mc ms) {dflt lo hi a : Int} {offs : Array Int} {len tgt : Nat} (hd : decode cc pc = .ok (.tableswitch dflt lo hi offs, len)) (h1 : a < lo ∨ hi < a) (ht : (pc : Int) + dflt = (tgt : Int)) (k : TL x bL tgt ls st h cl sl) : TL x bL pc ls (vI a :: st) h cl sl := by
  obtain ⟨p, l, e, R, s, m, args, below, meth, c, dC, dI, cA, H0, Qf, ad0, h0⟩ := x
  obtain ⟨hx, hb, hml, -⟩ := C
  intro ad H locs rls hS hR hE hL hK hl
  have ha : inI a := okS_h hK
  exact lv_tableOut hx hb hd (by rw [i_toInt ha]; exact h1) ht (k ad H locs rls hS hR hE hL (okS_t hK) hl)
theorem tl_lcmp (C : Fr x y cc nL ret tb d mc ms) {a : Int} (hd : decode cc pc = .ok (.lcmp, 1)) (k : TL x bL (pc + 1) ls (vI 0 :: st) h cl sl) : TL x bL pc ls (vL a :: vL a :: st) h cl sl := by
  obtain ⟨p, l, e, R, s, m, args, below, meth, c, dC, dI, cA, H0, Qf, ad0, h0⟩ := x
  obtain ⟨hx, hb, hml, -⟩ := C
  intro ad H locs rls hS hR hE hL hK hl
  have k1 := k ad H locs rls hS hR hE hL (okS_c (v := vI 0) i_z (okS_t (okS_t hK))) hl
  refine W.lcmp hx hb hd ?_
  have e1 : lg_cmp (Int64.ofInt a) (Int64.ofInt a) = Int32.ofInt 0 := by unfold lg_cmp; simp
  rw [e1]
  exact k1
theorem tl_dcmp (C : Fr x y cc nL ret tb d mc ms) {a : UInt64} {op : CmpOp} (hd : decode cc pc = .ok (.dcmp op, 1)) (he : Op.cmpValue (FP.dcmp a a) op = Int32.ofInt 0) (k : TL x bL (pc + 1) ls (vI 0 :: st) h cl sl) : TL x bL pc ls (vD a :: vD a :: st) h cl sl := by
  obtain ⟨p, l, e, R, s, m, args, below, meth, c, dC, dI, cA, H0, Qf, ad0, h0⟩ := x
  obtain ⟨hx, hb, hml, -⟩ := C
  intro ad H locs rls hS hR hE hL hK hl
  have k1 := k ad H locs rls hS hR hE hL (okS_c (v := vI 0) i_z (okS_t (okS_t hK))) hl
  refine lv_dcmp hx hb hd ?_
  rw [he]
  exact k1
/-! its calls: nothing is thrown there -/
def KoL (x : Cx) (bL : Nat) (pc : Nat) (ls : List (Nat × PV)) (st : List PV) (cl sl : Nat) (r : PR) (h' : HP) : Prop := match r with
  | .inl r => TL x bL (pc + 3) ls (pushR r st) h' cl sl
  | .inr _ => False
theorem run_goL {p : Program} {l : Launch} {e : Env} {R : Room} {s : State} {m : MethodId} {args : Array Value} {below : List Frame} {meth : Method} {c : Code} {dC : Nat → ClassId} {dI : Nat → Nat → Nat} {cA : Nat → ClassId} {H0 H : Heap} {Qf : State → Prop} {ad0 ad : Nat → Nat} {h0 : HP} {Q : PR → HP → Prop} {locs : List Loc} {rls : Array Slot} {st0 : List Value} {mz sz : Nat} {a : Array Value}
    (hr : vx_Run p l e R s m args below meth c H locs cl sl mz sz (F0 m pc rls st0) (st.map (mapV ad)) (QcF dC dI cA H0 ad h Q a) (XCF dC dI cA H0 ad h Q) (AA H0)) (hS : va_S (AA H0) H0 H locs) (hE : Ext ad0 h0 ad h) (hL : ∀ q ∈ ls, okV h q.2) (hK : ∀ v ∈ st, okV h v) (hl : lv_has rls c.maxLocals ((0, Value.ref bL) :: ls.map (fun q => (q.1, mapV ad q.2))))
    (kk : ∀ (r : PR) (h' : HP), Q r h' → KoL (p, l, e, R, s, m, args, below, meth, c, dC, dI, cA, H0, Qf, ad0, h0) bL pc ls st (cl + mz) (sl + sz) r h') : W p l e R s m args below meth c H locs cl sl Qf (F0 m pc rls st0) := by
  intro T0 hT0 X0
  rcases hr T0 hT0 X0 with ⟨v, st₀, t, T', L, e0, X', hLf, e1, e2, ⟨r, h', ad', hv, hQ, hS', hR', hE', hok⟩, stp⟩ | ⟨q, st₀, t, T', L, E, ce, e0, X', hLf, e1, e2, ⟨h', ad', hQ, hS', hR', hE'⟩, hce, hcv, hcl, stp⟩
  · have hv : v = r.map (mapV ad') := Outcome.returned.inj hv
    subst hv
    have hL1 := okL_ext hE' hL
    have hK1 := okS_ext hE' hK
    have k1 := kk (.inl r) h' hQ ad' T'.heap (locs ++ L) rls ⟨by rw [e1]; exact hS'.1, by rw [e1]; exact hS'.2.1, fun z hz => (List.mem_append.mp hz).elim (hS.2.2 z) (hLf z)⟩ (by rw [e1]; exact hR') (hE.tr hE') hL1.1
      (by cases r with
        | none => exact hK1.1
        | some v => exact okS_c (hok v rfl) hK1.1) (by rw [hL1.2]; exact hl)
    obtain ⟨t2, a1, b1⟩ := k1 T' rfl X'
    refine ⟨t2, stp t2 ?_, b1⟩
    have e3 : (pushR r st).map (mapV ad') = (r.map (mapV ad')).toList ++ st.map (mapV ad) := by
      cases r with
      | none => exact hK1.2
      | some v => exact congrArg (mapV ad' v :: ·) hK1.2
    rw [e3] at a1
    exact a1
  · exact absurd (kk (.inr E) h' hQ) id
theorem tl_callSW (C : Fr x y cc nL ret tb d mc ms) {idx : Nat} (hd : decode cc pc = .ok (.invokestatic idx, 3)) {z : MethodName} {bytes : ByteArray} {maxL : Nat} {rt : Option FieldType} {n dz mz sz : Nat} {Q : PR → HP → Prop} (av : List PV) {hh9 : List (Nat × Nat × Nat × Nat)} (hc : Ct (gx x) z (.codeWith z bytes maxL rt hh9) dz mz sz av h Q) (hw : WS y.cls idx z (.codeWith z bytes maxL rt hh9) n) (hn : av.length = n)
    (hdz : dz + 1 ≤ d) (hmL : maxL ≤ 21) (hcm : cl + mz ≤ mc) (hsm : sl + sz ≤ ms) (hcat : catS st ≤ 8) (kk : ∀ (r : PR) (h' : HP), Q r h' → KoL x bL pc ls st (cl + mz) (sl + sz) r h') : TL x bL pc ls (av.reverse ++ st) h cl sl := by
  obtain ⟨p, l, e, R, s, m, args, below, meth, c, dC, dI, cA, H0, Qf, ad0, h0⟩ := x
  obtain ⟨hx, hb, hml, hret, htb, hown, hnm, hlk, hst, hdR, hlR, hcR, hsR, hS0, hTs⟩ := C
  obtain ⟨hTB, hNC, hST, hK0⟩ := id hTs
  intro ad H locs rls hS hR hE hL hK hl
  obtain ⟨w1, w2, w3, w4, w5, w6, w7⟩ := hw
  have hKa : ∀ v ∈ av, okV h v := fun v hv => hK v (List.mem_append_left _ (List.mem_reverse.mpr hv))
  have hKs : ∀ v ∈ st, okV h v := fun v hv => hK v (List.mem_append_right _ hv)
  have e1 : (av.reverse ++ st).map (mapV ad) = (av.map (mapV ad)).reverse ++ st.map (mapV ad) := by rw [List.map_append, List.map_reverse]
  rw [e1]
  refine run_goL (a := (av.map (mapV ad)).toArray) (vx_runSX (Ts := []) (n := n) ⟨hx, hb, hml, hown, fun _ h9 => nomatch h9⟩ (hc hst ad) ⟨⟨rfl, rfl, ?_, ?_, ?_, List.mem_cons_self⟩, hTB.at w4 w5, hTB.at w3 rfl, w6, parse_n w7, hTB.at w1 rfl, hTB.at w2 rfl⟩ ⟨blindPc, fun U hU hW => ⟨rfl, hTs.warm hW, by rw [hU]; exact S_nil hS, by rw [hU]; exact hR, hKa⟩⟩ rfl (by rw [List.length_map]; exact hn) (hl.1.trans hml) rfl ?_ hd ⟨Nat.le_trans hcm hcR, Nat.le_trans hsm hsR⟩) hS hE hL hKs hl kk
  · show dz + 1 ≤ R.frames; omega
  · show 8 + (maxL + 11) + (40 * dz + 100) ≤ R.locals; omega
  · intro w hw9 a' U hW
    cases List.mem_singleton.mp hw9
    exact hTB _ w4 w5 a' U hW
  · exact lv_room (by rw [catS_map]; exact hcat)
theorem tl_callV (C : Fr x y cc nL ret tb d mc ms) {idx : Nat} (hd : decode cc pc = .ok (.invokevirtual idx, 3)) {z : MethodName} {bytes : ByteArray} {maxL : Nat} {rt : Option FieldType} {n dz mz sz k ci : Nat} {fs : List PV} {Q : PR → HP → Prop} (av : List PV) (hc : Ct (gx x) z (.code z bytes maxL rt) dz mz sz (vR k :: av) h Q) (he : h k = some (oO ci fs)) (hw : WV y.cls idx ci z (.code z bytes maxL rt) n) (hn : av.length = n)
    (hdz : dz + 1 ≤ d) (hmL : maxL ≤ 21) (hcm : cl + mz ≤ mc) (hsm : sl + sz ≤ ms) (hcat : catS st ≤ 8) (kk : ∀ (r : PR) (h' : HP), Q r h' → KoL x bL pc ls st (cl + mz) (sl + sz) r h') : TL x bL pc ls (av.reverse ++ vR k :: st) h cl sl := by
  obtain ⟨p, l, e, R, s, m, args, below, meth, c, dC, dI, cA, H0, Qf, ad0, h0⟩ := x
  obtain ⟨hx, hb, hml, hret, htb, hown, hnm, hlk, hst, hdR, hlR, hcR, hsR, hS0, hTs⟩ := C
  obtain ⟨hTB, hNC, hST, hK0⟩ := id hTs
  intro ad H locs rls hS hR hE hL hK hl
  obtain ⟨w1, w2, w2b, w3, w4, w5, w6, w7, r9, w8, w9⟩ := hw
  have hKk : okV h (vR k) := hK _ (List.mem_append_right _ List.mem_cons_self)
  have hKa : ∀ v ∈ vR k :: av, okV h v := okS_c hKk (fun v hv => hK v (List.mem_append_left _ (List.mem_reverse.mpr hv)))
  have hKs : ∀ v ∈ st, okV h v := fun v hv => hK v (List.mem_append_right _ (List.mem_cons_of_mem _ hv))
  have e1 : (av.reverse ++ vR k :: st).map (mapV ad) = (av.map (mapV ad)).reverse ++ .ref (ad k) :: st.map (mapV ad) := by rw [List.map_append, List.map_reverse]; rfl
  rw [e1]
  obtain ⟨dom, hdom, hP, hD, hok⟩ := id hR
  obtain ⟨i, -, hi⟩ := ws_at (cA := cA) (ad := ad) hdom he
  have hrec := va_recv hK0 hP w8 hi
  rw [w9] at hrec
  refine run_goL (a := (Value.ref (ad k) :: av.map (mapV ad)).toArray) (vx_runV (C := z.cls) (Ts := []) (n := n) ⟨hx, hb, hml, hown, fun _ h9 => nomatch h9⟩ (hc hst ad) ⟨⟨rfl, rfl, ?_, ?_, ?_, List.mem_cons_self, hTB.at w4 w5, hTB.at w3 rfl, w6, parse_n w7, hTB.at w1 rfl⟩, hTB.at w2 rfl, hTB.at w2b rfl⟩ ⟨blindPc, hrec, fun U hU hW => ⟨rfl, hTs.warm hW, by rw [hU]; exact S_nil hS, by rw [hU]; exact hR, hKa⟩⟩ rfl (by rw [List.length_map]; exact hn) (hl.1.trans hml) rfl ?_ hd ⟨Nat.le_trans hcm hcR, Nat.le_trans hsm hsR⟩) hS hE hL hKs hl kk
  · show dz + 1 ≤ R.frames; omega
  · show 8 + (maxL + 11) + (40 * dz + 100) ≤ R.locals; omega
  · intro w hw9 a' U hW
    cases List.mem_singleton.mp hw9
    exact hTB _ w4 w5 a' U hW
  · exact lv_room (by rw [catS_map]; exact hcat)
theorem tl_callI (C : Fr x y cc nL ret tb d mc ms) {idx : Nat} (hd : decode cc pc = .ok (.invokespecial idx, 3)) {z : MethodName} {bytes : ByteArray} {maxL : Nat} {n dz mz sz k : Nat} {Q : PR → HP → Prop} (av : List PV) (hc : Ct (gx x) z (.code z bytes maxL none) dz mz sz (vR k :: av) h Q) (hno : ∀ E h', ¬ Q (.inr E) h') (hw : WI y.cls idx z (.code z bytes maxL none) n) (hn : av.length = n)
    (hdz : dz + 1 ≤ d) (hmL : maxL ≤ 21) (hcm : cl + mz ≤ mc) (hsm : sl + sz ≤ ms) (hcat : catS st ≤ 8) (kk : ∀ (r : PR) (h' : HP), Q r h' → KoL x bL pc ls st (cl + mz) (sl + sz) r h') : TL x bL pc ls (av.reverse ++ vR k :: st) h cl sl := by
  obtain ⟨p, l, e, R, s, m, args, below, meth, c, dC, dI, cA, H0, Qf, ad0, h0⟩ := x
  obtain ⟨hx, hb, hml, hret, htb, hown, hnm, hlk, hst, hdR, hlR, hcR, hsR, hS0, hTs⟩ := C
  obtain ⟨hTB, hNC, hST, hK0⟩ := id hTs
  intro ad H locs rls hS hR hE hL hK hl
  obtain ⟨w1, w2, w3, w4, w5, w6, w7, w8⟩ := hw
  have hKk : okV h (vR k) := hK _ (List.mem_append_right _ List.mem_cons_self)
  have hKa : ∀ v ∈ vR k :: av, okV h v := okS_c hKk (fun v hv => hK v (List.mem_append_left _ (List.mem_reverse.mpr hv)))
  have hKs : ∀ v ∈ st, okV h v := fun v hv => hK v (List.mem_append_right _ (List.mem_cons_of_mem _ hv))
  have e1 : (av.reverse ++ vR k :: st).map (mapV ad) = (av.map (mapV ad)).reverse ++ .ref (ad k) :: st.map (mapV ad) := by rw [List.map_append, List.map_reverse]; rfl
  rw [e1]
  refine run_goL (a := (Value.ref (ad k) :: av.map (mapV ad)).toArray) (run_goM (va_runI (Ts := []) (n := n) ⟨hx, hb, hml, hown, fun _ h9 => nomatch h9⟩ (Ct.met hc hst hno ad) ⟨⟨rfl, rfl, ?_, ?_, ?_, List.mem_cons_self, hTB.at w4 w5, hTB.at w3 rfl, w6, parse_n w7, hTB.at w1 rfl⟩, w8, hTB.at w2 rfl⟩ ⟨blindPc, fun U hU hW => ⟨rfl, hTs.warm hW, by rw [hU]; exact S_nil hS, by rw [hU]; exact hR, hKa⟩⟩ rfl (by rw [List.length_map]; exact hn) (hl.1.trans hml) rfl ?_ hd ⟨Nat.le_trans hcm hcR, Nat.le_trans hsm hsR⟩)) hS hE hL hKs hl kk
  · show dz + 1 ≤ R.frames; omega
  · show 8 + (maxL + 11) + (40 * dz + 100) ≤ R.locals; omega
  · intro w hw9 a' U hW
    cases List.mem_singleton.mp hw9
    exact hTB _ w4 w5 a' U hW
  · exact lv_room (by rw [catS_map]; exact hcat)
theorem tl_new (C : Fr x y cc nL ret tb d mc ms) {idx : Nat} (hd : decode cc pc = .ok (.new idx, 3)) (k : Nat) {ci : Nat} {fs : List PV} (hw : NW y.cls idx ci fs) (hk : h k = none) (hcm : cl + 1 ≤ mc) (hsm : sl + fs.length ≤ ms)
    (kk : TL x bL (pc + 3) ls (vR k :: st) (hput h k (oO ci fs)) (cl + 1) (sl + fs.length)) : TL x bL pc ls st h cl sl := by
  obtain ⟨p, l, e, R, s, m, args, below, meth, c, dC, dI, cA, H0, Qf, ad0, h0⟩ := x
  obtain ⟨hx, hb, hml, hret, htb, hown, hnm, hlk, hst, hdR, hlR, hcR, hsR, hS0, hTB, hNC, hST, hK0⟩ := C
  intro ad H locs rls hS hR hE hL hK hl
  obtain ⟨q, hc, hin, hlen, w1, w2, w3, ⟨ty0, hty, hdf⟩, hf0⟩ := hw
  obtain ⟨dom, hdom, hP, hD, hok⟩ := id hR
  rw [← hlen] at kk hsm
  refine va_new (D := (dC, dI)) (C := q.1) (T := q.2.1) (N := q.2.2) (fs := fs.map (mapV ad)) hx hb (hTB.us hin) (fun _ hw => hw) ty0 hty hown (hTB.at w1 rfl) (hTB.at w2 rfl) (hTB.at w3 rfl) hK0 hP hD hS (fun _ h9 => h9) hc (fun j hj => hdf j hj ad) (Nat.le_trans hcm hcR) (Nat.le_trans hsm hsR) hd (fun q9 H1 hP1 hD1 hS1 => ?_)
  have hE1 := ext_new (ad := ad) hk q9 (oO ci fs)
  have e1 : mapE cA (adp ad k q9) (oO ci fs) = (.inr (ci, fs.map (mapV ad)) : va_E) := by
    show (Sum.inr (ci, fs.map (mapV (adp ad k q9))) : va_E) = _
    rw [List.map_congr_left (fun v hv => (okV.ext (ad := ad) (ad' := adp ad k q9) (h := fun _ => none) (h' := h) (fun j hj => absurd rfl hj) (hf0 v hv)).2)]
  have hR1 : Rw dC dI cA H0 (adp ad k q9) (hput h k (oO ci fs)) H1 := Rw.new hdom hok hk hf0 e1 hP1 hD1
  have hL1 := okL_ext hE1 hL
  have hK1 := okS_ext hE1 hK
  have h9 := kk (adp ad k q9) H1 locs rls hS1 hR1 (hE.tr hE1) hL1.1 (okS_c (v := vR k) (fun j hj => by cases hj; rw [hput_s]; exact fun q => by cases q) hK1.1) (by rw [hL1.2]; exact hl)
  have e2 : (vR k :: st).map (mapV (adp ad k q9)) = .ref q9 :: st.map (mapV ad) := by
    rw [List.map_cons, hK1.2]
    show Value.ref (if k = k then q9 else ad k) :: _ = _
    rw [if_pos rfl]
  rw [e2] at h9
  exact h9
theorem tl_newJ (C : Fr x y cc nL ret tb d mc ms) {a : Int} (n : Nat) (hd : decode cc pc = .ok (.newarray .long, 2)) (k : Nat) (ha : a = (n : Int)) (hn : n ≤ 100000) (hw : Cond.arrayClass .long ∈ lw_tbl) (hk : h k = none) (hcm : cl + 1 ≤ mc) (hsm : sl + n ≤ ms)
    (kk : TL x bL (pc + 2) ls (vR k :: st) (hput h k (oJ n (fun _ => 0))) (cl + 1) (sl + n)) : TL x bL pc ls (vI a :: st) h cl sl := by
  obtain ⟨p, l, e, R, s, m, args, below, meth, c, dC, dI, cA, H0, Qf, ad0, h0⟩ := x
  obtain ⟨hx, hb, hml, hret, htb, hown, hnm, hlk, hst, hdR, hlR, hcR, hsR, hS0, hTB, hNC, hST, hK0⟩ := C
  intro ad H locs rls hS hR hE hL hK hl
  subst ha
  have hin : inI (n : Int) := ⟨by omega, by omega⟩
  obtain ⟨dom, hdom, hP, hD, hok⟩ := id hR
  refine va_newa (D := (dC, dI)) (atype := .long) (ty := .long) (N' := n) (a0 := (n, .inr (.inl (fun _ => Int64.ofInt 0)))) hx hb (hTB.at hw rfl) rfl hK0 hP hD hS (fun _ h9 => h9) (fun _ => by rw [show Int64.ofInt 0 = (0 : Int64) from by decide]; rfl) (by rw [i_0, i_lt hin i_z]; omega) (by rw [i_cl hin]; exact Int.toNat_natCast n) (by show n * 8 ≤ _; omega) (Nat.le_trans hcm hcR) (Nat.le_trans hsm hsR) hd (fun q9 cA9 H1 hK9 hP1 hD1 hS1 => ?_)
  have ec : cA9 = cA 2 := ra_eq (k_last hK9) (hK0.2 2 _ rfl).2
  subst ec
  have hR1 : Rw dC dI cA H0 (adp ad k q9) (hput h k (oJ n (fun _ => 0))) H1 := Rw.new hdom hok hk (fun _ => (by decide : inJ 0)) rfl hP1 hD1
  have hE1 := ext_new (ad := ad) hk q9 (oJ n (fun _ => 0))
  have hL1 := okL_ext hE1 hL
  have hK1 := okS_ext hE1 (okS_t hK)
  have h9 := kk (adp ad k q9) H1 locs rls hS1 hR1 (hE.tr hE1) hL1.1 (okS_c (v := vR k) (fun j hj => by cases hj; rw [hput_s]; exact fun q => by cases q) hK1.1) (by rw [hL1.2]; exact hl)
  have e2 : (vR k :: st).map (mapV (adp ad k q9)) = .ref q9 :: st.map (mapV ad) := by
    rw [List.map_cons, hK1.2]
    show Value.ref (if k = k then q9 else ad k) :: _ = _
    rw [if_pos rfl]
  rw [e2] at h9
  exact h9
theorem tl_newD (C : Fr x y cc nL ret tb d mc ms) {a : Int} (n : Nat) (hd : decode cc pc = .ok (.newarray .double, 2)) (k : Nat) (ha : a = (n : Int)) (hn : n ≤ 100000) (hw : Cond.arrayClass .double ∈ lw_tbl) (hk : h k = none) (hcm : cl + 1 ≤ mc) (hsm : sl + n ≤ ms)
    (kk : TL x bL (pc + 2) ls (vR k :: st) (hput h k (oD n (fun _ => 0))) (cl + 1) (sl + n)) : TL x bL pc ls (vI a :: st) h cl sl := by
  obtain ⟨p, l, e, R, s, m, args, below, meth, c, dC, dI, cA, H0, Qf, ad0, h0⟩ := x
  obtain ⟨hx, hb, hml, hret, htb, hown, hnm, hlk, hst, hdR, hlR, hcR, hsR, hS0, hTB, hNC, hST, hK0⟩ := C
  intro ad H locs rls hS hR hE hL hK hl
  subst ha
  have hin : inI (n : Int) := ⟨by omega, by omega⟩
  obtain ⟨dom, hdom, hP, hD, hok⟩ := id hR
  refine va_newa (D := (dC, dI)) (atype := .double) (ty := .double) (N' := n) (a0 := (n, .inr (.inr (.inr (.inl (fun _ => 0)))))) hx hb (hTB.at hw rfl) rfl hK0 hP hD hS (fun _ h9 => h9) (fun _ => rfl) (by rw [i_0, i_lt hin i_z]; omega) (by rw [i_cl hin]; exact Int.toNat_natCast n) (by show n * 8 ≤ _; omega) (Nat.le_trans hcm hcR) (Nat.le_trans hsm hsR) hd (fun q9 cA9 H1 hK9 hP1 hD1 hS1 => ?_)
  have ec : cA9 = cA 3 := ra_eq (k_last hK9) (hK0.2 3 _ rfl).2
  subst ec
  have hR1 : Rw dC dI cA H0 (adp ad k q9) (hput h k (oD n (fun _ => 0))) H1 := Rw.new hdom hok hk trivial rfl hP1 hD1
  have hE1 := ext_new (ad := ad) hk q9 (oD n (fun _ => 0))
  have hL1 := okL_ext hE1 hL
  have hK1 := okS_ext hE1 (okS_t hK)
  have h9 := kk (adp ad k q9) H1 locs rls hS1 hR1 (hE.tr hE1) hL1.1 (okS_c (v := vR k) (fun j hj => by cases hj; rw [hput_s]; exact fun q => by cases q) hK1.1) (by rw [hL1.2]; exact hl)
  have e2 : (vR k :: st).map (mapV (adp ad k q9)) = .ref q9 :: st.map (mapV ad) := by
    rw [List.map_cons, hK1.2]
    show Value.ref (if k = k then q9 else ad k) :: _ = _
    rw [if_pos rfl]
  rw [e2] at h9
  exact h9
end TL
