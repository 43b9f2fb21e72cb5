section OPS
variable {x : Cx} {y : MethodName} {cc : ByteArray} {nL : Nat} {ret : Option FieldType} {tb : List (Nat × Nat × Nat × Nat)} {d mc ms : Nat} {pc : Nat} {ls : List (Nat × PV)} {st : List PV} {h : HP} {cl sl : Nat}
theorem i_toInt {a : Int} (ha : inI a) : (Int32.ofInt a).toInt = a := Int32.toInt_ofInt_of_le ha.1 ha.2
theorem i_lt {a b : Int} (ha : inI a) (hb : inI b) : Int32.ofInt a < Int32.ofInt b ↔ a < b := by rw [Int32.lt_iff_toInt_lt, i_toInt ha, i_toInt hb]
theorem i_le {a b : Int} (ha : inI a) (hb : inI b) : Int32.ofInt a ≤ Int32.ofInt b ↔ a ≤ b := by rw [Int32.le_iff_toInt_le, i_toInt ha, i_toInt hb]
theorem i_eq {a b : Int} (ha : inI a) (hb : inI b) : Int32.ofInt a = Int32.ofInt b ↔ a = b := by rw [← Int32.toInt_inj, i_toInt ha, i_toInt hb]
theorem i_0 : (0 : Int32) = Int32.ofInt 0 := by decide
theorem i_z : inI 0 := by decide
theorem i_nat (n : Nat) : Int32.ofInt (n : Int) = nI n := Int32.ofInt_eq_ofNat
theorem i_cl {a : Int} (ha : inI a) : (Int32.ofInt a).toNatClampNeg = a.toNat := Int32.toNatClampNeg_ofInt_of_le ha.1 ha.2
theorem i_in {a : Int} {n : Nat} (h0 : 0 ≤ a) (h1 : a < n) (ha : inI a) : vp_in (Int32.ofInt a) n := by
  intro hh
  rcases hh with hh | hh
  · rw [i_0, i_lt ha i_z] at hh; omega
  · rw [i_cl ha] at hh; omega
theorem st_iload (C : Fr x y cc nL ret tb d mc ms) {i : Nat} {a : Int} (hd : decode cc pc = .ok (.iload i, 2)) (hv : lget ls i = some (vI a)) (k : T x (pc + 2) ls (vI a :: st) h cl sl) : T x pc ls st h cl sl := by
  obtain ⟨p, l, e, R, s, m, args, below, meth, c, dC, dI, cA, H0, Qf, ad0, h0⟩ := x
  obtain ⟨hx, hb, hml, -⟩ := C
  intro ad H locs rls hS hR hE hL hK hl
  exact lv_iload hx hb hd (has_at hl hv) (k ad H locs rls hS hR hE hL (okS_c (hL _ (lget_mem hv)) hK) hl)
theorem st_iload_n (C : Fr x y cc nL ret tb d mc ms) {j : Fin 4} (i : Nat) {a : Int} (hd : decode cc pc = .ok (.iload_n j, 1)) (hj : (j : Nat) = i) (hv : lget ls i = some (vI a)) (k : T x (pc + 1) ls (vI a :: st) h cl sl) : T x pc ls st h cl sl := by
  obtain ⟨p, l, e, R, s, m, args, below, meth, c, dC, dI, cA, H0, Qf, ad0, h0⟩ := x
  obtain ⟨hx, hb, hml, -⟩ := C
  intro ad H locs rls hS hR hE hL hK hl
  exact lv_iload_n hx hb hd hj (has_at hl hv) (k ad H locs rls hS hR hE hL (okS_c (hL _ (lget_mem hv)) hK) hl)
theorem st_aload (C : Fr x y cc nL ret tb d mc ms) {i : Nat} {a : Nat} (hd : decode cc pc = .ok (.aload i, 2)) (hv : lget ls i = some (vR a)) (k : T x (pc + 2) ls (vR a :: st) h cl sl) : T x pc ls st h cl sl := by
  obtain ⟨p, l, e, R, s, m, args, below, meth, c, dC, dI, cA, H0, Qf, ad0, h0⟩ := x
  obtain ⟨hx, hb, hml, -⟩ := C
  intro ad H locs rls hS hR hE hL hK hl
  exact lv_aload hx hb hd (has_at hl hv) (k ad H locs rls hS hR hE hL (okS_c (hL _ (lget_mem hv)) hK) hl)
theorem st_aload_n (C : Fr x y cc nL ret tb d mc ms) {j : Fin 4} (i : Nat) {a : Nat} (hd : decode cc pc = .ok (.aload_n j, 1)) (hj : (j : Nat) = i) (hv : lget ls i = some (vR a)) (k : T x (pc + 1) ls (vR a :: st) h cl sl) : T x pc ls st h cl sl := by
  obtain ⟨p, l, e, R, s, m, args, below, meth, c, dC, dI, cA, H0, Qf, ad0, h0⟩ := x
  obtain ⟨hx, hb, hml, -⟩ := C
  intro ad H locs rls hS hR hE hL hK hl
  exact lv_aload_n hx hb hd hj (has_at hl hv) (k ad H locs rls hS hR hE hL (okS_c (hL _ (lget_mem hv)) hK) hl)
theorem st_lload (C : Fr x y cc nL ret tb d mc ms) {i : Nat} {a : Int} (hd : decode cc pc = .ok (.lload i, 2)) (hv : lget ls i = some (vL a)) (k : T x (pc + 2) ls (vL a :: st) h cl sl) : T x pc ls st h cl sl := by
  obtain ⟨p, l, e, R, s, m, args, below, meth, c, dC, dI, cA, H0, Qf, ad0, h0⟩ := x
  obtain ⟨hx, hb, hml, -⟩ := C
  intro ad H locs rls hS hR hE hL hK hl
  exact lv_lload hx hb hd (has_at hl hv) (k ad H locs rls hS hR hE hL (okS_c (hL _ (lget_mem hv)) hK) hl)
theorem st_lload_n (C : Fr x y cc nL ret tb d mc ms) {j : Fin 4} (i : Nat) {a : Int} (hd : decode cc pc = .ok (.lload_n j, 1)) (hj : (j : Nat) = i) (hv : lget ls i = some (vL a)) (k : T x (pc + 1) ls (vL a :: st) h cl sl) : T x pc ls st h cl sl := by
  obtain ⟨p, l, e, R, s, m, args, below, meth, c, dC, dI, cA, H0, Qf, ad0, h0⟩ := x
  obtain ⟨hx, hb, hml, -⟩ := C
  intro ad H locs rls hS hR hE hL hK hl
  exact lv_lload_n hx hb hd hj (has_at hl hv) (k ad H locs rls hS hR hE hL (okS_c (hL _ (lget_mem hv)) hK) hl)
theorem st_fload (C : Fr x y cc nL ret tb d mc ms) {i : Nat} {a : UInt32} (hd : decode cc pc = .ok (.fload i, 2)) (hv : lget ls i = some (vF a)) (k : T x (pc + 2) ls (vF a :: st) h cl sl) : T x pc ls st h cl sl := by
  obtain ⟨p, l, e, R, s, m, args, below, meth, c, dC, dI, cA, H0, Qf, ad0, h0⟩ := x
  obtain ⟨hx, hb, hml, -⟩ := C
  intro ad H locs rls hS hR hE hL hK hl
  exact lv_fload hx hb hd (has_at hl hv) (k ad H locs rls hS hR hE hL (okS_c (hL _ (lget_mem hv)) hK) hl)
theorem st_dload (C : Fr x y cc nL ret tb d mc ms) {i : Nat} {a : UInt64} (hd : decode cc pc = .ok (.dload i, 2)) (hv : lget ls i = some (vD a)) (k : T x (pc + 2) ls (vD a :: st) h cl sl) : T x pc ls st h cl sl := by
  obtain ⟨p, l, e, R, s, m, args, below, meth, c, dC, dI, cA, H0, Qf, ad0, h0⟩ := x
  obtain ⟨hx, hb, hml, -⟩ := C
  intro ad H locs rls hS hR hE hL hK hl
  exact lv_dload hx hb hd (has_at hl hv) (k ad H locs rls hS hR hE hL (okS_c (hL _ (lget_mem hv)) hK) hl)
theorem st_istore (C : Fr x y cc nL ret tb d mc ms) {i : Nat} {a : Int} (hd : decode cc pc = .ok (.istore i, 2)) (hn : i < nL) (hf : lfree ls i (vI a) = true) (k : T x (pc + 2) (lset ls i (vI a)) st h cl sl) : T x pc ls (vI a :: st) h cl sl := by
  obtain ⟨p, l, e, R, s, m, args, below, meth, c, dC, dI, cA, H0, Qf, ad0, h0⟩ := x
  obtain ⟨hx, hb, hml, -⟩ := C
  intro ad H locs rls hS hR hE hL hK hl
  refine lv_istore hx hb hd hl (by rw [hml]; exact hn) rfl (fun rls' hl' => k ad H locs rls' hS hR hE (okL_set hL (okS_h hK)) (okS_t hK) (has_set hf hl' (fun q hq e1 e2 e3 => List.mem_cons_of_mem _ (List.mem_filter.mpr ⟨hq, by
    simp only [Bool.and_eq_true, Bool.not_eq_true', Bool.and_eq_false_iff, beq_eq_false_iff_ne]
    exact ⟨e1, (Decidable.em (q.1 + 1 = i)).symm.elim (fun z => Or.inl z) (fun z => Or.inr (e2 z))⟩⟩)) List.mem_cons_self))
theorem st_istore_n (C : Fr x y cc nL ret tb d mc ms) {j : Fin 4} (i : Nat) {a : Int} (hd : decode cc pc = .ok (.istore_n j, 1)) (hj : (j : Nat) = i) (hn : i < nL) (hf : lfree ls i (vI a) = true) (k : T x (pc + 1) (lset ls i (vI a)) st h cl sl) : T x pc ls (vI a :: st) h cl sl := by
  obtain ⟨p, l, e, R, s, m, args, below, meth, c, dC, dI, cA, H0, Qf, ad0, h0⟩ := x
  obtain ⟨hx, hb, hml, -⟩ := C
  intro ad H locs rls hS hR hE hL hK hl
  refine lv_istore_n hx hb hd hj hl (by rw [hml]; exact hn) rfl (fun rls' hl' => k ad H locs rls' hS hR hE (okL_set hL (okS_h hK)) (okS_t hK) (has_set hf hl' (fun q hq e1 e2 e3 => List.mem_cons_of_mem _ (List.mem_filter.mpr ⟨hq, by
    simp only [Bool.and_eq_true, Bool.not_eq_true', Bool.and_eq_false_iff, beq_eq_false_iff_ne]
    exact ⟨e1, (Decidable.em (q.1 + 1 = i)).symm.elim (fun z => Or.inl z) (fun z => Or.inr (e2 z))⟩⟩)) List.mem_cons_self))
theorem st_astore (C : Fr x y cc nL ret tb d mc ms) {i : Nat} {a : Nat} (hd : decode cc pc = .ok (.astore i, 2)) (hn : i < nL) (hf : lfree ls i (vR a) = true) (k : T x (pc + 2) (lset ls i (vR a)) st h cl sl) : T x pc ls (vR a :: st) h cl sl := by
  obtain ⟨p, l, e, R, s, m, args, below, meth, c, dC, dI, cA, H0, Qf, ad0, h0⟩ := x
  obtain ⟨hx, hb, hml, -⟩ := C
  intro ad H locs rls hS hR hE hL hK hl
  refine lv_astore hx hb hd hl (by rw [hml]; exact hn) rfl (fun rls' hl' => k ad H locs rls' hS hR hE (okL_set hL (okS_h hK)) (okS_t hK) (has_set hf hl' (fun q hq e1 e2 e3 => List.mem_cons_of_mem _ (List.mem_filter.mpr ⟨hq, by
    simp only [Bool.and_eq_true, Bool.not_eq_true', Bool.and_eq_false_iff, beq_eq_false_iff_ne]
    exact ⟨e1, (Decidable.em (q.1 + 1 = i)).symm.elim (fun z => Or.inl z) (fun z => Or.inr (e2 z))⟩⟩)) List.mem_cons_self))
theorem st_astore_n (C : Fr x y cc nL ret tb d mc ms) {j : Fin 4} (i : Nat) {a : Nat} (hd : decode cc pc = .ok (.astore_n j, 1)) (hj : (j : Nat) = i) (hn : i < nL) (hf : lfree ls i (vR a) = true) (k : T x (pc + 1) (lset ls i (vR a)) st h cl sl) : T x pc ls (vR a :: st) h cl sl := by
  obtain ⟨p, l, e, R, s, m, args, below, meth, c, dC, dI, cA, H0, Qf, ad0, h0⟩ := x
  obtain ⟨hx, hb, hml, -⟩ := C
  intro ad H locs rls hS hR hE hL hK hl
  refine lv_astore_n hx hb hd hj hl (by rw [hml]; exact hn) rfl (fun rls' hl' => k ad H locs rls' hS hR hE (okL_set hL (okS_h hK)) (okS_t hK) (has_set hf hl' (fun q hq e1 e2 e3 => List.mem_cons_of_mem _ (List.mem_filter.mpr ⟨hq, by
    simp only [Bool.and_eq_true, Bool.not_eq_true', Bool.and_eq_false_iff, beq_eq_false_iff_ne]
    exact ⟨e1, (Decidable.em (q.1 + 1 = i)).symm.elim (fun z => Or.inl z) (fun z => Or.inr (e2 z))⟩⟩)) List.mem_cons_self))
theorem st_fstore (C : Fr x y cc nL ret tb d mc ms) {i : Nat} {a : UInt32} (hd : decode cc pc = .ok (.fstore i, 2)) (hn : i < nL) (hf : lfree ls i (vF a) = true) (k : T x (pc + 2) (lset ls i (vF a)) st h cl sl) : T x pc ls (vF a :: st) h cl sl := by
  obtain ⟨p, l, e, R, s, m, args, below, meth, c, dC, dI, cA, H0, Qf, ad0, h0⟩ := x
  obtain ⟨hx, hb, hml, -⟩ := C
  intro ad H locs rls hS hR hE hL hK hl
  refine lv_fstore hx hb hd hl (by rw [hml]; exact hn) rfl (fun rls' hl' => k ad H locs rls' hS hR hE (okL_set hL (okS_h hK)) (okS_t hK) (has_set hf hl' (fun q hq e1 e2 e3 => List.mem_cons_of_mem _ (List.mem_filter.mpr ⟨hq, by
    simp only [Bool.and_eq_true, Bool.not_eq_true', Bool.and_eq_false_iff, beq_eq_false_iff_ne]
    exact ⟨e1, (Decidable.em (q.1 + 1 = i)).symm.elim (fun z => Or.inl z) (fun z => Or.inr (e2 z))⟩⟩)) List.mem_cons_self))
theorem st_iinc (C : Fr x y cc nL ret tb d mc ms) {i : Nat} {n a : Int} (hd : decode cc pc = .ok (.iinc i n, 3)) (hv : lget ls i = some (vI a)) (hn : i < nL) (hf : lfree ls i (vI (a + n)) = true) (hr : inI (a + n)) (k : T x (pc + 3) (lset ls i (vI (a + n))) st h cl sl) : T x pc ls st h cl sl := by
  obtain ⟨p, l, e, R, s, m, args, below, meth, c, dC, dI, cA, H0, Qf, ad0, h0⟩ := x
  obtain ⟨hx, hb, hml, -⟩ := C
  intro ad H locs rls hS hR hE hL hK hl
  obtain ⟨j, hj⟩ := List.getElem?_of_mem (List.mem_map.mpr ⟨(i, vI a), lget_mem hv, rfl⟩ : (i, mapV ad (vI a)) ∈ ls.map (fun q => (q.1, mapV ad q.2)))
  refine lv_iinc hx hb hd hl hj (Int32.ofInt_add a n).symm (by rw [hml]; exact hn) rfl (fun rls' hl' => k ad H locs rls' hS hR hE (okL_set hL hr) hK (has_set hf hl' (fun q hq e1 e2 e3 => List.mem_cons_of_mem _ (List.mem_filter.mpr ⟨hq, by
    simp only [Bool.and_eq_true, Bool.not_eq_true', Bool.and_eq_false_iff, beq_eq_false_iff_ne]
    exact ⟨e1, (Decidable.em (q.1 + 1 = i)).symm.elim (fun z => Or.inl z) (fun z => Or.inr (e2 z))⟩⟩)) List.mem_cons_self))
theorem st_iconst (C : Fr x y cc nL ret tb d mc ms) {n : Int} (hd : decode cc pc = .ok (.iconst n, 1)) (hr : inI n) (k : T x (pc + 1) ls (vI n :: st) h cl sl) : T x pc ls st h cl sl := by
  obtain ⟨p, l, e, R, s, m, args, below, meth, c, dC, dI, cA, H0, Qf, ad0, h0⟩ := x
  obtain ⟨hx, hb, hml, -⟩ := C
  intro ad H locs rls hS hR hE hL hK hl
  exact lv_iconst hx hb hd rfl (k ad H locs rls hS hR hE hL (okS_c (v := vI n) hr hK) hl)
theorem st_bipush (C : Fr x y cc nL ret tb d mc ms) {n : Int} (hd : decode cc pc = .ok (.bipush n, 2)) (hr : inI n) (hc : (Int8.ofInt n).toInt32 = Int32.ofInt n) (k : T x (pc + 2) ls (vI n :: st) h cl sl) : T x pc ls st h cl sl := by
  obtain ⟨p, l, e, R, s, m, args, below, meth, c, dC, dI, cA, H0, Qf, ad0, h0⟩ := x
  obtain ⟨hx, hb, hml, -⟩ := C
  intro ad H locs rls hS hR hE hL hK hl
  exact lv_bipush hx hb hd hc (k ad H locs rls hS hR hE hL (okS_c (v := vI n) hr hK) hl)
theorem st_sipush (C : Fr x y cc nL ret tb d mc ms) {n : Int} (hd : decode cc pc = .ok (.sipush n, 3)) (hr : inI n) (hc : (Int16.ofInt n).toInt32 = Int32.ofInt n) (k : T x (pc + 3) ls (vI n :: st) h cl sl) : T x pc ls st h cl sl := by
  obtain ⟨p, l, e, R, s, m, args, below, meth, c, dC, dI, cA, H0, Qf, ad0, h0⟩ := x
  obtain ⟨hx, hb, hml, -⟩ := C
  intro ad H locs rls hS hR hE hL hK hl
  exact lv_sipush hx hb hd hc (k ad H locs rls hS hR hE hL (okS_c (v := vI n) hr hK) hl)
theorem st_iadd (C : Fr x y cc nL ret tb d mc ms) {a b : Int} (hd : decode cc pc = .ok (.iadd, 1)) (hr : inI (a + b)) (k : T x (pc + 1) ls (vI (a + b) :: st) h cl sl) : T x pc ls (vI b :: vI a :: st) h cl sl := by
  obtain ⟨p, l, e, R, s, m, args, below, meth, c, dC, dI, cA, H0, Qf, ad0, h0⟩ := x
  obtain ⟨hx, hb, hml, -⟩ := C
  intro ad H locs rls hS hR hE hL hK hl
  have h1 := k ad H locs rls hS hR hE hL (okS_c (v := vI (a + b)) hr (okS_t (okS_t hK))) hl
  refine lv_iadd hx hb hd ?_
  rw [← Int32.ofInt_add]
  exact h1
theorem st_isub (C : Fr x y cc nL ret tb d mc ms) {a b : Int} (hd : decode cc pc = .ok (.isub, 1)) (hr : inI (a - b)) (k : T x (pc + 1) ls (vI (a - b) :: st) h cl sl) : T x pc ls (vI b :: vI a :: st) h cl sl := by
  obtain ⟨p, l, e, R, s, m, args, below, meth, c, dC, dI, cA, H0, Qf, ad0, h0⟩ := x
  obtain ⟨hx, hb, hml, -⟩ := C
  intro ad H locs rls hS hR hE hL hK hl
  have h1 := k ad H locs rls hS hR hE hL (okS_c (v := vI (a - b)) hr (okS_t (okS_t hK))) hl
  refine lv_isub hx hb hd ?_
  rw [← Int32.ofInt_sub]
  exact h1
theorem st_imul (C : Fr x y cc nL ret tb d mc ms) {a b : Int} (hd : decode cc pc = .ok (.imul, 1)) (hr : inI (a * b)) (k : T x (pc + 1) ls (vI (a * b) :: st) h cl sl) : T x pc ls (vI b :: vI a :: st) h cl sl := by
  obtain ⟨p, l, e, R, s, m, args, below, meth, c, dC, dI, cA, H0, Qf, ad0, h0⟩ := x
  obtain ⟨hx, hb, hml, -⟩ := C
  intro ad H locs rls hS hR hE hL hK hl
  have h1 := k ad H locs rls hS hR hE hL (okS_c (v := vI (a * b)) hr (okS_t (okS_t hK))) hl
  refine lv_imul hx hb hd ?_
  rw [← Int32.ofInt_mul]
  exact h1
theorem st_idiv (C : Fr x y cc nL ret tb d mc ms) {a b : Int} (hd : decode cc pc = .ok (.idiv, 1)) (h1 : 0 ≤ a) (h2 : 0 < b) (k : T x (pc + 1) ls (vI (a / b) :: st) h cl sl) : T x pc ls (vI b :: vI a :: st) h cl sl := by
  obtain ⟨p, l, e, R, s, m, args, below, meth, c, dC, dI, cA, H0, Qf, ad0, h0⟩ := x
  obtain ⟨hx, hb, hml, -⟩ := C
  intro ad H locs rls hS hR hE hL hK hl
  have ha : inI a := okS_h (okS_t hK)
  have hbb : inI b := okS_h hK
  obtain ⟨n, rfl⟩ := Int.eq_ofNat_of_zero_le h1
  obtain ⟨q, rfl⟩ := Int.eq_ofNat_of_zero_le (Int.le_of_lt h2)
  have e1 : Int32.ofInt (n : Int) / Int32.ofInt (q : Int) = Int32.ofInt ((n : Int) / (q : Int)) := by
    rw [i_nat, i_nat, pk_div (by omega) (by omega) (by omega), ← i_nat]; rfl
  have hr : inI ((n : Int) / (q : Int)) := ⟨by have := Int.ediv_nonneg h1 (Int.le_of_lt h2); omega, by have := Int.ediv_le_self (q : Int) h1; omega⟩
  have h3 := k ad H locs rls hS hR hE hL (okS_c (v := vI ((n : Int) / (q : Int))) hr (okS_t (okS_t hK))) hl
  refine lv_idiv hx hb hd (by rw [i_0, i_eq hbb i_z]; omega) ?_
  rw [e1]
  exact h3
theorem st_irem (C : Fr x y cc nL ret tb d mc ms) {a b : Int} (hd : decode cc pc = .ok (.irem, 1)) (h1 : 0 ≤ a) (h2 : 0 < b) (k : T x (pc + 1) ls (vI (a % b) :: st) h cl sl) : T x pc ls (vI b :: vI a :: st) h cl sl := by
  obtain ⟨p, l, e, R, s, m, args, below, meth, c, dC, dI, cA, H0, Qf, ad0, h0⟩ := x
  obtain ⟨hx, hb, hml, -⟩ := C
  intro ad H locs rls hS hR hE hL hK hl
  have ha : inI a := okS_h (okS_t hK)
  have hbb : inI b := okS_h hK
  obtain ⟨n, rfl⟩ := Int.eq_ofNat_of_zero_le h1
  obtain ⟨q, rfl⟩ := Int.eq_ofNat_of_zero_le (Int.le_of_lt h2)
  have e1 : Int32.ofInt (n : Int) - Int32.ofInt (n : Int) / Int32.ofInt (q : Int) * Int32.ofInt (q : Int) = Int32.ofInt ((n : Int) % (q : Int)) := by
    rw [i_nat, i_nat, pk_rem (by omega) (by omega) (by omega), ← i_nat]; rfl
  have hr : inI ((n : Int) % (q : Int)) := ⟨by have := Int.emod_nonneg (n : Int) (b := (q : Int)) (by omega); omega, by have := Int.emod_lt_of_pos (n : Int) h2; omega⟩
  have h3 := k ad H locs rls hS hR hE hL (okS_c (v := vI ((n : Int) % (q : Int))) hr (okS_t (okS_t hK))) hl
  refine lv_irem hx hb hd (by rw [i_0, i_eq hbb i_z]; omega) ?_
  rw [e1]
  exact h3
theorem i_sh : ∀ n, n < 32 → ((nI n &&& 31).toBitVec.smod 32).toNat = n := by decide +kernel
theorem st_ishl (C : Fr x y cc nL ret tb d mc ms) {a : Int} (j : Nat) (hd : decode cc pc = .ok (.ishl, 1)) (h1 : 0 ≤ a) (hj : j < 31) (h2 : a * 2 ^ j < 2147483648) (k : T x (pc + 1) ls (vI (a * 2 ^ j) :: st) h cl sl) : T x pc ls (vI (j : Int) :: vI a :: st) h cl sl := by
  obtain ⟨p, l, e, R, s, m, args, below, meth, c, dC, dI, cA, H0, Qf, ad0, h0⟩ := x
  obtain ⟨hx, hb, hml, -⟩ := C
  intro ad H locs rls hS hR hE hL hK hl
  have ha : inI a := okS_h (okS_t hK)
  obtain ⟨n, rfl⟩ := Int.eq_ofNat_of_zero_le h1
  have e0 : (n : Int) * 2 ^ j = ((n * 2 ^ j : Nat) : Int) := by push_cast; rfl
  rw [e0] at k h2
  have e1 : Int32.ofInt (n : Int) <<< (Int32.ofInt (j : Int) &&& 31) = Int32.ofInt ((n * 2 ^ j : Nat) : Int) := by
    rw [i_nat, i_nat, pk_shlN _ j (i_sh j (by omega)) (by omega), ← i_nat]
  have hr : inI ((n * 2 ^ j : Nat) : Int) := ⟨by omega, h2⟩
  have h3 := k ad H locs rls hS hR hE hL (okS_c (v := vI ((n * 2 ^ j : Nat) : Int)) hr (okS_t (okS_t hK))) hl
  refine lv_ishl hx hb hd ?_
  rw [e1]
  exact h3
theorem st_ishr (C : Fr x y cc nL ret tb d mc ms) {a : Int} (j : Nat) (hd : decode cc pc = .ok (.ishr, 1)) (h1 : 0 ≤ a) (hj : j < 31) (k : T x (pc + 1) ls (vI (a / 2 ^ j) :: st) h cl sl) : T x pc ls (vI (j : Int) :: vI a :: st) h cl sl := by
  obtain ⟨p, l, e, R, s, m, args, below, meth, c, dC, dI, cA, H0, Qf, ad0, h0⟩ := x
  obtain ⟨hx, hb, hml, -⟩ := C
  intro ad H locs rls hS hR hE hL hK hl
  have ha : inI a := okS_h (okS_t hK)
  obtain ⟨n, rfl⟩ := Int.eq_ofNat_of_zero_le h1
  have e0 : (n : Int) / 2 ^ j = ((n / 2 ^ j : Nat) : Int) := by push_cast; rfl
  rw [e0] at k
  have e1 : Int32.ofInt (n : Int) >>> (Int32.ofInt (j : Int) &&& 31) = Int32.ofInt ((n / 2 ^ j : Nat) : Int) := by
    rw [i_nat, i_nat, pk_shrN (by omega) _ j (i_sh j (by omega)), ← i_nat]
  have hlt : n / 2 ^ j ≤ n := Nat.div_le_self _ _
  have hr : inI ((n / 2 ^ j : Nat) : Int) := by generalize n / 2 ^ j = z at hlt ⊢; constructor <;> omega
  have h3 := k ad H locs rls hS hR hE hL (okS_c (v := vI ((n / 2 ^ j : Nat) : Int)) hr (okS_t (okS_t hK))) hl
  refine lv_ishr hx hb hd ?_
  rw [e1]
  exact h3
theorem st_iandB (C : Fr x y cc nL ret tb d mc ms) {a b : Int} (hd : decode cc pc = .ok (.iand, 1)) (h1 : a = 0 ∨ a = 1) (h2 : b = 0 ∨ b = 1) (k : T x (pc + 1) ls (vI (a * b) :: st) h cl sl) : T x pc ls (vI b :: vI a :: st) h cl sl := by
  obtain ⟨p, l, e, R, s, m, args, below, meth, c, dC, dI, cA, H0, Qf, ad0, h0⟩ := x
  obtain ⟨hx, hb, hml, -⟩ := C
  intro ad H locs rls hS hR hE hL hK hl
  have e1 : Int32.ofInt a &&& Int32.ofInt b = Int32.ofInt (a * b) := by rcases h1 with rfl | rfl <;> rcases h2 with rfl | rfl <;> decide
  have hr : inI (a * b) := by rcases h1 with rfl | rfl <;> rcases h2 with rfl | rfl <;> decide
  have h3 := k ad H locs rls hS hR hE hL (okS_c (v := vI (a * b)) hr (okS_t (okS_t hK))) hl
  refine lv_iand hx hb hd ?_
  rw [e1]
  exact h3
theorem st_icmp_eq (C : Fr x y cc nL ret tb d mc ms) {a b off : Int} {tgt : Nat} (hd : decode cc pc = .ok (.if_icmp .eq off, 3)) (ht : (pc : Int) + off = (tgt : Int)) (kt : a = b → T x tgt ls st h cl sl) (kf : a ≠ b → T x (pc + 3) ls st h cl sl)  : T x pc ls (vI b :: vI a :: st) h cl sl := by
  obtain ⟨p, l, e, R, s, m, args, below, meth, c, dC, dI, cA, H0, Qf, ad0, h0⟩ := x
  obtain ⟨hx, hb, hml, -⟩ := C
  intro ad H locs rls hS hR hE hL hK hl
  have hva : inI a := okS_h (okS_t hK)
  have hvb : inI b := okS_h hK
  refine lv_icmp_eq hx hb hd ht (fun q => kt ?_ ad H locs rls hS hR hE hL (okS_t (okS_t hK)) hl) (fun q => kf ?_ ad H locs rls hS hR hE hL (okS_t (okS_t hK)) hl)
  · simp only [Int32.lt_iff_toInt_lt, Int32.le_iff_toInt_le, ← Int32.toInt_inj, i_toInt hva, i_toInt hvb, gt_iff_lt, ge_iff_le, ne_eq] at q; omega
  · simp only [Int32.lt_iff_toInt_lt, Int32.le_iff_toInt_le, ← Int32.toInt_inj, i_toInt hva, i_toInt hvb, gt_iff_lt, ge_iff_le, ne_eq] at q; omega
theorem st_if_eq (C : Fr x y cc nL ret tb d mc ms) {a off : Int} {tgt : Nat} (hd : decode cc pc = .ok (.ifCond .eq off, 3)) (ht : (pc : Int) + off = (tgt : Int)) (kt : a = 0 → T x tgt ls st h cl sl) (kf : a ≠ 0 → T x (pc + 3) ls st h cl sl)  : T x pc ls (vI a :: st) h cl sl := by
  obtain ⟨p, l, e, R, s, m, args, below, meth, c, dC, dI, cA, H0, Qf, ad0, h0⟩ := x
  obtain ⟨hx, hb, hml, -⟩ := C
  intro ad H locs rls hS hR hE hL hK hl
  have hva : inI a := okS_h hK
  have hvb : inI 0 := i_z
  refine lv_if_eq hx hb hd ht (fun q => kt ?_ ad H locs rls hS hR hE hL (okS_t hK) hl) (fun q => kf ?_ ad H locs rls hS hR hE hL (okS_t hK) hl)
  · simp only [i_0, Int32.lt_iff_toInt_lt, Int32.le_iff_toInt_le, ← Int32.toInt_inj, i_toInt hva, i_toInt hvb, gt_iff_lt, ge_iff_le, ne_eq] at q; omega
  · simp only [i_0, Int32.lt_iff_toInt_lt, Int32.le_iff_toInt_le, ← Int32.toInt_inj, i_toInt hva, i_toInt hvb, gt_iff_lt, ge_iff_le, ne_eq] at q; omega
theorem st_icmp_ne (C : Fr x y cc nL ret tb d mc ms) {a b off : Int} {tgt : Nat} (hd : decode cc pc = .ok (.if_icmp .ne off, 3)) (ht : (pc : Int) + off = (tgt : Int)) (kt : a ≠ b → T x tgt ls st h cl sl) (kf : a = b → T x (pc + 3) ls st h cl sl)  : T x pc ls (vI b :: vI a :: st) h cl sl := by
  obtain ⟨p, l, e, R, s, m, args, below, meth, c, dC, dI, cA, H0, Qf, ad0, h0⟩ := x
  obtain ⟨hx, hb, hml, -⟩ := C
  intro ad H locs rls hS hR hE hL hK hl
  have hva : inI a := okS_h (okS_t hK)
  have hvb : inI b := okS_h hK
  refine lv_icmp_ne hx hb hd ht (fun q => kt ?_ ad H locs rls hS hR hE hL (okS_t (okS_t hK)) hl) (fun q => kf ?_ ad H locs rls hS hR hE hL (okS_t (okS_t hK)) hl)
  · simp only [Int32.lt_iff_toInt_lt, Int32.le_iff_toInt_le, ← Int32.toInt_inj, i_toInt hva, i_toInt hvb, gt_iff_lt, ge_iff_le, ne_eq] at q; omega
  · simp only [Int32.lt_iff_toInt_lt, Int32.le_iff_toInt_le, ← Int32.toInt_inj, i_toInt hva, i_toInt hvb, gt_iff_lt, ge_iff_le, ne_eq] at q; omega
theorem st_if_ne (C : Fr x y cc nL ret tb d mc ms) {a off : Int} {tgt : Nat} (hd : decode cc pc = .ok (.ifCond .ne off, 3)) (ht : (pc : Int) + off = (tgt : Int)) (kt : a ≠ 0 → T x tgt ls st h cl sl) (kf : a = 0 → T x (pc + 3) ls st h cl sl)  : T x pc ls (vI a :: st) h cl sl := by
  obtain ⟨p, l, e, R, s, m, args, below, meth, c, dC, dI, cA, H0, Qf, ad0, h0⟩ := x
  obtain ⟨hx, hb, hml, -⟩ := C
  intro ad H locs rls hS hR hE hL hK hl
  have hva : inI a := okS_h hK
  have hvb : inI 0 := i_z
  refine lv_if_ne hx hb hd ht (fun q => kt ?_ ad H locs rls hS hR hE hL (okS_t hK) hl) (fun q => kf ?_ ad H locs rls hS hR hE hL (okS_t hK) hl)
  · simp only [i_0, Int32.lt_iff_toInt_lt, Int32.le_iff_toInt_le, ← Int32.toInt_inj, i_toInt hva, i_toInt hvb, gt_iff_lt, ge_iff_le, ne_eq] at q; omega
  · simp only [i_0, Int32.lt_iff_toInt_lt, Int32.le_iff_toInt_le, ← Int32.toInt_inj, i_toInt hva, i_toInt hvb, gt_iff_lt, ge_iff_le, ne_eq] at q; omega
theorem st_icmp_lt (C : Fr x y cc nL ret tb d mc ms) {a b off : Int} {tgt : Nat} (hd : decode cc pc = .ok (.if_icmp .lt off, 3)) (ht : (pc : Int) + off = (tgt : Int)) (kt : a < b → T x tgt ls st h cl sl) (kf : b ≤ a → T x (pc + 3) ls st h cl sl)  : T x pc ls (vI b :: vI a :: st) h cl sl := by
  obtain ⟨p, l, e, R, s, m, args, below, meth, c, dC, dI, cA, H0, Qf, ad0, h0⟩ := x
  obtain ⟨hx, hb, hml, -⟩ := C
  intro ad H locs rls hS hR hE hL hK hl
  have hva : inI a := okS_h (okS_t hK)
  have hvb : inI b := okS_h hK
  refine lv_icmp_lt hx hb hd ht (fun q => kt ?_ ad H locs rls hS hR hE hL (okS_t (okS_t hK)) hl) (fun q => kf ?_ ad H locs rls hS hR hE hL (okS_t (okS_t hK)) hl)
  · simp only [Int32.lt_iff_toInt_lt, Int32.le_iff_toInt_le, ← Int32.toInt_inj, i_toInt hva, i_toInt hvb, gt_iff_lt, ge_iff_le, ne_eq] at q; omega
  · simp only [Int32.lt_iff_toInt_lt, Int32.le_iff_toInt_le, ← Int32.toInt_inj, i_toInt hva, i_toInt hvb, gt_iff_lt, ge_iff_le, ne_eq] at q; omega
theorem st_if_lt (C : Fr x y cc nL ret tb d mc ms) {a off : Int} {tgt : Nat} (hd : decode cc pc = .ok (.ifCond .lt off, 3)) (ht : (pc : Int) + off = (tgt : Int)) (kt : a < 0 → T x tgt ls st h cl sl) (kf : 0 ≤ a → T x (pc + 3) ls st h cl sl)  : T x pc ls (vI a :: st) h cl sl := by
  obtain ⟨p, l, e, R, s, m, args, below, meth, c, dC, dI, cA, H0, Qf, ad0, h0⟩ := x
  obtain ⟨hx, hb, hml, -⟩ := C
  intro ad H locs rls hS hR hE hL hK hl
  have hva : inI a := okS_h hK
  have hvb : inI 0 := i_z
  refine lv_if_lt hx hb hd ht (fun q => kt ?_ ad H locs rls hS hR hE hL (okS_t hK) hl) (fun q => kf ?_ ad H locs rls hS hR hE hL (okS_t hK) hl)
  · simp only [i_0, Int32.lt_iff_toInt_lt, Int32.le_iff_toInt_le, ← Int32.toInt_inj, i_toInt hva, i_toInt hvb, gt_iff_lt, ge_iff_le, ne_eq] at q; omega
  · simp only [i_0, Int32.lt_iff_toInt_lt, Int32.le_iff_toInt_le, ← Int32.toInt_inj, i_toInt hva, i_toInt hvb, gt_iff_lt, ge_iff_le, ne_eq] at q; omega
theorem st_icmp_ge (C : Fr x y cc nL ret tb d mc ms) {a b off : Int} {tgt : Nat} (hd : decode cc pc = .ok (.if_icmp .ge off, 3)) (ht : (pc : Int) + off = (tgt : Int)) (kt : b ≤ a → T x tgt ls st h cl sl) (kf : a < b → T x (pc + 3) ls st h cl sl)  : T x pc ls (vI b :: vI a :: st) h cl sl := by
  obtain ⟨p, l, e, R, s, m, args, below, meth, c, dC, dI, cA, H0, Qf, ad0, h0⟩ := x
  obtain ⟨hx, hb, hml, -⟩ := C
  intro ad H locs rls hS hR hE hL hK hl
  have hva : inI a := okS_h (okS_t hK)
  have hvb : inI b := okS_h hK
  refine lv_icmp_ge hx hb hd ht (fun q => kt ?_ ad H locs rls hS hR hE hL (okS_t (okS_t hK)) hl) (fun q => kf ?_ ad H locs rls hS hR hE hL (okS_t (okS_t hK)) hl)
  · simp only [Int32.lt_iff_toInt_lt, Int32.le_iff_toInt_le, ← Int32.toInt_inj, i_toInt hva, i_toInt hvb, gt_iff_lt, ge_iff_le, ne_eq] at q; omega
  · simp only [Int32.lt_iff_toInt_lt, Int32.le_iff_toInt_le, ← Int32.toInt_inj, i_toInt hva, i_toInt hvb, gt_iff_lt, ge_iff_le, ne_eq] at q; omega
theorem st_if_ge (C : Fr x y cc nL ret tb d mc ms) {a off : Int} {tgt : Nat} (hd : decode cc pc = .ok (.ifCond .ge off, 3)) (ht : (pc : Int) + off = (tgt : Int)) (kt : 0 ≤ a → T x tgt ls st h cl sl) (kf : a < 0 → T x (pc + 3) ls st h cl sl)  : T x pc ls (vI a :: st) h cl sl := by
  obtain ⟨p, l, e, R, s, m, args, below, meth, c, dC, dI, cA, H0, Qf, ad0, h0⟩ := x
  obtain ⟨hx, hb, hml, -⟩ := C
  intro ad H locs rls hS hR hE hL hK hl
  have hva : inI a := okS_h hK
  have hvb : inI 0 := i_z
  refine lv_if_ge hx hb hd ht (fun q => kt ?_ ad H locs rls hS hR hE hL (okS_t hK) hl) (fun q => kf ?_ ad H locs rls hS hR hE hL (okS_t hK) hl)
  · simp only [i_0, Int32.lt_iff_toInt_lt, Int32.le_iff_toInt_le, ← Int32.toInt_inj, i_toInt hva, i_toInt hvb, gt_iff_lt, ge_iff_le, ne_eq] at q; omega
  · simp only [i_0, Int32.lt_iff_toInt_lt, Int32.le_iff_toInt_le, ← Int32.toInt_inj, i_toInt hva, i_toInt hvb, gt_iff_lt, ge_iff_le, ne_eq] at q; omega
theorem st_icmp_gt (C : Fr x y cc nL ret tb d mc ms) {a b off : Int} {tgt : Nat} (hd : decode cc pc = .ok (.if_icmp .gt off, 3)) (ht : (pc : Int) + off = (tgt : Int)) (kt : b < a → T x tgt ls st h cl sl) (kf : a ≤ b → T x (pc + 3) ls st h cl sl)  : T x pc ls (vI b :: vI a :: st) h cl sl := by
  obtain ⟨p, l, e, R, s, m, args, below, meth, c, dC, dI, cA, H0, Qf, ad0, h0⟩ := x
  obtain ⟨hx, hb, hml, -⟩ := C
  intro ad H locs rls hS hR hE hL hK hl
  have hva : inI a := okS_h (okS_t hK)
  have hvb : inI b := okS_h hK
  refine lv_icmp_gt hx hb hd ht (fun q => kt ?_ ad H locs rls hS hR hE hL (okS_t (okS_t hK)) hl) (fun q => kf ?_ ad H locs rls hS hR hE hL (okS_t (okS_t hK)) hl)
  · simp only [Int32.lt_iff_toInt_lt, Int32.le_iff_toInt_le, ← Int32.toInt_inj, i_toInt hva, i_toInt hvb, gt_iff_lt, ge_iff_le, ne_eq] at q; omega
  · simp only [Int32.lt_iff_toInt_lt, Int32.le_iff_toInt_le, ← Int32.toInt_inj, i_toInt hva, i_toInt hvb, gt_iff_lt, ge_iff_le, ne_eq] at q; omega
theorem st_if_gt (C : Fr x y cc nL ret tb d mc ms) {a off : Int} {tgt : Nat} (hd : decode cc pc = .ok (.ifCond .gt off, 3)) (ht : (pc : Int) + off = (tgt : Int)) (kt : 0 < a → T x tgt ls st h cl sl) (kf : a ≤ 0 → T x (pc + 3) ls st h cl sl)  : T x pc ls (vI a :: st) h cl sl := by
  obtain ⟨p, l, e, R, s, m, args, below, meth, c, dC, dI, cA, H0, Qf, ad0, h0⟩ := x
  obtain ⟨hx, hb, hml, -⟩ := C
  intro ad H locs rls hS hR hE hL hK hl
  have hva : inI a := okS_h hK
  have hvb : inI 0 := i_z
  refine lv_if_gt hx hb hd ht (fun q => kt ?_ ad H locs rls hS hR hE hL (okS_t hK) hl) (fun q => kf ?_ ad H locs rls hS hR hE hL (okS_t hK) hl)
  · simp only [i_0, Int32.lt_iff_toInt_lt, Int32.le_iff_toInt_le, ← Int32.toInt_inj, i_toInt hva, i_toInt hvb, gt_iff_lt, ge_iff_le, ne_eq] at q; omega
  · simp only [i_0, Int32.lt_iff_toInt_lt, Int32.le_iff_toInt_le, ← Int32.toInt_inj, i_toInt hva, i_toInt hvb, gt_iff_lt, ge_iff_le, ne_eq] at q; omega
theorem st_icmp_le (C : Fr x y cc nL ret tb d mc ms) {a b off : Int} {tgt : Nat} (hd : decode cc pc = .ok (.if_icmp .le off, 3)) (ht : (pc : Int) + off = (tgt : Int)) (kt : a ≤ b → T x tgt ls st h cl sl) (kf : b < a → T x (pc + 3) ls st h cl sl)  : T x pc ls (vI b :: vI a :: st) h cl sl := by
  obtain ⟨p, l, e, R, s, m, args, below, meth, c, dC, dI, cA, H0, Qf, ad0, h0⟩ := x
  obtain ⟨hx, hb, hml, -⟩ := C
  intro ad H locs rls hS hR hE hL hK hl
  have hva : inI a := okS_h (okS_t hK)
  have hvb : inI b := okS_h hK
  refine lv_icmp_le hx hb hd ht (fun q => kt ?_ ad H locs rls hS hR hE hL (okS_t (okS_t hK)) hl) (fun q => kf ?_ ad H locs rls hS hR hE hL (okS_t (okS_t hK)) hl)
  · simp only [Int32.lt_iff_toInt_lt, Int32.le_iff_toInt_le, ← Int32.toInt_inj, i_toInt hva, i_toInt hvb, gt_iff_lt, ge_iff_le, ne_eq] at q; omega
  · simp only [Int32.lt_iff_toInt_lt, Int32.le_iff_toInt_le, ← Int32.toInt_inj, i_toInt hva, i_toInt hvb, gt_iff_lt, ge_iff_le, ne_eq] at q; omega
theorem st_if_le (C : Fr x y cc nL ret tb d mc ms) {a off : Int} {tgt : Nat} (hd : decode cc pc = .ok (.ifCond .le off, 3)) (ht : (pc : Int) + off = (tgt : Int)) (kt : a ≤ 0 → T x tgt ls st h cl sl) (kf : 0 < a → T x (pc + 3) ls st h cl sl)  : T x pc ls (vI a :: st) h cl sl := by
  obtain ⟨p, l, e, R, s, m, args, below, meth, c, dC, dI, cA, H0, Qf, ad0, h0⟩ := x
  obtain ⟨hx, hb, hml, -⟩ := C
  intro ad H locs rls hS hR hE hL hK hl
  have hva : inI a := okS_h hK
  have hvb : inI 0 := i_z
  refine lv_if_le hx hb hd ht (fun q => kt ?_ ad H locs rls hS hR hE hL (okS_t hK) hl) (fun q => kf ?_ ad H locs rls hS hR hE hL (okS_t hK) hl)
  · simp only [i_0, Int32.lt_iff_toInt_lt, Int32.le_iff_toInt_le, ← Int32.toInt_inj, i_toInt hva, i_toInt hvb, gt_iff_lt, ge_iff_le, ne_eq] at q; omega
  · simp only [i_0, Int32.lt_iff_toInt_lt, Int32.le_iff_toInt_le, ← Int32.toInt_inj, i_toInt hva, i_toInt hvb, gt_iff_lt, ge_iff_le, ne_eq] at q; omega
theorem st_goto (C : Fr x y cc nL ret tb d mc ms) {off : Int} {tgt : Nat} (hd : decode cc pc = .ok (.goto off, 3)) (ht : (pc : Int) + off = (tgt : Int)) (k : T x tgt ls st h cl sl)  : T x pc ls st h cl sl := by
  obtain ⟨p, l, e, R, s, m, args, below, meth, c, dC, dI, cA, H0, Qf, ad0, h0⟩ := x
  obtain ⟨hx, hb, hml, -⟩ := C
  intro ad H locs rls hS hR hE hL hK hl
  exact lv_goto hx hb hd ht (k ad H locs rls hS hR hE hL hK hl)
theorem st_ifnull_r (C : Fr x y cc nL ret tb d mc ms) {a : Nat} {off : Int} (hd : decode cc pc = .ok (.ifnull off, 3)) (k : T x (pc + 3) ls st h cl sl) : T x pc ls (vR a :: st) h cl sl := by
  obtain ⟨p, l, e, R, s, m, args, below, meth, c, dC, dI, cA, H0, Qf, ad0, h0⟩ := x
  obtain ⟨hx, hb, hml, -⟩ := C
  intro ad H locs rls hS hR hE hL hK hl
  exact lv_ifnull hx hb hd (k ad H locs rls hS hR hE hL (okS_t hK) hl)
theorem st_ifnull_n (C : Fr x y cc nL ret tb d mc ms) {off : Int} {tgt : Nat} (hd : decode cc pc = .ok (.ifnull off, 3)) (ht : (pc : Int) + off = (tgt : Int)) (k : T x tgt ls st h cl sl)  : T x pc ls (vN :: st) h cl sl := by
  obtain ⟨p, l, e, R, s, m, args, below, meth, c, dC, dI, cA, H0, Qf, ad0, h0⟩ := x
  obtain ⟨hx, hb, hml, -⟩ := C
  intro ad H locs rls hS hR hE hL hK hl
  exact lv_ifnullN hx hb hd ht (k ad H locs rls hS hR hE hL (okS_t hK) hl)
theorem st_ifnonnull_r (C : Fr x y cc nL ret tb d mc ms) {a : Nat} {off : Int} {tgt : Nat} (hd : decode cc pc = .ok (.ifnonnull off, 3)) (ht : (pc : Int) + off = (tgt : Int)) (k : T x tgt ls st h cl sl)  : T x pc ls (vR a :: st) h cl sl := by
  obtain ⟨p, l, e, R, s, m, args, below, meth, c, dC, dI, cA, H0, Qf, ad0, h0⟩ := x
  obtain ⟨hx, hb, hml, -⟩ := C
  intro ad H locs rls hS hR hE hL hK hl
  exact lv_ifnonnull hx hb hd ht (k ad H locs rls hS hR hE hL (okS_t hK) hl)
theorem st_ifnonnull_n (C : Fr x y cc nL ret tb d mc ms) {off : Int} (hd : decode cc pc = .ok (.ifnonnull off, 3)) (k : T x (pc + 3) ls st h cl sl) : T x pc ls (vN :: st) h cl sl := by
  obtain ⟨p, l, e, R, s, m, args, below, meth, c, dC, dI, cA, H0, Qf, ad0, h0⟩ := x
  obtain ⟨hx, hb, hml, -⟩ := C
  intro ad H locs rls hS hR hE hL hK hl
  exact lv_ifnonnullN hx hb hd (k ad H locs rls hS hR hE hL (okS_t hK) hl)
theorem st_dup (C : Fr x y cc nL ret tb d mc ms) {v : PV} (hd : decode cc pc = .ok (.dup, 1)) (hc : cat2 v = false) (k : T x (pc + 1) ls (v :: v :: st) h cl sl) : T x pc ls (v :: st) h cl sl := by
  obtain ⟨p, l, e, R, s, m, args, below, meth, c, dC, dI, cA, H0, Qf, ad0, h0⟩ := x
  obtain ⟨hx, hb, hml, -⟩ := C
  intro ad H locs rls hS hR hE hL hK hl
  exact lv_dup hx hb hd (by rw [mapV_cat, hc]; rfl) (k ad H locs rls hS hR hE hL (okS_c (okS_h hK) hK) hl)
theorem st_pop (C : Fr x y cc nL ret tb d mc ms) {v : PV} (hd : decode cc pc = .ok (.pop, 1)) (hc : cat2 v = false) (k : T x (pc + 1) ls st h cl sl) : T x pc ls (v :: st) h cl sl := by
  obtain ⟨p, l, e, R, s, m, args, below, meth, c, dC, dI, cA, H0, Qf, ad0, h0⟩ := x
  obtain ⟨hx, hb, hml, -⟩ := C
  intro ad H locs rls hS hR hE hL hK hl
  exact lv_pop hx hb hd (by rw [mapV_cat, hc]; rfl) (k ad H locs rls hS hR hE hL (okS_t hK) hl)
/-- fewer locals -/
theorem st_sub {ls' : List (Nat × PV)} (ks : List Nat) (hs : ks.filterMap (fun k => ls[k]?) = ls') (k : T x pc ls' st h cl sl) : T x pc ls st h cl sl := by
  obtain ⟨p, l, e, R, s, m, args, below, meth, c, dC, dI, cA, H0, Qf, ad0, h0⟩ := x
  intro ad H locs rls hS hR hE hL hK hl
  have hm : ∀ q ∈ ls', q ∈ ls := fun q hq => by
    rw [← hs] at hq
    obtain ⟨j, -, hj⟩ := List.mem_filterMap.mp hq
    exact List.mem_of_getElem? hj
  exact k ad H locs rls hS hR hE (fun q hq => hL q (hm q hq)) hK (has_sub hl (fun q hq => by
    obtain ⟨a, ha, rfl⟩ := List.mem_map.mp hq
    exact List.mem_map.mpr ⟨a, hm a ha, rfl⟩))
theorem st_wide {cl' sl' : Nat} (h1 : cl ≤ cl') (h2 : sl ≤ sl') (k : T x pc ls st h cl' sl') : T x pc ls st h cl sl := by
  obtain ⟨p, l, e, R, s, m, args, below, meth, c, dC, dI, cA, H0, Qf, ad0, h0⟩ := x
  intro ad H locs rls hS hR hE hL hK hl
  exact W.widen h1 h2 (k ad H locs rls hS hR hE hL hK hl)
end OPS
