section MAKE
variable {x : Cx} {y : MethodName} {cc : ByteArray} {nL : Nat} {ret : Option FieldType} {tb : List (Nat × Nat × Nat × Nat)} {d mc ms : Nat} {pc : Nat} {ls : List (Nat × PV)} {st : List PV} {h : HP} {cl sl : Nat}
def adp (ad : Nat → Nat) (k q : Nat) : Nat → Nat := fun j => if j = k then q else ad j
theorem ext_new {ad : Nat → Nat} {k : Nat} (hk : h k = none) (q : Nat) (e : PE) : Ext ad h (adp ad k q) (hput h k e) := by
  intro j hj
  have hjk : j ≠ k := fun z => hj (z ▸ hk)
  exact ⟨by rw [hput_o hjk rfl]; exact hj, if_neg hjk⟩
theorem Rw.new {dC : Nat → ClassId} {dI : Nat → Nat → Nat} {cA : Nat → ClassId} {H0 H1 : Heap} {ad : Nat → Nat} {dom : List Nat} {k q : Nat} {e : PE} {e' : va_E} (hd : ∀ k, k ∈ dom ↔ h k ≠ none) (hok : ∀ k e, h k = some e → okE h e) (hk : h k = none) (hn : okE (fun _ => none) e) (he : mapE cA (adp ad k q) e = e')
    (hP : va_P (dC, dI) clX (wsOf cA ad h dom ++ [(q, e')]) H1) (hD : va_D (AA H0) (wsOf cA ad h dom ++ [(q, e')])) : Rw dC dI cA H0 (adp ad k q) (hput h k e) H1 := by
  have hE := ext_new (ad := ad) hk q e
  have hkd : k ∉ dom := fun z => (hd k).mp z hk
  have e1 : wsOf cA ad h dom ++ [(q, e')] = wsOf cA (adp ad k q) (hput h k e) (dom ++ [k]) := by
    simp only [wsOf, List.map_append, List.map_cons, List.map_nil]
    congr 1
    · refine List.map_congr_left fun j hj => ?_
      have hjk : j ≠ k := fun z => hkd (z ▸ hj)
      have h1 : h j ≠ none := (hd j).mp hj
      obtain ⟨ej, hej⟩ := Option.ne_none_iff_exists'.mp h1
      rw [hput_o hjk rfl, (hE j h1).2, hej, Option.getD_some, (okE.ext cA hE (hok j ej hej)).2]
    · rw [hput_s, Option.getD_some, he]
      show [(q, e')] = [(if k = k then q else ad k, e')]
      rw [if_pos rfl]
  rw [e1] at hP hD
  refine ⟨dom ++ [k], fun j => ?_, hP, hD, fun j e9 hj => ?_⟩
  · rw [List.mem_append, List.mem_singleton]
    by_cases hjk : j = k
    · subst hjk; rw [hput_s]; exact ⟨(fun _ q => by cases q), (fun _ => Or.inr rfl)⟩
    · rw [hput_o hjk rfl, ← hd j]; exact ⟨(fun z => z.elim id (fun z => absurd z hjk)), Or.inl⟩
  · by_cases hjk : j = k
    · subst hjk
      rw [hput_s] at hj
      cases hj
      exact (okE.ext (ad := ad) (ad' := ad) cA (fun j hj => absurd rfl hj) hn).1
    · rw [hput_o hjk rfl] at hj
      exact (okE.ext cA hE (hok j e9 hj)).1
def NW (own : String) (idx ci : Nat) (fs : List PV) : Prop := ∃ q : vw_C, clX[ci]? = some q ∧ (∀ w ∈ u_ws q.1 q.2.1 q.2.2, w ∈ lw_tbl) ∧ q.2.2 = fs.length ∧ Cond.classLink own idx q.1 ∈ lw_tbl ∧ Cond.instantiable q.1 q.2.2 ∈ lw_tbl ∧ Cond.initialized q.1 ∈ lw_tbl ∧
  (∃ ty0 : Nat → FieldType, (∀ k, k < q.2.2 → parseFieldDescriptor (q.2.1 k).2.2.1 = some (ty0 k)) ∧ ∀ j, j < q.2.2 → ∀ ad : Nat → Nat, defaultValue (ty0 j) = vp_V (fs.map (mapV ad)) j) ∧ ∀ v ∈ fs, okV (fun _ => none) v
theorem st_new (C : Fr x y cc nL ret tb d mc ms) {idx : Nat} (hd : decode cc pc = .ok (.new idx, 3)) (k : Nat) {ci : Nat} {fs : List PV} (hw : NW y.cls idx ci fs) (hk : h k = none) (hcm : cl + 1 ≤ mc) (hsm : sl + fs.length ≤ ms)
    (kk : T x (pc + 3) ls (vR k :: st) (hput h k (oO ci fs)) (cl + 1) (sl + fs.length)) : T x pc ls st h cl sl := by
  obtain ⟨p, l, e, R, s, m, args, below, meth, c, dC, dI, cA, H0, Qf, ad0, h0⟩ := x
  obtain ⟨hx, hb, hml, hret, htb, hown, hnm, hlk, hst, hdR, hlR, hcR, hsR, hS0, hTB, hNC, hST, hK0⟩ := C
  intro ad H locs rls hS hR hE hL hK hl
  obtain ⟨q, hc, hin, hlen, w1, w2, w3, ⟨ty0, hty, hdf⟩, hf0⟩ := hw
  obtain ⟨dom, hdom, hP, hD, hok⟩ := id hR
  rw [← hlen] at kk hsm
  refine va_new (D := (dC, dI)) (C := q.1) (T := q.2.1) (N := q.2.2) (fs := fs.map (mapV ad)) hx hb (hTB.us hin) (fun _ hw => hw) ty0 hty hown (hTB.at w1 rfl) (hTB.at w2 rfl) (hTB.at w3 rfl) hK0 hP hD hS (fun _ h9 => h9) hc (fun j hj => hdf j hj ad) (Nat.le_trans hcm hcR) (Nat.le_trans hsm hsR) hd (fun q9 H1 hP1 hD1 hS1 => ?_)
  have hE1 := ext_new (ad := ad) hk q9 (oO ci fs)
  have e1 : mapE cA (adp ad k q9) (oO ci fs) = (.inr (ci, fs.map (mapV ad)) : va_E) := by
    show (Sum.inr (ci, fs.map (mapV (adp ad k q9))) : va_E) = _
    rw [List.map_congr_left (fun v hv => (okV.ext (ad := ad) (ad' := adp ad k q9) (h := fun _ => none) (h' := h) (fun j hj => absurd rfl hj) (hf0 v hv)).2)]
  have hR1 : Rw dC dI cA H0 (adp ad k q9) (hput h k (oO ci fs)) H1 := Rw.new hdom hok hk hf0 e1 hP1 hD1
  have hL1 := okL_ext hE1 hL
  have hK1 := okS_ext hE1 hK
  have h9 := kk (adp ad k q9) H1 locs rls hS1 hR1 (hE.tr hE1) hL1.1 (okS_c (v := vR k) (fun j hj => by cases hj; rw [hput_s]; exact fun q => by cases q) hK1.1) (by rw [hL1.2]; exact hl)
  have e2 : (vR k :: st).map (mapV (adp ad k q9)) = .ref q9 :: st.map (mapV ad) := by
    rw [List.map_cons, hK1.2]
    show Value.ref (if k = k then q9 else ad k) :: _ = _
    rw [if_pos rfl]
  rw [e2] at h9
  exact h9
theorem dom_fresh (dom : List Nat) (b : Nat) : ∃ k, b ≤ k ∧ k ∉ dom := by
  have h1 : ∀ (l : List Nat), ∃ m, ∀ j ∈ l, j < m := by
    intro l
    induction l with
    | nil => exact ⟨0, fun j hj => nomatch hj⟩
    | cons a l ih =>
      obtain ⟨m, hm⟩ := ih
      refine ⟨m + a + 1, fun j hj => ?_⟩
      rcases List.mem_cons.mp hj with rfl | hj
      · omega
      · have := hm j hj; omega
  obtain ⟨m, hm⟩ := h1 dom
  exact ⟨m + b, by omega, fun hj => by have := hm _ hj; omega⟩
/-- some name from b on is free -/
theorem st_free (b : Nat) (kk : ∀ k, b ≤ k → h k = none → T x pc ls st h cl sl) : T x pc ls st h cl sl := by
  obtain ⟨p, l, e, R, s, m, args, below, meth, c, dC, dI, cA, H0, Qf, ad0, h0⟩ := x
  intro ad H locs rls hS hR hE hL hK hl
  obtain ⟨dom, hdom, -⟩ := id hR
  obtain ⟨k, h1, h2⟩ := dom_fresh dom b
  have hk : h k = none := by
    cases hh : h k with
    | none => rfl
    | some e9 => exact absurd ((hdom k).mpr (by rw [hh]; exact fun q => by cases q)) h2
  exact kk k h1 hk ad H locs rls hS hR hE hL hK hl
theorem ra_eq {s : State} {a b : ClassId} {ty : FieldType} (h1 : va_RA s a ty) (h2 : va_RA s b ty) : a = b := by
  cases ty with
  | object C =>
    obtain ⟨_, _, _, _, _, h3⟩ := h1
    obtain ⟨_, _, _, _, _, h4⟩ := h2
    exact Option.some.inj (h3.symm.trans h4)
  | _ => exact Option.some.inj (Eq.trans (Eq.symm h1) h2)
theorem k_last {D : va_G} {cl : List vw_C} {tys : List (ClassId × FieldType)} {a : ClassId} {ty : FieldType} {s : State} (h : va_K D cl (tys ++ [(a, ty)]) s) : va_RA s a ty :=
  (h.2 tys.length (a, ty) (by rw [List.getElem?_append_right (Nat.le_refl _), Nat.sub_self]; rfl)).2
theorem st_newI (C : Fr x y cc nL ret tb d mc ms) {a : Int} (n : Nat) (hd : decode cc pc = .ok (.newarray .int, 2)) (k : Nat) (ha : a = (n : Int)) (hn : n ≤ 100000) (hw : Cond.arrayClass .int ∈ lw_tbl) (hk : h k = none) (hcm : cl + 1 ≤ mc) (hsm : sl + n ≤ ms)
    (kk : T x (pc + 2) ls (vR k :: st) (hput h k (oI n (fun _ => 0))) (cl + 1) (sl + n)) : T x pc ls (vI a :: st) h cl sl := by
  obtain ⟨p, l, e, R, s, m, args, below, meth, c, dC, dI, cA, H0, Qf, ad0, h0⟩ := x
  obtain ⟨hx, hb, hml, hret, htb, hown, hnm, hlk, hst, hdR, hlR, hcR, hsR, hS0, hTB, hNC, hST, hK0⟩ := C
  intro ad H locs rls hS hR hE hL hK hl
  subst ha
  have hin : inI (n : Int) := ⟨by omega, by omega⟩
  obtain ⟨dom, hdom, hP, hD, hok⟩ := id hR
  refine va_newa (D := (dC, dI)) (atype := .int) (ty := .int) (N' := n) (a0 := (n, .inl (fun _ => Int32.ofInt 0))) hx hb (hTB.at hw rfl) rfl hK0 hP hD hS (fun _ h9 => h9) (fun _ => by rw [show Int32.ofInt 0 = (0 : Int32) from by decide]; rfl) (by rw [i_0, i_lt hin i_z]; omega) (by rw [i_cl hin]; exact Int.toNat_natCast n) (by show n * 4 ≤ _; omega) (Nat.le_trans hcm hcR) (Nat.le_trans hsm hsR) hd (fun q9 cA9 H1 hK9 hP1 hD1 hS1 => ?_)
  have ec : cA9 = cA 0 := ra_eq (k_last hK9) (hK0.2 0 _ rfl).2
  subst ec
  have hR1 : Rw dC dI cA H0 (adp ad k q9) (hput h k (oI n (fun _ => 0))) H1 := Rw.new hdom hok hk (fun _ => i_z) rfl hP1 hD1
  have hE1 := ext_new (ad := ad) hk q9 (oI n (fun _ => 0))
  have hL1 := okL_ext hE1 hL
  have hK1 := okS_ext hE1 (okS_t hK)
  have h9 := kk (adp ad k q9) H1 locs rls hS1 hR1 (hE.tr hE1) hL1.1 (okS_c (v := vR k) (fun j hj => by cases hj; rw [hput_s]; exact fun q => by cases q) hK1.1) (by rw [hL1.2]; exact hl)
  have e2 : (vR k :: st).map (mapV (adp ad k q9)) = .ref q9 :: st.map (mapV ad) := by
    rw [List.map_cons, hK1.2]
    show Value.ref (if k = k then q9 else ad k) :: _ = _
    rw [if_pos rfl]
  rw [e2] at h9
  exact h9
theorem st_newZ (C : Fr x y cc nL ret tb d mc ms) {a : Int} (n : Nat) (hd : decode cc pc = .ok (.newarray .boolean, 2)) (k : Nat) (ha : a = (n : Int)) (hn : n ≤ 100000) (hw : Cond.arrayClass .boolean ∈ lw_tbl) (hk : h k = none) (hcm : cl + 1 ≤ mc) (hsm : sl + n ≤ ms)
    (kk : T x (pc + 2) ls (vR k :: st) (hput h k (oZ n (fun _ => 0))) (cl + 1) (sl + n)) : T x pc ls (vI a :: st) h cl sl := by
  obtain ⟨p, l, e, R, s, m, args, below, meth, c, dC, dI, cA, H0, Qf, ad0, h0⟩ := x
  obtain ⟨hx, hb, hml, hret, htb, hown, hnm, hlk, hst, hdR, hlR, hcR, hsR, hS0, hTB, hNC, hST, hK0⟩ := C
  intro ad H locs rls hS hR hE hL hK hl
  subst ha
  have hin : inI (n : Int) := ⟨by omega, by omega⟩
  obtain ⟨dom, hdom, hP, hD, hok⟩ := id hR
  refine va_newa (D := (dC, dI)) (atype := .boolean) (ty := .boolean) (N' := n) (a0 := (n, .inl (fun _ => Int32.ofInt 0))) hx hb (hTB.at hw rfl) rfl hK0 hP hD hS (fun _ h9 => h9) (fun _ => by rw [show Int32.ofInt 0 = (0 : Int32) from by decide]; rfl) (by rw [i_0, i_lt hin i_z]; omega) (by rw [i_cl hin]; exact Int.toNat_natCast n) (by show n * 1 ≤ _; omega) (Nat.le_trans hcm hcR) (Nat.le_trans hsm hsR) hd (fun q9 cA9 H1 hK9 hP1 hD1 hS1 => ?_)
  have ec : cA9 = cA 1 := ra_eq (k_last hK9) (hK0.2 1 _ rfl).2
  subst ec
  have hR1 : Rw dC dI cA H0 (adp ad k q9) (hput h k (oZ n (fun _ => 0))) H1 := Rw.new hdom hok hk (fun _ => i_z) rfl hP1 hD1
  have hE1 := ext_new (ad := ad) hk q9 (oZ n (fun _ => 0))
  have hL1 := okL_ext hE1 hL
  have hK1 := okS_ext hE1 (okS_t hK)
  have h9 := kk (adp ad k q9) H1 locs rls hS1 hR1 (hE.tr hE1) hL1.1 (okS_c (v := vR k) (fun j hj => by cases hj; rw [hput_s]; exact fun q => by cases q) hK1.1) (by rw [hL1.2]; exact hl)
  have e2 : (vR k :: st).map (mapV (adp ad k q9)) = .ref q9 :: st.map (mapV ad) := by
    rw [List.map_cons, hK1.2]
    show Value.ref (if k = k then q9 else ad k) :: _ = _
    rw [if_pos rfl]
  rw [e2] at h9
  exact h9
theorem st_newJ (C : Fr x y cc nL ret tb d mc ms) {a : Int} (n : Nat) (hd : decode cc pc = .ok (.newarray .long, 2)) (k : Nat) (ha : a = (n : Int)) (hn : n ≤ 100000) (hw : Cond.arrayClass .long ∈ lw_tbl) (hk : h k = none) (hcm : cl + 1 ≤ mc) (hsm : sl + n ≤ ms)
    (kk : T x (pc + 2) ls (vR k :: st) (hput h k (oJ n (fun _ => 0))) (cl + 1) (sl + n)) : T x pc ls (vI a :: st) h cl sl := by
  obtain ⟨p, l, e, R, s, m, args, below, meth, c, dC, dI, cA, H0, Qf, ad0, h0⟩ := x
  obtain ⟨hx, hb, hml, hret, htb, hown, hnm, hlk, hst, hdR, hlR, hcR, hsR, hS0, hTB, hNC, hST, hK0⟩ := C
  intro ad H locs rls hS hR hE hL hK hl
  subst ha
  have hin : inI (n : Int) := ⟨by omega, by omega⟩
  obtain ⟨dom, hdom, hP, hD, hok⟩ := id hR
  refine va_newa (D := (dC, dI)) (atype := .long) (ty := .long) (N' := n) (a0 := (n, .inr (.inl (fun _ => Int64.ofInt 0)))) hx hb (hTB.at hw rfl) rfl hK0 hP hD hS (fun _ h9 => h9) (fun _ => by rw [show Int64.ofInt 0 = (0 : Int64) from by decide]; rfl) (by rw [i_0, i_lt hin i_z]; omega) (by rw [i_cl hin]; exact Int.toNat_natCast n) (by show n * 8 ≤ _; omega) (Nat.le_trans hcm hcR) (Nat.le_trans hsm hsR) hd (fun q9 cA9 H1 hK9 hP1 hD1 hS1 => ?_)
  have ec : cA9 = cA 2 := ra_eq (k_last hK9) (hK0.2 2 _ rfl).2
  subst ec
  have hR1 : Rw dC dI cA H0 (adp ad k q9) (hput h k (oJ n (fun _ => 0))) H1 := Rw.new hdom hok hk (fun _ => (by decide : inJ 0)) rfl hP1 hD1
  have hE1 := ext_new (ad := ad) hk q9 (oJ n (fun _ => 0))
  have hL1 := okL_ext hE1 hL
  have hK1 := okS_ext hE1 (okS_t hK)
  have h9 := kk (adp ad k q9) H1 locs rls hS1 hR1 (hE.tr hE1) hL1.1 (okS_c (v := vR k) (fun j hj => by cases hj; rw [hput_s]; exact fun q => by cases q) hK1.1) (by rw [hL1.2]; exact hl)
  have e2 : (vR k :: st).map (mapV (adp ad k q9)) = .ref q9 :: st.map (mapV ad) := by
    rw [List.map_cons, hK1.2]
    show Value.ref (if k = k then q9 else ad k) :: _ = _
    rw [if_pos rfl]
  rw [e2] at h9
  exact h9
theorem st_newD (C : Fr x y cc nL ret tb d mc ms) {a : Int} (n : Nat) (hd : decode cc pc = .ok (.newarray .double, 2)) (k : Nat) (ha : a = (n : Int)) (hn : n ≤ 100000) (hw : Cond.arrayClass .double ∈ lw_tbl) (hk : h k = none) (hcm : cl + 1 ≤ mc) (hsm : sl + n ≤ ms)
    (kk : T x (pc + 2) ls (vR k :: st) (hput h k (oD n (fun _ => 0))) (cl + 1) (sl + n)) : T x pc ls (vI a :: st) h cl sl := by
  obtain ⟨p, l, e, R, s, m, args, below, meth, c, dC, dI, cA, H0, Qf, ad0, h0⟩ := x
  obtain ⟨hx, hb, hml, hret, htb, hown, hnm, hlk, hst, hdR, hlR, hcR, hsR, hS0, hTB, hNC, hST, hK0⟩ := C
  intro ad H locs rls hS hR hE hL hK hl
  subst ha
  have hin : inI (n : Int) := ⟨by omega, by omega⟩
  obtain ⟨dom, hdom, hP, hD, hok⟩ := id hR
  refine va_newa (D := (dC, dI)) (atype := .double) (ty := .double) (N' := n) (a0 := (n, .inr (.inr (.inr (.inl (fun _ => 0)))))) hx hb (hTB.at hw rfl) rfl hK0 hP hD hS (fun _ h9 => h9) (fun _ => rfl) (by rw [i_0, i_lt hin i_z]; omega) (by rw [i_cl hin]; exact Int.toNat_natCast n) (by show n * 8 ≤ _; omega) (Nat.le_trans hcm hcR) (Nat.le_trans hsm hsR) hd (fun q9 cA9 H1 hK9 hP1 hD1 hS1 => ?_)
  have ec : cA9 = cA 3 := ra_eq (k_last hK9) (hK0.2 3 _ rfl).2
  subst ec
  have hR1 : Rw dC dI cA H0 (adp ad k q9) (hput h k (oD n (fun _ => 0))) H1 := Rw.new hdom hok hk trivial rfl hP1 hD1
  have hE1 := ext_new (ad := ad) hk q9 (oD n (fun _ => 0))
  have hL1 := okL_ext hE1 hL
  have hK1 := okS_ext hE1 (okS_t hK)
  have h9 := kk (adp ad k q9) H1 locs rls hS1 hR1 (hE.tr hE1) hL1.1 (okS_c (v := vR k) (fun j hj => by cases hj; rw [hput_s]; exact fun q => by cases q) hK1.1) (by rw [hL1.2]; exact hl)
  have e2 : (vR k :: st).map (mapV (adp ad k q9)) = .ref q9 :: st.map (mapV ad) := by
    rw [List.map_cons, hK1.2]
    show Value.ref (if k = k then q9 else ad k) :: _ = _
    rw [if_pos rfl]
  rw [e2] at h9
  exact h9
theorem st_newA (C : Fr x y cc nL ret tb d mc ms) {a : Int} (n : Nat) {idx : Nat} (hd : decode cc pc = .ok (.anewarray idx, 3)) (k t : Nat) (Cn : String) (ht : ∀ cA : Nat → ClassId, (TYs cA)[t]? = some (cA t, .object Cn)) (ha : a = (n : Int)) (hn : n ≤ 100000) (hw : Cond.classLink y.cls idx Cn ∈ lw_tbl) (hw2 : Cond.arrayOver (.object Cn) ∈ lw_tbl) (hk : h k = none) (hcm : cl + 1 ≤ mc) (hsm : sl + n ≤ ms)
    (kk : T x (pc + 3) ls (vR k :: st) (hput h k (oA t n (fun _ => none))) (cl + 1) (sl + n)) : T x pc ls (vI a :: st) h cl sl := by
  obtain ⟨p, l, e, R, s, m, args, below, meth, c, dC, dI, cA, H0, Qf, ad0, h0⟩ := x
  obtain ⟨hx, hb, hml, hret, htb, hown, hnm, hlk, hst, hdR, hlR, hcR, hsR, hS0, hTB, hNC, hST, hK0⟩ := C
  intro ad H locs rls hS hR hE hL hK hl
  subst ha
  have hin : inI (n : Int) := ⟨by omega, by omega⟩
  obtain ⟨dom, hdom, hP, hD, hok⟩ := id hR
  refine va_newq (D := (dC, dI)) (C := Cn) (N' := n) hx hb hown (hTB.at hw rfl) (va_AO.of (hTB.at (args := #[]) hw2 rfl)) hK0 hP hD hS (fun _ h9 => h9) (by rw [i_0, i_lt hin i_z]; omega) (by rw [i_cl hin]; exact Int.toNat_natCast n) (by omega) (Nat.le_trans hcm hcR) (Nat.le_trans hsm hsR) hd (fun q9 cA9 H1 hK9 hP1 hD1 hS1 => ?_)
  have ec : cA9 = cA t := ra_eq (k_last hK9) (hK0.2 t _ (ht cA)).2
  subst ec
  have hR1 : Rw dC dI cA H0 (adp ad k q9) (hput h k (oA t n (fun _ => none))) H1 := Rw.new hdom hok hk (fun _ _ q => nomatch q) rfl hP1 hD1
  have hE1 := ext_new (ad := ad) hk q9 (oA t n (fun _ => none))
  have hL1 := okL_ext hE1 hL
  have hK1 := okS_ext hE1 (okS_t hK)
  have h9 := kk (adp ad k q9) H1 locs rls hS1 hR1 (hE.tr hE1) hL1.1 (okS_c (v := vR k) (fun j hj => by cases hj; rw [hput_s]; exact fun q => by cases q) hK1.1) (by rw [hL1.2]; exact hl)
  have e2 : (vR k :: st).map (mapV (adp ad k q9)) = .ref q9 :: st.map (mapV ad) := by
    rw [List.map_cons, hK1.2]
    show Value.ref (if k = k then q9 else ad k) :: _ = _
    rw [if_pos rfl]
  rw [e2] at h9
  exact h9
theorem st_alenI (C : Fr x y cc nL ret tb d mc ms) (hd : decode cc pc = .ok (.arraylength, 1)) {k n : Nat} {f : Int → Int} (he : h k = some (oI n f)) (hn : (n : Int) < 2147483648) (kk : T x (pc + 1) ls (vI (n : Int) :: st) h cl sl) : T x pc ls (vR k :: st) h cl sl := by
  obtain ⟨p, l, e, R, s, m, args, below, meth, c, dC, dI, cA, H0, Qf, ad0, h0⟩ := x
  obtain ⟨hx, hb, hml, hret, htb, hown, hnm, hlk, hst, hdR, hlR, hcR, hsR, hS0, hTB, hNC, hST, hK0⟩ := C
  intro ad H locs rls hS hR hE hL hK hl
  obtain ⟨dom, hdom, hP, hD, hok⟩ := id hR
  obtain ⟨i, -, hi⟩ := ws_at (cA := cA) (ad := ad) hdom he
  exact va_alen (D := (dC, dI)) (x := (n, .inl (fun j => Int32.ofInt (f (j : Int))))) hx hb hK0 hP i 0 hi rfl (i_nat n).symm hd (kk ad H locs rls hS hR hE hL (okS_c (v := vI (n : Int)) ⟨by omega, hn⟩ (okS_t hK)) hl)
/-- getstatic of the table of first slots, a local as its index, iaload -/
theorem st_slots (C : Fr x y cc nL ret tb d mc ms) {idx : Nat} {a : Int} {j : Fin 4} (i : Nat) (hd : decode cc pc = .ok (.getstatic idx, 3)) (hd2 : decode cc (pc + 3) = .ok (.iload_n j, 1)) (hj : (j : Nat) = i) (hd3 : decode cc (pc + 4) = .ok (.iaload, 1)) (hw : Cond.fieldLink y.cls idx RX8 "FIRST_SLOTS" "[I" ∈ lw_tbl) (hv : lget ls i = some (vI a)) (h1 : 0 ≤ a) (h2 : a < 4) (kk : T x (pc + 5) ls (vI (fsV a.toNat) :: st) h cl sl) : T x pc ls st h cl sl := by
  obtain ⟨p, l, e, R, s, m, args, below, meth, c, dC, dI, cA, H0, Qf, ad0, h0⟩ := x
  obtain ⟨hx, hb, hml, hret, htb, hown, hnm, hlk, hst, hdR, hlR, hcR, hsR, hS0, hTB, hNC, hST, hK0⟩ := C
  intro ad H locs rls hS hR hE hL hK hl
  obtain ⟨-, -, t0, ⟨cf, kf, fi, f, a9, cell, g1, g2, g3, g4, g5, g6, g7, g8⟩, ⟨cell2, k1, k2, k3, k4, k5, k6, k7⟩⟩ := hST
  have ha : inI a := ⟨by omega, by omega⟩
  have hfs : inI (fsV a.toNat) := by unfold fsV; split <;> decide
  refine W.gets hx hb hown (hTB.at hw rfl) g1 g2 g3 g4 (by rw [hS.2.1 a9 (Array.getElem?_eq_some_iff.mp g5).1 g8]; exact g5) (fun e => by rw [e] at g6; cases g6) g7 rfl hd ?_
  refine lv_iload_n hx hb hd2 hj (has_at hl hv) ?_
  have hlt : a.toNat < 4 := by omega
  refine W.iald hx hb (v := .int (Int32.ofInt (fsV a.toNat))) (by rw [hS.2.1 t0 (Array.getElem?_eq_some_iff.mp k1).1 k7]; exact k1) k2 k3 (fun hh => ?_) (by rw [i_cl ha]; exact k6 _ hlt) rfl rfl hd3 (kk ad H locs rls hS hR hE hL (okS_c (v := vI (fsV a.toNat)) hfs hK) hl)
  rcases hh with hh | hh
  · rw [i_0, i_lt ha i_z] at hh; omega
  · rw [i_cl ha] at hh; omega
end MAKE
