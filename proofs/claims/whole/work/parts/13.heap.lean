section HEAP
variable {x : Cx} {y : MethodName} {cc : ByteArray} {nL : Nat} {ret : Option FieldType} {tb : List (Nat × Nat × Nat × Nat)} {d mc ms : Nat} {pc : Nat} {ls : List (Nat × PV)} {st : List PV} {h : HP} {cl sl : Nat}
theorem ws_at {cA : Nat → ClassId} {ad : Nat → Nat} {dom : List Nat} {k : Nat} {e : PE} (hd : ∀ k, k ∈ dom ↔ h k ≠ none) (he : h k = some e) : ∃ i : Nat, dom[i]? = some k ∧ (wsOf cA ad h dom)[i]? = some (ad k, mapE cA ad e) := by
  have hk : k ∈ dom := (hd k).mpr (by rw [he]; exact fun q => by cases q)
  obtain ⟨i, hi⟩ := List.getElem?_of_mem hk
  refine ⟨i, hi, ?_⟩
  simp only [wsOf, List.getElem?_map, hi, Option.map_some, he, Option.getD_some]
theorem ws_set {A : Nat → Prop} {cA : Nat → ClassId} {ad : Nat → Nat} {dom : List Nat} {k i : Nat} (hD : va_D A (wsOf cA ad h dom)) (hi : dom[i]? = some k) (e : PE) : (wsOf cA ad h dom).set i (ad k, mapE cA ad e) = wsOf cA ad (hput h k e) dom := by
  have hil : i < (wsOf cA ad h dom).length := by rw [wsOf, List.length_map]; exact (List.getElem?_eq_some_iff.mp hi).1
  apply List.ext_getElem?
  intro j
  by_cases hj : j = i
  · subst hj
    rw [List.getElem?_set_self hil]
    simp only [wsOf, List.getElem?_map, hi, Option.map_some, hput_s, Option.getD_some]
  · rw [List.getElem?_set_ne (Ne.symm hj)]
    cases hdj : dom[j]? with
    | none => simp only [wsOf, List.getElem?_map, hdj, Option.map_none]
    | some k' =>
      have hne : k' ≠ k := by
        intro e1
        subst e1
        refine hj (hD.1 j i (ad k', mapE cA ad ((h k').getD (.inl (0, [])))) (ad k', mapE cA ad ((h k').getD (.inl (0, [])))) ?_ ?_ rfl)
        · simp only [wsOf, List.getElem?_map, hdj, Option.map_some]
        · simp only [wsOf, List.getElem?_map, hi, Option.map_some]
      have e2 : hput h k e k' = h k' := hput_o hne rfl
      simp only [wsOf, List.getElem?_map, hdj, Option.map_some, e2]
theorem ext_put {ad : Nat → Nat} (k : Nat) (e : PE) : Ext ad h ad (hput h k e) := by
  intro j hj
  refine ⟨?_, rfl⟩
  by_cases e1 : j = k
  · subst e1; rw [hput_s]; exact fun q => by cases q
  · rw [hput_o e1 rfl]; exact hj
theorem Rw.put {dC : Nat → ClassId} {dI : Nat → Nat → Nat} {cA : Nat → ClassId} {H0 H1 : Heap} {ad : Nat → Nat} {dom : List Nat} {k : Nat} {e0 e : PE} (hd : ∀ k, k ∈ dom ↔ h k ≠ none) (hok : ∀ k e, h k = some e → okE h e) (he : h k = some e0) (hn : okE h e)
    (hP : va_P (dC, dI) clX (wsOf cA ad (hput h k e) dom) H1) (hD : va_D (AA H0) (wsOf cA ad (hput h k e) dom)) : Rw dC dI cA H0 ad (hput h k e) H1 := by
  refine ⟨dom, fun j => ?_, hP, hD, fun j e' hj => ?_⟩
  · rw [hd j]
    by_cases e1 : j = k
    · subst e1; rw [hput_s, he]; exact ⟨(fun _ q => by cases q), (fun _ q => by cases q)⟩
    · rw [hput_o e1 rfl]
  · by_cases e1 : j = k
    · subst e1
      rw [hput_s] at hj
      cases hj
      exact (okE.ext cA (ext_put (ad := ad) j e) hn).1
    · rw [hput_o e1 rfl] at hj
      exact (okE.ext cA (ext_put (ad := ad) k e) (hok j e' hj)).1
theorem okL_ext {ad ad' : Nat → Nat} {h' : HP} (he : Ext ad h ad' h') (hL : ∀ q ∈ ls, okV h q.2) : (∀ q ∈ ls, okV h' q.2) ∧ ls.map (fun q => (q.1, mapV ad' q.2)) = ls.map (fun q => (q.1, mapV ad q.2)) :=
  ⟨fun q hq => (okV.ext he (hL q hq)).1, List.map_congr_left (fun q hq => by rw [(okV.ext he (hL q hq)).2])⟩
theorem okS_ext {ad ad' : Nat → Nat} {h' : HP} (he : Ext ad h ad' h') (hK : ∀ v ∈ st, okV h v) : (∀ v ∈ st, okV h' v) ∧ st.map (mapV ad') = st.map (mapV ad) :=
  ⟨fun v hv => (okV.ext he (hK v hv)).1, List.map_congr_left (fun v hv => (okV.ext he (hK v hv)).2)⟩
def FL (own : String) (idx ci j : Nat) : Prop := ∃ q : vw_C, clX[ci]? = some q ∧ (∀ w ∈ u_ws q.1 q.2.1 q.2.2, w ∈ lw_tbl) ∧ j < q.2.2 ∧ Cond.fieldLink own idx (q.2.1 j).1 (q.2.1 j).2.1 (q.2.1 j).2.2.1 ∈ lw_tbl
def FP (own : String) (idx ci j : Nat) (ty : FieldType) (fin : Bool) : Prop := ∃ q : vw_C, clX[ci]? = some q ∧ (∀ w ∈ u_ws q.1 q.2.1 q.2.2, w ∈ lw_tbl) ∧ j < q.2.2 ∧ Cond.fieldLink own idx (q.2.1 j).1 (q.2.1 j).2.1 (q.2.1 j).2.2.1 ∈ lw_tbl ∧
  (∃ ty0 : Nat → FieldType, ∀ k, k < q.2.2 → parseFieldDescriptor (q.2.1 k).2.2.1 = some (ty0 k)) ∧ (∀ a, a < q.2.2 → ∀ b, b < q.2.2 → a ≠ b → (q.2.1 a).2.1 ≠ (q.2.1 b).2.1) ∧ parseFieldDescriptor (q.2.1 j).2.2.1 = some ty ∧ (q.2.1 j).2.2.2 = fin ∧ (fin = true → (q.2.1 j).1 = own)
theorem u_gw {C : String} {T' : u_T} {N : Nat} : ∀ w ∈ u_ws C T' N, gw w = true := by
  intro w hw
  obtain ⟨k, -, rfl⟩ := List.mem_map.mp hw
  unfold u_lay
  split <;> rfl
theorem TB.us {s : State} {args : Array Value} {q : vw_C} (h : TB s) (hin : ∀ w ∈ u_ws q.1 q.2.1 q.2.2, w ∈ lw_tbl) : ∀ w ∈ u_ws q.1 q.2.1 q.2.2, w.before args s = true := fun w hw => h.at (hin w hw) (u_gw w hw)
theorem gets_map {ad : Nat → Nat} {fs : List PV} {j : Nat} {v : PV} (hv : fs[j]? = some v) : (fs.map (mapV ad))[j]? = some (mapV ad v) := by rw [List.getElem?_map, hv]; rfl
def FitV (ty : FieldType) (v : PV) : Prop := ∀ ad : Nat → Nat, narrow ty (mapV ad v) = mapV ad v ∧ fits ty (mapV ad v) = true
theorem fit_int {a : Int} : FitV .int (vI a) := fun _ => ⟨rfl, rfl⟩
theorem fit_b0 : narrow .boolean (.int (Int32.ofInt 0)) = .int (Int32.ofInt 0) ∧ fits .boolean (.int (Int32.ofInt 0)) = true := ⟨by decide, by decide⟩
theorem fit_b1 : narrow .boolean (.int (Int32.ofInt 1)) = .int (Int32.ofInt 1) ∧ fits .boolean (.int (Int32.ofInt 1)) = true := ⟨by decide, by decide⟩
theorem fit_bool {a : Int} (ha : a = 0 ∨ a = 1) : FitV .boolean (vI a) := fun _ => by
  rcases ha with rfl | rfl
  · exact fit_b0
  · exact fit_b1
theorem fit_char {a : Int} (h0 : 0 ≤ a) (h1 : a < 65536) : FitV .char (vI a) := fun _ => by
  obtain ⟨n, rfl⟩ := Int.eq_ofNat_of_zero_le h0
  have h2 := pk_charN (q := n) (by omega)
  have e1 : mapV ‹Nat → Nat› (vI (n : Int)) = .int (nI n) := congrArg Value.int (i_nat n)
  rw [e1]
  exact h2
theorem fit_obj {C : String} {r : Option Nat} : FitV (.object C) (vQ r) := fun _ => by cases r <;> exact ⟨rfl, rfl⟩
theorem fit_arr {t : FieldType} {r : Option Nat} : FitV (.array t) (vQ r) := fun _ => by cases r <;> exact ⟨rfl, rfl⟩
theorem fit_objR {C : String} {k : Nat} : FitV (.object C) (vR k) := fit_obj (r := some k)
theorem fit_arrR {t : FieldType} {k : Nat} : FitV (.array t) (vR k) := fit_arr (r := some k)
theorem st_getf (C : Fr x y cc nL ret tb d mc ms) {idx : Nat} (hd : decode cc pc = .ok (.getfield idx, 3)) {k ci j : Nat} {fs : List PV} {v : PV} (hf : FL y.cls idx ci j) (he : h k = some (oO ci fs)) (hv : fs[j]? = some v) (kk : T x (pc + 3) ls (v :: st) h cl sl) : T x pc ls (vR k :: st) h cl sl := by
  obtain ⟨p, l, e, R, s, m, args, below, meth, c, dC, dI, cA, H0, Qf, ad0, h0⟩ := x
  obtain ⟨hx, hb, hml, hret, htb, hown, hnm, hlk, hst, hdR, hlR, hcR, hsR, hS0, hTB, hNC, hST, hK0⟩ := C
  intro ad H locs rls hS hR hE hL hK hl
  obtain ⟨q, hc, hin, hj, hlink⟩ := hf
  obtain ⟨dom, hdom, hP, hD, hok⟩ := id hR
  obtain ⟨i, -, hi⟩ := ws_at (cA := cA) (ad := ad) hdom he
  have hvo : okV h v := hok k _ he v (List.mem_of_getElem? hv)
  exact va_get (D := (dC, dI)) (C := q.1) (T := q.2.1) (N := q.2.2) hx hb (hTB.us hin) (fun _ hw => hw) hown hK0 hP i hi hc j hj (hTB.at hlink rfl) (fun _ h9 => h9) (gets_map hv) hd (kk ad H locs rls hS hR hE hL (okS_c hvo (okS_t hK)) hl)
theorem st_putf (C : Fr x y cc nL ret tb d mc ms) {idx : Nat} (hd : decode cc pc = .ok (.putfield idx, 3)) {k ci j : Nat} {fs : List PV} {v : PV} {ty : FieldType} {fin : Bool} (hf : FP y.cls idx ci j ty fin) (hfin : fin = true → y.name = "<init>") (he : h k = some (oO ci fs)) (hj : j < fs.length) (hfit : FitV ty v)
    (kk : T x (pc + 3) ls st (hput h k (oO ci (fs.set j v))) cl sl) : T x pc ls (v :: vR k :: st) h cl sl := by
  obtain ⟨p, l, e, R, s, m, args, below, meth, c, dC, dI, cA, H0, Qf, ad0, h0⟩ := x
  obtain ⟨hx, hb, hml, hret, htb, hown, hnm, hlk, hst, hdR, hlR, hcR, hsR, hS0, hTB, hNC, hST, hK0⟩ := C
  intro ad H locs rls hS hR hE hL hK hl
  obtain ⟨q, hc, hin, hj2, hlink, ⟨ty0, hty⟩, hnm2, hpd, hfi, hown2⟩ := hf
  obtain ⟨dom, hdom, hP, hD, hok⟩ := id hR
  obtain ⟨i, hdi, hi⟩ := ws_at (cA := cA) (ad := ad) hdom he
  have hn : okE h (oO ci (fs.set j v)) := fun w hw => (List.mem_or_eq_of_mem_set hw).elim (fun h1 => hok k _ he w h1) (fun h1 => h1 ▸ okS_h hK)
  have e1 : ((ad k, .inr (ci, (fs.map (mapV ad)).set j (mapV ad v))) : Nat × va_E) = (ad k, mapE cA ad (oO ci (fs.set j v))) := by
    show _ = ((ad k, .inr (ci, (fs.set j v).map (mapV ad))) : Nat × va_E)
    rw [List.map_set]
  have kk2 : ∀ (H1 : Heap) (locs1 : List Loc), va_P (dC, dI) clX ((wsOf cA ad h dom).set i (ad k, .inr (ci, (fs.map (mapV ad)).set j (mapV ad v)))) H1 → va_D (AA H0) ((wsOf cA ad h dom).set i (ad k, .inr (ci, (fs.map (mapV ad)).set j (mapV ad v)))) → va_S (AA H0) H0 H1 locs1 → W p l e R s m args below meth c H1 locs1 cl sl Qf (F0 m (pc + 3) rls (st.map (mapV ad))) := by
    intro H1 locs1 hP1 hD1 hS1
    rw [e1, ws_set hD hdi] at hP1 hD1
    have hE1 : Ext ad h ad (hput h k (oO ci (fs.set j v))) := ext_put k _
    exact kk ad H1 locs1 rls hS1 (Rw.put hdom hok he hn hP1 hD1) (hE.tr hE1) (okL_ext hE1 hL).1 (okS_ext hE1 (okS_t (okS_t hK))).1 hl
  cases fin with
  | false => exact va_put (D := (dC, dI)) (C := q.1) (T := q.2.1) (N := q.2.2) (v := mapV ad v) hx hb (hTB.us hin) (fun _ hw => hw) ty0 hty hnm2 hown hK0 hP hD hS i hi hc j hj2 (hTB.at hlink rfl) (fun _ h9 => h9) hfi hpd (hfit ad).1 (hfit ad).2 (by rw [List.length_map]; exact hj) hd kk2
  | true => exact va_putF (D := (dC, dI)) (C := q.1) (T := q.2.1) (N := q.2.2) (v := mapV ad v) hx hb (hTB.us hin) (fun _ hw => hw) ty0 hty hnm2 hown hK0 hP hD hS i hi hc j hj2 (hTB.at hlink rfl) (fun _ h9 => h9) hfi (hnm.trans (hfin rfl)) (hown2 rfl) hpd (hfit ad).1 (hfit ad).2 (by rw [List.length_map]; exact hj) hd kk2
theorem st_iald (C : Fr x y cc nL ret tb d mc ms) (hd : decode cc pc = .ok (.iaload, 1)) {k n : Nat} {f : Int → Int} {a : Int} (he : h k = some (oI n f)) (h1 : 0 ≤ a) (h2 : a < n) (kk : T x (pc + 1) ls (vI (f a) :: st) h cl sl) : T x pc ls (vI a :: vR k :: st) h cl sl := by
  obtain ⟨p, l, e, R, s, m, args, below, meth, c, dC, dI, cA, H0, Qf, ad0, h0⟩ := x
  obtain ⟨hx, hb, hml, hret, htb, hown, hnm, hlk, hst, hdR, hlR, hcR, hsR, hS0, hTB, hNC, hST, hK0⟩ := C
  intro ad H locs rls hS hR hE hL hK hl
  obtain ⟨dom, hdom, hP, hD, hok⟩ := id hR
  obtain ⟨i, -, hi⟩ := ws_at (cA := cA) (ad := ad) hdom he
  have ha : inI a := okS_h hK
  have hvo : okV h (vI (f a)) := hok k _ he a
  have h3 := kk ad H locs rls hS hR hE hL (okS_c hvo (okS_t (okS_t hK))) hl
  refine va_iald (D := (dC, dI)) hx hb hK0 hP i 0 hi rfl (i_in h1 h2 ha) hd ?_
  rw [i_cl ha, Int.toNat_of_nonneg h1]
  exact h3
theorem st_zald (C : Fr x y cc nL ret tb d mc ms) (hd : decode cc pc = .ok (.baload, 1)) {k n : Nat} {f : Int → Int} {a : Int} (he : h k = some (oZ n f)) (h1 : 0 ≤ a) (h2 : a < n) (kk : T x (pc + 1) ls (vI (f a) :: st) h cl sl) : T x pc ls (vI a :: vR k :: st) h cl sl := by
  obtain ⟨p, l, e, R, s, m, args, below, meth, c, dC, dI, cA, H0, Qf, ad0, h0⟩ := x
  obtain ⟨hx, hb, hml, hret, htb, hown, hnm, hlk, hst, hdR, hlR, hcR, hsR, hS0, hTB, hNC, hST, hK0⟩ := C
  intro ad H locs rls hS hR hE hL hK hl
  obtain ⟨dom, hdom, hP, hD, hok⟩ := id hR
  obtain ⟨i, -, hi⟩ := ws_at (cA := cA) (ad := ad) hdom he
  have ha : inI a := okS_h hK
  have hvo : okV h (vI (f a)) := hok k _ he a
  have h3 := kk ad H locs rls hS hR hE hL (okS_c hvo (okS_t (okS_t hK))) hl
  refine va_zald (D := (dC, dI)) hx hb hK0 hP i 1 hi rfl (i_in h1 h2 ha) hd ?_
  rw [i_cl ha, Int.toNat_of_nonneg h1]
  exact h3
theorem st_lald (C : Fr x y cc nL ret tb d mc ms) (hd : decode cc pc = .ok (.laload, 1)) {k n : Nat} {f : Int → Int} {a : Int} (he : h k = some (oJ n f)) (h1 : 0 ≤ a) (h2 : a < n) (kk : T x (pc + 1) ls (vL (f a) :: st) h cl sl) : T x pc ls (vI a :: vR k :: st) h cl sl := by
  obtain ⟨p, l, e, R, s, m, args, below, meth, c, dC, dI, cA, H0, Qf, ad0, h0⟩ := x
  obtain ⟨hx, hb, hml, hret, htb, hown, hnm, hlk, hst, hdR, hlR, hcR, hsR, hS0, hTB, hNC, hST, hK0⟩ := C
  intro ad H locs rls hS hR hE hL hK hl
  obtain ⟨dom, hdom, hP, hD, hok⟩ := id hR
  obtain ⟨i, -, hi⟩ := ws_at (cA := cA) (ad := ad) hdom he
  have ha : inI a := okS_h hK
  have hvo : okV h (vL (f a)) := hok k _ he a
  have h3 := kk ad H locs rls hS hR hE hL (okS_c hvo (okS_t (okS_t hK))) hl
  refine va_lald (D := (dC, dI)) hx hb hK0 hP i 2 hi rfl (i_in h1 h2 ha) hd ?_
  rw [i_cl ha, Int.toNat_of_nonneg h1]
  exact h3
theorem st_dald (C : Fr x y cc nL ret tb d mc ms) (hd : decode cc pc = .ok (.daload, 1)) {k n : Nat} {f : Int → UInt64} {a : Int} (he : h k = some (oD n f)) (h1 : 0 ≤ a) (h2 : a < n) (kk : T x (pc + 1) ls (vD (f a) :: st) h cl sl) : T x pc ls (vI a :: vR k :: st) h cl sl := by
  obtain ⟨p, l, e, R, s, m, args, below, meth, c, dC, dI, cA, H0, Qf, ad0, h0⟩ := x
  obtain ⟨hx, hb, hml, hret, htb, hown, hnm, hlk, hst, hdR, hlR, hcR, hsR, hS0, hTB, hNC, hST, hK0⟩ := C
  intro ad H locs rls hS hR hE hL hK hl
  obtain ⟨dom, hdom, hP, hD, hok⟩ := id hR
  obtain ⟨i, -, hi⟩ := ws_at (cA := cA) (ad := ad) hdom he
  have ha : inI a := okS_h hK
  have hvo : okV h (vD (f a)) := trivial
  have h3 := kk ad H locs rls hS hR hE hL (okS_c hvo (okS_t (okS_t hK))) hl
  refine va_dald (D := (dC, dI)) hx hb hK0 hP i 3 hi rfl (i_in h1 h2 ha) hd ?_
  rw [i_cl ha, Int.toNat_of_nonneg h1]
  exact h3
theorem st_iast (C : Fr x y cc nL ret tb d mc ms) (hd : decode cc pc = .ok (.iastore, 1)) {k n : Nat} {f : Int → Int} {a : Int} {b : Int} (he : h k = some (oI n f)) (h1 : 0 ≤ a) (h2 : a < n) (kk : T x (pc + 1) ls st (hput h k (oI n (fput f a b))) cl sl) : T x pc ls (vI b :: vI a :: vR k :: st) h cl sl := by
  obtain ⟨p, l, e, R, s, m, args, below, meth, c, dC, dI, cA, H0, Qf, ad0, h0⟩ := x
  obtain ⟨hx, hb, hml, hret, htb, hown, hnm, hlk, hst, hdR, hlR, hcR, hsR, hS0, hTB, hNC, hST, hK0⟩ := C
  intro ad H locs rls hS hR hE hL hK hl
  obtain ⟨dom, hdom, hP, hD, hok⟩ := id hR
  obtain ⟨i, hdi, hi⟩ := ws_at (cA := cA) (ad := ad) hdom he
  have ha : inI a := okS_h (okS_t hK)
  have hn : okE h (oI n (fput f a b)) := (fun j => by
    show inI (fput f a b j)
    by_cases e1 : j = a
    · subst e1; rw [fput_s]; exact okS_h hK
    · rw [fput_o e1]; exact hok k _ he j)
  have e1 : upd (fun j : Nat => Int32.ofInt (f (j : Int))) (Int32.ofInt a).toNatClampNeg (Int32.ofInt b) = fun j : Nat => Int32.ofInt (fput f a b (j : Int)) := by
    funext j
    rw [i_cl ha]
    by_cases e2 : j = a.toNat
    · have e3 : (j : Int) = a := by omega
      simp only [upd, fput]
      rw [if_pos e2, if_pos e3]
    · have e3 : ¬ (j : Int) = a := by omega
      simp only [upd, fput]
      rw [if_neg e2, if_neg e3]
  refine va_iast (D := (dC, dI)) hx hb hK0 hP hD hS i 0 hi rfl (i_in h1 h2 ha) hd (fun H1 locs1 hP1 hD1 hS1 => ?_)
  rw [e1] at hP1 hD1
  have hP2 := (ws_set hD hdi (oI n (fput f a b))) ▸ hP1
  have hD2 := (ws_set hD hdi (oI n (fput f a b))) ▸ hD1
  have hE1 : Ext ad h ad (hput h k (oI n (fput f a b))) := ext_put k _
  exact kk ad H1 locs1 rls hS1 (Rw.put hdom hok he hn hP2 hD2) (hE.tr hE1) (okL_ext hE1 hL).1 (okS_ext hE1 (okS_t (okS_t (okS_t hK)))).1 hl
theorem st_zast (C : Fr x y cc nL ret tb d mc ms) (hd : decode cc pc = .ok (.bastore, 1)) {k n : Nat} {f : Int → Int} {a : Int} {b : Int} (hb2 : b = 0 ∨ b = 1) (he : h k = some (oZ n f)) (h1 : 0 ≤ a) (h2 : a < n) (kk : T x (pc + 1) ls st (hput h k (oZ n (fput f a b))) cl sl) : T x pc ls (vI b :: vI a :: vR k :: st) h cl sl := by
  obtain ⟨p, l, e, R, s, m, args, below, meth, c, dC, dI, cA, H0, Qf, ad0, h0⟩ := x
  obtain ⟨hx, hb, hml, hret, htb, hown, hnm, hlk, hst, hdR, hlR, hcR, hsR, hS0, hTB, hNC, hST, hK0⟩ := C
  intro ad H locs rls hS hR hE hL hK hl
  obtain ⟨dom, hdom, hP, hD, hok⟩ := id hR
  obtain ⟨i, hdi, hi⟩ := ws_at (cA := cA) (ad := ad) hdom he
  have ha : inI a := okS_h (okS_t hK)
  have hn : okE h (oZ n (fput f a b)) := (fun j => by
    show inI (fput f a b j)
    by_cases e1 : j = a
    · subst e1; rw [fput_s]; exact okS_h hK
    · rw [fput_o e1]; exact hok k _ he j)
  have en : vp_nar .boolean (Int32.ofInt b) = Int32.ofInt b := by rcases hb2 with rfl | rfl <;> decide
  have e1 : upd (fun j : Nat => Int32.ofInt (f (j : Int))) (Int32.ofInt a).toNatClampNeg (vp_nar .boolean (Int32.ofInt b)) = fun j : Nat => Int32.ofInt (fput f a b (j : Int)) := by
    funext j
    rw [i_cl ha]
    by_cases e2 : j = a.toNat
    · have e3 : (j : Int) = a := by omega
      simp only [upd, fput]
      rw [if_pos e2, if_pos e3, en]
    · have e3 : ¬ (j : Int) = a := by omega
      simp only [upd, fput]
      rw [if_neg e2, if_neg e3]
  refine va_zast (D := (dC, dI)) hx hb hK0 hP hD hS i 1 hi rfl (i_in h1 h2 ha) hd (fun H1 locs1 hP1 hD1 hS1 => ?_)
  rw [e1] at hP1 hD1
  have hP2 := (ws_set hD hdi (oZ n (fput f a b))) ▸ hP1
  have hD2 := (ws_set hD hdi (oZ n (fput f a b))) ▸ hD1
  have hE1 : Ext ad h ad (hput h k (oZ n (fput f a b))) := ext_put k _
  exact kk ad H1 locs1 rls hS1 (Rw.put hdom hok he hn hP2 hD2) (hE.tr hE1) (okL_ext hE1 hL).1 (okS_ext hE1 (okS_t (okS_t (okS_t hK)))).1 hl
theorem st_last (C : Fr x y cc nL ret tb d mc ms) (hd : decode cc pc = .ok (.lastore, 1)) {k n : Nat} {f : Int → Int} {a : Int} {b : Int} (he : h k = some (oJ n f)) (h1 : 0 ≤ a) (h2 : a < n) (kk : T x (pc + 1) ls st (hput h k (oJ n (fput f a b))) cl sl) : T x pc ls (vL b :: vI a :: vR k :: st) h cl sl := by
  obtain ⟨p, l, e, R, s, m, args, below, meth, c, dC, dI, cA, H0, Qf, ad0, h0⟩ := x
  obtain ⟨hx, hb, hml, hret, htb, hown, hnm, hlk, hst, hdR, hlR, hcR, hsR, hS0, hTB, hNC, hST, hK0⟩ := C
  intro ad H locs rls hS hR hE hL hK hl
  obtain ⟨dom, hdom, hP, hD, hok⟩ := id hR
  obtain ⟨i, hdi, hi⟩ := ws_at (cA := cA) (ad := ad) hdom he
  have ha : inI a := okS_h (okS_t hK)
  have hn : okE h (oJ n (fput f a b)) := (fun j => by
    show inJ (fput f a b j)
    by_cases e1 : j = a
    · subst e1; rw [fput_s]; exact okS_h hK
    · rw [fput_o e1]; exact hok k _ he j)
  have e1 : vp_updL (fun j : Nat => Int64.ofInt (f (j : Int))) (Int32.ofInt a).toNatClampNeg (Int64.ofInt b) = fun j : Nat => Int64.ofInt (fput f a b (j : Int)) := by
    funext j
    rw [i_cl ha]
    by_cases e2 : j = a.toNat
    · have e3 : (j : Int) = a := by omega
      simp only [vp_updL, fput]
      rw [if_pos e2, if_pos e3]
    · have e3 : ¬ (j : Int) = a := by omega
      simp only [vp_updL, fput]
      rw [if_neg e2, if_neg e3]
  refine va_last (D := (dC, dI)) hx hb hK0 hP hD hS i 2 hi rfl (i_in h1 h2 ha) hd (fun H1 locs1 hP1 hD1 hS1 => ?_)
  rw [e1] at hP1 hD1
  have hP2 := (ws_set hD hdi (oJ n (fput f a b))) ▸ hP1
  have hD2 := (ws_set hD hdi (oJ n (fput f a b))) ▸ hD1
  have hE1 : Ext ad h ad (hput h k (oJ n (fput f a b))) := ext_put k _
  exact kk ad H1 locs1 rls hS1 (Rw.put hdom hok he hn hP2 hD2) (hE.tr hE1) (okL_ext hE1 hL).1 (okS_ext hE1 (okS_t (okS_t (okS_t hK)))).1 hl
theorem st_dast (C : Fr x y cc nL ret tb d mc ms) (hd : decode cc pc = .ok (.dastore, 1)) {k n : Nat} {f : Int → UInt64} {a : Int} {b : UInt64} (he : h k = some (oD n f)) (h1 : 0 ≤ a) (h2 : a < n) (kk : T x (pc + 1) ls st (hput h k (oD n (fput f a b))) cl sl) : T x pc ls (vD b :: vI a :: vR k :: st) h cl sl := by
  obtain ⟨p, l, e, R, s, m, args, below, meth, c, dC, dI, cA, H0, Qf, ad0, h0⟩ := x
  obtain ⟨hx, hb, hml, hret, htb, hown, hnm, hlk, hst, hdR, hlR, hcR, hsR, hS0, hTB, hNC, hST, hK0⟩ := C
  intro ad H locs rls hS hR hE hL hK hl
  obtain ⟨dom, hdom, hP, hD, hok⟩ := id hR
  obtain ⟨i, hdi, hi⟩ := ws_at (cA := cA) (ad := ad) hdom he
  have ha : inI a := okS_h (okS_t hK)
  have hn : okE h (oD n (fput f a b)) := trivial
  have e1 : vf_upd (fun j : Nat => f (j : Int)) (Int32.ofInt a).toNatClampNeg b = fun j : Nat => fput f a b (j : Int) := by
    funext j
    rw [i_cl ha]
    by_cases e2 : j = a.toNat
    · have e3 : (j : Int) = a := by omega
      simp only [vf_upd, fput]
      rw [if_pos e2, if_pos e3]
    · have e3 : ¬ (j : Int) = a := by omega
      simp only [vf_upd, fput]
      rw [if_neg e2, if_neg e3]
  refine va_dast (D := (dC, dI)) hx hb hK0 hP hD hS i 3 hi rfl (i_in h1 h2 ha) hd (fun H1 locs1 hP1 hD1 hS1 => ?_)
  rw [e1] at hP1 hD1
  have hP2 := (ws_set hD hdi (oD n (fput f a b))) ▸ hP1
  have hD2 := (ws_set hD hdi (oD n (fput f a b))) ▸ hD1
  have hE1 : Ext ad h ad (hput h k (oD n (fput f a b))) := ext_put k _
  exact kk ad H1 locs1 rls hS1 (Rw.put hdom hok he hn hP2 hD2) (hE.tr hE1) (okL_ext hE1 hL).1 (okS_ext hE1 (okS_t (okS_t (okS_t hK)))).1 hl
theorem st_aald (C : Fr x y cc nL ret tb d mc ms) (hd : decode cc pc = .ok (.aaload, 1)) {k n t : Nat} {f : Int → Option Nat} {a : Int} (Cn : String) (ht : ∀ cA : Nat → ClassId, (TYs cA)[t]? = some (cA t, .object Cn)) (he : h k = some (oA t n f)) (h1 : 0 ≤ a) (h2 : a < n) (kk : T x (pc + 1) ls (vQ (f a) :: st) h cl sl) : T x pc ls (vI a :: vR k :: st) h cl sl := by
  obtain ⟨p, l, e, R, s, m, args, below, meth, c, dC, dI, cA, H0, Qf, ad0, h0⟩ := x
  obtain ⟨hx, hb, hml, hret, htb, hown, hnm, hlk, hst, hdR, hlR, hcR, hsR, hS0, hTB, hNC, hST, hK0⟩ := C
  intro ad H locs rls hS hR hE hL hK hl
  obtain ⟨dom, hdom, hP, hD, hok⟩ := id hR
  obtain ⟨i, -, hi⟩ := ws_at (cA := cA) (ad := ad) hdom he
  have ha : inI a := okS_h hK
  have hvo : okV h (vQ (f a)) := fun j hj => hok k _ he a j hj
  have h3 := kk ad H locs rls hS hR hE hL (okS_c hvo (okS_t (okS_t hK))) hl
  refine va_aldq (D := (dC, dI)) hx hb hK0 hP i t hi (ht cA) (i_in h1 h2 ha) hd ?_
  rw [i_cl ha, Int.toNat_of_nonneg h1]
  exact h3
theorem st_aast (C : Fr x y cc nL ret tb d mc ms) (hd : decode cc pc = .ok (.aastore, 1)) {k n t v ci : Nat} {f : Int → Option Nat} {vs : List PV} {a : Int} {r : vw_C} (ht : ∀ cA : Nat → ClassId, (TYs cA)[t]? = some (cA t, .object r.1)) (hc : clX[ci]? = some r) (he : h k = some (oA t n f)) (hv : h v = some (oO ci vs)) (h1 : 0 ≤ a) (h2 : a < n) (kk : T x (pc + 1) ls st (hput h k (oA t n (fput f a (some v)))) cl sl) : T x pc ls (vR v :: vI a :: vR k :: st) h cl sl := by
  obtain ⟨p, l, e, R, s, m, args, below, meth, c, dC, dI, cA, H0, Qf, ad0, h0⟩ := x
  obtain ⟨hx, hb, hml, hret, htb, hown, hnm, hlk, hst, hdR, hlR, hcR, hsR, hS0, hTB, hNC, hST, hK0⟩ := C
  intro ad H locs rls hS hR hE hL hK hl
  obtain ⟨dom, hdom, hP, hD, hok⟩ := id hR
  obtain ⟨i, hdi, hi⟩ := ws_at (cA := cA) (ad := ad) hdom he
  obtain ⟨iv, -, hiv⟩ := ws_at (cA := cA) (ad := ad) hdom hv
  have ha : inI a := okS_h (okS_t hK)
  have hn : okE h (oA t n (fput f a (some v))) := fun j z hj => by
    by_cases e1 : j = a
    · subst e1
      rw [fput_s] at hj
      cases hj
      rw [hv]; exact fun q => by cases q
    · rw [fput_o e1] at hj; exact hok k _ he j z hj
  have e1 : va_up (fun j : Nat => (f (j : Int)).map ad) (Int32.ofInt a).toNatClampNeg (some (ad v)) = fun j : Nat => (fput f a (some v) (j : Int)).map ad := by
    funext j
    rw [i_cl ha]
    by_cases e2 : j = a.toNat
    · have e3 : (j : Int) = a := by omega
      simp only [va_up, fput]
      rw [if_pos e2, if_pos e3]
      rfl
    · have e3 : ¬ (j : Int) = a := by omega
      simp only [va_up, fput]
      rw [if_neg e2, if_neg e3]
  refine va_astq (D := (dC, dI)) hx hb hK0 hP hD hS i t iv ci hi (ht cA) hiv hc (i_in h1 h2 ha) hd (fun H1 locs1 hP1 hD1 hS1 => ?_)
  rw [e1] at hP1 hD1
  have hP2 := (ws_set hD hdi (oA t n (fput f a (some v)))) ▸ hP1
  have hD2 := (ws_set hD hdi (oA t n (fput f a (some v)))) ▸ hD1
  have hE1 : Ext ad h ad (hput h k (oA t n (fput f a (some v)))) := ext_put k _
  exact kk ad H1 locs1 rls hS1 (Rw.put hdom hok he hn hP2 hD2) (hE.tr hE1) (okL_ext hE1 hL).1 (okS_ext hE1 (okS_t (okS_t (okS_t hK)))).1 hl
end HEAP
