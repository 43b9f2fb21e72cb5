section CALLS
variable {x : Cx} {y : MethodName} {cc : ByteArray} {nL : Nat} {ret : Option FieldType} {tb : List (Nat × Nat × Nat × Nat)} {d mc ms : Nat} {pc : Nat} {ls : List (Nat × PV)} {st : List PV} {h : HP} {cl sl : Nat}
abbrev PR : Type := Option PV ⊕ String
abbrev Gx : Type := Launch × (Nat → ClassId) × (Nat → Nat → Nat) × (Nat → ClassId) × Heap
def gx (x : Cx) : Gx := match x with
  | (_, l, _, _, _, _, _, _, _, _, dC, dI, cA, H0, _, _, _) => (l, dC, dI, cA, H0)
def PcF (dC : Nat → ClassId) (dI : Nat → Nat → Nat) (cA : Nat → ClassId) (H0 : Heap) (ad : Nat → Nat) (av : List PV) (h : HP) : Array Value → State → Prop := fun a U =>
  a = (av.map (mapV ad)).toArray ∧ Tabs dC dI cA H0 U ∧ va_S (AA H0) H0 U.heap [] ∧ Rw dC dI cA H0 ad h U.heap ∧ ∀ v ∈ av, okV h v
def QcF (dC : Nat → ClassId) (dI : Nat → Nat → Nat) (cA : Nat → ClassId) (H0 : Heap) (ad0 : Nat → Nat) (h0 : HP) (Q : PR → HP → Prop) : Array Value → State → Outcome → State → Prop := fun _ _ o t =>
  ∃ (r : Option PV) (h' : HP) (ad' : Nat → Nat), o = .returned (r.map (mapV ad')) ∧ Q (.inl r) h' ∧ va_S (AA H0) H0 t.heap [] ∧ Rw dC dI cA H0 ad' h' t.heap ∧ Ext ad0 h0 ad' h' ∧ ∀ v, r = some v → okV h' v
def XCF (dC : Nat → ClassId) (dI : Nat → Nat → Nat) (cA : Nat → ClassId) (H0 : Heap) (ad0 : Nat → Nat) (h0 : HP) (Q : PR → HP → Prop) : String → State → State → Prop := fun E _ t =>
  ∃ (h' : HP) (ad' : Nat → Nat), Q (.inr E) h' ∧ va_S (AA H0) H0 t.heap [] ∧ Rw dC dI cA H0 ad' h' t.heap ∧ Ext ad0 h0 ad' h'
def FinQ (x : Cx) (mc ms : Nat) (Q : PR → HP → Prop) : Prop := match x with
  | (_, _, _, _, s, _, args, below, _, _, dC, dI, cA, H0, Qf, ad0, h0) => Qf = vx_MQ below (QcF dC dI cA H0 ad0 h0 Q) (XCF dC dI cA H0 ad0 h0 Q) args s mc ms (AA H0)
def rmD (d mc ms : Nat) : Room := { frames := d, cells := mc, slots := ms, locals := 40 * d + 100 }
/-- method z, called with av in a world h, comes to its end with Q: the answer or the exception's class, the world then -/
def Ct (g : Gx) (z : MethodName) (cw : Cond) (d mc ms : Nat) (av : List PV) (h : HP) (Q : PR → HP → Prop) : Prop := match g with
  | (l, dC, dI, cA, H0) => l.stackTraces = false → ∀ ad : Nat → Nat, vx_Met l z [cw] (rmD d mc ms) (PcF dC dI cA H0 ad av h) (QcF dC dI cA H0 ad h Q) (XCF dC dI cA H0 ad h Q) mc ms (AA H0)
theorem S_nil {A : Nat → Prop} {H0 H : Heap} {locs : List Loc} (h : va_S A H0 H locs) : va_S A H0 H [] := ⟨h.1, h.2.1, fun _ hm => nomatch hm⟩
theorem fin_ret {p : Program} {l : Launch} {e : Env} {R : Room} {s : State} {m : MethodId} {args : Array Value} {below : List Frame} {meth : Method} {c : Code} {dC : Nat → ClassId} {dI : Nat → Nat → Nat} {cA : Nat → ClassId} {H0 H : Heap} {Qf : State → Prop} {ad0 : Nat → Nat} {h0 : HP} {Q : PR → HP → Prop} {locs : List Loc} {g : JFrame}
    (hF : Qf = vx_MQ below (QcF dC dI cA H0 ad0 h0 Q) (XCF dC dI cA H0 ad0 h0 Q) args s mc ms (AA H0)) (hc : cl ≤ mc) (hs : sl ≤ ms) (k : W p l e R s m args below meth c H locs mc ms (MQ below (QcF dC dI cA H0 ad0 h0 Q) args s mc ms (AA H0)) g) : W p l e R s m args below meth c H locs cl sl Qf g := by
  subst hF
  exact W.widen hc hs (vx_ret k)
theorem st_ireturn (C : Fr x y cc nL ret tb d mc ms) {Q : PR → HP → Prop} (F : FinQ x mc ms Q) {a : Int} (hd : decode cc pc = .ok (.ireturn, 1)) (hrt : ret = some .int) (hq : Q (.inl (some (vI a))) h) (hc : cl ≤ mc) (hs : sl ≤ ms) : T x pc ls [vI a] h cl sl := by
  obtain ⟨p, l, e, R, s, m, args, below, meth, c, dC, dI, cA, H0, Qf, ad0, h0⟩ := x
  obtain ⟨hx, hb, hml, hret, htb, hown, hnm, hlk, hst, hdR, hlR, hcR, hsR, hS0, hTB, hNC, hST, hK0⟩ := C
  intro ad H locs rls hS hR hE hL hK hl
  exact fin_ret F hc hs (W.iret (v := Int32.ofInt a) hx hb (hret.trans hrt) (fun t ht hW => ⟨some (vI a), h, ad, rfl, hq, by rw [ht]; exact S_nil hS, by rw [ht]; exact hR, hE, fun v hv => by cases hv; exact okS_h hK⟩) hS.2.2 hd)
theorem st_zreturn (C : Fr x y cc nL ret tb d mc ms) {Q : PR → HP → Prop} (F : FinQ x mc ms Q) {a : Int} (hd : decode cc pc = .ok (.ireturn, 1)) (hrt : ret = some .boolean) (ha : a = 0 ∨ a = 1) (hq : Q (.inl (some (vI a))) h) (hc : cl ≤ mc) (hs : sl ≤ ms) : T x pc ls [vI a] h cl sl := by
  obtain ⟨p, l, e, R, s, m, args, below, meth, c, dC, dI, cA, H0, Qf, ad0, h0⟩ := x
  obtain ⟨hx, hb, hml, hret, htb, hown, hnm, hlk, hst, hdR, hlR, hcR, hsR, hS0, hTB, hNC, hST, hK0⟩ := C
  intro ad H locs rls hS hR hE hL hK hl
  exact fin_ret F hc hs (W.zret (v := Int32.ofInt a) hx hb (hret.trans hrt) (fit_bool ha ad).1 (fun t ht hW => ⟨some (vI a), h, ad, rfl, hq, by rw [ht]; exact S_nil hS, by rw [ht]; exact hR, hE, fun v hv => by cases hv; exact okS_h hK⟩) hS.2.2 hd)
theorem st_return (C : Fr x y cc nL ret tb d mc ms) {Q : PR → HP → Prop} (F : FinQ x mc ms Q) (hd : decode cc pc = .ok (.return_, 1)) (hrt : ret = none) (hq : Q (.inl none) h) (hc : cl ≤ mc) (hs : sl ≤ ms) : T x pc ls [] h cl sl := by
  obtain ⟨p, l, e, R, s, m, args, below, meth, c, dC, dI, cA, H0, Qf, ad0, h0⟩ := x
  obtain ⟨hx, hb, hml, hret, htb, hown, hnm, hlk, hst, hdR, hlR, hcR, hsR, hS0, hTB, hNC, hST, hK0⟩ := C
  intro ad H locs rls hS hR hE hL hK hl
  exact fin_ret F hc hs (W.vret hx hb (hret.trans hrt) (fun t ht hW => ⟨none, h, ad, rfl, hq, by rw [ht]; exact S_nil hS, by rw [ht]; exact hR, hE, fun v hv => nomatch hv⟩) hS.2.2 hd)
theorem st_areturn (C : Fr x y cc nL ret tb d mc ms) {Q : PR → HP → Prop} (F : FinQ x mc ms Q) {a : Nat} {Cn : String} (hd : decode cc pc = .ok (.areturn, 1)) (hrt : ret = some (.object Cn)) (hq : Q (.inl (some (vR a))) h) (hc : cl ≤ mc) (hs : sl ≤ ms) : T x pc ls [vR a] h cl sl := by
  obtain ⟨p, l, e, R, s, m, args, below, meth, c, dC, dI, cA, H0, Qf, ad0, h0⟩ := x
  obtain ⟨hx, hb, hml, hret, htb, hown, hnm, hlk, hst, hdR, hlR, hcR, hsR, hS0, hTB, hNC, hST, hK0⟩ := C
  intro ad H locs rls hS hR hE hL hK hl
  exact fin_ret F hc hs (W.aret (v := .ref (ad a)) hx hb (hret.trans hrt) (Or.inl ⟨_, rfl⟩) (Or.inr ⟨_, rfl⟩) (fun t ht hW => ⟨some (vR a), h, ad, rfl, hq, by rw [ht]; exact S_nil hS, by rw [ht]; exact hR, hE, fun v hv => by cases hv; exact okS_h hK⟩) hS.2.2 hd)
theorem st_lreturn (C : Fr x y cc nL ret tb d mc ms) {Q : PR → HP → Prop} (F : FinQ x mc ms Q) {a : Int} (hd : decode cc pc = .ok (.lreturn, 1)) (hrt : ret = some .long) (hq : Q (.inl (some (vL a))) h) (hc : cl ≤ mc) (hs : sl ≤ ms) : T x pc ls [vL a] h cl sl := by
  obtain ⟨p, l, e, R, s, m, args, below, meth, c, dC, dI, cA, H0, Qf, ad0, h0⟩ := x
  obtain ⟨hx, hb, hml, hret, htb, hown, hnm, hlk, hst, hdR, hlR, hcR, hsR, hS0, hTB, hNC, hST, hK0⟩ := C
  intro ad H locs rls hS hR hE hL hK hl
  exact fin_ret F hc hs (W.lret (v := Int64.ofInt a) hx hb (hret.trans hrt) (fun t ht hW => ⟨some (vL a), h, ad, rfl, hq, by rw [ht]; exact S_nil hS, by rw [ht]; exact hR, hE, fun v hv => by cases hv; exact okS_h hK⟩) hS.2.2 hd)
theorem st_freturn (C : Fr x y cc nL ret tb d mc ms) {Q : PR → HP → Prop} (F : FinQ x mc ms Q) {a : UInt32} (hd : decode cc pc = .ok (.freturn, 1)) (hrt : ret = some .float) (hq : Q (.inl (some (vF a))) h) (hc : cl ≤ mc) (hs : sl ≤ ms) : T x pc ls [vF a] h cl sl := by
  obtain ⟨p, l, e, R, s, m, args, below, meth, c, dC, dI, cA, H0, Qf, ad0, h0⟩ := x
  obtain ⟨hx, hb, hml, hret, htb, hown, hnm, hlk, hst, hdR, hlR, hcR, hsR, hS0, hTB, hNC, hST, hK0⟩ := C
  intro ad H locs rls hS hR hE hL hK hl
  exact fin_ret F hc hs (W.fret (v := a) hx hb (hret.trans hrt) (fun t ht hW => ⟨some (vF a), h, ad, rfl, hq, by rw [ht]; exact S_nil hS, by rw [ht]; exact hR, hE, fun v hv => by cases hv; exact trivial⟩) hS.2.2 hd)
theorem st_dreturn (C : Fr x y cc nL ret tb d mc ms) {Q : PR → HP → Prop} (F : FinQ x mc ms Q) {a : UInt64} (hd : decode cc pc = .ok (.dreturn, 1)) (hrt : ret = some .double) (hq : Q (.inl (some (vD a))) h) (hc : cl ≤ mc) (hs : sl ≤ ms) : T x pc ls [vD a] h cl sl := by
  obtain ⟨p, l, e, R, s, m, args, below, meth, c, dC, dI, cA, H0, Qf, ad0, h0⟩ := x
  obtain ⟨hx, hb, hml, hret, htb, hown, hnm, hlk, hst, hdR, hlR, hcR, hsR, hS0, hTB, hNC, hST, hK0⟩ := C
  intro ad H locs rls hS hR hE hL hK hl
  exact fin_ret F hc hs (W.dret (v := a) hx hb (hret.trans hrt) (fun t ht hW => ⟨some (vD a), h, ad, rfl, hq, by rw [ht]; exact S_nil hS, by rw [ht]; exact hR, hE, fun v hv => by cases hv; exact trivial⟩) hS.2.2 hd)
/-! throws -/
theorem Rw.grow {dC : Nat → ClassId} {dI : Nat → Nat → Nat} {cA : Nat → ClassId} {H0 H H1 : Heap} {ad : Nat → Nat} (hR : Rw dC dI cA H0 ad h H) (hk : ∀ q : Nat, q < H.size → H1[q]? = H[q]?) : Rw dC dI cA H0 ad h H1 := by
  obtain ⟨dom, hdom, hP, hD, hok⟩ := hR
  exact ⟨dom, hdom, hP.kept (fun k q hq => hk q.1 ((hP k q hq).lt)), hD, hok⟩
def exN : List String := ["java/lang/RuntimeException", "java/lang/Exception"]
def XW (own : String) (ik : Nat) (E : String) (ic : Nat) : Prop := Bundle.fit E = true ∧ (∀ n ∈ exN, Bundle.fit n = true) ∧ (∀ w ∈ Cond.classLink own ik E :: Cond.initialized E :: vx_at0 own ic E exN, w ∈ lw_tbl ∧ gw w = true ∧ vx_ot w = true)
theorem st_throw (C : Fr x y cc nL ret [] d mc ms) {Q : PR → HP → Prop} (F : FinQ x mc ms Q) {E : String} {ik ic : Nat} (d0 : decode cc pc = .ok (.new ik, 3)) (d3 : decode cc (pc + 3) = .ok (.dup, 1)) (d4 : decode cc (pc + 4) = .ok (.invokespecial ic, 3)) (d7 : decode cc (pc + 7) = .ok (.athrow, 1))
    (hw : XW y.cls ik E ic) (hd6 : 6 ≤ d) (hq : Q (.inr E) h) (hc : cl + 1 ≤ mc) (hs : sl + 6 ≤ ms) : T x pc ls [] h cl sl := by
  obtain ⟨p, l, e, R, s, m, args, below, meth, c, dC, dI, cA, H0, Qf, ad0, h0⟩ := x
  obtain ⟨hx, hb, hml, hret, htb, hown, hnm, hlk, hst, hdR, hlR, hcR, hsR, hS0, hTB, hNC, ⟨hU, hN, hSl⟩, hK0⟩ := C
  intro ad H locs rls hS hR hE hL hK hl
  obtain ⟨f1, f2, f3⟩ := hw
  intro T0 hT0 X0
  have hsz : s.heap.size ≤ H.size := by
    have h1 := X0.same.2.1
    rw [← hT0]; exact h1
  have keep : ∀ a : Nat, a < H0.size → ¬ AA H0 a → s.heap[a]? = H0[a]? := hS0.2.1
  have hS9 : va_S (AA H0) s.heap H locs := ⟨hsz, fun q h1 h2 => by
    have hq0 : q < H0.size := Nat.lt_of_not_le h2
    rw [hS.2.1 q hq0 h2, hS0.2.1 q hq0 h2], hS.2.2⟩
  have hF : Qf = vx_MQ below (QcF dC dI cA H0 ad0 h0 Q) (XCF dC dI cA H0 ad0 h0 Q) args s mc ms (AA H0) := F
  subst hF
  refine vx_throw0 (A := AA H0) (names := exN) hx hb hst hown f1 f2 (hTB.at (f3 _ List.mem_cons_self).1 (f3 _ List.mem_cons_self).2.1) (hTB.at (f3 _ (List.mem_cons_of_mem _ List.mem_cons_self)).1 (f3 _ (List.mem_cons_of_mem _ List.mem_cons_self)).2.1)
    (fun w hw => hTB.at (f3 w (List.mem_cons_of_mem _ (List.mem_cons_of_mem _ hw))).1 (f3 w (List.mem_cons_of_mem _ (List.mem_cons_of_mem _ hw))).2.1) (fun w hw => (f3 w hw).2.2)
    (hU.kept keep) (hN.kept keep) hS9 hl.1 d0 d3 d4 d7 (fun z hz => ?_) ?_ ?_ (Nat.le_trans hc hcR) (Nat.le_trans hs hsR) hlk (fun t hal h1 h2 => ?_) hS.2.2 hc hs T0 hT0 X0
  · rw [htb] at hz; exact nomatch hz
  · show 2 + 3 < R.frames; omega
  · show 0 + (13 * (2 + 1) + 42) ≤ R.locals; omega
  · refine ⟨h, ad, hq, ⟨Nat.le_trans hS.1 h1, fun q h3 h4 => ?_, fun _ hm => nomatch hm⟩, hR.grow h2, hE⟩
    rw [h2 q (Nat.lt_of_lt_of_le h3 hS.1)]
    exact hS.2.1 q h3 h4
/-- not caught here -/
theorem st_out (C : Fr x y cc nL ret [] d mc ms) {Q : PR → HP → Prop} (F : FinQ x mc ms Q) {E : String} (hq : Q (.inr E) h) (hc : cl ≤ mc) (hs : sl ≤ ms) : TX x pc ls h cl sl E := by
  obtain ⟨p, l, e, R, s, m, args, below, meth, c, dC, dI, cA, H0, Qf, ad0, h0⟩ := x
  obtain ⟨hx, hb, hml, hret, htb, hown, hnm, hlk, hst, hdR, hlR, hcR, hsR, hS0, hTB, hNC, hST, hK0⟩ := C
  intro ad H locs rls rest q ce hS hR hE hL hl h1 h2 h3
  have hF : Qf = vx_MQ below (QcF dC dI cA H0 ad0 h0 Q) (XCF dC dI cA H0 ad0 h0 Q) args s mc ms (AA H0) := F
  subst hF
  exact vx_out (fun z hz => by rw [htb] at hz; exact nomatch hz) hlk h1 h2 h3 (fun t ht hal => ⟨h, ad, hq, by rw [ht]; exact S_nil hS, by rw [ht]; exact hR, hE⟩) hS.2.2 hc hs
/-! calls -/
def pushR (r : Option PV) (st : List PV) : List PV := match r with
  | none => st
  | some v => v :: st
def Ko (x : Cx) (pc : Nat) (ls : List (Nat × PV)) (st : List PV) (cl sl : Nat) (r : PR) (h' : HP) : Prop := match r with
  | .inl r => T x (pc + 3) ls (pushR r st) h' cl sl
  | .inr E => TX x pc ls h' cl sl E
theorem blindPc {dC : Nat → ClassId} {dI : Nat → Nat → Nat} {cA : Nat → ClassId} {H0 : Heap} {ad : Nat → Nat} {av : List PV} : FrameBlind (PcF dC dI cA H0 ad av h) := by
  intro a U g mk hp
  obtain ⟨h1, h2, h3, h4, h5⟩ := hp
  exact ⟨h1, h2.warm (s := U) (U := U.calling g mk a) (State.WarmedH.refl U), h3, h4, h5⟩
theorem run_go {p : Program} {l : Launch} {e : Env} {R : Room} {s : State} {m : MethodId} {args : Array Value} {below : List Frame} {meth : Method} {c : Code} {dC : Nat → ClassId} {dI : Nat → Nat → Nat} {cA : Nat → ClassId} {H0 H : Heap} {Qf : State → Prop} {ad0 ad : Nat → Nat} {h0 : HP} {Q : PR → HP → Prop} {locs : List Loc} {rls : Array Slot} {st0 : List Value} {mz sz : Nat} {a : Array Value}
    (hr : vx_Run p l e R s m args below meth c H locs cl sl mz sz (F0 m pc rls st0) (st.map (mapV ad)) (QcF dC dI cA H0 ad h Q a) (XCF dC dI cA H0 ad h Q) (AA H0)) (hS : va_S (AA H0) H0 H locs) (hE : Ext ad0 h0 ad h) (hL : ∀ q ∈ ls, okV h q.2) (hK : ∀ v ∈ st, okV h v) (hl : lv_has rls c.maxLocals (ls.map (fun q => (q.1, mapV ad q.2))))
    (kk : ∀ (r : PR) (h' : HP), Q r h' → Ko (p, l, e, R, s, m, args, below, meth, c, dC, dI, cA, H0, Qf, ad0, h0) pc ls st (cl + mz) (sl + sz) r h') : W p l e R s m args below meth c H locs cl sl Qf (F0 m pc rls st0) := by
  intro T0 hT0 X0
  rcases hr T0 hT0 X0 with ⟨v, st₀, t, T', L, e0, X', hLf, e1, e2, ⟨r, h', ad', hv, hQ, hS', hR', hE', hok⟩, stp⟩ | ⟨q, st₀, t, T', L, E, ce, e0, X', hLf, e1, e2, ⟨h', ad', hQ, hS', hR', hE'⟩, hce, hcv, hcl, stp⟩
  · have hv : v = r.map (mapV ad') := Outcome.returned.inj hv
    subst hv
    have hL1 := okL_ext hE' hL
    have hK1 := okS_ext hE' hK
    have k1 := kk (.inl r) h' hQ ad' T'.heap (locs ++ L) rls ⟨by rw [e1]; exact hS'.1, by rw [e1]; exact hS'.2.1, fun z hz => (List.mem_append.mp hz).elim (hS.2.2 z) (hLf z)⟩ (by rw [e1]; exact hR') (hE.tr hE') hL1.1
      (by cases r with
        | none => exact hK1.1
        | some v => exact okS_c (hok v rfl) hK1.1) (by rw [hL1.2]; exact hl)
    obtain ⟨t2, a1, b1⟩ := k1 T' rfl X'
    refine ⟨t2, stp t2 ?_, b1⟩
    have e3 : (pushR r st).map (mapV ad') = (r.map (mapV ad')).toList ++ st.map (mapV ad) := by
      cases r with
      | none => exact hK1.2
      | some v => exact congrArg (mapV ad' v :: ·) hK1.2
    rw [e3] at a1
    exact a1
  · have hL1 := okL_ext hE' hL
    have k1 := kk (.inr E) h' hQ ad' T'.heap (locs ++ L) rls (st.map (mapV ad)) q ce ⟨by rw [e1]; exact hS'.1, by rw [e1]; exact hS'.2.1, fun z hz => (List.mem_append.mp hz).elim (hS.2.2 z) (hLf z)⟩ (by rw [e1]; exact hR') (hE.tr hE') hL1.1 (by rw [hL1.2]; exact hl) (by rw [e1]; exact hce) hcv hcl
    obtain ⟨t2, a1, b1⟩ := k1 T' rfl X'
    exact ⟨t2, stp.trans a1, b1⟩
theorem run_goM {p : Program} {l : Launch} {e : Env} {R : Room} {s : State} {m : MethodId} {args : Array Value} {below : List Frame} {meth : Method} {c : Code} {H : Heap} {locs : List Loc} {mz sz : Nat} {g : JFrame} {rest : List Value} {Qa : State → Outcome → State → Prop} {XC : String → State → State → Prop} {free : Addr → Prop} (hr : va_Run p l e R s m args below meth c H locs cl sl mz sz g rest Qa free) :
    vx_Run p l e R s m args below meth c H locs cl sl mz sz g rest Qa XC free := fun T0 hT0 X0 => Or.inl (hr T0 hT0 X0)
def catS (st : List PV) : Nat := (st.map (fun v => if cat2 v then 2 else 1)).sum
theorem catS_map {ad : Nat → Nat} : ((st.map (mapV ad)).map fun v => v.category).sum = catS st := by
  unfold catS
  rw [List.map_map]
  congr 1
  exact List.map_congr_left (fun v _ => mapV_cat ad v)
/-- the words of a call of a static method -/
def WS (own : String) (idx : Nat) (z : MethodName) (cw : Cond) (n : Nat) : Prop := Cond.methodLink own idx z ∈ lw_tbl ∧ Cond.static z ∈ lw_tbl ∧ Cond.initialized z.cls ∈ lw_tbl ∧ cw ∈ lw_tbl ∧ gw cw = true ∧ (z.cls ≠ "java/lang/invoke/MethodHandle" ∧ z.cls ≠ "java/lang/invoke/VarHandle") ∧ (parseMethodDescriptor z.desc).map (fun q => q.parameters.length) = some n
def WV (own : String) (idx ci : Nat) (z : MethodName) (cw : Cond) (n : Nat) : Prop := Cond.methodLink own idx z ∈ lw_tbl ∧ Cond.instanceMethod z ∈ lw_tbl ∧ Cond.selects z.cls z z ∈ lw_tbl ∧ Cond.initialized z.cls ∈ lw_tbl ∧ cw ∈ lw_tbl ∧ gw cw = true ∧ (z.cls ≠ "java/lang/invoke/MethodHandle" ∧ z.cls ≠ "java/lang/invoke/VarHandle") ∧ (parseMethodDescriptor z.desc).map (fun q => q.parameters.length) = some n ∧ ∃ r : vw_C, clX[ci]? = some r ∧ r.1 = z.cls
def WI (own : String) (idx : Nat) (z : MethodName) (cw : Cond) (n : Nat) : Prop := Cond.methodLink own idx z ∈ lw_tbl ∧ Cond.instanceMethod z ∈ lw_tbl ∧ Cond.initialized z.cls ∈ lw_tbl ∧ cw ∈ lw_tbl ∧ gw cw = true ∧ (z.cls ≠ "java/lang/invoke/MethodHandle" ∧ z.cls ≠ "java/lang/invoke/VarHandle") ∧ (parseMethodDescriptor z.desc).map (fun q => q.parameters.length) = some n ∧ z.name = "<init>"
def WN (own : String) (idx : Nat) (z : MethodName) (host : String) (cw : Cond) (n : Nat) : Prop := Cond.methodLinkNest own idx z host ∈ lw_tbl ∧ Cond.instanceMethod z ∈ lw_tbl ∧ Cond.initialized z.cls ∈ lw_tbl ∧ cw ∈ lw_tbl ∧ gw cw = true ∧ (z.cls ≠ "java/lang/invoke/MethodHandle" ∧ z.cls ≠ "java/lang/invoke/VarHandle") ∧ (parseMethodDescriptor z.desc).map (fun q => q.parameters.length) = some n ∧ z.name = "<init>"
theorem parse_n {z : MethodName} {n : Nat} (h : (parseMethodDescriptor z.desc).map (fun q => q.parameters.length) = some n) : ∀ sig, parseMethodDescriptor z.desc = some sig → n = sig.parameters.length := fun sig hs => by
  rw [hs] at h
  exact (Option.some.inj h).symm
theorem st_callS (C : Fr x y cc nL ret tb d mc ms) {idx : Nat} (hd : decode cc pc = .ok (.invokestatic idx, 3)) {z : MethodName} {bytes : ByteArray} {maxL : Nat} {rt : Option FieldType} {n dz mz sz : Nat} {Q : PR → HP → Prop} (av : List PV) (hc : Ct (gx x) z (.code z bytes maxL rt) dz mz sz av h Q) (hw : WS y.cls idx z (.code z bytes maxL rt) n) (hn : av.length = n)
    (hdz : dz + 1 ≤ d) (hmL : maxL ≤ 21) (hcm : cl + mz ≤ mc) (hsm : sl + sz ≤ ms) (hcat : catS st ≤ 8) (kk : ∀ (r : PR) (h' : HP), Q r h' → Ko x pc ls st (cl + mz) (sl + sz) r h') : T x pc ls (av.reverse ++ st) h cl sl := by
  obtain ⟨p, l, e, R, s, m, args, below, meth, c, dC, dI, cA, H0, Qf, ad0, h0⟩ := x
  obtain ⟨hx, hb, hml, hret, htb, hown, hnm, hlk, hst, hdR, hlR, hcR, hsR, hS0, hTs⟩ := C
  obtain ⟨hTB, hNC, hST, hK0⟩ := id hTs
  intro ad H locs rls hS hR hE hL hK hl
  obtain ⟨w1, w2, w3, w4, w5, w6, w7⟩ := hw
  have hKa : ∀ v ∈ av, okV h v := fun v hv => hK v (List.mem_append_left _ (List.mem_reverse.mpr hv))
  have hKs : ∀ v ∈ st, okV h v := fun v hv => hK v (List.mem_append_right _ hv)
  have e1 : (av.reverse ++ st).map (mapV ad) = (av.map (mapV ad)).reverse ++ st.map (mapV ad) := by rw [List.map_append, List.map_reverse]
  rw [e1]
  refine run_go (a := (av.map (mapV ad)).toArray) (vx_runS (Ts := []) (n := n) ⟨hx, hb, hml, hown, fun _ h9 => nomatch h9⟩ (hc hst ad) ⟨⟨rfl, rfl, ?_, ?_, ?_, List.mem_cons_self, hTB.at w4 w5, hTB.at w3 rfl, w6, parse_n w7, hTB.at w1 rfl⟩, hTB.at w2 rfl⟩ ⟨blindPc, fun U hU hW => ⟨rfl, hTs.warm hW, by rw [hU]; exact S_nil hS, by rw [hU]; exact hR, hKa⟩⟩ rfl (by rw [List.length_map]; exact hn) (hl.1.trans hml) rfl ?_ hd ⟨Nat.le_trans hcm hcR, Nat.le_trans hsm hsR⟩) hS hE hL hKs hl kk
  · show dz + 1 ≤ R.frames; omega
  · show 8 + (maxL + 11) + (40 * dz + 100) ≤ R.locals; omega
  · intro w hw9 a' U hW
    cases List.mem_singleton.mp hw9
    exact hTB _ w4 w5 a' U hW
  · exact lv_room (by rw [catS_map]; exact hcat)
theorem st_callV (C : Fr x y cc nL ret tb d mc ms) {idx : Nat} (hd : decode cc pc = .ok (.invokevirtual idx, 3)) {z : MethodName} {bytes : ByteArray} {maxL : Nat} {rt : Option FieldType} {n dz mz sz k ci : Nat} {fs : List PV} {Q : PR → HP → Prop} (av : List PV) (hc : Ct (gx x) z (.code z bytes maxL rt) dz mz sz (vR k :: av) h Q) (he : h k = some (oO ci fs)) (hw : WV y.cls idx ci z (.code z bytes maxL rt) n) (hn : av.length = n)
    (hdz : dz + 1 ≤ d) (hmL : maxL ≤ 21) (hcm : cl + mz ≤ mc) (hsm : sl + sz ≤ ms) (hcat : catS st ≤ 8) (kk : ∀ (r : PR) (h' : HP), Q r h' → Ko x pc ls st (cl + mz) (sl + sz) r h') : T x pc ls (av.reverse ++ vR k :: st) h cl sl := by
  obtain ⟨p, l, e, R, s, m, args, below, meth, c, dC, dI, cA, H0, Qf, ad0, h0⟩ := x
  obtain ⟨hx, hb, hml, hret, htb, hown, hnm, hlk, hst, hdR, hlR, hcR, hsR, hS0, hTs⟩ := C
  obtain ⟨hTB, hNC, hST, hK0⟩ := id hTs
  intro ad H locs rls hS hR hE hL hK hl
  obtain ⟨w1, w2, w2b, w3, w4, w5, w6, w7, r9, w8, w9⟩ := hw
  have hKk : okV h (vR k) := hK _ (List.mem_append_right _ List.mem_cons_self)
  have hKa : ∀ v ∈ vR k :: av, okV h v := okS_c hKk (fun v hv => hK v (List.mem_append_left _ (List.mem_reverse.mpr hv)))
  have hKs : ∀ v ∈ st, okV h v := fun v hv => hK v (List.mem_append_right _ (List.mem_cons_of_mem _ hv))
  have e1 : (av.reverse ++ vR k :: st).map (mapV ad) = (av.map (mapV ad)).reverse ++ .ref (ad k) :: st.map (mapV ad) := by rw [List.map_append, List.map_reverse]; rfl
  rw [e1]
  obtain ⟨dom, hdom, hP, hD, hok⟩ := id hR
  obtain ⟨i, -, hi⟩ := ws_at (cA := cA) (ad := ad) hdom he
  have hrec := va_recv hK0 hP w8 hi
  rw [w9] at hrec
  refine run_go (a := (Value.ref (ad k) :: av.map (mapV ad)).toArray) (vx_runV (C := z.cls) (Ts := []) (n := n) ⟨hx, hb, hml, hown, fun _ h9 => nomatch h9⟩ (hc hst ad) ⟨⟨rfl, rfl, ?_, ?_, ?_, List.mem_cons_self, hTB.at w4 w5, hTB.at w3 rfl, w6, parse_n w7, hTB.at w1 rfl⟩, hTB.at w2 rfl, hTB.at w2b rfl⟩ ⟨blindPc, hrec, fun U hU hW => ⟨rfl, hTs.warm hW, by rw [hU]; exact S_nil hS, by rw [hU]; exact hR, hKa⟩⟩ rfl (by rw [List.length_map]; exact hn) (hl.1.trans hml) rfl ?_ hd ⟨Nat.le_trans hcm hcR, Nat.le_trans hsm hsR⟩) hS hE hL hKs hl kk
  · show dz + 1 ≤ R.frames; omega
  · show 8 + (maxL + 11) + (40 * dz + 100) ≤ R.locals; omega
  · intro w hw9 a' U hW
    cases List.mem_singleton.mp hw9
    exact hTB _ w4 w5 a' U hW
  · exact lv_room (by rw [catS_map]; exact hcat)
theorem Ct.met {l : Launch} {dC : Nat → ClassId} {dI : Nat → Nat → Nat} {cA : Nat → ClassId} {H0 : Heap} {z : MethodName} {cw : Cond} {dz mz sz : Nat} {av : List PV} {Q : PR → HP → Prop} (hc : Ct (l, dC, dI, cA, H0) z cw dz mz sz av h Q) (hst : l.stackTraces = false) (hno : ∀ E h', ¬ Q (.inr E) h') (ad : Nat → Nat) : Met l z [cw] (rmD dz mz sz) (PcF dC dI cA H0 ad av h) (QcF dC dI cA H0 ad h Q) mz sz (AA H0) := by
  have h1 := hc hst ad
  have e1 : vx_Q (QcF dC dI cA H0 ad h Q) (XCF dC dI cA H0 ad h Q) mz sz (AA H0) = fun a st o t => QcF dC dI cA H0 ad h Q a st o t ∧ ∃ L, FrameEnd st o t L mz sz ∧ ∀ q ∈ L, AA H0 q.base := by
    funext a st o t
    refine propext ⟨fun hh => hh.elim id (fun hh => ?_), Or.inl⟩
    obtain ⟨q, -, E, ce, L, ⟨h', ad', hQ, -⟩, -⟩ := hh
    exact absurd hQ (hno E h')
  unfold vx_Met at h1
  rw [e1] at h1
  exact h1
theorem st_callI (C : Fr x y cc nL ret tb d mc ms) {idx : Nat} (hd : decode cc pc = .ok (.invokespecial idx, 3)) {z : MethodName} {bytes : ByteArray} {maxL : Nat} {n dz mz sz k : Nat} {Q : PR → HP → Prop} (av : List PV) (hc : Ct (gx x) z (.code z bytes maxL none) dz mz sz (vR k :: av) h Q) (hno : ∀ E h', ¬ Q (.inr E) h') (hw : WI y.cls idx z (.code z bytes maxL none) n) (hn : av.length = n)
    (hdz : dz + 1 ≤ d) (hmL : maxL ≤ 21) (hcm : cl + mz ≤ mc) (hsm : sl + sz ≤ ms) (hcat : catS st ≤ 8) (kk : ∀ (r : PR) (h' : HP), Q r h' → Ko x pc ls st (cl + mz) (sl + sz) r h') : T x pc ls (av.reverse ++ vR k :: st) h cl sl := by
  obtain ⟨p, l, e, R, s, m, args, below, meth, c, dC, dI, cA, H0, Qf, ad0, h0⟩ := x
  obtain ⟨hx, hb, hml, hret, htb, hown, hnm, hlk, hst, hdR, hlR, hcR, hsR, hS0, hTs⟩ := C
  obtain ⟨hTB, hNC, hST, hK0⟩ := id hTs
  intro ad H locs rls hS hR hE hL hK hl
  obtain ⟨w1, w2, w3, w4, w5, w6, w7, w8⟩ := hw
  have hKk : okV h (vR k) := hK _ (List.mem_append_right _ List.mem_cons_self)
  have hKa : ∀ v ∈ vR k :: av, okV h v := okS_c hKk (fun v hv => hK v (List.mem_append_left _ (List.mem_reverse.mpr hv)))
  have hKs : ∀ v ∈ st, okV h v := fun v hv => hK v (List.mem_append_right _ (List.mem_cons_of_mem _ hv))
  have e1 : (av.reverse ++ vR k :: st).map (mapV ad) = (av.map (mapV ad)).reverse ++ .ref (ad k) :: st.map (mapV ad) := by rw [List.map_append, List.map_reverse]; rfl
  rw [e1]
  refine run_go (a := (Value.ref (ad k) :: av.map (mapV ad)).toArray) (run_goM (va_runI (Ts := []) (n := n) ⟨hx, hb, hml, hown, fun _ h9 => nomatch h9⟩ (Ct.met hc hst hno ad) ⟨⟨rfl, rfl, ?_, ?_, ?_, List.mem_cons_self, hTB.at w4 w5, hTB.at w3 rfl, w6, parse_n w7, hTB.at w1 rfl⟩, w8, hTB.at w2 rfl⟩ ⟨blindPc, fun U hU hW => ⟨rfl, hTs.warm hW, by rw [hU]; exact S_nil hS, by rw [hU]; exact hR, hKa⟩⟩ rfl (by rw [List.length_map]; exact hn) (hl.1.trans hml) rfl ?_ hd ⟨Nat.le_trans hcm hcR, Nat.le_trans hsm hsR⟩)) hS hE hL hKs hl kk
  · show dz + 1 ≤ R.frames; omega
  · show 8 + (maxL + 11) + (40 * dz + 100) ≤ R.locals; omega
  · intro w hw9 a' U hW
    cases List.mem_singleton.mp hw9
    exact hTB _ w4 w5 a' U hW
  · exact lv_room (by rw [catS_map]; exact hcat)
theorem st_callN (C : Fr x y cc nL ret tb d mc ms) {idx : Nat} (hd : decode cc pc = .ok (.invokespecial idx, 3)) {z : MethodName} {host : String} {bytes : ByteArray} {maxL : Nat} {n dz mz sz k : Nat} {Q : PR → HP → Prop} (av : List PV) (hc : Ct (gx x) z (.code z bytes maxL none) dz mz sz (vR k :: av) h Q) (hno : ∀ E h', ¬ Q (.inr E) h') (hw : WN y.cls idx z host (.code z bytes maxL none) n) (hn : av.length = n)
    (hdz : dz + 1 ≤ d) (hmL : maxL ≤ 21) (hcm : cl + mz ≤ mc) (hsm : sl + sz ≤ ms) (hcat : catS st ≤ 8) (kk : ∀ (r : PR) (h' : HP), Q r h' → Ko x pc ls st (cl + mz) (sl + sz) r h') : T x pc ls (av.reverse ++ vR k :: st) h cl sl := by
  obtain ⟨p, l, e, R, s, m, args, below, meth, c, dC, dI, cA, H0, Qf, ad0, h0⟩ := x
  obtain ⟨hx, hb, hml, hret, htb, hown, hnm, hlk, hst, hdR, hlR, hcR, hsR, hS0, hTs⟩ := C
  obtain ⟨hTB, hNC, hST, hK0⟩ := id hTs
  intro ad H locs rls hS hR hE hL hK hl
  obtain ⟨w1, w2, w3, w4, w5, w6, w7, w8⟩ := hw
  have hKk : okV h (vR k) := hK _ (List.mem_append_right _ List.mem_cons_self)
  have hKa : ∀ v ∈ vR k :: av, okV h v := okS_c hKk (fun v hv => hK v (List.mem_append_left _ (List.mem_reverse.mpr hv)))
  have hKs : ∀ v ∈ st, okV h v := fun v hv => hK v (List.mem_append_right _ (List.mem_cons_of_mem _ hv))
  have e1 : (av.reverse ++ vR k :: st).map (mapV ad) = (av.map (mapV ad)).reverse ++ .ref (ad k) :: st.map (mapV ad) := by rw [List.map_append, List.map_reverse]; rfl
  rw [e1]
  refine run_go (a := (Value.ref (ad k) :: av.map (mapV ad)).toArray) (run_goM (va_runIN (Ts := []) (n := n) ⟨hx, hb, hml, hown, fun _ h9 => nomatch h9⟩ (Ct.met hc hst hno ad) ⟨⟨⟨rfl, rfl, ?_, ?_, ?_, List.mem_cons_self⟩, hTB.at w4 w5, hTB.at w3 rfl, w6, parse_n w7, hTB.at w1 rfl⟩, w8, hTB.at w2 rfl⟩ ⟨blindPc, fun U hU hW => ⟨rfl, hTs.warm hW, by rw [hU]; exact S_nil hS, by rw [hU]; exact hR, hKa⟩⟩ rfl (by rw [List.length_map]; exact hn) (hl.1.trans hml) rfl ?_ hd ⟨Nat.le_trans hcm hcR, Nat.le_trans hsm hsR⟩)) hS hE hL hKs hl kk
  · show dz + 1 ≤ R.frames; omega
  · show 8 + (maxL + 11) + (40 * dz + 100) ≤ R.locals; omega
  · intro w hw9 a' U hW
    cases List.mem_singleton.mp hw9
    exact hTB _ w4 w5 a' U hW
  · exact lv_room (by rw [catS_map]; exact hcat)
/-! a method's contract out of its body -/
def pargs : Nat → List PV → List (Nat × PV)
  | _, [] => []
  | i, v :: vs => (i, v) :: pargs (if cat2 v then i + 2 else i + 1) vs
theorem pargs_map (ad : Nat → Nat) : ∀ (vs : List PV) (i : Nat), lv_args i (vs.map (mapV ad)) = (pargs i vs).map (fun q => (q.1, mapV ad q.2)) := by
  intro vs
  induction vs with
  | nil => intro i; rfl
  | cons v vs ih =>
    intro i
    show (i, mapV ad v) :: lv_args (if (mapV ad v).category = 2 then i + 2 else i + 1) (vs.map (mapV ad)) = (i, mapV ad v) :: (pargs (if cat2 v then i + 2 else i + 1) vs).map (fun q => (q.1, mapV ad q.2))
    rw [mapV_cat]
    cases hc : cat2 v with
    | true => rw [if_pos (by rfl : (if true = true then 2 else 1) = 2), if_pos rfl, ih]
    | false => rw [if_neg (by decide : ¬ (if false = true then 2 else 1) = 2), if_neg (by decide), ih]
theorem pargs_mem {i : Nat} {vs : List PV} : ∀ {q : Nat × PV}, q ∈ pargs i vs → q.2 ∈ vs := by
  induction vs generalizing i with
  | nil => intro q hq; exact nomatch hq
  | cons v vs ih =>
    intro q hq
    rcases List.mem_cons.mp hq with rfl | hq
    · exact List.mem_cons_self
    · exact List.mem_cons_of_mem _ (ih hq)
theorem sl_len (ad : Nat → Nat) (vs : List PV) : (lg_sl (vs.map (mapV ad))).length = catS vs := by
  unfold catS
  induction vs with
  | nil => rfl
  | cons v vs ih =>
    have e1 : lg_sl ((v :: vs).map (mapV ad)) = (if (mapV ad v).category = 2 then [Slot.val (mapV ad v), .second] else [.val (mapV ad v)]) ++ lg_sl (vs.map (mapV ad)) := by
      simp only [lg_sl, List.map_cons, List.flatMap_cons]
    rw [e1, List.length_append, ih, mapV_cat]
    cases hc : cat2 v <;> simp [hc]
theorem Ct.of {g : Gx} {z : MethodName} {cc : ByteArray} {maxL : Nat} {ret : Option FieldType} {d mc ms : Nat} {av : List PV} {Q : PR → HP → Prop} (hy : plainName z.cls = true) (hav : catS av ≤ maxL)
    (body : ∀ x : Cx, gx x = g → Fr x z cc maxL ret [] d mc ms → FinQ x mc ms Q → T x 0 (pargs 0 av) [] h 0 0) : Ct g z (.code z cc maxL ret) d mc ms av h Q := by
  obtain ⟨l, dC, dI, cA, H0⟩ := g
  intro hst ad
  refine vx_ofW (cc := cc) (maxL := maxL) (ret := ret) hy rfl ?_
  intro p e s m args below meth c s₁ B hml ht hv
  obtain ⟨rfl, hTs, hS0, hR, hok⟩ := hv
  have htb : c.exceptionTable.toList = tableOf [] := List.eq_nil_iff_forall_not_mem.mpr ht
  rw [lg_entry_eq]
  have hl := lv_entry (av.map (mapV ad)) (n := maxL) (by rw [sl_len]; exact hav)
  rw [pargs_map, ← hml] at hl
  exact body (p, l, e, rmD d mc ms, s, m, (av.map (mapV ad)).toArray, below, meth, c, dC, dI, cA, H0, _, ad, h) rfl
    ⟨B.exec, B.bytes, hml, B.returns, htb, findClass_of_methodNamed B.named, (name_of_methodNamed B.named B.method).1, B.notSynchronized, hst, Nat.le_refl _, Nat.le_refl _, Nat.le_refl _, Nat.le_refl _, hS0, hTs⟩ rfl
    ad s.heap [] _ hS0 hR (Ext.rf ad h) (fun q hq => hok _ (pargs_mem hq)) (fun _ hm => nomatch hm) (by rw [hml] at hl ⊢; exact hl)
theorem Ct.ofW {g : Gx} {z : MethodName} {cc : ByteArray} {maxL : Nat} {ret : Option FieldType} {tb : List (Nat × Nat × Nat × Nat)} {d mc ms : Nat} {av : List PV} {Q : PR → HP → Prop} (hy : plainName z.cls = true) (hav : catS av ≤ maxL)
    (body : ∀ x : Cx, gx x = g → Fr x z cc maxL ret tb d mc ms → FinQ x mc ms Q → T x 0 (pargs 0 av) [] h 0 0) : Ct g z (.codeWith z cc maxL ret tb) d mc ms av h Q := by
  obtain ⟨l, dC, dI, cA, H0⟩ := g
  intro hst ad
  refine vx_ofWH (cc := cc) (maxL := maxL) (ret := ret) (hh := tb) hy rfl ?_
  intro p e s m args below meth c s₁ B hml hv
  obtain ⟨rfl, hTs, hS0, hR, hok⟩ := hv
  have htb : c.exceptionTable.toList = tableOf tb := vx_table (x := z) B (atoms_spec (ws := [Cond.codeWith z cc maxL ret tb]) B.pre _ List.mem_cons_self)
  rw [lg_entry_eq]
  have hl := lv_entry (av.map (mapV ad)) (n := maxL) (by rw [sl_len]; exact hav)
  rw [pargs_map, ← hml] at hl
  exact body (p, l, e, rmD d mc ms, s, m, (av.map (mapV ad)).toArray, below, meth, c, dC, dI, cA, H0, _, ad, h) rfl
    ⟨B.exec, B.bytes, hml, B.returns, htb, findClass_of_methodNamed B.named, (name_of_methodNamed B.named B.method).1, B.notSynchronized, hst, Nat.le_refl _, Nat.le_refl _, Nat.le_refl _, Nat.le_refl _, hS0, hTs⟩ rfl
    ad s.heap [] _ hS0 hR (Ext.rf ad h) (fun q hq => hok _ (pargs_mem hq)) (fun _ hm => nomatch hm) (by rw [hml] at hl ⊢; exact hl)
end CALLS
