def xIAE : String := "java/lang/IllegalArgumentException"
def xUOE : String := "java/lang/UnsupportedOperationException"
def xISE : String := "java/lang/IllegalStateException"
def xIOB : String := "java/lang/IndexOutOfBoundsException"
def xNSE : String := "java/util/NoSuchElementException"
def xARE : String := "java/lang/ArithmeticException"
def ncL : List (String × String) := [(xUOE, xIAE), (xISE, xIAE), (xISE, xUOE), (xIAE, xIOB), (xNSE, xIOB), (xUOE, xIOB), (xUOE, xIAE), (xISE, xIOB), (xUOE, xNSE), (xISE, xNSE), (xISE, xUOE), (xNSE, xIAE), (xNSE, xISE), (xARE, xIAE)]
def NCs (s : State) : Prop := ∀ q ∈ ncL, va_Nc q.1 q.2 s
def fsV (j : Nat) : Int := match j with
  | 0 => 0
  | 1 => 64
  | 2 => 80
  | _ => 84
def ST (H0 : Heap) (s : State) : Prop := vx_Zq Bundle.tN "UNASSIGNED_STACK" Bundle.steD (AA H0) s H0 ∧ vx_Zq Bundle.tN "SUPPRESSED_SENTINEL" Bundle.listD (AA H0) s H0 ∧
  ∃ t0 : Nat, va_Z RX8 "FIRST_SLOTS" "[I" (.ref t0) (AA H0) s H0 ∧ va_T .int t0 4 (fun j => .int (Int32.ofInt (fsV j))) (AA H0) s H0
def Tabs (dC : Nat → ClassId) (dI : Nat → Nat → Nat) (cA : Nat → ClassId) (H0 : Heap) (s : State) : Prop := TB s ∧ NCs s ∧ ST H0 s ∧ va_K (dC, dI) clX (TYs cA) s
theorem Tabs.warm {dC : Nat → ClassId} {dI : Nat → Nat → Nat} {cA : Nat → ClassId} {H0 : Heap} {s U : State} (h : Tabs dC dI cA H0 s) (hW : s.WarmedH U.vm) : Tabs dC dI cA H0 U := by
  obtain ⟨h1, h2, ⟨h3, h4, t0, h5, h6⟩, h7⟩ := h
  exact ⟨h1.warm hW, fun q hq => (h2 q hq).moved hW.alike, ⟨h3.moved hW.alike, h4.moved hW.alike, t0, h5.moved hW.alike, h6.moved hW.alike⟩, va_K.moved hW.alike h7⟩
/-- a machine's method activation, with the heap at the law's entry, the end that is owed, the names at the method's own entry -/
abbrev Cx : Type := Program × Launch × Env × Room × State × MethodId × Array Value × List Frame × Method × Code × (Nat → ClassId) × (Nat → Nat → Nat) × (Nat → ClassId) × Heap × (State → Prop) × (Nat → Nat) × HP
def T (x : Cx) (pc : Nat) (ls : List (Nat × PV)) (st : List PV) (h : HP) (cl sl : Nat) : Prop := match x with
  | (p, l, e, R, s, m, args, below, meth, c, dC, dI, cA, H0, Qf, ad0, h0) =>
    ∀ (ad : Nat → Nat) (H : Heap) (locs : List Loc) (rls : Array Slot), va_S (AA H0) H0 H locs → Rw dC dI cA H0 ad h H → Ext ad0 h0 ad h → (∀ q ∈ ls, okV h q.2) → (∀ v ∈ st, okV h v) →
      lv_has rls c.maxLocals (ls.map (fun q => (q.1, mapV ad q.2))) → W p l e R s m args below meth c H locs cl sl Qf (F0 m pc rls (st.map (mapV ad)))
/-- .. with an exception of class E thrown over the frame -/
def TX (x : Cx) (pc : Nat) (ls : List (Nat × PV)) (h : HP) (cl sl : Nat) (E : String) : Prop := match x with
  | (p, l, e, R, s, m, args, below, meth, c, dC, dI, cA, H0, Qf, ad0, h0) =>
    ∀ (ad : Nat → Nat) (H : Heap) (locs : List Loc) (rls : Array Slot) (rest : List Value) (q : Addr) (ce : Cell), va_S (AA H0) H0 H locs → Rw dC dI cA H0 ad h H → Ext ad0 h0 ad h → (∀ q ∈ ls, okV h q.2) →
      lv_has rls c.maxLocals (ls.map (fun q => (q.1, mapV ad q.2))) → H[q]? = some ce → ce.vm = .none → s.vm.findClass E = some ce.cls → vx_W p l e R s m args below meth c H locs cl sl Qf (F0 m pc rls rest) q
/-- what is known of an activation: method y, its bytes, locals, return type, handlers; the room -/
def Fr (x : Cx) (y : MethodName) (cc : ByteArray) (nL : Nat) (ret : Option FieldType) (tb : List (Nat × Nat × Nat × Nat)) (d mc ms : Nat) : Prop := match x with
  | (p, l, _, R, s, m, _, _, meth, c, dC, dI, cA, H0, _, _, _) =>
    p.tables.exec = Jvm.exec ∧ c.code = cc ∧ c.maxLocals = nL ∧ meth.sig.returnType = ret ∧ c.exceptionTable.toList = tableOf tb ∧ s.vm.findClass y.cls = some m.cls ∧ meth.name = y.name ∧ meth.locks = false ∧ l.stackTraces = false ∧
    d ≤ R.frames ∧ 40 * d + 100 ≤ R.locals ∧ mc ≤ R.cells ∧ ms ≤ R.slots ∧ va_S (AA H0) H0 s.heap [] ∧ Tabs dC dI cA H0 s
def lget (ls : List (Nat × PV)) (i : Nat) : Option PV := match ls with
  | [] => none
  | (j, v) :: r => cond (Nat.beq j i) (some v) (lget r i)
def lset (ls : List (Nat × PV)) (i : Nat) (v : PV) : List (Nat × PV) := match ls with
  | [] => [(i, v)]
  | (j, w) :: r => cond (Nat.ble i j) ((i, v) :: ((j, w) :: r).filter (fun q => !(Nat.beq q.1 i))) ((j, w) :: lset r i v)
/-- no value of two slots near -/
def lfree (ls : List (Nat × PV)) (i : Nat) (v : PV) : Bool := ls.all (fun q => !(Nat.beq (q.1 + 1) i && cat2 q.2) && !(cat2 v && Nat.beq q.1 (i + 1)))
theorem lget_mem {ls : List (Nat × PV)} {i : Nat} {v : PV} (h : lget ls i = some v) : (i, v) ∈ ls := by
  induction ls with
  | nil => cases h
  | cons a r ih =>
    obtain ⟨j, w⟩ := a
    unfold lget at h
    cases hb : Nat.beq j i with
    | true =>
      rw [hb] at h
      have := Nat.eq_of_beq_eq_true hb
      cases h
      subst this
      exact List.mem_cons_self
    | false =>
      rw [hb] at h
      exact List.mem_cons_of_mem _ (ih h)
theorem lset_mem {ls : List (Nat × PV)} {i : Nat} {v : PV} : ∀ {q : Nat × PV}, q ∈ lset ls i v → q = (i, v) ∨ (q ∈ ls ∧ q.1 ≠ i) := by
  induction ls with
  | nil => intro q hq; exact Or.inl (List.mem_singleton.mp hq)
  | cons a r ih =>
    obtain ⟨j, w⟩ := a
    intro q hq
    unfold lset at hq
    cases hb : Nat.ble i j with
    | true =>
      rw [hb] at hq
      rcases List.mem_cons.mp hq with rfl | hq
      · exact Or.inl rfl
      · obtain ⟨h1, h2⟩ := List.mem_filter.mp hq
        refine Or.inr ⟨h1, fun he => ?_⟩
        rw [he] at h2
        simp at h2
    | false =>
      rw [hb] at hq
      have hji : j ≠ i := fun he => by
        rw [he, Nat.ble_eq_true_of_le (Nat.le_refl i)] at hb
        cases hb
      rcases List.mem_cons.mp hq with rfl | hq
      · exact Or.inr ⟨List.mem_cons_self, hji⟩
      · rcases ih hq with h | ⟨h1, h2⟩
        · exact Or.inl h
        · exact Or.inr ⟨List.mem_cons_of_mem _ h1, h2⟩
theorem has_sub {rls : Array Slot} {nL : Nat} {l l' : List (Nat × Value)} (h : lv_has rls nL l) (hs : ∀ q ∈ l', q ∈ l) : lv_has rls nL l' := ⟨h.1, h.2.1, fun q hq => h.2.2 q (hs q hq)⟩
theorem has_at {rls : Array Slot} {nL : Nat} {ad : Nat → Nat} {ls : List (Nat × PV)} (h : lv_has rls nL (ls.map (fun q => (q.1, mapV ad q.2)))) {i : Nat} {v : PV} (hv : lget ls i = some v) : rls[i]? = some (.val (mapV ad v)) :=
  h.2.2 (i, mapV ad v) (List.mem_map.mpr ⟨(i, v), lget_mem hv, rfl⟩)
theorem has_set {rls : Array Slot} {nL : Nat} {ad : Nat → Nat} {ls : List (Nat × PV)} {i : Nat} {v : PV} (hf : lfree ls i v = true) {l' : List (Nat × Value)}
    (h : lv_has rls nL l') (hl : ∀ q ∈ ls.map (fun q => (q.1, mapV ad q.2)), q.1 ≠ i → (q.1 + 1 = i → q.2.category ≠ 2) → ((mapV ad v).category = 2 → q.1 ≠ i + 1) → q ∈ l') (h0 : (i, mapV ad v) ∈ l') : lv_has rls nL ((lset ls i v).map (fun q => (q.1, mapV ad q.2))) := by
  refine has_sub h fun q hq => ?_
  obtain ⟨a, ha, rfl⟩ := List.mem_map.mp hq
  rcases lset_mem ha with rfl | ⟨h1, h2⟩
  · exact h0
  · have h3 := List.all_eq_true.mp hf a h1
    simp only [Bool.and_eq_true, Bool.not_eq_true', Bool.and_eq_false_iff, Nat.beq_eq, beq_eq_false_iff_ne] at h3
    refine hl _ (List.mem_map.mpr ⟨a, h1, rfl⟩) h2 (fun e1 e2 => ?_) (fun e1 e2 => ?_)
    · rw [mapV_cat] at e2
      rcases h3.1 with z | z
      · rw [e1] at z; simp at z
      · rw [z] at e2; simp at e2
    · rw [mapV_cat] at e1
      rcases h3.2 with z | z
      · rw [z] at e1; simp at e1
      · rw [e2] at z; simp at z
theorem okL_set {h : HP} {ls : List (Nat × PV)} {i : Nat} {v : PV} (hl : ∀ q ∈ ls, okV h q.2) (hv : okV h v) : ∀ q ∈ lset ls i v, okV h q.2 := fun q hq => by
  rcases lset_mem hq with rfl | ⟨h1, -⟩
  · exact hv
  · exact hl q h1
theorem okS_h {h : HP} {v : PV} {st : List PV} (hs : ∀ w ∈ v :: st, okV h w) : okV h v := hs v List.mem_cons_self
theorem okS_t {h : HP} {v : PV} {st : List PV} (hs : ∀ w ∈ v :: st, okV h w) : ∀ w ∈ st, okV h w := fun w hw => hs w (List.mem_cons_of_mem _ hw)
theorem okS_c {h : HP} {v : PV} {st : List PV} (hv : okV h v) (hs : ∀ w ∈ st, okV h w) : ∀ w ∈ v :: st, okV h w := fun w hw => (List.mem_cons.mp hw).elim (fun e => e ▸ hv) (hs w)
