/-! PURE STATES: values over whole numbers, objects under names of my own; T: the machine at a program counter over a pure state. -/
abbrev PV : Type := Int ⊕ (Option Nat ⊕ (Int ⊕ (UInt32 ⊕ UInt64)))
def vI (x : Int) : PV := .inl x
def vQ (r : Option Nat) : PV := .inr (.inl r)
def vR (k : Nat) : PV := .inr (.inl (some k))
def vN : PV := .inr (.inl none)
def vL (x : Int) : PV := .inr (.inr (.inl x))
def vF (x : UInt32) : PV := .inr (.inr (.inr (.inl x)))
def vD (x : UInt64) : PV := .inr (.inr (.inr (.inr x)))
abbrev PE : Type := (Nat × List PV) ⊕ (Nat × Nat × ((Int → Int) ⊕ ((Int → Int) ⊕ ((Int → UInt64) ⊕ (Int → Option Nat)))))
def oO (ci : Nat) (fs : List PV) : PE := .inl (ci, fs)
def oI (n : Nat) (f : Int → Int) : PE := .inr (0, n, .inl f)
def oZ (n : Nat) (f : Int → Int) : PE := .inr (1, n, .inl f)
def oJ (n : Nat) (f : Int → Int) : PE := .inr (2, n, .inr (.inl f))
def oD (n : Nat) (f : Int → UInt64) : PE := .inr (3, n, .inr (.inr (.inl f)))
def oA (t n : Nat) (f : Int → Option Nat) : PE := .inr (t, n, .inr (.inr (.inr f)))
abbrev HP : Type := Nat → Option PE
def hput (h : HP) (k : Nat) (e : PE) : HP := fun j => if j = k then some e else h j
def fput {α : Type} (f : Int → α) (k : Int) (x : α) : Int → α := fun j => if j = k then x else f j
theorem hput_s {h : HP} {k : Nat} {e : PE} : hput h k e k = some e := if_pos rfl
theorem hput_o {h : HP} {j k : Nat} {e : PE} {r : Option PE} (hj : j ≠ k) (hr : h j = r) : hput h k e j = r := (if_neg hj).trans hr
theorem fput_s {α : Type} {f : Int → α} {k : Int} {x : α} : fput f k x k = x := if_pos rfl
theorem fput_o {α : Type} {f : Int → α} {j k : Int} {x : α} (hj : j ≠ k) : fput f k x j = f j := if_neg hj
abbrev inI (x : Int) : Prop := -2147483648 ≤ x ∧ x < 2147483648
abbrev inJ (x : Int) : Prop := -9223372036854775808 ≤ x ∧ x < 9223372036854775808
def cat2 : PV → Bool
  | .inr (.inr (.inl _)) => true
  | .inr (.inr (.inr (.inr _))) => true
  | _ => false
def mapV (ad : Nat → Nat) (v : PV) : Value := match v with
  | .inl x => .int (Int32.ofInt x)
  | .inr (.inl r) => va_rf (r.map ad)
  | .inr (.inr (.inl x)) => .long (Int64.ofInt x)
  | .inr (.inr (.inr (.inl x))) => .float x
  | .inr (.inr (.inr (.inr x))) => .double x
theorem mapV_cat (ad : Nat → Nat) (v : PV) : (mapV ad v).category = if cat2 v then 2 else 1 := by
  obtain x | (_ | k) | x | x | x := v <;> rfl
def mapE (cA : Nat → ClassId) (ad : Nat → Nat) (e : PE) : va_E := match e with
  | .inl (ci, fs) => .inr (ci, fs.map (mapV ad))
  | .inr (t, n, .inl f) => .inl (cA t, n, .inl (fun j => Int32.ofInt (f (j : Int))))
  | .inr (t, n, .inr (.inl f)) => .inl (cA t, n, .inr (.inl (fun j => Int64.ofInt (f (j : Int)))))
  | .inr (t, n, .inr (.inr (.inl f))) => .inl (cA t, n, .inr (.inr (.inr (.inl (fun j => f (j : Int))))))
  | .inr (t, n, .inr (.inr (.inr f))) => .inl (cA t, n, .inr (.inr (.inr (.inr (fun j => (f (j : Int)).map ad)))))
def okV (h : HP) (v : PV) : Prop := match v with
  | .inl x => inI x
  | .inr (.inl r) => ∀ k, r = some k → h k ≠ none
  | .inr (.inr (.inl x)) => inJ x
  | _ => True
def okE (h : HP) (e : PE) : Prop := match e with
  | .inl (_, fs) => ∀ v ∈ fs, okV h v
  | .inr (_, _, .inl f) => ∀ j, inI (f j)
  | .inr (_, _, .inr (.inl f)) => ∀ j, inJ (f j)
  | .inr (_, _, .inr (.inr (.inl _))) => True
  | .inr (_, _, .inr (.inr (.inr f))) => ∀ (j : Int) (k : Nat), f j = some k → h k ≠ none
def wsOf (cA : Nat → ClassId) (ad : Nat → Nat) (h : HP) (dom : List Nat) : va_W := dom.map (fun k => (ad k, mapE cA ad ((h k).getD (.inl (0, [])))))
def clX : List vw_C := [(RX0, TX0, 5), (RX1, TX1, 5), (RX3, TX3, 4), (RX4, TX4, 1), (RX5, TX5, 3), (RX6, TX6, 2), (RX7, TX7, 1), (RX8, TX8, 2), (RX9, TX9, 4), (RX10, TX10, 12), (RX11, TX11, 27)]
def TYs (cA : Nat → ClassId) : List (ClassId × FieldType) := [(cA 0, .int), (cA 1, .boolean), (cA 2, .long), (cA 3, .double), (cA 4, .object RX5), (cA 5, .object RX0), (cA 6, .object RX1), (cA 7, .object RX7)]
abbrev AA (H0 : Heap) : Nat → Prop := fun q => H0.size ≤ q
def Rw (dC : Nat → ClassId) (dI : Nat → Nat → Nat) (cA : Nat → ClassId) (H0 : Heap) (ad : Nat → Nat) (h : HP) (H : Heap) : Prop :=
  ∃ dom : List Nat, (∀ k, k ∈ dom ↔ h k ≠ none) ∧ va_P (dC, dI) clX (wsOf cA ad h dom) H ∧ va_D (AA H0) (wsOf cA ad h dom) ∧ ∀ k e, h k = some e → okE h e
def Ext (ad0 : Nat → Nat) (h0 : HP) (ad : Nat → Nat) (h : HP) : Prop := ∀ k, h0 k ≠ none → h k ≠ none ∧ ad k = ad0 k
theorem Ext.rf (ad : Nat → Nat) (h : HP) : Ext ad h ad h := fun _ hk => ⟨hk, rfl⟩
theorem Ext.tr {a0 a1 a2 : Nat → Nat} {h0 h1 h2 : HP} (e1 : Ext a0 h0 a1 h1) (e2 : Ext a1 h1 a2 h2) : Ext a0 h0 a2 h2 := fun k hk =>
  ⟨(e2 k (e1 k hk).1).1, (e2 k (e1 k hk).1).2.trans (e1 k hk).2⟩
theorem okV.ext {ad ad' : Nat → Nat} {h h' : HP} (he : Ext ad h ad' h') {v : PV} (hv : okV h v) : okV h' v ∧ mapV ad' v = mapV ad v := by
  obtain x | (_ | k) | x | x | x := v
  · exact ⟨hv, rfl⟩
  · exact ⟨(fun _ h => nomatch h), rfl⟩
  · have h1 := he k (hv k rfl)
    exact ⟨fun j hj => (Option.some.inj hj) ▸ h1.1, congrArg Value.ref h1.2⟩
  · exact ⟨hv, rfl⟩
  · exact ⟨hv, rfl⟩
  · exact ⟨hv, rfl⟩
theorem okE.ext {ad ad' : Nat → Nat} {h h' : HP} (cA : Nat → ClassId) (he : Ext ad h ad' h') {e : PE} (hv : okE h e) : okE h' e ∧ mapE cA ad' e = mapE cA ad e := by
  obtain ⟨ci, fs⟩ | ⟨t, n, f | f | f | f⟩ := e
  · refine ⟨fun v hm => (okV.ext he (hv v hm)).1, ?_⟩
    show (Sum.inr (ci, fs.map (mapV ad')) : va_E) = Sum.inr (ci, fs.map (mapV ad))
    rw [List.map_congr_left (fun v hm => (okV.ext he (hv v hm)).2)]
  · exact ⟨hv, rfl⟩
  · exact ⟨hv, rfl⟩
  · exact ⟨hv, rfl⟩
  · refine ⟨fun j k hj => (he k (hv j k hj)).1, ?_⟩
    show (Sum.inl (cA t, n, Sum.inr (Sum.inr (Sum.inr (Sum.inr (fun j : Nat => (f (j : Int)).map ad'))))) : va_E) = Sum.inl (cA t, n, Sum.inr (Sum.inr (Sum.inr (Sum.inr (fun j : Nat => (f (j : Int)).map ad)))))
    have : (fun j : Nat => (f (j : Int)).map ad') = (fun j : Nat => (f (j : Int)).map ad) := by
      funext j
      cases hf : f (j : Int) with
      | none => rfl
      | some k => exact congrArg some (he k (hv _ k hf)).2
    rw [this]
/-! what the tables say -/
def gw (w : Cond) : Bool := goodWord w || match w with
  | .declares _ | .castable _ _ | .methodLinkNest .. | .arrayOver (.object _) => true
  | _ => false
def TB (s : State) : Prop := ∀ w, w ∈ lw_tbl → gw w = true → ∀ (a : Array Value) (U : State), s.WarmedH U.vm → w.before a U = true
theorem TB.of {s : State} {args : Array Value} (hts : ∀ w ∈ lw_tbl, w.before args s = true) : TB s := by
  intro w hw hg a U hW
  have h := hts w hw
  by_cases hgw : goodWord w = true
  · exact word_at hW (good_of_word hgw) h
  · cases w with
    | declares x => exact va_Nw.use rfl (va_Nw.warmD hW (va_Nw.of rfl h))
    | castable x y => exact va_Nw.use rfl (va_Nw.warmC hW (va_Nw.of rfl h))
    | methodLinkNest a1 i1 x1 h1 => exact va_Nw.use rfl (va_Nw.warmM hW (va_Nw.of rfl h))
    | arrayOver t =>
      cases t with
      | object C => exact va_AO.use (va_AO.moved hW.alike (va_AO.of h))
      | _ => simp only [gw, hgw, Bool.or_false] at hg; exact absurd hg (by simp)
    | _ => simp only [gw, hgw, Bool.or_false] at hg; exact absurd hg (by simp)
theorem TB.warm {s U : State} (h : TB s) (hW : s.WarmedH U.vm) : TB U := fun w hw hg a V hV => h w hw hg a V (State.WarmedH.trans hW hV)
theorem TB.at {s : State} {args : Array Value} (h : TB s) {w : Cond} (hw : w ∈ lw_tbl) (hg : gw w = true) : w.before args s = true := h w hw hg args s (State.WarmedH.refl s)
