/-! the world of both: groups of cells, each the class's and the reference's together -/
/-- which group a name belongs to -/
def rg (k : Nat) : Nat := if k < 17 then (if k = 0 then 0 else if k = 1 then 1 else if k = 6 ∨ k = 11 ∨ k = 12 then 2 else if k = 3 then 3 else if k = 4 then 4 else if k = 7 ∨ k = 13 then 5 else if k = 8 then 6 else if k = 5 then 7 else 8)
  else if k < 20 then 99 else if k < 40 then 4 else if k < 52 then 7 else if k < 102 then 99 else if k < 182 then 2
  else if k < 1000 then (if k = 200 then 10 else if k = 201 then 1 else if k = 211 then 2 else if k = 203 ∨ k = 204 ∨ k = 205 then 3 else if 206 ≤ k ∧ k ≤ 210 then 4 else if k = 212 then 5 else if 213 ≤ k ∧ k ≤ 215 then 7 else if k = 202 ∨ (216 ≤ k ∧ k ≤ 218) then 8 else if k = 300 ∨ k = 301 then 9 else 99) else 3
theorem rg_4 {k X : Nat} (h : 20 ≤ k ∧ k ≤ 39) (n : 4 ≠ X) : rg k ≠ X := by
  unfold rg; rw [if_neg (by omega), if_neg (by omega), if_pos (by omega)]; exact n
theorem rg_7 {k X : Nat} (h : 40 ≤ k ∧ k ≤ 51) (n : 7 ≠ X) : rg k ≠ X := by
  unfold rg; rw [if_neg (by omega), if_neg (by omega), if_neg (by omega), if_pos (by omega)]; exact n
theorem rg_2 {k X : Nat} (h : 102 ≤ k ∧ k ≤ 181) (n : 2 ≠ X) : rg k ≠ X := by
  unfold rg; rw [if_neg (by omega), if_neg (by omega), if_neg (by omega), if_neg (by omega), if_neg (by omega), if_pos (by omega)]; exact n
theorem rg_3 {k X : Nat} (h : 1000 ≤ k) (n : 3 ≠ X) : rg k ≠ X := by
  unfold rg; rw [if_neg (by omega), if_neg (by omega), if_neg (by omega), if_neg (by omega), if_neg (by omega), if_neg (by omega), if_neg (by omega)]; exact n
theorem rgo {k X : Nat} (n : rg k ≠ X) (j : Nat) (hj : rg j = X) : j ≠ k := fun e => n (e ▸ hj)
def VMx (mm : Int → Int) (nw : Int) : Prop := (∀ v, 0 ≤ v → v ≤ nw → RowV (fun s => mm (304 * v + s))) ∧ ∀ s, 0 ≤ s → s ≤ 303 → mm s = 0
def G1 (h : HP) (nw : Int) (mf mm : Int → Int) : Prop := cM h mf ∧ h 201 = some (oI 12464 mm) ∧ (0 ≤ nw ∧ nw ≤ 40) ∧ (∀ s, 0 ≤ s → s ≤ 303 → mf s = mm (304 * nw + s)) ∧ VMx mm nw
theorem G1.put {h : HP} {nw : Int} {mf mm : Int → Int} {k : Nat} {e : PE} (n : rg k ≠ 1) (g : G1 h nw mf mm) : G1 (hput h k e) nw mf mm :=
  ⟨g.1.put (rgo n 1 rfl).symm, hput_o (rgo n 201 rfl) g.2.1, g.2.2⟩
def SvR (sv : Int → Int → Int) (mm : Int → Int) (nw : Int) : Prop := ∀ v s, 1 ≤ v → v ≤ nw → 0 ≤ s → s ≤ 303 → sv v s = if mm (304 * (v - 1) + s) = mm (304 * v + s) then -1 else mm (304 * v + s)
def MgR (gf mg mm : Int → Int) (nw mcn : Int) : Prop := (∀ j, 0 ≤ j → j < mcn → gf j = mg j ∧ 1 ≤ mg j ∧ mg j ≤ nw) ∧ (∀ s, 0 ≤ s → s ≤ 303 → 1 ≤ mcn → mm (304 * nw + s) = mm (304 * mg (mcn - 1) + s)) ∧ ∀ j s, 1 ≤ j → j < mcn → 0 ≤ s → s ≤ 303 → mm (304 * (mg j - 1) + s) = mm (304 * mg (j - 1) + s)
def G2 (h : HP) (nw mcn : Int) (mm : Int → Int) : Prop := ∃ (sv : Int → Int → Int) (gf : Int → Int) (stf : Int → Option Nat) (mg : Int → Int), cHf h nw mcn sv gf stf ∧ h 211 = some (oI 41 mg) ∧ (0 ≤ mcn ∧ mcn ≤ nw) ∧ SvR sv mm nw ∧ MgR gf mg mm nw mcn
theorem rg_no2 {k : Nat} (n : rg k ≠ 2) : k < 102 ∨ 182 ≤ k := by
  by_cases q : k < 102 ∨ 182 ≤ k
  · exact q
  · exfalso; apply n; unfold rg; rw [if_neg (by omega), if_neg (by omega), if_neg (by omega), if_neg (by omega), if_neg (by omega), if_pos (by omega)]
theorem G2.put {h : HP} {nw mcn : Int} {mm : Int → Int} {k : Nat} {e : PE} (hn : 0 ≤ nw ∧ nw ≤ 40) (n : rg k ≠ 2) (g : G2 h nw mcn mm) : G2 (hput h k e) nw mcn mm := by
  obtain ⟨sv, gf, stf, mg, g1, g2, g3⟩ := g
  exact ⟨sv, gf, stf, mg, g1.put hn ⟨(rgo n 6 rfl).symm, (rgo n 11 rfl).symm, (rgo n 12 rfl).symm⟩ (rg_no2 n), hput_o (rgo n 211 rfl) g2, g3⟩
def lowK (k a : Int) : Int := if k = 109 then 0 else a
def highK (k b : Int) : Int := if k = 99 ∨ k = 120 then b else 0
def RuR (rk ra rb kk ka kb mf : Int → Int) (rc : Int) : Prop := ∀ i, 0 ≤ i → i < rc → RuleOk (rk i) (ra i) (rb i) ∧ kk i = rk i ∧ ka i = lowK (rk i) (ra i) ∧ kb i = highK (rk i) (rb i) ∧ RuleHolds (rk i) (ra i) (rb i) mf
def G3 (h : HP) (rc : Int) (mf : Int → Int) : Prop := ∃ (rk ra rb : Int → Int) (rn : Int → Nat) (kk ka kb : Int → Int), cR h rc rk ra rb rn ∧ h 203 = some (oI 6 kk) ∧ h 204 = some (oI 6 ka) ∧ h 205 = some (oI 6 kb) ∧ (0 ≤ rc ∧ rc ≤ 6) ∧ RuR rk ra rb kk ka kb mf rc
theorem rg_no3 {k : Nat} (n : rg k ≠ 3) : k < 1000 := by
  by_cases q : k < 1000
  · exact q
  · exact absurd rfl (fun (_ : (3 : Nat) = 3) => n (by unfold rg; rw [if_neg (by omega), if_neg (by omega), if_neg (by omega), if_neg (by omega), if_neg (by omega), if_neg (by omega), if_neg (by omega)]))
theorem G3.put {h : HP} {rc : Int} {mf : Int → Int} {k : Nat} {e : PE} (n : rg k ≠ 3) (g : G3 h rc mf) : G3 (hput h k e) rc mf := by
  obtain ⟨rk, ra, rb, rn, kk, ka, kb, g1, g2, g3, g4, g5⟩ := g
  exact ⟨rk, ra, rb, rn, kk, ka, kb, g1.put (rgo n 3 rfl).symm (rg_no3 n), hput_o (rgo n 203 rfl) g2, hput_o (rgo n 204 rfl) g3, hput_o (rgo n 205 rfl) g4, g5⟩
def EdV (s v : Int) : Prop := v = -1 ∨ (0 ≤ v ∧ v ≤ 9 ∧ (192 ≤ s → v ≤ 1))
def BrS (bs ed co no b e t m : Int → Int) : Prop := ∀ s, 0 ≤ s → s ≤ 303 → b s = bs s ∧ e s = ed s ∧ t s = co s ∧ EdV s (ed s) ∧ (ed s ≠ -1 → ed s ≠ bs s) ∧ (no s = m s ∨ (no s = -100000 ∧ m s = -1000000))
def BrR (op : Int → Int) (bs ed co no : Int → Int → Int) (mop mb me mt mi : Int → Int) : Prop := ∀ i, 0 ≤ i → i ≤ 3 → (op i = 0 ∨ op i = 1) ∧ mop i = op i ∧ (op i = 1 → BrS (bs i) (ed i) (co i) (no i) (fun s => mb (304 * i + s)) (fun s => me (304 * i + s)) (fun s => mt (304 * i + s)) (fun s => mi (304 * i + s)))
def G4 (h : HP) : Prop := ∃ (op : Int → Int) (bs ed co no : Int → Int → Int) (mop mb me mt mi : Int → Int), cB h op bs ed co no ∧ h 206 = some (oZ 4 mop) ∧ h 207 = some (oI 1216 mb) ∧ h 208 = some (oI 1216 me) ∧ h 209 = some (oI 1216 mt) ∧ h 210 = some (oI 1216 mi) ∧ BrR op bs ed co no mop mb me mt mi
theorem rg_no4 {k : Nat} (n : rg k ≠ 4) : k < 20 ∨ 40 ≤ k := by
  by_cases q : k < 20 ∨ 40 ≤ k
  · exact q
  · exfalso; apply n; unfold rg; rw [if_neg (by omega), if_neg (by omega), if_pos (by omega)]
theorem G4.put {h : HP} {k : Nat} {e : PE} (n : rg k ≠ 4) (g : G4 h) : G4 (hput h k e) := by
  obtain ⟨op, bs, ed, co, no, mop, mb, me, mt, mi, g1, g2, g3, g4, g5, g6, g7⟩ := g
  exact ⟨op, bs, ed, co, no, mop, mb, me, mt, mi, g1.put (rgo n 4 rfl).symm (rg_no4 n), hput_o (rgo n 206 rfl) g2, hput_o (rgo n 207 rfl) g3, hput_o (rgo n 208 rfl) g4, hput_o (rgo n 209 rfl) g5, hput_o (rgo n 210 rfl) g6, g7⟩
def TlS (tl ml : Int → Int) (fs n d l : Int) : Prop := ∀ x y, 0 ≤ x → x < n → 0 ≤ y → y < n → ml (192 * d + 64 * l + 8 * y + x) = tl (slV fs n l x y) ∧ -1 ≤ tl (slV fs n l x y)
def TlR (tl ml : Int → Int) : Prop := ∀ l, 0 ≤ l → l ≤ 2 → TlS tl ml 0 8 0 l ∧ TlS tl ml 64 4 1 l ∧ TlS tl ml 80 2 2 l ∧ TlS tl ml 84 1 3 l
def G5 (h : HP) (mk : Int) (mf : Int → Int) : Prop := ∃ tl ml : Int → Int, cL h mk tl ∧ h 212 = some (oI 768 ml) ∧ 0 ≤ mk ∧ TlR tl ml ∧ TilR tl mf
theorem G5.put {h : HP} {mk : Int} {mf : Int → Int} {k : Nat} {e : PE} (n : rg k ≠ 5) (g : G5 h mk mf) : G5 (hput h k e) mk mf := by
  obtain ⟨tl, ml, g1, g2, g3⟩ := g
  exact ⟨tl, ml, g1.put ⟨(rgo n 7 rfl).symm, (rgo n 13 rfl).symm⟩, hput_o (rgo n 212 rfl) g2, g3⟩
def G6 (h : HP) (bg la ly ar mwl mwa mwp : Int) : Prop := cK h bg la ly ar ∧ ((bg = 0 ∧ mwl = -1) ∨ (bg = 1 ∧ mwl = ly ∧ mwa = ar ∧ mwp = la ∧ (0 ≤ ly ∧ ly ≤ 2) ∧ -1 ≤ la ∧ la ≤ 63))
theorem G6.put {h : HP} {bg la ly ar mwl mwa mwp : Int} {k : Nat} {e : PE} (n : rg k ≠ 6) (g : G6 h bg la ly ar mwl mwa mwp) : G6 (hput h k e) bg la ly ar mwl mwa mwp := ⟨g.1.put (rgo n 8 rfl).symm, g.2⟩
/-- the first c of three rows, as a list -/
def toL (t s a : Int → Int) : Nat → List (Int × Int × Int)
  | 0 => []
  | n + 1 => toL t s a n ++ [(t (n : Int), s (n : Int), a (n : Int))]
def ntT (mn : Int → Int) (d : Int) : Int → Int := fun j => mn (60 * d + (3 * j))
def ntS (mn : Int → Int) (d : Int) : Int → Int := fun j => mn (60 * d + (3 * j) + 1)
def ntA (mn : Int → Int) (d : Int) : Int → Int := fun j => mn (60 * d + (3 * j) + 2)
/-- those of a list with times below n, sorted, like ones as they stand -/
def srt (N : List (Int × Int × Int)) : Nat → List (Int × Int × Int)
  | 0 => []
  | n + 1 => srt N n ++ N.filter (fun q => q.1 == (n : Int))
def NtR (tf sf af mn : Int → Int) (d c : Int) : Prop := toL tf sf af c.toNat = srt (toL (ntT mn d) (ntS mn d) (ntA mn d) c.toNat) 10000 ∧ (∀ j, 0 ≤ j → j < c → (0 ≤ ntT mn d j ∧ ntT mn d j ≤ 9999) ∧ (0 ≤ ntS mn d j ∧ ntS mn d j ≤ 191) ∧ 0 ≤ ntA mn d j ∧ ntA mn d j ≤ 9) ∧ ∀ j, 0 ≤ j → j < c → (0 ≤ tf j ∧ tf j ≤ 9999) ∧ (0 ≤ sf j ∧ sf j ≤ 191) ∧ 0 ≤ af j ∧ af j ≤ 9
def DvR (ct ld : Int → Int) (tf sf af : Int → Int → Int) (mn my mh : Int → Int) (dc : Int) : Prop := (∀ d, 0 ≤ d → d < dc → my d = ct d ∧ mh d = ld d ∧ (0 ≤ ct d ∧ ct d ≤ 20) ∧ NtR (tf d) (sf d) (af d) mn d (ct d)) ∧ ∀ d, dc ≤ d → d ≤ 2 → my d = 0 ∧ mh d = 0
def G7 (h : HP) (dc : Int) : Prop := ∃ (ct ld : Int → Int) (tf sf af : Int → Int → Int) (mn my mh : Int → Int), cD h dc ct ld tf sf af ∧ h 213 = some (oI 180 mn) ∧ h 214 = some (oI 3 my) ∧ h 215 = some (oI 3 mh) ∧ (0 ≤ dc ∧ dc ≤ 3) ∧ DvR ct ld tf sf af mn my mh dc
theorem rg_no7 {k : Nat} (n : rg k ≠ 7) : k < 40 ∨ 52 ≤ k := by
  by_cases q : k < 40 ∨ 52 ≤ k
  · exact q
  · exfalso; apply n; unfold rg; rw [if_neg (by omega), if_neg (by omega), if_neg (by omega), if_pos (by omega)]
theorem G7.put {h : HP} {dc : Int} {k : Nat} {e : PE} (n : rg k ≠ 7) (g : G7 h dc) : G7 (hput h k e) dc := by
  obtain ⟨ct, ld, tf, sf, af, mn, my, mh, g1, g2, g3, g4, g5, g6⟩ := g
  exact ⟨ct, ld, tf, sf, af, mn, my, mh, g1.put g5 (rgo n 5 rfl).symm (rg_no7 n), hput_o (rgo n 213 rfl) g2, hput_o (rgo n 214 rfl) g3, hput_o (rgo n 215 rfl) g4, g5, g6⟩
def G8 (h : HP) : Prop := cT h ∧ cX h ∧ cP h ∧ (∃ f, h 202 = some (oI 304 f)) ∧ (∃ f, h 216 = some (oZ 64 f)) ∧ (∃ f, h 217 = some (oI 64 f)) ∧ ∃ f, h 218 = some (oI 10 f)
theorem G8.put {h : HP} {k : Nat} {e : PE} (n : rg k ≠ 8) (g : G8 h) : G8 (hput h k e) := by
  obtain ⟨g1, g2, g3, ⟨f4, g4⟩, ⟨f5, g5⟩, ⟨f6, g6⟩, f7, g7⟩ := g
  exact ⟨g1.put (rgo n 2 rfl).symm, g2.put ⟨(rgo n 9 rfl).symm, (rgo n 14 rfl).symm, (rgo n 15 rfl).symm⟩, g3.put ⟨(rgo n 10 rfl).symm, (rgo n 16 rfl).symm⟩, ⟨f4, hput_o (rgo n 202 rfl) g4⟩, ⟨f5, hput_o (rgo n 216 rfl) g5⟩, ⟨f6, hput_o (rgo n 217 rfl) g6⟩, f7, hput_o (rgo n 218 rfl) g7⟩
/-- a scratch row put anew -/
theorem G8.w {h : HP} {f : Int → Int} (g : G8 h) : G8 (hput h 202 (oI 304 f)) := by
  obtain ⟨g1, g2, g3, ⟨f4, g4⟩, ⟨f5, g5⟩, ⟨f6, g6⟩, f7, g7⟩ := g
  exact ⟨g1.put (by decide), g2.put (by decide), g3.put (by decide), ⟨f, hput_s⟩, ⟨f5, hput_o (by decide) g5⟩, ⟨f6, hput_o (by decide) g6⟩, f7, hput_o (by decide) g7⟩
theorem G8.s {h : HP} {f : Int → Int} (g : G8 h) : G8 (hput h 216 (oZ 64 f)) := by
  obtain ⟨g1, g2, g3, ⟨f4, g4⟩, ⟨f5, g5⟩, ⟨f6, g6⟩, f7, g7⟩ := g
  exact ⟨g1.put (by decide), g2.put (by decide), g3.put (by decide), ⟨f4, hput_o (by decide) g4⟩, ⟨f, hput_s⟩, ⟨f6, hput_o (by decide) g6⟩, f7, hput_o (by decide) g7⟩
theorem G8.f {h : HP} {f : Int → Int} (g : G8 h) : G8 (hput h 217 (oI 64 f)) := by
  obtain ⟨g1, g2, g3, ⟨f4, g4⟩, ⟨f5, g5⟩, ⟨f6, g6⟩, f7, g7⟩ := g
  exact ⟨g1.put (by decide), g2.put (by decide), g3.put (by decide), ⟨f4, hput_o (by decide) g4⟩, ⟨f5, hput_o (by decide) g5⟩, ⟨f, hput_s⟩, f7, hput_o (by decide) g7⟩
theorem G8.c {h : HP} {f : Int → Int} (g : G8 h) : G8 (hput h 218 (oI 10 f)) := by
  obtain ⟨g1, g2, g3, ⟨f4, g4⟩, ⟨f5, g5⟩, ⟨f6, g6⟩, f7, g7⟩ := g
  exact ⟨g1.put (by decide), g2.put (by decide), g3.put (by decide), ⟨f4, hput_o (by decide) g4⟩, ⟨f5, hput_o (by decide) g5⟩, ⟨f6, hput_o (by decide) g6⟩, f, hput_s⟩
theorem G8.t {h : HP} {f : Int → Int} (g : G8 h) : G8 (hput h 2 (oI 304 f)) := by
  obtain ⟨g1, g2, g3, ⟨f4, g4⟩, ⟨f5, g5⟩, ⟨f6, g6⟩, f7, g7⟩ := g
  exact ⟨⟨f, hput_s⟩, g2.put (by decide), g3.put (by decide), ⟨f4, hput_o (by decide) g4⟩, ⟨f5, hput_o (by decide) g5⟩, ⟨f6, hput_o (by decide) g6⟩, f7, hput_o (by decide) g7⟩
theorem G8.g {h : HP} {f : Int → Int} (g : G8 h) : G8 (hput h 16 (oI 64 f)) := by
  obtain ⟨g1, g2, g3, ⟨f4, g4⟩, ⟨f5, g5⟩, ⟨f6, g6⟩, f7, g7⟩ := g
  exact ⟨g1.put (by decide), g2.put (by decide), ⟨hput_o (by decide) g3.1, f, hput_s⟩, ⟨f4, hput_o (by decide) g4⟩, ⟨f5, hput_o (by decide) g5⟩, ⟨f6, hput_o (by decide) g6⟩, f7, hput_o (by decide) g7⟩
theorem G8.sc {h : HP} {q s : Int → Int} (g : G8 h) : G8 (sc h 14 15 q s) := by
  obtain ⟨g1, g2, g3, ⟨f4, g4⟩, ⟨f5, g5⟩, ⟨f6, g6⟩, f7, g7⟩ := g
  exact ⟨(g1.put (by decide)).put (by decide), g2.sc, (g3.put (by decide)).put (by decide), ⟨f4, hput_o (by decide) (hput_o (by decide) g4)⟩, ⟨f5, hput_o (by decide) (hput_o (by decide) g5)⟩, ⟨f6, hput_o (by decide) (hput_o (by decide) g6)⟩, f7, hput_o (by decide) (hput_o (by decide) g7)⟩
def G9 (h : HP) : Prop := (∃ f, h 300 = some (oJ 1 f)) ∧ ∃ f, h 301 = some (oD 1 f)
theorem G9.put {h : HP} {k : Nat} {e : PE} (n : rg k ≠ 9) (g : G9 h) : G9 (hput h k e) := ⟨g.1.elim fun f g1 => ⟨f, hput_o (rgo n 300 rfl) g1⟩, g.2.elim fun f g1 => ⟨f, hput_o (rgo n 301 rfl) g1⟩⟩
theorem G9.o {h : HP} {f : Int → Int} (g : G9 h) : G9 (hput h 300 (oJ 1 f)) := ⟨⟨f, hput_s⟩, g.2.elim fun f g1 => ⟨f, hput_o (by decide) g1⟩⟩
theorem G9.d {h : HP} {f : Int → UInt64} (g : G9 h) : G9 (hput h 301 (oD 1 f)) := ⟨g.1.elim fun f g1 => ⟨f, hput_o (by decide) g1⟩, ⟨f, hput_s⟩⟩
theorem cS.pg {h : HP} {rc dc : Int} {k : Nat} {e : PE} (n : rg k ≠ 0) (c : cS h rc dc) : cS (hput h k e) rc dc := hput_o (rgo n 0 rfl) c
theorem mO.pg {h : HP} {a1 a2 a3 a4 a5 a6 a7 a8 a9 : Int} {k : Nat} {e : PE} (n : rg k ≠ 10) (c : mO h a1 a2 a3 a4 a5 a6 a7 a8 a9) : mO (hput h k e) a1 a2 a3 a4 a5 a6 a7 a8 a9 := hput_o (rgo n 200 rfl) c
/-- the world after at most N calls; k was thrown last -/
def JW (N : Int) (k : Int) (h : HP) : Prop := ∃ (nw rc dc mcn mk bg la ly ar mwl mwa mwp : Int) (mf mm : Int → Int), cS h rc dc ∧ mO h nw rc mcn mk dc mwl mwa mwp k ∧ G1 h nw mf mm ∧ G2 h nw mcn mm ∧ G3 h rc mf ∧ G4 h ∧ G5 h mk mf ∧ G6 h bg la ly ar mwl mwa mwp ∧ G7 h dc ∧ G8 h ∧ G9 h ∧ mk ≤ N ∧ N ≤ 1000
/-- a call of both: the class's wrapper, then the reference; k is thrown, or out holds the reference's answer -/
def JS (g : Gx) (N : Int) (h : HP) (zw : MethodName) (cww : Cond) (avw : List PV) (zm : MethodName) (cwm : Cond) (avm : List PV) : Prop :=
  ∃ (k : Int) (d1 m1 s1 d2 : Nat) (Q : HP → Prop), d1 ≤ 9 ∧ m1 ≤ 5 ∧ s1 ≤ 330 ∧ d2 ≤ 9 ∧ Ct g zw cww d1 m1 s1 avw h (fun r h1 => r = .inl (some (vI k)) ∧ Q h1) ∧
    ∀ h1, Q h1 → (∃ fs, h1 200 = some (oO 10 fs)) ∧ Ct g zm cwm d2 0 0 avm h1 (fun r h2 => ∃ b, r = .inl (some (vI b)) ∧ (k = 0 → ∃ f, h2 300 = some (oJ 1 f) ∧ f 0 = b) ∧ JW N k h2)
