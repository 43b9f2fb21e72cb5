/-! the reference brings a device home -/
abbrev MS : Type := (Int → Int) × (Int → Int) × (Int → Int) × Int
def mst (mb mn : Int → Int) (b ld at9 : Int) (q : MS) : MS := if q.2.2.1 (304 * b + mn (at9 + 1)) ≤ mn at9 - ld then (medF q.1 mb (304 * b + mn (at9 + 1)) (mn (at9 + 2)), mtoF q.2.1 mb (304 * b + mn (at9 + 1)) (mn (at9 + 2)), fput q.2.2.1 (304 * b + mn (at9 + 1)) (mn at9 - ld), q.2.2.2 + 1) else q
def mfl (mb mn : Int → Int) (b ld d B : Int) : Nat → MS → MS
  | 0, q => q
  | n + 1, q => if mn (60 * d + (3 * (n : Int))) = B then mst mb mn b ld (60 * d + (3 * (n : Int))) (mfl mb mn b ld d B n q) else mfl mb mn b ld d B n q
def mfo (mb mn : Int → Int) (b ld d : Int) (c : Nat) : Nat → MS → MS
  | 0, q => q
  | n + 1, q => mfl mb mn b ld d (n : Int) c (mfo mb mn b ld d c n q)
theorem mfl_s {mb mn : Int → Int} {b ld d B k : Int} {q : MS} (h : 0 ≤ k) : mfl mb mn b ld d B (k + 1).toNat q = if mn (60 * d + (3 * k)) = B then mst mb mn b ld (60 * d + (3 * k)) (mfl mb mn b ld d B k.toNat q) else mfl mb mn b ld d B k.toNat q := by
  rw [toNat_s h]
  show (if mn (60 * d + (3 * (k.toNat : Int))) = B then mst mb mn b ld (60 * d + (3 * (k.toNat : Int))) (mfl mb mn b ld d B k.toNat q) else mfl mb mn b ld d B k.toNat q) = _
  rw [Int.toNat_of_nonneg h]
theorem mfl_no {mb mn : Int → Int} {b ld d B : Int} {q : MS} : ∀ c : Nat, (∀ j : Int, 0 ≤ j → j < c → mn (60 * d + (3 * j)) ≠ B) → mfl mb mn b ld d B c q = q := by
  intro c
  induction c with
  | zero => intro _; rfl
  | succ c ih =>
    intro h
    show (if mn (60 * d + (3 * (c : Int))) = B then _ else mfl mb mn b ld d B c q) = q
    rw [if_neg (h c (by omega) (by omega))]
    exact ih (fun j h1 h2 => h j h1 (by omega))
theorem mfo_gap {mb mn : Int → Int} {b ld d : Int} {c : Nat} {q : MS} {a : Nat} : ∀ n : Nat, (∀ j : Int, 0 ≤ j → j < c → ¬ ((a : Int) ≤ mn (60 * d + (3 * j)) ∧ mn (60 * d + (3 * j)) < a + n)) → mfo mb mn b ld d c (a + n) q = mfo mb mn b ld d c a q := by
  intro n
  induction n with
  | zero => intro _; rfl
  | succ n ih =>
    intro h
    show mfl mb mn b ld d ((a + n : Nat) : Int) c (mfo mb mn b ld d c (a + n) q) = _
    rw [mfl_no c (fun j h1 h2 z => h j h1 h2 (by rw [z]; omega))]
    exact ih (fun j h1 h2 z => h j h1 h2 (by omega))
/-- from the time T on: none so far that is later, or the first of the least of them -/
def BsI (mn : Int → Int) (d T k be : Int) : Prop := (be = -1 ∧ ∀ j, 0 ≤ j → j < k → mn (60 * d + (3 * j)) ≤ T) ∨ (∃ j0, 0 ≤ j0 ∧ j0 < k ∧ be = 60 * d + (3 * j0) ∧ T < mn be ∧ ∀ j, 0 ≤ j → j < k → T < mn (60 * d + (3 * j)) → mn be ≤ mn (60 * d + (3 * j)))
theorem BsI_0 {mn : Int → Int} {d T : Int} : BsI mn d T 0 (-1) := Or.inl ⟨rfl, fun j h1 h2 => absurd h2 (by omega)⟩
theorem BsI_t {mn : Int → Int} {d T k be : Int} (hk : 0 ≤ k) (h : BsI mn d T k be) (h1 : T < mn (60 * d + (3 * k))) (h2 : be < 0 ∨ mn (60 * d + (3 * k)) < mn be) (hd : 0 ≤ d) : BsI mn d T (k + 1) (60 * d + (3 * k)) := by
  refine Or.inr ⟨k, hk, by omega, rfl, h1, fun j j1 j2 j3 => ?_⟩
  by_cases e : j = k
  · rw [e]; exact Int.le_refl _
  · rcases h with ⟨g1, g2⟩ | ⟨j0, g1, g2, g3, g4, g5⟩
    · have := g2 j j1 (by omega); omega
    · have := g5 j j1 (by omega) j3
      rcases h2 with h2 | h2
      · omega
      · omega
theorem BsI_f {mn : Int → Int} {d T k be : Int} (h : BsI mn d T k be) (h1 : T < mn (60 * d + (3 * k)) → 0 ≤ be ∧ mn be ≤ mn (60 * d + (3 * k))) : BsI mn d T (k + 1) be := by
  rcases h with ⟨g1, g2⟩ | ⟨j0, g1, g2, g3, g4, g5⟩
  · refine Or.inl ⟨g1, fun j j1 j2 => ?_⟩
    by_cases e : j = k
    · rw [e]
      by_cases q : T < mn (60 * d + (3 * k))
      · have := h1 q; omega
      · omega
    · exact g2 j j1 (by omega)
  · refine Or.inr ⟨j0, g1, by omega, g3, g4, fun j j1 j2 j3 => ?_⟩
    by_cases e : j = k
    · rw [e] at j3 ⊢; exact (h1 j3).2
    · exact g5 j j1 (by omega) j3
theorem BsI_b {mn : Int → Int} {d T k be : Int} (hd : 0 ≤ d ∧ d ≤ 2) (hk : k ≤ 20) (h : BsI mn d T k be) : be = -1 ∨ (0 ≤ be ∧ be ≤ 177) := by
  rcases h with ⟨g1, g2⟩ | ⟨j0, g1, g2, g3, g4, g5⟩ <;> omega
theorem BsI_no {mn : Int → Int} {d T c be : Int} (h : BsI mn d T c be) (hb : be < 0) (hd : 0 ≤ d) : cnt (fun k => T < mn (60 * d + (3 * k))) c = 0 := by
  rcases h with ⟨g1, g2⟩ | ⟨j0, g1, g2, g3, g4, g5⟩
  · refine cnt_none (fun i i1 i2 z => ?_)
    have := g2 i i1 i2
    have z2 : T < mn (60 * d + (3 * i)) := z
    omega
  · omega
theorem BsI_yes {mn : Int → Int} {d T c be : Int} (h : BsI mn d T c be) (hb : 0 ≤ be) : T < mn be ∧ cnt (fun k => mn be < mn (60 * d + (3 * k))) c < cnt (fun k => T < mn (60 * d + (3 * k))) c ∧ ∀ j, 0 ≤ j → j < c → ¬ (T + 1 ≤ mn (60 * d + (3 * j)) ∧ mn (60 * d + (3 * j)) < mn be) := by
  rcases h with ⟨g1, g2⟩ | ⟨j0, g1, g2, g3, g4, g5⟩
  · omega
  · refine ⟨g4, ?_, fun j j1 j2 z => ?_⟩
    · by_cases q : cnt (fun k => mn be < mn (60 * d + (3 * k))) c < cnt (fun k => T < mn (60 * d + (3 * k))) c
      · exact q
      · have := cnt_eqs (P := fun k => T < mn (60 * d + (3 * k))) (Q := fun k => mn be < mn (60 * d + (3 * k))) (n := c) (fun i i1 i2 hi => by
          have hi2 : mn be < mn (60 * d + (3 * i)) := hi
          show T < mn (60 * d + (3 * i)); omega) (by omega) j0 g1 g2 (by show T < mn (60 * d + (3 * j0)); rw [← g3]; exact g4)
        have h2 : mn be < mn (60 * d + (3 * j0)) := this
        rw [← g3] at h2; omega
    · have := g5 j j1 j2 (by omega); omega
def mb3 (h : HP) (q : MS) : HP := hput (hput (hput h 210 (oI 1216 q.2.2.1)) 208 (oI 1216 q.1)) 209 (oI 1216 q.2.1)
theorem mb3_c {h : HP} {q : MS} {e c n : Int → Int} {m : Int} : hput (hput (hput (mb3 h q) 210 (oI 1216 n)) 208 (oI 1216 e)) 209 (oI 1216 c) = mb3 h (e, c, n, m) := by
  unfold mb3
  funext j
  unfold hput
  by_cases e1 : j = 209
  · simp only [e1, if_true]
  by_cases e2 : j = 208
  · simp only [e2]; simp
  by_cases e3 : j = 210
  · simp only [e3]; simp
  simp only [e1, e2, e3, if_false]
theorem mb3_0 {h : HP} {e c n : Int → Int} {m : Int} (h8 : h 208 = some (oI 1216 e)) (h9 : h 209 = some (oI 1216 c)) (h10 : h 210 = some (oI 1216 n)) : h = mb3 h (e, c, n, m) := by
  unfold mb3
  show h = hput (hput (hput h 210 (oI 1216 n)) 208 (oI 1216 e)) 209 (oI 1216 c)
  rw [hput_self h10, hput_self h8, hput_self h9]
theorem mb3_8 {h : HP} {q : MS} : mb3 h q 208 = some (oI 1216 q.1) := hput_o (by decide) hput_s
theorem mb3_9 {h : HP} {q : MS} : mb3 h q 209 = some (oI 1216 q.2.1) := hput_s
theorem mb3_10 {h : HP} {q : MS} : mb3 h q 210 = some (oI 1216 q.2.2.1) := hput_o (by decide) (hput_o (by decide) hput_s)
theorem mb3_o {h : HP} {j : Nat} {q : MS} {e : Option PE} (n1 : j ≠ 210) (n2 : j ≠ 208) (n3 : j ≠ 209) (he : h j = e) : mb3 h q j = e := hput_o n3 (hput_o n2 (hput_o n1 he))
theorem mst_t {mb mn : Int → Int} {b ld at9 : Int} {q : MS} (c : q.2.2.1 (304 * b + mn (at9 + 1)) ≤ mn at9 - ld) : mst mb mn b ld at9 q = (medF q.1 mb (304 * b + mn (at9 + 1)) (mn (at9 + 2)), mtoF q.2.1 mb (304 * b + mn (at9 + 1)) (mn (at9 + 2)), fput q.2.2.1 (304 * b + mn (at9 + 1)) (mn at9 - ld), q.2.2.2 + 1) := if_pos c
theorem mst_f {mb mn : Int → Int} {b ld at9 : Int} {q : MS} (c : ¬ q.2.2.1 (304 * b + mn (at9 + 1)) ≤ mn at9 - ld) : mst mb mn b ld at9 q = q := if_neg c
/-- the round's state: the times up to T are through -/
theorem mfo_rnd {mb mn : Int → Int} {b ld d T c be : Int} {q : MS} (hT : -1 ≤ T) (hc : 0 ≤ c) (h : BsI mn d T c be) (hb : 0 ≤ be) : mfl mb mn b ld d (mn be) c.toNat (mfo mb mn b ld d c.toNat (T + 1).toNat q) = mfo mb mn b ld d c.toNat (mn be + 1).toNat q := by
  obtain ⟨h1, -, h3⟩ := BsI_yes h hb
  have e1 : (mn be + 1).toNat = ((T + 1).toNat + (mn be - (T + 1)).toNat) + 1 := by omega
  rw [e1]
  show _ = mfl mb mn b ld d (((T + 1).toNat + (mn be - (T + 1)).toNat : Nat) : Int) c.toNat (mfo mb mn b ld d c.toNat ((T + 1).toNat + (mn be - (T + 1)).toNat) q)
  rw [mfo_gap _ (fun j j1 j2 z => h3 j j1 (by omega) (by omega)), show (((T + 1).toNat + (mn be - (T + 1)).toNat : Nat) : Int) = mn be by omega]
theorem mfo_fin {mb mn : Int → Int} {b ld d T c : Int} {q : MS} (hT : -1 ≤ T ∧ T ≤ 9999) (hc : 0 ≤ c) (h : cnt (fun k => T < mn (60 * d + (3 * k))) c ≤ 0) : mfo mb mn b ld d c.toNat (T + 1).toNat q = mfo mb mn b ld d c.toNat 10000 q := by
  have h2 : ∀ j, 0 ≤ j → j < c → ¬ T < mn (60 * d + (3 * j)) := fun j j1 j2 z => by
    have := cnt_pos (P := fun k => T < mn (60 * d + (3 * k))) j1 j2 z; omega
  rw [show (10000 : Nat) = (T + 1).toNat + (9999 - T).toNat by omega]
  exact (mfo_gap _ (fun j j1 j2 z => h2 j j1 (by omega) (by omega))).symm

set_option maxRecDepth 20000 in
set_option maxHeartbeats 4000000 in
theorem m_home_x1d {g : Gx} {h : HP} {mv mrc mmc mmk mdv mwl mwa mwp mth : Int} {mop : Int → Int} {d9 b9 o9 r9 : Int} (hm : mO h mv mrc mmc mmk mdv mwl mwa mwp mth) (h206 : h 206 = some (oZ 4 mop)) (hdv : 0 ≤ mdv ∧ mdv ≤ 3) (hD : ¬ (0 ≤ d9 ∧ d9 < mdv)) : Ct g yX11_home (.code yX11_home cX11_home 11 (some .int)) 3 0 0 [vR 200, vI d9, vI b9, vI o9, vI r9] h (Rt (some (vI 0)) (hput h 200 (oO 10 [vR 201, vR 202, vR 203, vR 204, vR 205, vR 206, vR 207, vR 208, vR 209, vR 210, vR 211, vR 212, vR 213, vR 214, vR 215, vR 216, vR 217, vR 218, vI mv, vI mrc, vI mmc, vI mmk, vI mdv, vI mwl, vI mwa, vI mwp, vI 1]))) := by
  refine Ct.of (by decide) (Nat.le_of_ble_eq_true rfl) (fun x hg C F => ?_)
  subst hg
  show T x 0 [(0, vR 200), (1, vI d9), (2, vI b9), (3, vI o9), (4, vI r9)] [] h 0 0
  refine st_aload_n C 0 dX11_home_0 rfl rfl ?_
  refine st_aload_n C 0 dX11_home_1 rfl rfl ?_
  refine st_iload_n C 1 dX11_home_2 rfl rfl ?_
  refine st_callV (st := [vR 200]) C dX11_home_3 [vI d9] (k_isDevice_f (d9 := d9) hm hdv hD) hm w_X11_205 rfl (by decide) (by decide) (by omega) (by omega) (Nat.le_of_ble_eq_true rfl) (ko_rt ?_)
  show T x 6 [(0, vR 200), (1, vI d9), (2, vI b9), (3, vI o9), (4, vI r9)] [vI 0, vR 200] _ _ _
  refine st_if_eq (tgt := 21) C dX11_home_6 (by decide) (fun c_6 => ?_) (fun c_6 => by omega)
  refine st_iconst C dX11_home_21 (by decide) ?_
  refine st_iconst C dX11_home_22 (by decide) ?_
  refine st_callV (st := []) C dX11_home_23 [vI 0, vI 1] (k_no_f (p9 := 1) hm) hm w_X11_112 rfl (by decide) (by decide) (by omega) (by omega) (Nat.le_of_ble_eq_true rfl) (ko_rt ?_)
  show T x 26 [(0, vR 200), (1, vI d9), (2, vI b9), (3, vI o9), (4, vI r9)] [vI 1] (hput h 200 (oO 10 [vR 201, vR 202, vR 203, vR 204, vR 205, vR 206, vR 207, vR 208, vR 209, vR 210, vR 211, vR 212, vR 213, vR 214, vR 215, vR 216, vR 217, vR 218, vI mv, vI mrc, vI mmc, vI mmk, vI mdv, vI mwl, vI mwa, vI mwp, vI 1])) _ _
  refine st_if_ne (tgt := 65) C dX11_home_26 (by decide) (fun c_26 => ?_) (fun c_26 => by omega)
  refine st_iconst C dX11_home_65 (by decide) ?_
  exact st_ireturn C F dX11_home_66 rfl (by first | exact ⟨by with_reducible rfl, by with_reducible rfl⟩ | (exfalso; omega)) (by omega) (by omega)
set_option maxRecDepth 20000 in
set_option maxHeartbeats 4000000 in
theorem m_home_x1b {g : Gx} {h : HP} {mv mrc mmc mmk mdv mwl mwa mwp mth : Int} {mop : Int → Int} {d9 b9 o9 r9 : Int} (hm : mO h mv mrc mmc mmk mdv mwl mwa mwp mth) (h206 : h 206 = some (oZ 4 mop)) (hdv : 0 ≤ mdv ∧ mdv ≤ 3) (hD : 0 ≤ d9 ∧ d9 < mdv) (hz : ∀ i, 0 ≤ i → i ≤ 3 → mop i = 0 ∨ mop i = 1) (hO : ¬ (0 ≤ b9 ∧ b9 ≤ 3 ∧ mop b9 = 1)) : Ct g yX11_home (.code yX11_home cX11_home 11 (some .int)) 3 0 0 [vR 200, vI d9, vI b9, vI o9, vI r9] h (Rt (some (vI 0)) (hput h 200 (oO 10 [vR 201, vR 202, vR 203, vR 204, vR 205, vR 206, vR 207, vR 208, vR 209, vR 210, vR 211, vR 212, vR 213, vR 214, vR 215, vR 216, vR 217, vR 218, vI mv, vI mrc, vI mmc, vI mmk, vI mdv, vI mwl, vI mwa, vI mwp, vI 1]))) := by
  refine Ct.of (by decide) (Nat.le_of_ble_eq_true rfl) (fun x hg C F => ?_)
  subst hg
  show T x 0 [(0, vR 200), (1, vI d9), (2, vI b9), (3, vI o9), (4, vI r9)] [] h 0 0
  refine st_aload_n C 0 dX11_home_0 rfl rfl ?_
  refine st_aload_n C 0 dX11_home_1 rfl rfl ?_
  refine st_iload_n C 1 dX11_home_2 rfl rfl ?_
  refine st_callV (st := [vR 200]) C dX11_home_3 [vI d9] (k_isDevice_t (d9 := d9) hm hdv hD) hm w_X11_205 rfl (by decide) (by decide) (by omega) (by omega) (Nat.le_of_ble_eq_true rfl) (ko_rt ?_)
  show T x 6 [(0, vR 200), (1, vI d9), (2, vI b9), (3, vI o9), (4, vI r9)] [vI 1, vR 200] _ _ _
  refine st_if_eq (tgt := 21) C dX11_home_6 (by decide) (fun c_6 => by omega) (fun c_6 => ?_)
  refine st_aload_n C 0 dX11_home_9 rfl rfl ?_
  refine st_iload_n C 2 dX11_home_10 rfl rfl ?_
  refine st_callV (st := [vR 200]) C dX11_home_11 [vI b9] (k_isBranch_f (b9 := b9) hm h206 hz hO) hm w_X11_126 rfl (by decide) (by decide) (by omega) (by omega) (Nat.le_of_ble_eq_true rfl) (ko_rt ?_)
  show T x 14 [(0, vR 200), (1, vI d9), (2, vI b9), (3, vI o9), (4, vI r9)] [vI 0, vR 200] _ _ _
  refine st_if_eq (tgt := 21) C dX11_home_14 (by decide) (fun c_14 => ?_) (fun c_14 => by omega)
  refine st_iconst C dX11_home_21 (by decide) ?_
  refine st_iconst C dX11_home_22 (by decide) ?_
  refine st_callV (st := []) C dX11_home_23 [vI 0, vI 1] (k_no_f (p9 := 1) hm) hm w_X11_112 rfl (by decide) (by decide) (by omega) (by omega) (Nat.le_of_ble_eq_true rfl) (ko_rt ?_)
  show T x 26 [(0, vR 200), (1, vI d9), (2, vI b9), (3, vI o9), (4, vI r9)] [vI 1] (hput h 200 (oO 10 [vR 201, vR 202, vR 203, vR 204, vR 205, vR 206, vR 207, vR 208, vR 209, vR 210, vR 211, vR 212, vR 213, vR 214, vR 215, vR 216, vR 217, vR 218, vI mv, vI mrc, vI mmc, vI mmk, vI mdv, vI mwl, vI mwa, vI mwp, vI 1])) _ _
  refine st_if_ne (tgt := 65) C dX11_home_26 (by decide) (fun c_26 => ?_) (fun c_26 => by omega)
  refine st_iconst C dX11_home_65 (by decide) ?_
  exact st_ireturn C F dX11_home_66 rfl (by first | exact ⟨by with_reducible rfl, by with_reducible rfl⟩ | (exfalso; omega)) (by omega) (by omega)
set_option maxRecDepth 20000 in
set_option maxHeartbeats 4000000 in
theorem m_home_x2 {g : Gx} {h : HP} {mv mrc mmc mmk mdv mwl mwa mwp mth : Int} {mop : Int → Int} {d9 b9 o9 r9 : Int} (hm : mO h mv mrc mmc mmk mdv mwl mwa mwp mth) (h206 : h 206 = some (oZ 4 mop)) (hdv : 0 ≤ mdv ∧ mdv ≤ 3) (hD : 0 ≤ d9 ∧ d9 < mdv) (hz : ∀ i, 0 ≤ i → i ≤ 3 → mop i = 0 ∨ mop i = 1) (hO : 0 ≤ b9 ∧ b9 ≤ 3 ∧ mop b9 = 1) (hQ : ¬ ((0 ≤ o9 ∧ o9 ≤ 9999) ∧ 0 ≤ r9 ∧ r9 ≤ 9999)) : Ct g yX11_home (.code yX11_home cX11_home 11 (some .int)) 3 0 0 [vR 200, vI d9, vI b9, vI o9, vI r9] h (Rt (some (vI 0)) (hput (hput h 200 (oO 10 [vR 201, vR 202, vR 203, vR 204, vR 205, vR 206, vR 207, vR 208, vR 209, vR 210, vR 211, vR 212, vR 213, vR 214, vR 215, vR 216, vR 217, vR 218, vI mv, vI mrc, vI mmc, vI mmk, vI mdv, vI mwl, vI mwa, vI mwp, vI 0])) 200 (oO 10 [vR 201, vR 202, vR 203, vR 204, vR 205, vR 206, vR 207, vR 208, vR 209, vR 210, vR 211, vR 212, vR 213, vR 214, vR 215, vR 216, vR 217, vR 218, vI mv, vI mrc, vI mmc, vI mmk, vI mdv, vI mwl, vI mwa, vI mwp, vI 2]))) := by
  refine Ct.of (by decide) (Nat.le_of_ble_eq_true rfl) (fun x hg C F => ?_)
  subst hg
  show T x 0 [(0, vR 200), (1, vI d9), (2, vI b9), (3, vI o9), (4, vI r9)] [] h 0 0
  refine st_aload_n C 0 dX11_home_0 rfl rfl ?_
  refine st_aload_n C 0 dX11_home_1 rfl rfl ?_
  refine st_iload_n C 1 dX11_home_2 rfl rfl ?_
  refine st_callV (st := [vR 200]) C dX11_home_3 [vI d9] (k_isDevice_t (d9 := d9) hm hdv hD) hm w_X11_205 rfl (by decide) (by decide) (by omega) (by omega) (Nat.le_of_ble_eq_true rfl) (ko_rt ?_)
  show T x 6 [(0, vR 200), (1, vI d9), (2, vI b9), (3, vI o9), (4, vI r9)] [vI 1, vR 200] _ _ _
  refine st_if_eq (tgt := 21) C dX11_home_6 (by decide) (fun c_6 => by omega) (fun c_6 => ?_)
  refine st_aload_n C 0 dX11_home_9 rfl rfl ?_
  refine st_iload_n C 2 dX11_home_10 rfl rfl ?_
  refine st_callV (st := [vR 200]) C dX11_home_11 [vI b9] (k_isBranch_t (b9 := b9) hm h206 hz hO) hm w_X11_126 rfl (by decide) (by decide) (by omega) (by omega) (Nat.le_of_ble_eq_true rfl) (ko_rt ?_)
  show T x 14 [(0, vR 200), (1, vI d9), (2, vI b9), (3, vI o9), (4, vI r9)] [vI 1, vR 200] _ _ _
  refine st_if_eq (tgt := 21) C dX11_home_14 (by decide) (fun c_14 => by omega) (fun c_14 => ?_)
  refine st_iconst C dX11_home_17 (by decide) ?_
  refine st_goto (tgt := 22) C dX11_home_18 (by decide) ?_
  refine st_iconst C dX11_home_22 (by decide) ?_
  refine st_callV (st := []) C dX11_home_23 [vI 1, vI 1] (k_no_t (p9 := 1) hm) hm w_X11_112 rfl (by decide) (by decide) (by omega) (by omega) (Nat.le_of_ble_eq_true rfl) (ko_rt ?_)
  show T x 26 [(0, vR 200), (1, vI d9), (2, vI b9), (3, vI o9), (4, vI r9)] [vI 0] (hput h 200 (oO 10 [vR 201, vR 202, vR 203, vR 204, vR 205, vR 206, vR 207, vR 208, vR 209, vR 210, vR 211, vR 212, vR 213, vR 214, vR 215, vR 216, vR 217, vR 218, vI mv, vI mrc, vI mmc, vI mmk, vI mdv, vI mwl, vI mwa, vI mwp, vI 0])) _ _
  refine st_if_ne (tgt := 65) C dX11_home_26 (by decide) (fun c_26 => by omega) (fun c_26 => ?_)
  refine st_aload_n C 0 dX11_home_29 rfl rfl ?_
  refine st_iload_n C 3 dX11_home_30 rfl rfl ?_
  refine st_iconst C dX11_home_31 (by decide) ?_
  refine st_sipush C dX11_home_32 (by decide) (by decide) ?_
  by_cases b_35 : 0 ≤ o9 ∧ o9 ≤ 9999
  · refine st_callS (st := [vR 200]) C dX11_home_35 [vI o9, vI 0, vI 9999] (k_isIn_t (v9 := o9) (l9 := 0) (u9 := 9999)  b_35) w_X11_75 rfl (by decide) (by decide) (by omega) (by omega) (Nat.le_of_ble_eq_true rfl) (ko_rt ?_)
    show T x 38 [(0, vR 200), (1, vI d9), (2, vI b9), (3, vI o9), (4, vI r9)] [vI 1, vR 200] _ _ _
    refine st_if_eq (tgt := 57) C dX11_home_38 (by decide) (fun c_38 => by omega) (fun c_38 => ?_)
    refine st_iload C dX11_home_41 rfl ?_
    refine st_iconst C dX11_home_43 (by decide) ?_
    refine st_sipush C dX11_home_44 (by decide) (by decide) ?_
    by_cases b_47 : 0 ≤ r9 ∧ r9 ≤ 9999
    · refine st_callS (st := [vR 200]) C dX11_home_47 [vI r9, vI 0, vI 9999] (k_isIn_t (v9 := r9) (l9 := 0) (u9 := 9999)  b_47) w_X11_75 rfl (by decide) (by decide) (by omega) (by omega) (Nat.le_of_ble_eq_true rfl) (ko_rt ?_)
      show T x 50 [(0, vR 200), (1, vI d9), (2, vI b9), (3, vI o9), (4, vI r9)] [vI 1, vR 200] _ _ _
      refine st_if_eq (tgt := 57) C dX11_home_50 (by decide) (fun c_50 => by omega) (fun c_50 => ?_)
      refine st_iconst C dX11_home_53 (by decide) ?_
      refine st_goto (tgt := 58) C dX11_home_54 (by decide) ?_
      refine st_iconst C dX11_home_58 (by decide) ?_
      exfalso; omega
    · refine st_callS (st := [vR 200]) C dX11_home_47 [vI r9, vI 0, vI 9999] (k_isIn_f (v9 := r9) (l9 := 0) (u9 := 9999)  b_47) w_X11_75 rfl (by decide) (by decide) (by omega) (by omega) (Nat.le_of_ble_eq_true rfl) (ko_rt ?_)
      show T x 50 [(0, vR 200), (1, vI d9), (2, vI b9), (3, vI o9), (4, vI r9)] [vI 0, vR 200] _ _ _
      refine st_if_eq (tgt := 57) C dX11_home_50 (by decide) (fun c_50 => ?_) (fun c_50 => by omega)
      refine st_iconst C dX11_home_57 (by decide) ?_
      refine st_iconst C dX11_home_58 (by decide) ?_
      refine st_callV (st := []) C dX11_home_59 [vI 0, vI 2] (k_no_f (p9 := 2) hput_s) hput_s w_X11_112 rfl (by decide) (by decide) (by omega) (by omega) (Nat.le_of_ble_eq_true rfl) (ko_rt ?_)
      show T x 62 [(0, vR 200), (1, vI d9), (2, vI b9), (3, vI o9), (4, vI r9)] [vI 1] (hput (hput h 200 (oO 10 [vR 201, vR 202, vR 203, vR 204, vR 205, vR 206, vR 207, vR 208, vR 209, vR 210, vR 211, vR 212, vR 213, vR 214, vR 215, vR 216, vR 217, vR 218, vI mv, vI mrc, vI mmc, vI mmk, vI mdv, vI mwl, vI mwa, vI mwp, vI 0])) 200 (oO 10 [vR 201, vR 202, vR 203, vR 204, vR 205, vR 206, vR 207, vR 208, vR 209, vR 210, vR 211, vR 212, vR 213, vR 214, vR 215, vR 216, vR 217, vR 218, vI mv, vI mrc, vI mmc, vI mmk, vI mdv, vI mwl, vI mwa, vI mwp, vI 2])) _ _
      refine st_if_eq (tgt := 67) C dX11_home_62 (by decide) (fun c_62 => by omega) (fun c_62 => ?_)
      refine st_iconst C dX11_home_65 (by decide) ?_
      exact st_ireturn C F dX11_home_66 rfl (by first | (exfalso; omega) | exact ⟨by with_reducible rfl, by with_reducible rfl⟩) (by omega) (by omega)
  · refine st_callS (st := [vR 200]) C dX11_home_35 [vI o9, vI 0, vI 9999] (k_isIn_f (v9 := o9) (l9 := 0) (u9 := 9999)  b_35) w_X11_75 rfl (by decide) (by decide) (by omega) (by omega) (Nat.le_of_ble_eq_true rfl) (ko_rt ?_)
    show T x 38 [(0, vR 200), (1, vI d9), (2, vI b9), (3, vI o9), (4, vI r9)] [vI 0, vR 200] _ _ _
    refine st_if_eq (tgt := 57) C dX11_home_38 (by decide) (fun c_38 => ?_) (fun c_38 => by omega)
    refine st_iconst C dX11_home_57 (by decide) ?_
    refine st_iconst C dX11_home_58 (by decide) ?_
    refine st_callV (st := []) C dX11_home_59 [vI 0, vI 2] (k_no_f (p9 := 2) hput_s) hput_s w_X11_112 rfl (by decide) (by decide) (by omega) (by omega) (Nat.le_of_ble_eq_true rfl) (ko_rt ?_)
    show T x 62 [(0, vR 200), (1, vI d9), (2, vI b9), (3, vI o9), (4, vI r9)] [vI 1] (hput (hput h 200 (oO 10 [vR 201, vR 202, vR 203, vR 204, vR 205, vR 206, vR 207, vR 208, vR 209, vR 210, vR 211, vR 212, vR 213, vR 214, vR 215, vR 216, vR 217, vR 218, vI mv, vI mrc, vI mmc, vI mmk, vI mdv, vI mwl, vI mwa, vI mwp, vI 0])) 200 (oO 10 [vR 201, vR 202, vR 203, vR 204, vR 205, vR 206, vR 207, vR 208, vR 209, vR 210, vR 211, vR 212, vR 213, vR 214, vR 215, vR 216, vR 217, vR 218, vI mv, vI mrc, vI mmc, vI mmk, vI mdv, vI mwl, vI mwa, vI mwp, vI 2])) _ _
    refine st_if_eq (tgt := 67) C dX11_home_62 (by decide) (fun c_62 => by omega) (fun c_62 => ?_)
    refine st_iconst C dX11_home_65 (by decide) ?_
    exact st_ireturn C F dX11_home_66 rfl (by first | (exfalso; omega) | exact ⟨by with_reducible rfl, by with_reducible rfl⟩) (by omega) (by omega)
set_option maxRecDepth 20000 in
set_option maxHeartbeats 4000000 in
theorem m_home {g : Gx} {h : HP} {mv mrc mmc mmk mdv mwl mwa mwp mth : Int} {mop : Int → Int} {mb : Int → Int} {me : Int → Int} {mt : Int → Int} {mi : Int → Int} {mn : Int → Int} {my : Int → Int} {mh : Int → Int} {d9 b9 o9 r9 : Int} (hm : mO h mv mrc mmc mmk mdv mwl mwa mwp mth) (h206 : h 206 = some (oZ 4 mop)) (h207 : h 207 = some (oI 1216 mb)) (h208 : h 208 = some (oI 1216 me)) (h209 : h 209 = some (oI 1216 mt)) (h210 : h 210 = some (oI 1216 mi)) (h213 : h 213 = some (oI 180 mn)) (h214 : h 214 = some (oI 3 my)) (h215 : h 215 = some (oI 3 mh)) (hdv : 0 ≤ mdv ∧ mdv ≤ 3) (hD : 0 ≤ d9 ∧ d9 < mdv) (hz : ∀ i, 0 ≤ i → i ≤ 3 → mop i = 0 ∨ mop i = 1) (hO : 0 ≤ b9 ∧ b9 ≤ 3 ∧ mop b9 = 1) (hQ : (0 ≤ o9 ∧ o9 ≤ 9999) ∧ 0 ≤ r9 ∧ r9 ≤ 9999) (hnv : ∀ j, 0 ≤ j → j < my d9 → (0 ≤ mn (60 * d9 + (3 * j)) ∧ mn (60 * d9 + (3 * j)) ≤ 9999) ∧ 0 ≤ mn (60 * d9 + (3 * j) + 1) ∧ mn (60 * d9 + (3 * j) + 1) ≤ 303) (hc : 0 ≤ my d9 ∧ my d9 ≤ 20) : Ct g yX11_home (.code yX11_home cX11_home 11 (some .int)) 3 0 0 [vR 200, vI d9, vI b9, vI o9, vI r9] h ((fun r h' => r = .inl (some (vI (mfo mb mn b9 (o9 - r9) d9 (my d9).toNat 10000 (me, mt, mi, 0)).2.2.2)) ∧ h' = hput (mb3 (hput (hput (hput h 200 (oO 10 [vR 201, vR 202, vR 203, vR 204, vR 205, vR 206, vR 207, vR 208, vR 209, vR 210, vR 211, vR 212, vR 213, vR 214, vR 215, vR 216, vR 217, vR 218, vI mv, vI mrc, vI mmc, vI mmk, vI mdv, vI mwl, vI mwa, vI mwp, vI 0])) 200 (oO 10 [vR 201, vR 202, vR 203, vR 204, vR 205, vR 206, vR 207, vR 208, vR 209, vR 210, vR 211, vR 212, vR 213, vR 214, vR 215, vR 216, vR 217, vR 218, vI mv, vI mrc, vI mmc, vI mmk, vI mdv, vI mwl, vI mwa, vI mwp, vI 0])) 215 (oI 3 (fput mh d9 (o9 - r9)))) (mfo mb mn b9 (o9 - r9) d9 (my d9).toNat 10000 (me, mt, mi, 0))) 214 (oI 3 (fput my d9 0)))) := by
  refine Ct.of (by decide) (Nat.le_of_ble_eq_true rfl) (fun x hg C F => ?_)
  subst hg
  have hb : 0 ≤ b9 ∧ b9 ≤ 3 := ⟨hO.1, hO.2.1⟩
  show T x 0 [(0, vR 200), (1, vI d9), (2, vI b9), (3, vI o9), (4, vI r9)] [] h 0 0
  refine st_aload_n C 0 dX11_home_0 rfl rfl ?_
  refine st_aload_n C 0 dX11_home_1 rfl rfl ?_
  refine st_iload_n C 1 dX11_home_2 rfl rfl ?_
  refine st_callV (st := [vR 200]) C dX11_home_3 [vI d9] (k_isDevice_t (d9 := d9) hm hdv hD) hm w_X11_205 rfl (by decide) (by decide) (by omega) (by omega) (Nat.le_of_ble_eq_true rfl) (ko_rt ?_)
  show T x 6 [(0, vR 200), (1, vI d9), (2, vI b9), (3, vI o9), (4, vI r9)] [vI 1, vR 200] _ _ _
  refine st_if_eq (tgt := 21) C dX11_home_6 (by decide) (fun c_6 => by omega) (fun c_6 => ?_)
  refine st_aload_n C 0 dX11_home_9 rfl rfl ?_
  refine st_iload_n C 2 dX11_home_10 rfl rfl ?_
  refine st_callV (st := [vR 200]) C dX11_home_11 [vI b9] (k_isBranch_t (b9 := b9) hm h206 hz hO) hm w_X11_126 rfl (by decide) (by decide) (by omega) (by omega) (Nat.le_of_ble_eq_true rfl) (ko_rt ?_)
  show T x 14 [(0, vR 200), (1, vI d9), (2, vI b9), (3, vI o9), (4, vI r9)] [vI 1, vR 200] _ _ _
  refine st_if_eq (tgt := 21) C dX11_home_14 (by decide) (fun c_14 => by omega) (fun c_14 => ?_)
  refine st_iconst C dX11_home_17 (by decide) ?_
  refine st_goto (tgt := 22) C dX11_home_18 (by decide) ?_
  refine st_iconst C dX11_home_22 (by decide) ?_
  refine st_callV (st := []) C dX11_home_23 [vI 1, vI 1] (k_no_t (p9 := 1) hm) hm w_X11_112 rfl (by decide) (by decide) (by omega) (by omega) (Nat.le_of_ble_eq_true rfl) (ko_rt ?_)
  show T x 26 [(0, vR 200), (1, vI d9), (2, vI b9), (3, vI o9), (4, vI r9)] [vI 0] (hput h 200 (oO 10 [vR 201, vR 202, vR 203, vR 204, vR 205, vR 206, vR 207, vR 208, vR 209, vR 210, vR 211, vR 212, vR 213, vR 214, vR 215, vR 216, vR 217, vR 218, vI mv, vI mrc, vI mmc, vI mmk, vI mdv, vI mwl, vI mwa, vI mwp, vI 0])) _ _
  refine st_if_ne (tgt := 65) C dX11_home_26 (by decide) (fun c_26 => by omega) (fun c_26 => ?_)
  refine st_aload_n C 0 dX11_home_29 rfl rfl ?_
  refine st_iload_n C 3 dX11_home_30 rfl rfl ?_
  refine st_iconst C dX11_home_31 (by decide) ?_
  refine st_sipush C dX11_home_32 (by decide) (by decide) ?_
  have b_35 : 0 ≤ o9 ∧ o9 ≤ 9999 := by omega
  refine st_callS (st := [vR 200]) C dX11_home_35 [vI o9, vI 0, vI 9999] (k_isIn_t (v9 := o9) (l9 := 0) (u9 := 9999)  b_35) w_X11_75 rfl (by decide) (by decide) (by omega) (by omega) (Nat.le_of_ble_eq_true rfl) (ko_rt ?_)
  show T x 38 [(0, vR 200), (1, vI d9), (2, vI b9), (3, vI o9), (4, vI r9)] [vI 1, vR 200] _ _ _
  refine st_if_eq (tgt := 57) C dX11_home_38 (by decide) (fun c_38 => by omega) (fun c_38 => ?_)
  refine st_iload C dX11_home_41 rfl ?_
  refine st_iconst C dX11_home_43 (by decide) ?_
  refine st_sipush C dX11_home_44 (by decide) (by decide) ?_
  have b_47 : 0 ≤ r9 ∧ r9 ≤ 9999 := by omega
  refine st_callS (st := [vR 200]) C dX11_home_47 [vI r9, vI 0, vI 9999] (k_isIn_t (v9 := r9) (l9 := 0) (u9 := 9999)  b_47) w_X11_75 rfl (by decide) (by decide) (by omega) (by omega) (Nat.le_of_ble_eq_true rfl) (ko_rt ?_)
  show T x 50 [(0, vR 200), (1, vI d9), (2, vI b9), (3, vI o9), (4, vI r9)] [vI 1, vR 200] _ _ _
  refine st_if_eq (tgt := 57) C dX11_home_50 (by decide) (fun c_50 => by omega) (fun c_50 => ?_)
  refine st_iconst C dX11_home_53 (by decide) ?_
  refine st_goto (tgt := 58) C dX11_home_54 (by decide) ?_
  refine st_iconst C dX11_home_58 (by decide) ?_
  refine st_callV (st := []) C dX11_home_59 [vI 1, vI 2] (k_no_t (p9 := 2) hput_s) hput_s w_X11_112 rfl (by decide) (by decide) (by omega) (by omega) (Nat.le_of_ble_eq_true rfl) (ko_rt ?_)
  show T x 62 [(0, vR 200), (1, vI d9), (2, vI b9), (3, vI o9), (4, vI r9)] [vI 0] (hput (hput h 200 (oO 10 [vR 201, vR 202, vR 203, vR 204, vR 205, vR 206, vR 207, vR 208, vR 209, vR 210, vR 211, vR 212, vR 213, vR 214, vR 215, vR 216, vR 217, vR 218, vI mv, vI mrc, vI mmc, vI mmk, vI mdv, vI mwl, vI mwa, vI mwp, vI 0])) 200 (oO 10 [vR 201, vR 202, vR 203, vR 204, vR 205, vR 206, vR 207, vR 208, vR 209, vR 210, vR 211, vR 212, vR 213, vR 214, vR 215, vR 216, vR 217, vR 218, vI mv, vI mrc, vI mmc, vI mmk, vI mdv, vI mwl, vI mwa, vI mwp, vI 0])) _ _
  refine st_if_eq (tgt := 67) C dX11_home_62 (by decide) (fun c_62 => ?_) (fun c_62 => by omega)
  refine st_aload_n C 0 dX11_home_67 rfl rfl ?_
  refine st_getf C dX11_home_68 fl_X11_53 hput_s rfl ?_
  refine st_iload_n C 1 dX11_home_71 rfl rfl ?_
  refine st_iload_n C 3 dX11_home_72 rfl rfl ?_
  refine st_iload C dX11_home_73 rfl ?_
  refine st_isub C dX11_home_75 ⟨(by omega), (by omega)⟩ ?_
  refine st_iast C dX11_home_76 (hput_o (by omega) (hput_o (by omega) h215)) (by omega) (by omega) ?_
  refine st_iconst C dX11_home_77 (by decide) ?_
  refine st_istore C dX11_home_78 (by decide) rfl ?_
  show T x 80 [(0, vR 200), (1, vI d9), (2, vI b9), (3, vI o9), (4, vI r9), (5, vI 0)] [] _ _ _
  refine st_iconst C dX11_home_80 (by decide) ?_
  refine st_istore C dX11_home_81 (by decide) rfl ?_
  show T x 83 [(0, vR 200), (1, vI d9), (2, vI b9), (3, vI o9), (4, vI r9), (5, vI 0), (6, vI (-1))] [] _ _ _
  refine st_aload_n C 0 dX11_home_83 rfl rfl ?_
  refine st_getf C dX11_home_84 fl_X11_50 (hput_o (by omega) hput_s) rfl ?_
  refine st_iload_n C 1 dX11_home_87 rfl rfl ?_
  refine st_iald C dX11_home_88 (hput_o (by omega) (hput_o (by omega) (hput_o (by omega) h214))) (by omega) (by omega) ?_
  refine st_istore C dX11_home_89 (by decide) rfl ?_
  show T x 91 [(0, vR 200), (1, vI d9), (2, vI b9), (3, vI o9), (4, vI r9), (5, vI 0), (6, vI (-1)), (7, vI (my d9))] [] _ _ _
  have loop_91 : ∀ (n_91 : Nat) (kp : Int) (tm : Int) (lf : Int) (h1 : HP), (-1 ≤ tm ∧ tm ≤ 9999) → (0 ≤ lf ∧ lf ≤ 20) → (0 ≤ kp ∧ kp ≤ 400 - 20 * lf) → (kp = (mfo mb mn b9 (o9 - r9) d9 (my d9).toNat (tm + 1).toNat (me, mt, mi, 0)).2.2.2) → (cnt (fun k => tm < mn (60 * d9 + (3 * k))) (my d9) ≤ lf) → (h1 = mb3 (hput (hput (hput h 200 (oO 10 [vR 201, vR 202, vR 203, vR 204, vR 205, vR 206, vR 207, vR 208, vR 209, vR 210, vR 211, vR 212, vR 213, vR 214, vR 215, vR 216, vR 217, vR 218, vI mv, vI mrc, vI mmc, vI mmk, vI mdv, vI mwl, vI mwa, vI mwp, vI 0])) 200 (oO 10 [vR 201, vR 202, vR 203, vR 204, vR 205, vR 206, vR 207, vR 208, vR 209, vR 210, vR 211, vR 212, vR 213, vR 214, vR 215, vR 216, vR 217, vR 218, vI mv, vI mrc, vI mmc, vI mmk, vI mdv, vI mwl, vI mwa, vI mwp, vI 0])) 215 (oI 3 (fput mh d9 (o9 - r9)))) (mfo mb mn b9 (o9 - r9) d9 (my d9).toNat (tm + 1).toNat (me, mt, mi, 0))) → lf.toNat < n_91 → T x 91 [(0, vR 200), (1, vI d9), (2, vI b9), (3, vI o9), (4, vI r9), (5, vI kp), (6, vI tm), (7, vI lf)] [] h1 0 0 := by
    intro n_91
    induction n_91 with
    | zero => intro kp tm lf h1 g1 g2 g3 g4 g5 hh hm_91; exact absurd hm_91 (Nat.not_lt_zero _)
    | succ n_91 ih_91 =>
      intro kp tm lf h1 g1 g2 g3 g4 g5 hh hm_91
      refine st_iload C dX11_home_91 rfl ?_
      refine st_if_le (tgt := 277) C dX11_home_93 (by decide) (fun c_93 => ?_) (fun c_93 => ?_)
      · refine st_aload_n C 0 dX11_home_277 rfl rfl ?_
        refine st_getf C dX11_home_278 fl_X11_50 (by rw [hh]; exact mb3_o (by decide) (by decide) (by decide) (hput_o (by decide) hput_s)) rfl ?_
        refine st_iload_n C 1 dX11_home_281 rfl rfl ?_
        refine st_iconst C dX11_home_282 (by decide) ?_
        refine st_iast C dX11_home_283 (by rw [hh]; exact mb3_o (by decide) (by decide) (by decide) (hput_o (by decide) (hput_o (by decide) (hput_o (by decide) h214)))) (by omega) (by omega) ?_
        refine st_iload C dX11_home_284 rfl ?_
        exact st_ireturn C F dX11_home_286 rfl (by have e9 : (mfo mb mn b9 (o9 - r9) d9 (my d9).toNat (tm + 1).toNat (me, mt, mi, 0)) = (mfo mb mn b9 (o9 - r9) d9 (my d9).toNat 10000 (me, mt, mi, 0)) := mfo_fin g1 hc.1 (by omega); first | exact ⟨by rw [← e9, ← g4], by rw [← e9, hh]⟩ | (exfalso; omega)) (by omega) (by omega)
      · refine st_iconst C dX11_home_96 (by decide) ?_
        refine st_istore C dX11_home_97 (by decide) rfl ?_
        show T x 99 [(0, vR 200), (1, vI d9), (2, vI b9), (3, vI o9), (4, vI r9), (5, vI kp), (6, vI tm), (7, vI lf), (8, vI (-1))] [] _ _ _
        refine st_iconst C dX11_home_99 (by decide) ?_
        refine st_istore C dX11_home_100 (by decide) rfl ?_
        show T x 102 [(0, vR 200), (1, vI d9), (2, vI b9), (3, vI o9), (4, vI r9), (5, vI kp), (6, vI tm), (7, vI lf), (8, vI (-1)), (9, vI 0)] [] _ _ _
        have loop_102 : ∀ (n_102 : Nat) (be : Int) (k1 : Int), (0 ≤ k1) → (k1 ≤ my d9) → (BsI mn d9 tm k1 be) → (my d9 - k1).toNat < n_102 → T x 102 [(0, vR 200), (1, vI d9), (2, vI b9), (3, vI o9), (4, vI r9), (5, vI kp), (6, vI tm), (7, vI lf), (8, vI be), (9, vI k1)] [] h1 0 0 := by
          intro n_102
          induction n_102 with
          | zero => intro be k1 p1 p2 hb2 hm_102; exact absurd hm_102 (Nat.not_lt_zero _)
          | succ n_102 ih_102 =>
            intro be k1 p1 p2 hb2 hm_102
            have p7 := BsI_b (by omega) (by omega) hb2
            have p8 := fun z9 : k1 < my d9 => hnv k1 p1 z9
            refine st_iload C dX11_home_102 rfl ?_
            refine st_aload_n C 0 dX11_home_104 rfl rfl ?_
            refine st_getf C dX11_home_105 fl_X11_50 (by rw [hh]; exact mb3_o (by decide) (by decide) (by decide) (hput_o (by decide) hput_s)) rfl ?_
            refine st_iload_n C 1 dX11_home_108 rfl rfl ?_
            refine st_iald C dX11_home_109 (by rw [hh]; exact mb3_o (by decide) (by decide) (by decide) (hput_o (by decide) (hput_o (by decide) (hput_o (by decide) h214)))) (by omega) (by omega) ?_
            refine st_icmp_ge (tgt := 173) C dX11_home_110 (by decide) (fun c_110 => ?_) (fun c_110 => ?_)
            · have e8 : k1 = my d9 := by omega
              rw [e8] at hb2
              have p7 := BsI_b (by omega) (by omega) hb2
              have hbe : be = -1 ∨ (0 ≤ be ∧ be ≤ 177 ∧ tm < mn be ∧ mn be ≤ 9999) := by
                rcases id hb2 with z | ⟨j0, y1, y2, y3, y4, -⟩
                · exact Or.inl z.1
                · have y5 := hnv j0 y1 y2
                  rw [← y3] at y5; exact Or.inr ⟨by omega, by omega, y4, by omega⟩
              refine st_iconst C dX11_home_173 (by decide) ?_
              refine st_istore C dX11_home_174 (by decide) rfl ?_
              show T x 176 [(0, vR 200), (1, vI d9), (2, vI b9), (3, vI o9), (4, vI r9), (5, vI kp), (6, vI tm), (7, vI lf), (8, vI be), (9, vI 0)] [] _ _ _
              have loop_176 : ∀ (n_176 : Nat) (kp2 : Int) (k2 : Int) (h3 : HP), (0 ≤ k2 ∧ k2 ≤ my d9) → (0 ≤ kp2 ∧ kp2 ≤ kp + k2) → (kp2 = (mfl mb mn b9 (o9 - r9) d9 (mn be) k2.toNat (mfo mb mn b9 (o9 - r9) d9 (my d9).toNat (tm + 1).toNat (me, mt, mi, 0))).2.2.2) → (be < 0 → (mfl mb mn b9 (o9 - r9) d9 (mn be) k2.toNat (mfo mb mn b9 (o9 - r9) d9 (my d9).toNat (tm + 1).toNat (me, mt, mi, 0))) = (mfo mb mn b9 (o9 - r9) d9 (my d9).toNat (tm + 1).toNat (me, mt, mi, 0))) → (h3 = mb3 (hput (hput (hput h 200 (oO 10 [vR 201, vR 202, vR 203, vR 204, vR 205, vR 206, vR 207, vR 208, vR 209, vR 210, vR 211, vR 212, vR 213, vR 214, vR 215, vR 216, vR 217, vR 218, vI mv, vI mrc, vI mmc, vI mmk, vI mdv, vI mwl, vI mwa, vI mwp, vI 0])) 200 (oO 10 [vR 201, vR 202, vR 203, vR 204, vR 205, vR 206, vR 207, vR 208, vR 209, vR 210, vR 211, vR 212, vR 213, vR 214, vR 215, vR 216, vR 217, vR 218, vI mv, vI mrc, vI mmc, vI mmk, vI mdv, vI mwl, vI mwa, vI mwp, vI 0])) 215 (oI 3 (fput mh d9 (o9 - r9)))) (mfl mb mn b9 (o9 - r9) d9 (mn be) k2.toNat (mfo mb mn b9 (o9 - r9) d9 (my d9).toNat (tm + 1).toNat (me, mt, mi, 0)))) → (my d9 - k2).toNat < n_176 → T x 176 [(0, vR 200), (1, vI d9), (2, vI b9), (3, vI o9), (4, vI r9), (5, vI kp2), (6, vI tm), (7, vI lf), (8, vI be), (9, vI k2)] [] h3 0 0 := by
                intro n_176
                induction n_176 with
                | zero => intro kp2 k2 h3 p3 p5 p4 p6 hh3 hm_176; exact absurd hm_176 (Nat.not_lt_zero _)
                | succ n_176 ih_176 =>
                  intro kp2 k2 h3 p3 p5 p4 p6 hh3 hm_176
                  have p9 := fun z9 : k2 < my d9 => hnv k2 p3.1 z9
                  refine st_iload C dX11_home_176 rfl ?_
                  refine st_aload_n C 0 dX11_home_178 rfl rfl ?_
                  refine st_getf C dX11_home_179 fl_X11_50 (by rw [hh3]; exact mb3_o (by decide) (by decide) (by decide) (hput_o (by decide) hput_s)) rfl ?_
                  refine st_iload_n C 1 dX11_home_182 rfl rfl ?_
                  refine st_iald C dX11_home_183 (by rw [hh3]; exact mb3_o (by decide) (by decide) (by decide) (hput_o (by decide) (hput_o (by decide) (hput_o (by decide) h214)))) (by omega) (by omega) ?_
                  refine st_icmp_ge (tgt := 252) C dX11_home_184 (by decide) (fun c_184 => ?_) (fun c_184 => ?_)
                  · refine st_iload C dX11_home_252 rfl ?_
                    refine st_if_ge (tgt := 262) C dX11_home_254 (by decide) (fun c_254 => ?_) (fun c_254 => ?_)
                    · refine st_aload_n C 0 dX11_home_262 rfl rfl ?_
                      refine st_getf C dX11_home_263 fl_X11_47 (by rw [hh3]; exact mb3_o (by decide) (by decide) (by decide) (hput_o (by decide) hput_s)) rfl ?_
                      refine st_iload C dX11_home_266 rfl ?_
                      refine st_iald C dX11_home_268 (by rw [hh3]; exact mb3_o (by decide) (by decide) (by decide) (hput_o (by decide) (hput_o (by decide) (hput_o (by decide) h213)))) (by omega) (by omega) ?_
                      refine st_istore C dX11_home_269 (by decide) rfl ?_
                      show T x 271 [(0, vR 200), (1, vI d9), (2, vI b9), (3, vI o9), (4, vI r9), (5, vI kp2), (6, vI (mn be)), (7, vI lf), (8, vI be), (9, vI k2)] [] _ _ _
                      refine st_iinc C dX11_home_271 rfl (by decide) rfl ⟨(by omega), (by omega)⟩ ?_
                      show T x 274 [(0, vR 200), (1, vI d9), (2, vI b9), (3, vI o9), (4, vI r9), (5, vI kp2), (6, vI (mn be)), (7, vI (lf + (-1))), (8, vI be), (9, vI k2)] [] _ _ _
                      refine st_goto (tgt := 91) C dX11_home_274 (by decide) ?_
                      refine st_sub [0, 1, 2, 3, 4, 5, 6, 7] rfl ?_
                      exact ih_91 kp2 (mn be) (lf + (-1)) h3 (by have z := hbe; omega) (by omega) (by omega) (by have z2 := mfo_rnd (q := (me, mt, mi, 0)) (mb := mb) (b := b9) (ld := o9 - r9) g1.1 hc.1 hb2 (by omega); rw [← z2]; rw [show k2 = my d9 by omega] at p4; exact p4) (by have z2 := BsI_yes hb2 (by omega); omega) (by have z2 := mfo_rnd (q := (me, mt, mi, 0)) (mb := mb) (b := b9) (ld := o9 - r9) g1.1 hc.1 hb2 (by omega); rw [← z2]; rw [show k2 = my d9 by omega] at hh3; exact hh3) (by omega)
                    · refine st_iload C dX11_home_257 rfl ?_
                      refine st_goto (tgt := 269) C dX11_home_259 (by decide) ?_
                      refine st_istore C dX11_home_269 (by decide) rfl ?_
                      show T x 271 [(0, vR 200), (1, vI d9), (2, vI b9), (3, vI o9), (4, vI r9), (5, vI kp2), (6, vI tm), (7, vI lf), (8, vI be), (9, vI k2)] [] _ _ _
                      refine st_iinc C dX11_home_271 rfl (by decide) rfl ⟨(by omega), (by omega)⟩ ?_
                      show T x 274 [(0, vR 200), (1, vI d9), (2, vI b9), (3, vI o9), (4, vI r9), (5, vI kp2), (6, vI tm), (7, vI (lf + (-1))), (8, vI be), (9, vI k2)] [] _ _ _
                      refine st_goto (tgt := 91) C dX11_home_274 (by decide) ?_
                      refine st_sub [0, 1, 2, 3, 4, 5, 6, 7] rfl ?_
                      exact ih_91 kp2 tm (lf + (-1)) h3 (by have z := hbe; omega) (by omega) (by omega) (by have z := p6 (by omega); rw [z] at p4; exact p4) (by have z2 := BsI_no hb2 (by omega) (by omega); omega) (by have z := p6 (by omega); rw [z] at hh3; exact hh3) (by omega)
                  · refine st_iload C dX11_home_187 rfl ?_
                    refine st_if_lt (tgt := 252) C dX11_home_189 (by decide) (fun c_189 => ?_) (fun c_189 => ?_)
                    · refine st_iload C dX11_home_252 rfl ?_
                      refine st_if_ge (tgt := 262) C dX11_home_254 (by decide) (fun c_254 => by omega) (fun c_254 => ?_)
                      refine st_iload C dX11_home_257 rfl ?_
                      refine st_goto (tgt := 269) C dX11_home_259 (by decide) ?_
                      refine st_istore C dX11_home_269 (by decide) rfl ?_
                      show T x 271 [(0, vR 200), (1, vI d9), (2, vI b9), (3, vI o9), (4, vI r9), (5, vI kp2), (6, vI tm), (7, vI lf), (8, vI be), (9, vI k2)] [] _ _ _
                      refine st_iinc C dX11_home_271 rfl (by decide) rfl ⟨(by omega), (by omega)⟩ ?_
                      show T x 274 [(0, vR 200), (1, vI d9), (2, vI b9), (3, vI o9), (4, vI r9), (5, vI kp2), (6, vI tm), (7, vI (lf + (-1))), (8, vI be), (9, vI k2)] [] _ _ _
                      refine st_goto (tgt := 91) C dX11_home_274 (by decide) ?_
                      refine st_sub [0, 1, 2, 3, 4, 5, 6, 7] rfl ?_
                      exact ih_91 kp2 tm (lf + (-1)) h3 (by have z := hbe; omega) (by omega) (by omega) (by have z := p6 (by omega); rw [z] at p4; exact p4) (by have z2 := BsI_no hb2 (by omega) (by omega); omega) (by have z := p6 (by omega); rw [z] at hh3; exact hh3) (by omega)
                    · refine st_bipush C dX11_home_192 (by decide) (by decide) ?_
                      refine st_iload_n C 1 dX11_home_194 rfl rfl ?_
                      refine st_imul C dX11_home_195 ⟨(by omega), (by omega)⟩ ?_
                      refine st_iconst C dX11_home_196 (by decide) ?_
                      refine st_iload C dX11_home_197 rfl ?_
                      refine st_imul C dX11_home_199 ⟨(by omega), (by omega)⟩ ?_
                      refine st_iadd C dX11_home_200 ⟨(by omega), (by omega)⟩ ?_
                      refine st_istore C dX11_home_201 (by decide) rfl ?_
                      show T x 203 [(0, vR 200), (1, vI d9), (2, vI b9), (3, vI o9), (4, vI r9), (5, vI kp2), (6, vI tm), (7, vI lf), (8, vI be), (9, vI k2), (10, vI (60 * d9 + (3 * k2)))] [] _ _ _
                      refine st_iload C dX11_home_203 rfl ?_
                      refine st_aload_n C 0 dX11_home_205 rfl rfl ?_
                      refine st_getf C dX11_home_206 fl_X11_47 (by rw [hh3]; exact mb3_o (by decide) (by decide) (by decide) (hput_o (by decide) hput_s)) rfl ?_
                      refine st_iload C dX11_home_209 rfl ?_
                      refine st_iald C dX11_home_211 (by rw [hh3]; exact mb3_o (by decide) (by decide) (by decide) (hput_o (by decide) (hput_o (by decide) (hput_o (by decide) h213)))) (by omega) (by omega) ?_
                      refine st_aload_n C 0 dX11_home_212 rfl rfl ?_
                      refine st_getf C dX11_home_213 fl_X11_47 (by rw [hh3]; exact mb3_o (by decide) (by decide) (by decide) (hput_o (by decide) hput_s)) rfl ?_
                      refine st_iload C dX11_home_216 rfl ?_
                      refine st_iald C dX11_home_218 (by rw [hh3]; exact mb3_o (by decide) (by decide) (by decide) (hput_o (by decide) (hput_o (by decide) (hput_o (by decide) h213)))) (by omega) (by omega) ?_
                      refine st_icmp_ne (tgt := 242) C dX11_home_219 (by decide) (fun c_219 => ?_) (fun c_219 => ?_)
                      · refine st_iconst C dX11_home_242 (by decide) ?_
                        refine st_iadd C dX11_home_243 ⟨(by omega), (by omega)⟩ ?_
                        refine st_istore C dX11_home_244 (by decide) rfl ?_
                        show T x 246 [(0, vR 200), (1, vI d9), (2, vI b9), (3, vI o9), (4, vI r9), (5, vI (kp2 + 0)), (6, vI tm), (7, vI lf), (8, vI be), (9, vI k2), (10, vI (60 * d9 + (3 * k2)))] [] _ _ _
                        refine st_iinc C dX11_home_246 rfl (by decide) rfl ⟨(by omega), (by omega)⟩ ?_
                        show T x 249 [(0, vR 200), (1, vI d9), (2, vI b9), (3, vI o9), (4, vI r9), (5, vI (kp2 + 0)), (6, vI tm), (7, vI lf), (8, vI be), (9, vI (k2 + 1)), (10, vI (60 * d9 + (3 * k2)))] [] _ _ _
                        refine st_goto (tgt := 176) C dX11_home_249 (by decide) ?_
                        refine st_sub [0, 1, 2, 3, 4, 5, 6, 7, 8, 9] rfl ?_
                        exact ih_176 (kp2 + 0) (k2 + 1) h3 (by omega) (by omega) (by rw [mfl_s p3.1]; first | (rw [if_pos (by assumption), mst_t (by assumption)]; show _ + 1 = _ + 1; rw [p4]) | (rw [if_pos (by assumption), mst_f (by assumption)]; exact (Int.add_zero _).trans p4) | (rw [if_neg (by assumption)]; exact (Int.add_zero _).trans p4)) (fun z => absurd z (by omega)) (by rw [mfl_s p3.1]; first | (rw [if_pos (by assumption), mst_t (by assumption), hh3]; exact mb3_c) | (rw [if_pos (by assumption), mst_f (by assumption)]; exact hh3) | (rw [if_neg (by assumption)]; exact hh3)) (by omega)
                      · refine st_aload_n C 0 dX11_home_222 rfl rfl ?_
                        refine st_iload_n C 2 dX11_home_223 rfl rfl ?_
                        refine st_iload C dX11_home_224 rfl ?_
                        refine st_aload_n C 0 dX11_home_226 rfl rfl ?_
                        refine st_getf C dX11_home_227 fl_X11_53 (by rw [hh3]; exact mb3_o (by decide) (by decide) (by decide) (hput_o (by decide) hput_s)) rfl ?_
                        refine st_iload_n C 1 dX11_home_230 rfl rfl ?_
                        refine st_iald C dX11_home_231 (by rw [hh3]; exact mb3_o (by decide) (by decide) (by decide) hput_s) (by omega) (by omega) ?_
                        rw [fput_s]
                        by_cases b_232 : ((mfl mb mn b9 (o9 - r9) d9 (mn be) k2.toNat (mfo mb mn b9 (o9 - r9) d9 (my d9).toNat (tm + 1).toNat (me, mt, mi, 0))).2.2.1) (304 * b9 + mn ((60 * d9 + (3 * k2)) + 1)) ≤ mn (60 * d9 + (3 * k2)) - (o9 - r9)
                        · refine st_callV (st := [vI kp2]) C dX11_home_232 [vI b9, vI (60 * d9 + (3 * k2)), vI (o9 - r9)] (k_isBrought_t (b9 := b9) (a9 := (60 * d9 + (3 * k2))) (q9 := o9 - r9) (by rw [hh3]; exact mb3_o (by decide) (by decide) (by decide) (hput_o (by decide) hput_s)) (by rw [hh3]; exact mb3_o (by decide) (by decide) (by decide) (hput_o (by decide) (hput_o (by decide) (hput_o (by decide) h213)))) (by rw [hh3]; exact mb3_10) (by rw [hh3]; exact mb3_o (by decide) (by decide) (by decide) (hput_o (by decide) (hput_o (by decide) (hput_o (by decide) h207)))) (by rw [hh3]; exact mb3_8) (by rw [hh3]; exact mb3_9) hb (by omega) (by omega) (by omega) (by omega) b_232) (by rw [hh3]; exact mb3_o (by decide) (by decide) (by decide) (hput_o (by decide) hput_s)) w_X11_208 rfl (by decide) (by decide) (by omega) (by omega) (Nat.le_of_ble_eq_true rfl) (ko_rt ?_)
                          show T x 235 [(0, vR 200), (1, vI d9), (2, vI b9), (3, vI o9), (4, vI r9), (5, vI kp2), (6, vI tm), (7, vI lf), (8, vI be), (9, vI k2), (10, vI (60 * d9 + (3 * k2)))] [vI 1, vI kp2] (hput (hput (hput h3 210 (oI 1216 (fput ((mfl mb mn b9 (o9 - r9) d9 (mn be) k2.toNat (mfo mb mn b9 (o9 - r9) d9 (my d9).toNat (tm + 1).toNat (me, mt, mi, 0))).2.2.1) (304 * b9 + mn ((60 * d9 + (3 * k2)) + 1)) (mn (60 * d9 + (3 * k2)) - (o9 - r9))))) 208 (oI 1216 (medF ((mfl mb mn b9 (o9 - r9) d9 (mn be) k2.toNat (mfo mb mn b9 (o9 - r9) d9 (my d9).toNat (tm + 1).toNat (me, mt, mi, 0))).1) mb (304 * b9 + mn ((60 * d9 + (3 * k2)) + 1)) (mn ((60 * d9 + (3 * k2)) + 2))))) 209 (oI 1216 (mtoF ((mfl mb mn b9 (o9 - r9) d9 (mn be) k2.toNat (mfo mb mn b9 (o9 - r9) d9 (my d9).toNat (tm + 1).toNat (me, mt, mi, 0))).2.1) mb (304 * b9 + mn ((60 * d9 + (3 * k2)) + 1)) (mn ((60 * d9 + (3 * k2)) + 2))))) _ _
                          refine st_if_eq (tgt := 242) C dX11_home_235 (by decide) (fun c_235 => by omega) (fun c_235 => ?_)
                          refine st_iconst C dX11_home_238 (by decide) ?_
                          refine st_goto (tgt := 243) C dX11_home_239 (by decide) ?_
                          refine st_iadd C dX11_home_243 ⟨(by omega), (by omega)⟩ ?_
                          refine st_istore C dX11_home_244 (by decide) rfl ?_
                          show T x 246 [(0, vR 200), (1, vI d9), (2, vI b9), (3, vI o9), (4, vI r9), (5, vI (kp2 + 1)), (6, vI tm), (7, vI lf), (8, vI be), (9, vI k2), (10, vI (60 * d9 + (3 * k2)))] [] _ _ _
                          refine st_iinc C dX11_home_246 rfl (by decide) rfl ⟨(by omega), (by omega)⟩ ?_
                          show T x 249 [(0, vR 200), (1, vI d9), (2, vI b9), (3, vI o9), (4, vI r9), (5, vI (kp2 + 1)), (6, vI tm), (7, vI lf), (8, vI be), (9, vI (k2 + 1)), (10, vI (60 * d9 + (3 * k2)))] [] _ _ _
                          refine st_goto (tgt := 176) C dX11_home_249 (by decide) ?_
                          refine st_sub [0, 1, 2, 3, 4, 5, 6, 7, 8, 9] rfl ?_
                          exact ih_176 (kp2 + 1) (k2 + 1) (hput (hput (hput h3 210 (oI 1216 (fput ((mfl mb mn b9 (o9 - r9) d9 (mn be) k2.toNat (mfo mb mn b9 (o9 - r9) d9 (my d9).toNat (tm + 1).toNat (me, mt, mi, 0))).2.2.1) (304 * b9 + mn ((60 * d9 + (3 * k2)) + 1)) (mn (60 * d9 + (3 * k2)) - (o9 - r9))))) 208 (oI 1216 (medF ((mfl mb mn b9 (o9 - r9) d9 (mn be) k2.toNat (mfo mb mn b9 (o9 - r9) d9 (my d9).toNat (tm + 1).toNat (me, mt, mi, 0))).1) mb (304 * b9 + mn ((60 * d9 + (3 * k2)) + 1)) (mn ((60 * d9 + (3 * k2)) + 2))))) 209 (oI 1216 (mtoF ((mfl mb mn b9 (o9 - r9) d9 (mn be) k2.toNat (mfo mb mn b9 (o9 - r9) d9 (my d9).toNat (tm + 1).toNat (me, mt, mi, 0))).2.1) mb (304 * b9 + mn ((60 * d9 + (3 * k2)) + 1)) (mn ((60 * d9 + (3 * k2)) + 2))))) (by omega) (by omega) (by rw [mfl_s p3.1]; first | (rw [if_pos (by assumption), mst_t (by assumption)]; show _ + 1 = _ + 1; rw [p4]) | (rw [if_pos (by assumption), mst_f (by assumption)]; exact (Int.add_zero _).trans p4) | (rw [if_neg (by assumption)]; exact (Int.add_zero _).trans p4)) (fun z => absurd z (by omega)) (by rw [mfl_s p3.1]; first | (rw [if_pos (by assumption), mst_t (by assumption), hh3]; exact mb3_c) | (rw [if_pos (by assumption), mst_f (by assumption)]; exact hh3) | (rw [if_neg (by assumption)]; exact hh3)) (by omega)
                        · refine st_callV (st := [vI kp2]) C dX11_home_232 [vI b9, vI (60 * d9 + (3 * k2)), vI (o9 - r9)] (k_isBrought_f (b9 := b9) (a9 := (60 * d9 + (3 * k2))) (q9 := o9 - r9) (by rw [hh3]; exact mb3_o (by decide) (by decide) (by decide) (hput_o (by decide) hput_s)) (by rw [hh3]; exact mb3_o (by decide) (by decide) (by decide) (hput_o (by decide) (hput_o (by decide) (hput_o (by decide) h213)))) (by rw [hh3]; exact mb3_10) (by rw [hh3]; exact mb3_o (by decide) (by decide) (by decide) (hput_o (by decide) (hput_o (by decide) (hput_o (by decide) h207)))) (by rw [hh3]; exact mb3_8) (by rw [hh3]; exact mb3_9) hb (by omega) (by omega) (by omega) (by omega) (Int.not_le.mp b_232)) (by rw [hh3]; exact mb3_o (by decide) (by decide) (by decide) (hput_o (by decide) hput_s)) w_X11_208 rfl (by decide) (by decide) (by omega) (by omega) (Nat.le_of_ble_eq_true rfl) (ko_rt ?_)
                          show T x 235 [(0, vR 200), (1, vI d9), (2, vI b9), (3, vI o9), (4, vI r9), (5, vI kp2), (6, vI tm), (7, vI lf), (8, vI be), (9, vI k2), (10, vI (60 * d9 + (3 * k2)))] [vI 0, vI kp2] _ _ _
                          refine st_if_eq (tgt := 242) C dX11_home_235 (by decide) (fun c_235 => ?_) (fun c_235 => by omega)
                          refine st_iconst C dX11_home_242 (by decide) ?_
                          refine st_iadd C dX11_home_243 ⟨(by omega), (by omega)⟩ ?_
                          refine st_istore C dX11_home_244 (by decide) rfl ?_
                          show T x 246 [(0, vR 200), (1, vI d9), (2, vI b9), (3, vI o9), (4, vI r9), (5, vI (kp2 + 0)), (6, vI tm), (7, vI lf), (8, vI be), (9, vI k2), (10, vI (60 * d9 + (3 * k2)))] [] _ _ _
                          refine st_iinc C dX11_home_246 rfl (by decide) rfl ⟨(by omega), (by omega)⟩ ?_
                          show T x 249 [(0, vR 200), (1, vI d9), (2, vI b9), (3, vI o9), (4, vI r9), (5, vI (kp2 + 0)), (6, vI tm), (7, vI lf), (8, vI be), (9, vI (k2 + 1)), (10, vI (60 * d9 + (3 * k2)))] [] _ _ _
                          refine st_goto (tgt := 176) C dX11_home_249 (by decide) ?_
                          refine st_sub [0, 1, 2, 3, 4, 5, 6, 7, 8, 9] rfl ?_
                          exact ih_176 (kp2 + 0) (k2 + 1) h3 (by omega) (by omega) (by rw [mfl_s p3.1]; first | (rw [if_pos (by assumption), mst_t (by assumption)]; show _ + 1 = _ + 1; rw [p4]) | (rw [if_pos (by assumption), mst_f (by assumption)]; exact (Int.add_zero _).trans p4) | (rw [if_neg (by assumption)]; exact (Int.add_zero _).trans p4)) (fun z => absurd z (by omega)) (by rw [mfl_s p3.1]; first | (rw [if_pos (by assumption), mst_t (by assumption), hh3]; exact mb3_c) | (rw [if_pos (by assumption), mst_f (by assumption)]; exact hh3) | (rw [if_neg (by assumption)]; exact hh3)) (by omega)
              exact loop_176 _ kp 0 h1 (by omega) (by omega) (g4) (fun _ => rfl) (hh) (Nat.lt_succ_self _)
            · refine st_bipush C dX11_home_113 (by decide) (by decide) ?_
              refine st_iload_n C 1 dX11_home_115 rfl rfl ?_
              refine st_imul C dX11_home_116 ⟨(by omega), (by omega)⟩ ?_
              refine st_iconst C dX11_home_117 (by decide) ?_
              refine st_iload C dX11_home_118 rfl ?_
              refine st_imul C dX11_home_120 ⟨(by omega), (by omega)⟩ ?_
              refine st_iadd C dX11_home_121 ⟨(by omega), (by omega)⟩ ?_
              refine st_istore C dX11_home_122 (by decide) rfl ?_
              show T x 124 [(0, vR 200), (1, vI d9), (2, vI b9), (3, vI o9), (4, vI r9), (5, vI kp), (6, vI tm), (7, vI lf), (8, vI be), (9, vI k1), (10, vI (60 * d9 + (3 * k1)))] [] _ _ _
              refine st_aload_n C 0 dX11_home_124 rfl rfl ?_
              refine st_getf C dX11_home_125 fl_X11_47 (by rw [hh]; exact mb3_o (by decide) (by decide) (by decide) (hput_o (by decide) hput_s)) rfl ?_
              refine st_iload C dX11_home_128 rfl ?_
              refine st_iald C dX11_home_130 (by rw [hh]; exact mb3_o (by decide) (by decide) (by decide) (hput_o (by decide) (hput_o (by decide) (hput_o (by decide) h213)))) (by omega) (by omega) ?_
              refine st_iload C dX11_home_131 rfl ?_
              refine st_icmp_le (tgt := 163) C dX11_home_133 (by decide) (fun c_133 => ?_) (fun c_133 => ?_)
              · refine st_iload C dX11_home_163 rfl ?_
                refine st_istore C dX11_home_165 (by decide) rfl ?_
                show T x 167 [(0, vR 200), (1, vI d9), (2, vI b9), (3, vI o9), (4, vI r9), (5, vI kp), (6, vI tm), (7, vI lf), (8, vI be), (9, vI k1), (10, vI (60 * d9 + (3 * k1)))] [] _ _ _
                refine st_iinc C dX11_home_167 rfl (by decide) rfl ⟨(by omega), (by omega)⟩ ?_
                show T x 170 [(0, vR 200), (1, vI d9), (2, vI b9), (3, vI o9), (4, vI r9), (5, vI kp), (6, vI tm), (7, vI lf), (8, vI be), (9, vI (k1 + 1)), (10, vI (60 * d9 + (3 * k1)))] [] _ _ _
                refine st_goto (tgt := 102) C dX11_home_170 (by decide) ?_
                refine st_sub [0, 1, 2, 3, 4, 5, 6, 7, 8, 9] rfl ?_
                exact ih_102 be (k1 + 1) (by omega) (by omega) (by first | exact BsI_f hb2 (fun z => by omega) | exact BsI_t p1 hb2 (by omega) (by omega) (by omega)) (by omega)
              · refine st_iload C dX11_home_136 rfl ?_
                refine st_if_lt (tgt := 158) C dX11_home_138 (by decide) (fun c_138 => ?_) (fun c_138 => ?_)
                · refine st_iload C dX11_home_158 rfl ?_
                  refine st_goto (tgt := 165) C dX11_home_160 (by decide) ?_
                  refine st_istore C dX11_home_165 (by decide) rfl ?_
                  show T x 167 [(0, vR 200), (1, vI d9), (2, vI b9), (3, vI o9), (4, vI r9), (5, vI kp), (6, vI tm), (7, vI lf), (8, vI (60 * d9 + (3 * k1))), (9, vI k1), (10, vI (60 * d9 + (3 * k1)))] [] _ _ _
                  refine st_iinc C dX11_home_167 rfl (by decide) rfl ⟨(by omega), (by omega)⟩ ?_
                  show T x 170 [(0, vR 200), (1, vI d9), (2, vI b9), (3, vI o9), (4, vI r9), (5, vI kp), (6, vI tm), (7, vI lf), (8, vI (60 * d9 + (3 * k1))), (9, vI (k1 + 1)), (10, vI (60 * d9 + (3 * k1)))] [] _ _ _
                  refine st_goto (tgt := 102) C dX11_home_170 (by decide) ?_
                  refine st_sub [0, 1, 2, 3, 4, 5, 6, 7, 8, 9] rfl ?_
                  exact ih_102 (60 * d9 + (3 * k1)) (k1 + 1) (by omega) (by omega) (by first | exact BsI_f hb2 (fun z => by omega) | exact BsI_t p1 hb2 (by omega) (by omega) (by omega)) (by omega)
                · refine st_aload_n C 0 dX11_home_141 rfl rfl ?_
                  refine st_getf C dX11_home_142 fl_X11_47 (by rw [hh]; exact mb3_o (by decide) (by decide) (by decide) (hput_o (by decide) hput_s)) rfl ?_
                  refine st_iload C dX11_home_145 rfl ?_
                  refine st_iald C dX11_home_147 (by rw [hh]; exact mb3_o (by decide) (by decide) (by decide) (hput_o (by decide) (hput_o (by decide) (hput_o (by decide) h213)))) (by omega) (by omega) ?_
                  refine st_aload_n C 0 dX11_home_148 rfl rfl ?_
                  refine st_getf C dX11_home_149 fl_X11_47 (by rw [hh]; exact mb3_o (by decide) (by decide) (by decide) (hput_o (by decide) hput_s)) rfl ?_
                  refine st_iload C dX11_home_152 rfl ?_
                  refine st_iald C dX11_home_154 (by rw [hh]; exact mb3_o (by decide) (by decide) (by decide) (hput_o (by decide) (hput_o (by decide) (hput_o (by decide) h213)))) (by omega) (by omega) ?_
                  refine st_icmp_ge (tgt := 163) C dX11_home_155 (by decide) (fun c_155 => ?_) (fun c_155 => ?_)
                  · refine st_iload C dX11_home_163 rfl ?_
                    refine st_istore C dX11_home_165 (by decide) rfl ?_
                    show T x 167 [(0, vR 200), (1, vI d9), (2, vI b9), (3, vI o9), (4, vI r9), (5, vI kp), (6, vI tm), (7, vI lf), (8, vI be), (9, vI k1), (10, vI (60 * d9 + (3 * k1)))] [] _ _ _
                    refine st_iinc C dX11_home_167 rfl (by decide) rfl ⟨(by omega), (by omega)⟩ ?_
                    show T x 170 [(0, vR 200), (1, vI d9), (2, vI b9), (3, vI o9), (4, vI r9), (5, vI kp), (6, vI tm), (7, vI lf), (8, vI be), (9, vI (k1 + 1)), (10, vI (60 * d9 + (3 * k1)))] [] _ _ _
                    refine st_goto (tgt := 102) C dX11_home_170 (by decide) ?_
                    refine st_sub [0, 1, 2, 3, 4, 5, 6, 7, 8, 9] rfl ?_
                    exact ih_102 be (k1 + 1) (by omega) (by omega) (by first | exact BsI_f hb2 (fun z => by omega) | exact BsI_t p1 hb2 (by omega) (by omega) (by omega)) (by omega)
                  · refine st_iload C dX11_home_158 rfl ?_
                    refine st_goto (tgt := 165) C dX11_home_160 (by decide) ?_
                    refine st_istore C dX11_home_165 (by decide) rfl ?_
                    show T x 167 [(0, vR 200), (1, vI d9), (2, vI b9), (3, vI o9), (4, vI r9), (5, vI kp), (6, vI tm), (7, vI lf), (8, vI (60 * d9 + (3 * k1))), (9, vI k1), (10, vI (60 * d9 + (3 * k1)))] [] _ _ _
                    refine st_iinc C dX11_home_167 rfl (by decide) rfl ⟨(by omega), (by omega)⟩ ?_
                    show T x 170 [(0, vR 200), (1, vI d9), (2, vI b9), (3, vI o9), (4, vI r9), (5, vI kp), (6, vI tm), (7, vI lf), (8, vI (60 * d9 + (3 * k1))), (9, vI (k1 + 1)), (10, vI (60 * d9 + (3 * k1)))] [] _ _ _
                    refine st_goto (tgt := 102) C dX11_home_170 (by decide) ?_
                    refine st_sub [0, 1, 2, 3, 4, 5, 6, 7, 8, 9] rfl ?_
                    exact ih_102 (60 * d9 + (3 * k1)) (k1 + 1) (by omega) (by omega) (by first | exact BsI_f hb2 (fun z => by omega) | exact BsI_t p1 hb2 (by omega) (by omega) (by omega)) (by omega)
        exact loop_102 _ (-1) 0 (by omega) (by omega) (BsI_0) (Nat.lt_succ_self _)
  exact loop_91 _ 0 (-1) (my d9) (hput (hput (hput h 200 (oO 10 [vR 201, vR 202, vR 203, vR 204, vR 205, vR 206, vR 207, vR 208, vR 209, vR 210, vR 211, vR 212, vR 213, vR 214, vR 215, vR 216, vR 217, vR 218, vI mv, vI mrc, vI mmc, vI mmk, vI mdv, vI mwl, vI mwa, vI mwp, vI 0])) 200 (oO 10 [vR 201, vR 202, vR 203, vR 204, vR 205, vR 206, vR 207, vR 208, vR 209, vR 210, vR 211, vR 212, vR 213, vR 214, vR 215, vR 216, vR 217, vR 218, vI mv, vI mrc, vI mmc, vI mmk, vI mdv, vI mwl, vI mwa, vI mwp, vI 0])) 215 (oI 3 (fput mh d9 (o9 - r9)))) (by omega) (by omega) (by omega) (rfl) ((cnt_in _ hc.1).2) (mb3_0 (hput_o (by decide) (hput_o (by decide) (hput_o (by decide) h208))) (hput_o (by decide) (hput_o (by decide) (hput_o (by decide) h209))) (hput_o (by decide) (hput_o (by decide) (hput_o (by decide) h210)))) (Nat.lt_succ_self _)
set_option maxRecDepth 20000 in
set_option maxHeartbeats 4000000 in
theorem m_fullShare_x1 {g : Gx} {h : HP} {mv mrc mmc mmk mdv mwl mwa mwp mth : Int} {mm : Int → Int} {l : Int} (hm : mO h mv mrc mmc mmk mdv mwl mwa mwp mth) (hmm : h 201 = some (oI 12464 mm)) (hv : 0 ≤ mv ∧ mv ≤ 40) (hQ : ¬ (0 ≤ l ∧ l ≤ 2)) : Ct g yX11_fullShare (.code yX11_fullShare cX11_fullShare 2 (some .float)) 3 0 0 [vR 200, vI l] h (Rt (some (vF FP.fconst0)) (hput h 200 (oO 10 [vR 201, vR 202, vR 203, vR 204, vR 205, vR 206, vR 207, vR 208, vR 209, vR 210, vR 211, vR 212, vR 213, vR 214, vR 215, vR 216, vR 217, vR 218, vI mv, vI mrc, vI mmc, vI mmk, vI mdv, vI mwl, vI mwa, vI mwp, vI 1]))) := by
  refine Ct.of (by decide) (Nat.le_of_ble_eq_true rfl) (fun x hg C F => ?_)
  subst hg
  have hp0 := cnt_in (fun j => mm (304 * mv + (64 * l + j)) = 0) (i := 64) (by omega)
  show T x 0 [(0, vR 200), (1, vI l)] [] h 0 0
  refine st_aload_n C 0 dX11_fullShare_0 rfl rfl ?_
  refine st_iload_n C 1 dX11_fullShare_1 rfl rfl ?_
  refine st_callS (st := [vR 200]) C dX11_fullShare_2 [vI l] (k_mLayer_f hQ) w_X11_108 rfl (by decide) (by decide) (by omega) (by omega) (Nat.le_of_ble_eq_true rfl) (ko_rt ?_)
  show T x 5 [(0, vR 200), (1, vI l)] [vI 0, vR 200] _ _ _
  refine st_iconst C dX11_fullShare_5 (by decide) ?_
  refine st_callV (st := []) C dX11_fullShare_6 [vI 0, vI 1] (k_no_f (p9 := 1) hm) hm w_X11_112 rfl (by decide) (by decide) (by omega) (by omega) (Nat.le_of_ble_eq_true rfl) (ko_rt ?_)
  show T x 9 [(0, vR 200), (1, vI l)] [vI 1] (hput h 200 (oO 10 [vR 201, vR 202, vR 203, vR 204, vR 205, vR 206, vR 207, vR 208, vR 209, vR 210, vR 211, vR 212, vR 213, vR 214, vR 215, vR 216, vR 217, vR 218, vI mv, vI mrc, vI mmc, vI mmk, vI mdv, vI mwl, vI mwa, vI mwp, vI 1])) _ _
  refine st_if_eq (tgt := 16) C dX11_fullShare_9 (by decide) (fun c_9 => by omega) (fun c_9 => ?_)
  refine st_fconst0 C dX11_fullShare_12 ?_
  refine st_goto (tgt := 29) C dX11_fullShare_13 (by decide) ?_
  exact st_freturn C F dX11_fullShare_29 rfl (by first | (exfalso; omega) | exact ⟨by with_reducible rfl, by with_reducible rfl⟩) (by omega) (by omega)
set_option maxRecDepth 20000 in
set_option maxHeartbeats 4000000 in
theorem m_fullShare {g : Gx} {h : HP} {mv mrc mmc mmk mdv mwl mwa mwp mth : Int} {mm : Int → Int} {l : Int} (hm : mO h mv mrc mmc mmk mdv mwl mwa mwp mth) (hmm : h 201 = some (oI 12464 mm)) (hv : 0 ≤ mv ∧ mv ≤ 40) (hQ : 0 ≤ l ∧ l ≤ 2) : Ct g yX11_fullShare (.code yX11_fullShare cX11_fullShare 2 (some .float)) 3 0 0 [vR 200, vI l] h (Rt (some (vF (FP.fdiv (FP.i2f (Int32.ofInt (64 - cnt (fun j => mm (304 * mv + (64 * l + j)) = 0) 64))) 1115684864))) (hput h 200 (oO 10 [vR 201, vR 202, vR 203, vR 204, vR 205, vR 206, vR 207, vR 208, vR 209, vR 210, vR 211, vR 212, vR 213, vR 214, vR 215, vR 216, vR 217, vR 218, vI mv, vI mrc, vI mmc, vI mmk, vI mdv, vI mwl, vI mwa, vI mwp, vI 0]))) := by
  refine Ct.of (by decide) (Nat.le_of_ble_eq_true rfl) (fun x hg C F => ?_)
  subst hg
  have hp0 := cnt_in (fun j => mm (304 * mv + (64 * l + j)) = 0) (i := 64) (by omega)
  show T x 0 [(0, vR 200), (1, vI l)] [] h 0 0
  refine st_aload_n C 0 dX11_fullShare_0 rfl rfl ?_
  refine st_iload_n C 1 dX11_fullShare_1 rfl rfl ?_
  refine st_callS (st := [vR 200]) C dX11_fullShare_2 [vI l] (k_mLayer_t hQ) w_X11_108 rfl (by decide) (by decide) (by omega) (by omega) (Nat.le_of_ble_eq_true rfl) (ko_rt ?_)
  show T x 5 [(0, vR 200), (1, vI l)] [vI 1, vR 200] _ _ _
  refine st_iconst C dX11_fullShare_5 (by decide) ?_
  refine st_callV (st := []) C dX11_fullShare_6 [vI 1, vI 1] (k_no_t (p9 := 1) hm) hm w_X11_112 rfl (by decide) (by decide) (by omega) (by omega) (Nat.le_of_ble_eq_true rfl) (ko_rt ?_)
  show T x 9 [(0, vR 200), (1, vI l)] [vI 0] (hput h 200 (oO 10 [vR 201, vR 202, vR 203, vR 204, vR 205, vR 206, vR 207, vR 208, vR 209, vR 210, vR 211, vR 212, vR 213, vR 214, vR 215, vR 216, vR 217, vR 218, vI mv, vI mrc, vI mmc, vI mmk, vI mdv, vI mwl, vI mwa, vI mwp, vI 0])) _ _
  refine st_if_eq (tgt := 16) C dX11_fullShare_9 (by decide) (fun c_9 => ?_) (fun c_9 => by omega)
  refine st_bipush C dX11_fullShare_16 (by decide) (by decide) ?_
  refine st_aload_n C 0 dX11_fullShare_18 rfl rfl ?_
  refine st_iload_n C 1 dX11_fullShare_19 rfl rfl ?_
  refine st_iconst C dX11_fullShare_20 (by decide) ?_
  refine st_callV (st := [vI 64]) C dX11_fullShare_21 [vI l, vI 0] (k_sizeOf (l := l) (a9 := 0) hput_s (hput_o (by omega) hmm) hv (by omega)) hput_s w_X11_190 rfl (by decide) (by decide) (by omega) (by omega) (Nat.le_of_ble_eq_true rfl) (ko_rt ?_)
  show T x 24 [(0, vR 200), (1, vI l)] [vI (cnt (fun j => mm (304 * mv + (64 * l + j)) = 0) 64), vI 64] _ _ _
  refine st_isub C dX11_fullShare_24 ⟨(by omega), (by omega)⟩ ?_
  refine st_i2f C dX11_fullShare_25 ?_
  refine st_ldcf (v := 1115684864) C dX11_fullShare_26 cn_X11_211 ?_
  refine st_fdiv C dX11_fullShare_28 (fsh_ok (by omega) (by omega)) ?_
  exact st_freturn C F dX11_fullShare_29 rfl ⟨rfl, by with_reducible rfl⟩ (by omega) (by omega)
set_option maxRecDepth 20000 in
set_option maxHeartbeats 4000000 in
theorem m_meanSize_x1 {g : Gx} {h : HP} {mv mrc mmc mmk mdv mwl mwa mwp mth : Int} {mm : Int → Int} {l : Int} (hm : mO h mv mrc mmc mmk mdv mwl mwa mwp mth) (hmm : h 201 = some (oI 12464 mm)) (hv : 0 ≤ mv ∧ mv ≤ 40) (hQ : ¬ (0 ≤ l ∧ l ≤ 2)) : Ct g yX11_meanSize (.code yX11_meanSize cX11_meanSize 4 (some .double)) 3 0 0 [vR 200, vI l] h (Rt (some (vD FP.dconst0)) (hput h 200 (oO 10 [vR 201, vR 202, vR 203, vR 204, vR 205, vR 206, vR 207, vR 208, vR 209, vR 210, vR 211, vR 212, vR 213, vR 214, vR 215, vR 216, vR 217, vR 218, vI mv, vI mrc, vI mmc, vI mmk, vI mdv, vI mwl, vI mwa, vI mwp, vI 1]))) := by
  refine Ct.of (by decide) (Nat.le_of_ble_eq_true rfl) (fun x hg C F => ?_)
  subst hg
  have hp0 := cnt_in (fun j => mm (304 * mv + (64 * l + j)) = 0) (i := 64) (by omega)
  show T x 0 [(0, vR 200), (1, vI l)] [] h 0 0
  refine st_aload_n C 0 dX11_meanSize_0 rfl rfl ?_
  refine st_iload_n C 1 dX11_meanSize_1 rfl rfl ?_
  refine st_callS (st := [vR 200]) C dX11_meanSize_2 [vI l] (k_mLayer_f hQ) w_X11_108 rfl (by decide) (by decide) (by omega) (by omega) (Nat.le_of_ble_eq_true rfl) (ko_rt ?_)
  show T x 5 [(0, vR 200), (1, vI l)] [vI 0, vR 200] _ _ _
  refine st_iconst C dX11_meanSize_5 (by decide) ?_
  refine st_callV (st := []) C dX11_meanSize_6 [vI 0, vI 1] (k_no_f (p9 := 1) hm) hm w_X11_112 rfl (by decide) (by decide) (by omega) (by omega) (Nat.le_of_ble_eq_true rfl) (ko_rt ?_)
  show T x 9 [(0, vR 200), (1, vI l)] [vI 1] (hput h 200 (oO 10 [vR 201, vR 202, vR 203, vR 204, vR 205, vR 206, vR 207, vR 208, vR 209, vR 210, vR 211, vR 212, vR 213, vR 214, vR 215, vR 216, vR 217, vR 218, vI mv, vI mrc, vI mmc, vI mmk, vI mdv, vI mwl, vI mwa, vI mwp, vI 1])) _ _
  refine st_if_eq (tgt := 14) C dX11_meanSize_9 (by decide) (fun c_9 => by omega) (fun c_9 => ?_)
  refine st_dconst0 C dX11_meanSize_12 ?_
  exact st_dreturn C F dX11_meanSize_13 rfl (by first | (exfalso; omega) | exact ⟨by with_reducible rfl, by with_reducible rfl⟩) (by omega) (by omega)
set_option maxRecDepth 20000 in
set_option maxHeartbeats 4000000 in
theorem m_meanSize_x2 {g : Gx} {h : HP} {mv mrc mmc mmk mdv mwl mwa mwp mth : Int} {mm : Int → Int} {l : Int} (hm : mO h mv mrc mmc mmk mdv mwl mwa mwp mth) (hmm : h 201 = some (oI 12464 mm)) (hv : 0 ≤ mv ∧ mv ≤ 40) (hQ : 0 ≤ l ∧ l ≤ 2) (hz : cnt (fun a => 0 < cnt (fun j => mm (304 * mv + (64 * l + j)) = a + 1) 64) 9 = 0) : Ct g yX11_meanSize (.code yX11_meanSize cX11_meanSize 4 (some .double)) 3 0 0 [vR 200, vI l] h (Rt (some (vD FP.dconst0)) (hput (hput h 200 (oO 10 [vR 201, vR 202, vR 203, vR 204, vR 205, vR 206, vR 207, vR 208, vR 209, vR 210, vR 211, vR 212, vR 213, vR 214, vR 215, vR 216, vR 217, vR 218, vI mv, vI mrc, vI mmc, vI mmk, vI mdv, vI mwl, vI mwa, vI mwp, vI 0])) 200 (oO 10 [vR 201, vR 202, vR 203, vR 204, vR 205, vR 206, vR 207, vR 208, vR 209, vR 210, vR 211, vR 212, vR 213, vR 214, vR 215, vR 216, vR 217, vR 218, vI mv, vI mrc, vI mmc, vI mmk, vI mdv, vI mwl, vI mwa, vI mwp, vI 2]))) := by
  refine Ct.of (by decide) (Nat.le_of_ble_eq_true rfl) (fun x hg C F => ?_)
  subst hg
  have hp0 := cnt_in (fun j => mm (304 * mv + (64 * l + j)) = 0) (i := 64) (by omega)
  show T x 0 [(0, vR 200), (1, vI l)] [] h 0 0
  refine st_aload_n C 0 dX11_meanSize_0 rfl rfl ?_
  refine st_iload_n C 1 dX11_meanSize_1 rfl rfl ?_
  refine st_callS (st := [vR 200]) C dX11_meanSize_2 [vI l] (k_mLayer_t hQ) w_X11_108 rfl (by decide) (by decide) (by omega) (by omega) (Nat.le_of_ble_eq_true rfl) (ko_rt ?_)
  show T x 5 [(0, vR 200), (1, vI l)] [vI 1, vR 200] _ _ _
  refine st_iconst C dX11_meanSize_5 (by decide) ?_
  refine st_callV (st := []) C dX11_meanSize_6 [vI 1, vI 1] (k_no_t (p9 := 1) hm) hm w_X11_112 rfl (by decide) (by decide) (by omega) (by omega) (Nat.le_of_ble_eq_true rfl) (ko_rt ?_)
  show T x 9 [(0, vR 200), (1, vI l)] [vI 0] (hput h 200 (oO 10 [vR 201, vR 202, vR 203, vR 204, vR 205, vR 206, vR 207, vR 208, vR 209, vR 210, vR 211, vR 212, vR 213, vR 214, vR 215, vR 216, vR 217, vR 218, vI mv, vI mrc, vI mmc, vI mmk, vI mdv, vI mwl, vI mwa, vI mwp, vI 0])) _ _
  refine st_if_eq (tgt := 14) C dX11_meanSize_9 (by decide) (fun c_9 => ?_) (fun c_9 => by omega)
  refine st_iconst C dX11_meanSize_14 (by decide) ?_
  refine st_istore_n C 2 dX11_meanSize_15 rfl (by decide) rfl ?_
  show T x 16 [(0, vR 200), (1, vI l), (2, vI 0)] [] _ _ _
  refine st_iconst C dX11_meanSize_16 (by decide) ?_
  refine st_istore_n C 3 dX11_meanSize_17 rfl (by decide) rfl ?_
  show T x 18 [(0, vR 200), (1, vI l), (2, vI 0), (3, vI 1)] [] _ _ _
  have loop_18 : ∀ (n_18 : Nat) (c1 : Int) (i : Int), (1 ≤ i) → (i ≤ 10) → (0 ≤ c1 ∧ c1 < i) → (c1 = cnt (fun a => 0 < cnt (fun j => mm (304 * mv + (64 * l + j)) = a + 1) 64) (i - 1)) → (10 - i).toNat < n_18 → T x 18 [(0, vR 200), (1, vI l), (2, vI c1), (3, vI i)] [] (hput h 200 (oO 10 [vR 201, vR 202, vR 203, vR 204, vR 205, vR 206, vR 207, vR 208, vR 209, vR 210, vR 211, vR 212, vR 213, vR 214, vR 215, vR 216, vR 217, vR 218, vI mv, vI mrc, vI mmc, vI mmk, vI mdv, vI mwl, vI mwa, vI mwp, vI 0])) 0 0 := by
    intro n_18
    induction n_18 with
    | zero => intro c1 i g1 g2 g3 g4 hm_18; exact absurd hm_18 (Nat.not_lt_zero _)
    | succ n_18 ih_18 =>
      intro c1 i g1 g2 g3 g4 hm_18
      refine st_iload_n C 3 dX11_meanSize_18 rfl rfl ?_
      refine st_bipush C dX11_meanSize_19 (by decide) (by decide) ?_
      refine st_icmp_gt (tgt := 47) C dX11_meanSize_21 (by decide) (fun c_21 => ?_) (fun c_21 => ?_)
      · refine st_aload_n C 0 dX11_meanSize_47 rfl rfl ?_
        refine st_iload_n C 2 dX11_meanSize_48 rfl rfl ?_
        refine st_if_le (tgt := 56) C dX11_meanSize_49 (by decide) (fun c_49 => ?_) (fun c_49 => ?_)
        · refine st_iconst C dX11_meanSize_56 (by decide) ?_
          refine st_iconst C dX11_meanSize_57 (by decide) ?_
          refine st_callV (st := []) C dX11_meanSize_58 [vI 0, vI 2] (k_no_f (p9 := 2) hput_s) hput_s w_X11_112 rfl (by decide) (by decide) (by omega) (by omega) (Nat.le_of_ble_eq_true rfl) (ko_rt ?_)
          show T x 61 [(0, vR 200), (1, vI l), (2, vI c1), (3, vI i)] [vI 1] (hput (hput h 200 (oO 10 [vR 201, vR 202, vR 203, vR 204, vR 205, vR 206, vR 207, vR 208, vR 209, vR 210, vR 211, vR 212, vR 213, vR 214, vR 215, vR 216, vR 217, vR 218, vI mv, vI mrc, vI mmc, vI mmk, vI mdv, vI mwl, vI mwa, vI mwp, vI 0])) 200 (oO 10 [vR 201, vR 202, vR 203, vR 204, vR 205, vR 206, vR 207, vR 208, vR 209, vR 210, vR 211, vR 212, vR 213, vR 214, vR 215, vR 216, vR 217, vR 218, vI mv, vI mrc, vI mmc, vI mmk, vI mdv, vI mwl, vI mwa, vI mwp, vI 2])) _ _
          refine st_if_eq (tgt := 68) C dX11_meanSize_61 (by decide) (fun c_61 => by omega) (fun c_61 => ?_)
          refine st_dconst0 C dX11_meanSize_64 ?_
          refine st_goto (tgt := 81) C dX11_meanSize_65 (by decide) ?_
          exact st_dreturn C F dX11_meanSize_81 rfl (by have e9 : c1 = cnt (fun a => 0 < cnt (fun j => mm (304 * mv + (64 * l + j)) = a + 1) 64) 9 := cntE g4 (by omega); first | exact ⟨by with_reducible rfl, by with_reducible rfl⟩ | (exfalso; omega)) (by omega) (by omega)
        · refine st_iconst C dX11_meanSize_52 (by decide) ?_
          refine st_goto (tgt := 57) C dX11_meanSize_53 (by decide) ?_
          refine st_iconst C dX11_meanSize_57 (by decide) ?_
          have e9 : c1 = cnt (fun a => 0 < cnt (fun j => mm (304 * mv + (64 * l + j)) = a + 1) 64) 9 := cntE g4 (by omega); omega
      · refine st_iload_n C 2 dX11_meanSize_24 rfl rfl ?_
        refine st_aload_n C 0 dX11_meanSize_25 rfl rfl ?_
        refine st_iload_n C 1 dX11_meanSize_26 rfl rfl ?_
        refine st_iload_n C 3 dX11_meanSize_27 rfl rfl ?_
        refine st_callV (st := [vI c1]) C dX11_meanSize_28 [vI l, vI i] (k_sizeOf (l := l) (a9 := i) hput_s (hput_o (by omega) hmm) hv (by omega)) hput_s w_X11_190 rfl (by decide) (by decide) (by omega) (by omega) (Nat.le_of_ble_eq_true rfl) (ko_rt ?_)
        show T x 31 [(0, vR 200), (1, vI l), (2, vI c1), (3, vI i)] [vI (cnt (fun j => mm (304 * mv + (64 * l + j)) = i) 64), vI c1] _ _ _
        refine st_if_le (tgt := 38) C dX11_meanSize_31 (by decide) (fun c_31 => ?_) (fun c_31 => ?_)
        · refine st_iconst C dX11_meanSize_38 (by decide) ?_
          refine st_iadd C dX11_meanSize_39 ⟨(by omega), (by omega)⟩ ?_
          refine st_istore_n C 2 dX11_meanSize_40 rfl (by decide) rfl ?_
          show T x 41 [(0, vR 200), (1, vI l), (2, vI (c1 + 0)), (3, vI i)] [] _ _ _
          refine st_iinc C dX11_meanSize_41 rfl (by decide) rfl ⟨(by omega), (by omega)⟩ ?_
          show T x 44 [(0, vR 200), (1, vI l), (2, vI (c1 + 0)), (3, vI (i + 1))] [] _ _ _
          refine st_goto (tgt := 18) C dX11_meanSize_44 (by decide) ?_
          exact ih_18 (c1 + 0) (i + 1) (by omega) (by omega) (by omega) (by first | exact cnt1_t (P := (fun a => 0 < cnt (fun j => mm (304 * mv + (64 * l + j)) = a + 1) 64)) g1 (by show 0 < cnt (fun j => mm (304 * mv + (64 * l + j)) = i - 1 + 1) 64; rw [Int.sub_add_cancel]; omega) g4 | exact (Int.add_zero _).trans (cnt1_f (P := (fun a => 0 < cnt (fun j => mm (304 * mv + (64 * l + j)) = a + 1) 64)) g1 (by show ¬ 0 < cnt (fun j => mm (304 * mv + (64 * l + j)) = i - 1 + 1) 64; rw [Int.sub_add_cancel]; omega) g4)) (by omega)
        · refine st_iconst C dX11_meanSize_34 (by decide) ?_
          refine st_goto (tgt := 39) C dX11_meanSize_35 (by decide) ?_
          refine st_iadd C dX11_meanSize_39 ⟨(by omega), (by omega)⟩ ?_
          refine st_istore_n C 2 dX11_meanSize_40 rfl (by decide) rfl ?_
          show T x 41 [(0, vR 200), (1, vI l), (2, vI (c1 + 1)), (3, vI i)] [] _ _ _
          refine st_iinc C dX11_meanSize_41 rfl (by decide) rfl ⟨(by omega), (by omega)⟩ ?_
          show T x 44 [(0, vR 200), (1, vI l), (2, vI (c1 + 1)), (3, vI (i + 1))] [] _ _ _
          refine st_goto (tgt := 18) C dX11_meanSize_44 (by decide) ?_
          exact ih_18 (c1 + 1) (i + 1) (by omega) (by omega) (by omega) (by first | exact cnt1_t (P := (fun a => 0 < cnt (fun j => mm (304 * mv + (64 * l + j)) = a + 1) 64)) g1 (by show 0 < cnt (fun j => mm (304 * mv + (64 * l + j)) = i - 1 + 1) 64; rw [Int.sub_add_cancel]; omega) g4 | exact (Int.add_zero _).trans (cnt1_f (P := (fun a => 0 < cnt (fun j => mm (304 * mv + (64 * l + j)) = a + 1) 64)) g1 (by show ¬ 0 < cnt (fun j => mm (304 * mv + (64 * l + j)) = i - 1 + 1) 64; rw [Int.sub_add_cancel]; omega) g4)) (by omega)
  exact loop_18 _ 0 1 (by omega) (by omega) (by omega) (cnt_0) (Nat.lt_succ_self _)
set_option maxRecDepth 20000 in
set_option maxHeartbeats 4000000 in
theorem m_meanSize {g : Gx} {h : HP} {mv mrc mmc mmk mdv mwl mwa mwp mth : Int} {mm : Int → Int} {l : Int} (hm : mO h mv mrc mmc mmk mdv mwl mwa mwp mth) (hmm : h 201 = some (oI 12464 mm)) (hv : 0 ≤ mv ∧ mv ≤ 40) (hQ : 0 ≤ l ∧ l ≤ 2) (hz : cnt (fun a => 0 < cnt (fun j => mm (304 * mv + (64 * l + j)) = a + 1) 64) 9 ≠ 0) : Ct g yX11_meanSize (.code yX11_meanSize cX11_meanSize 4 (some .double)) 3 0 0 [vR 200, vI l] h (Rt (some (vD (FP.ddiv (FP.i2d (Int32.ofInt (64 - cnt (fun j => mm (304 * mv + (64 * l + j)) = 0) 64))) (FP.i2d (Int32.ofInt (cnt (fun a => 0 < cnt (fun j => mm (304 * mv + (64 * l + j)) = a + 1) 64) 9)))))) (hput (hput h 200 (oO 10 [vR 201, vR 202, vR 203, vR 204, vR 205, vR 206, vR 207, vR 208, vR 209, vR 210, vR 211, vR 212, vR 213, vR 214, vR 215, vR 216, vR 217, vR 218, vI mv, vI mrc, vI mmc, vI mmk, vI mdv, vI mwl, vI mwa, vI mwp, vI 0])) 200 (oO 10 [vR 201, vR 202, vR 203, vR 204, vR 205, vR 206, vR 207, vR 208, vR 209, vR 210, vR 211, vR 212, vR 213, vR 214, vR 215, vR 216, vR 217, vR 218, vI mv, vI mrc, vI mmc, vI mmk, vI mdv, vI mwl, vI mwa, vI mwp, vI 0]))) := by
  refine Ct.of (by decide) (Nat.le_of_ble_eq_true rfl) (fun x hg C F => ?_)
  subst hg
  have hp0 := cnt_in (fun j => mm (304 * mv + (64 * l + j)) = 0) (i := 64) (by omega)
  show T x 0 [(0, vR 200), (1, vI l)] [] h 0 0
  refine st_aload_n C 0 dX11_meanSize_0 rfl rfl ?_
  refine st_iload_n C 1 dX11_meanSize_1 rfl rfl ?_
  refine st_callS (st := [vR 200]) C dX11_meanSize_2 [vI l] (k_mLayer_t hQ) w_X11_108 rfl (by decide) (by decide) (by omega) (by omega) (Nat.le_of_ble_eq_true rfl) (ko_rt ?_)
  show T x 5 [(0, vR 200), (1, vI l)] [vI 1, vR 200] _ _ _
  refine st_iconst C dX11_meanSize_5 (by decide) ?_
  refine st_callV (st := []) C dX11_meanSize_6 [vI 1, vI 1] (k_no_t (p9 := 1) hm) hm w_X11_112 rfl (by decide) (by decide) (by omega) (by omega) (Nat.le_of_ble_eq_true rfl) (ko_rt ?_)
  show T x 9 [(0, vR 200), (1, vI l)] [vI 0] (hput h 200 (oO 10 [vR 201, vR 202, vR 203, vR 204, vR 205, vR 206, vR 207, vR 208, vR 209, vR 210, vR 211, vR 212, vR 213, vR 214, vR 215, vR 216, vR 217, vR 218, vI mv, vI mrc, vI mmc, vI mmk, vI mdv, vI mwl, vI mwa, vI mwp, vI 0])) _ _
  refine st_if_eq (tgt := 14) C dX11_meanSize_9 (by decide) (fun c_9 => ?_) (fun c_9 => by omega)
  refine st_iconst C dX11_meanSize_14 (by decide) ?_
  refine st_istore_n C 2 dX11_meanSize_15 rfl (by decide) rfl ?_
  show T x 16 [(0, vR 200), (1, vI l), (2, vI 0)] [] _ _ _
  refine st_iconst C dX11_meanSize_16 (by decide) ?_
  refine st_istore_n C 3 dX11_meanSize_17 rfl (by decide) rfl ?_
  show T x 18 [(0, vR 200), (1, vI l), (2, vI 0), (3, vI 1)] [] _ _ _
  have loop_18 : ∀ (n_18 : Nat) (c1 : Int) (i : Int), (1 ≤ i) → (i ≤ 10) → (0 ≤ c1 ∧ c1 < i) → (c1 = cnt (fun a => 0 < cnt (fun j => mm (304 * mv + (64 * l + j)) = a + 1) 64) (i - 1)) → (10 - i).toNat < n_18 → T x 18 [(0, vR 200), (1, vI l), (2, vI c1), (3, vI i)] [] (hput h 200 (oO 10 [vR 201, vR 202, vR 203, vR 204, vR 205, vR 206, vR 207, vR 208, vR 209, vR 210, vR 211, vR 212, vR 213, vR 214, vR 215, vR 216, vR 217, vR 218, vI mv, vI mrc, vI mmc, vI mmk, vI mdv, vI mwl, vI mwa, vI mwp, vI 0])) 0 0 := by
    intro n_18
    induction n_18 with
    | zero => intro c1 i g1 g2 g3 g4 hm_18; exact absurd hm_18 (Nat.not_lt_zero _)
    | succ n_18 ih_18 =>
      intro c1 i g1 g2 g3 g4 hm_18
      refine st_iload_n C 3 dX11_meanSize_18 rfl rfl ?_
      refine st_bipush C dX11_meanSize_19 (by decide) (by decide) ?_
      refine st_icmp_gt (tgt := 47) C dX11_meanSize_21 (by decide) (fun c_21 => ?_) (fun c_21 => ?_)
      · refine st_aload_n C 0 dX11_meanSize_47 rfl rfl ?_
        refine st_iload_n C 2 dX11_meanSize_48 rfl rfl ?_
        refine st_if_le (tgt := 56) C dX11_meanSize_49 (by decide) (fun c_49 => ?_) (fun c_49 => ?_)
        · refine st_iconst C dX11_meanSize_56 (by decide) ?_
          refine st_iconst C dX11_meanSize_57 (by decide) ?_
          exfalso; have e9 : c1 = cnt (fun a => 0 < cnt (fun j => mm (304 * mv + (64 * l + j)) = a + 1) 64) 9 := cntE g4 (by omega); omega
        · refine st_iconst C dX11_meanSize_52 (by decide) ?_
          refine st_goto (tgt := 57) C dX11_meanSize_53 (by decide) ?_
          refine st_iconst C dX11_meanSize_57 (by decide) ?_
          refine st_callV (st := []) C dX11_meanSize_58 [vI 1, vI 2] (k_no_t (p9 := 2) hput_s) hput_s w_X11_112 rfl (by decide) (by decide) (by omega) (by omega) (Nat.le_of_ble_eq_true rfl) (ko_rt ?_)
          show T x 61 [(0, vR 200), (1, vI l), (2, vI c1), (3, vI i)] [vI 0] (hput (hput h 200 (oO 10 [vR 201, vR 202, vR 203, vR 204, vR 205, vR 206, vR 207, vR 208, vR 209, vR 210, vR 211, vR 212, vR 213, vR 214, vR 215, vR 216, vR 217, vR 218, vI mv, vI mrc, vI mmc, vI mmk, vI mdv, vI mwl, vI mwa, vI mwp, vI 0])) 200 (oO 10 [vR 201, vR 202, vR 203, vR 204, vR 205, vR 206, vR 207, vR 208, vR 209, vR 210, vR 211, vR 212, vR 213, vR 214, vR 215, vR 216, vR 217, vR 218, vI mv, vI mrc, vI mmc, vI mmk, vI mdv, vI mwl, vI mwa, vI mwp, vI 0])) _ _
          refine st_if_eq (tgt := 68) C dX11_meanSize_61 (by decide) (fun c_61 => ?_) (fun c_61 => by omega)
          refine st_bipush C dX11_meanSize_68 (by decide) (by decide) ?_
          refine st_aload_n C 0 dX11_meanSize_70 rfl rfl ?_
          refine st_iload_n C 1 dX11_meanSize_71 rfl rfl ?_
          refine st_iconst C dX11_meanSize_72 (by decide) ?_
          refine st_callV (st := [vI 64]) C dX11_meanSize_73 [vI l, vI 0] (k_sizeOf (l := l) (a9 := 0) hput_s (hput_o (by omega) (hput_o (by omega) hmm)) hv (by omega)) hput_s w_X11_190 rfl (by decide) (by decide) (by omega) (by omega) (Nat.le_of_ble_eq_true rfl) (ko_rt ?_)
          show T x 76 [(0, vR 200), (1, vI l), (2, vI c1), (3, vI i)] [vI (cnt (fun j => mm (304 * mv + (64 * l + j)) = 0) 64), vI 64] _ _ _
          refine st_isub C dX11_meanSize_76 ⟨(by omega), (by omega)⟩ ?_
          refine st_i2d C dX11_meanSize_77 ?_
          refine st_iload_n C 2 dX11_meanSize_78 rfl rfl ?_
          refine st_i2d C dX11_meanSize_79 ?_
          refine st_ddiv C dX11_meanSize_80 (msz_ok (by omega) (by omega) (by omega) (by omega)) ?_
          exact st_dreturn C F dX11_meanSize_81 rfl (by have e9 : c1 = cnt (fun a => 0 < cnt (fun j => mm (304 * mv + (64 * l + j)) = a + 1) 64) 9 := cntE g4 (by omega); first | exact ⟨by rw [e9], by with_reducible rfl⟩ | (exfalso; omega)) (by omega) (by omega)
      · refine st_iload_n C 2 dX11_meanSize_24 rfl rfl ?_
        refine st_aload_n C 0 dX11_meanSize_25 rfl rfl ?_
        refine st_iload_n C 1 dX11_meanSize_26 rfl rfl ?_
        refine st_iload_n C 3 dX11_meanSize_27 rfl rfl ?_
        refine st_callV (st := [vI c1]) C dX11_meanSize_28 [vI l, vI i] (k_sizeOf (l := l) (a9 := i) hput_s (hput_o (by omega) hmm) hv (by omega)) hput_s w_X11_190 rfl (by decide) (by decide) (by omega) (by omega) (Nat.le_of_ble_eq_true rfl) (ko_rt ?_)
        show T x 31 [(0, vR 200), (1, vI l), (2, vI c1), (3, vI i)] [vI (cnt (fun j => mm (304 * mv + (64 * l + j)) = i) 64), vI c1] _ _ _
        refine st_if_le (tgt := 38) C dX11_meanSize_31 (by decide) (fun c_31 => ?_) (fun c_31 => ?_)
        · refine st_iconst C dX11_meanSize_38 (by decide) ?_
          refine st_iadd C dX11_meanSize_39 ⟨(by omega), (by omega)⟩ ?_
          refine st_istore_n C 2 dX11_meanSize_40 rfl (by decide) rfl ?_
          show T x 41 [(0, vR 200), (1, vI l), (2, vI (c1 + 0)), (3, vI i)] [] _ _ _
          refine st_iinc C dX11_meanSize_41 rfl (by decide) rfl ⟨(by omega), (by omega)⟩ ?_
          show T x 44 [(0, vR 200), (1, vI l), (2, vI (c1 + 0)), (3, vI (i + 1))] [] _ _ _
          refine st_goto (tgt := 18) C dX11_meanSize_44 (by decide) ?_
          exact ih_18 (c1 + 0) (i + 1) (by omega) (by omega) (by omega) (by first | exact cnt1_t (P := (fun a => 0 < cnt (fun j => mm (304 * mv + (64 * l + j)) = a + 1) 64)) g1 (by show 0 < cnt (fun j => mm (304 * mv + (64 * l + j)) = i - 1 + 1) 64; rw [Int.sub_add_cancel]; omega) g4 | exact (Int.add_zero _).trans (cnt1_f (P := (fun a => 0 < cnt (fun j => mm (304 * mv + (64 * l + j)) = a + 1) 64)) g1 (by show ¬ 0 < cnt (fun j => mm (304 * mv + (64 * l + j)) = i - 1 + 1) 64; rw [Int.sub_add_cancel]; omega) g4)) (by omega)
        · refine st_iconst C dX11_meanSize_34 (by decide) ?_
          refine st_goto (tgt := 39) C dX11_meanSize_35 (by decide) ?_
          refine st_iadd C dX11_meanSize_39 ⟨(by omega), (by omega)⟩ ?_
          refine st_istore_n C 2 dX11_meanSize_40 rfl (by decide) rfl ?_
          show T x 41 [(0, vR 200), (1, vI l), (2, vI (c1 + 1)), (3, vI i)] [] _ _ _
          refine st_iinc C dX11_meanSize_41 rfl (by decide) rfl ⟨(by omega), (by omega)⟩ ?_
          show T x 44 [(0, vR 200), (1, vI l), (2, vI (c1 + 1)), (3, vI (i + 1))] [] _ _ _
          refine st_goto (tgt := 18) C dX11_meanSize_44 (by decide) ?_
          exact ih_18 (c1 + 1) (i + 1) (by omega) (by omega) (by omega) (by first | exact cnt1_t (P := (fun a => 0 < cnt (fun j => mm (304 * mv + (64 * l + j)) = a + 1) 64)) g1 (by show 0 < cnt (fun j => mm (304 * mv + (64 * l + j)) = i - 1 + 1) 64; rw [Int.sub_add_cancel]; omega) g4 | exact (Int.add_zero _).trans (cnt1_f (P := (fun a => 0 < cnt (fun j => mm (304 * mv + (64 * l + j)) = a + 1) 64)) g1 (by show ¬ 0 < cnt (fun j => mm (304 * mv + (64 * l + j)) = i - 1 + 1) 64; rw [Int.sub_add_cancel]; omega) g4)) (by omega)
  exact loop_18 _ 0 1 (by omega) (by omega) (by omega) (cnt_0) (Nat.lt_succ_self _)
set_option maxRecDepth 20000 in
set_option maxHeartbeats 4000000 in
theorem m_checksum {g : Gx} {h : HP} {mv mrc mmc mmk mdv mwl mwa mwp mth : Int} {mm : Int → Int} (hm : mO h mv mrc mmc mmk mdv mwl mwa mwp mth) (hmm : h 201 = some (oI 12464 mm)) (hv : 0 ≤ mv ∧ mv ≤ 40) : Ct g yX11_checksum (.code yX11_checksum cX11_checksum 4 (some .long)) 2 0 0 [vR 200] h (Rt (some (vL (wJ (wJ (31 * ckS (fun s => mm (304 * mv + s)) 304) + mv)))) h) := by
  refine Ct.of (by decide) (Nat.le_of_ble_eq_true rfl) (fun x hg C F => ?_)
  subst hg
  show T x 0 [(0, vR 200)] [] h 0 0
  refine st_ldc2 (a := 7) C dX11_checksum_0 (by decide) (by decide) cn_X11_212 ?_
  refine st_lstore_n C 1 dX11_checksum_3 rfl (by decide) rfl ?_
  show T x 4 [(0, vR 200), (1, vL 7)] [] _ _ _
  refine st_iconst C dX11_checksum_4 (by decide) ?_
  refine st_istore_n C 3 dX11_checksum_5 rfl (by decide) rfl ?_
  show T x 6 [(0, vR 200), (1, vL 7), (3, vI 0)] [] _ _ _
  have loop_6 : ∀ (n_6 : Nat) (c1 : Int) (i : Int), (0 ≤ i) → (i ≤ 304) → (c1 = ckS (fun s => mm (304 * mv + s)) i.toNat) → (304 - i).toNat < n_6 → T x 6 [(0, vR 200), (1, vL c1), (3, vI i)] [] h 0 0 := by
    intro n_6
    induction n_6 with
    | zero => intro c1 i g1 g2 g3 hm_6; exact absurd hm_6 (Nat.not_lt_zero _)
    | succ n_6 ih_6 =>
      intro c1 i g1 g2 g3 hm_6
      refine st_iload_n C 3 dX11_checksum_6 rfl rfl ?_
      refine st_sipush C dX11_checksum_7 (by decide) (by decide) ?_
      refine st_icmp_ge (tgt := 32) C dX11_checksum_10 (by decide) (fun c_10 => ?_) (fun c_10 => ?_)
      · refine st_ldc2 (a := 31) C dX11_checksum_32 (by decide) (by decide) cn_X11_214 ?_
        refine st_lload_n C 1 dX11_checksum_35 rfl rfl ?_
        refine st_lmul C dX11_checksum_36 ?_
        refine st_aload_n C 0 dX11_checksum_37 rfl rfl ?_
        refine st_getf C dX11_checksum_38 fl_X11_72 hm rfl ?_
        refine st_i2l C dX11_checksum_41 ?_
        refine st_ladd C dX11_checksum_42 ?_
        exact st_lreturn C F dX11_checksum_43 rfl (by have e9 : i = 304 := (by omega); subst e9; rw [g3]; exact ⟨rfl, rfl⟩) (by omega) (by omega)
      · refine st_ldc2 (a := 31) C dX11_checksum_13 (by decide) (by decide) cn_X11_214 ?_
        refine st_lload_n C 1 dX11_checksum_16 rfl rfl ?_
        refine st_lmul C dX11_checksum_17 ?_
        refine st_aload_n C 0 dX11_checksum_18 rfl rfl ?_
        refine st_iload_n C 3 dX11_checksum_19 rfl rfl ?_
        refine st_callV (st := [vL (wJ (31 * c1))]) C dX11_checksum_20 [vI i] (k_now (mm := mm) (s9 := i) hm hmm hv (by omega)) hm w_X11_105 rfl (by decide) (by decide) (by omega) (by omega) (Nat.le_of_ble_eq_true rfl) (ko_rt ?_)
        show T x 23 [(0, vR 200), (1, vL c1), (3, vI i)] [vI (mm (304 * mv + i)), vL (wJ (31 * c1))] _ _ _
        refine st_i2l C dX11_checksum_23 ?_
        refine st_ladd C dX11_checksum_24 ?_
        refine st_lstore_n C 1 dX11_checksum_25 rfl (by decide) rfl ?_
        show T x 26 [(0, vR 200), (1, vL (wJ ((wJ (31 * c1)) + (mm (304 * mv + i))))), (3, vI i)] [] _ _ _
        refine st_iinc C dX11_checksum_26 rfl (by decide) rfl ⟨(by omega), (by omega)⟩ ?_
        show T x 29 [(0, vR 200), (1, vL (wJ ((wJ (31 * c1)) + (mm (304 * mv + i))))), (3, vI (i + 1))] [] _ _ _
        refine st_goto (tgt := 6) C dX11_checksum_29 (by decide) ?_
        exact ih_6 (wJ ((wJ (31 * c1)) + (mm (304 * mv + i)))) (i + 1) (by omega) (by omega) (ckS_s (f := (fun s => mm (304 * mv + s))) g1 g3) (by omega)
  exact loop_6 _ 7 0 (by omega) (by omega) (rfl) (Nat.lt_succ_self _)
/-- the heap behind the making of the reference, but for its tiles -/
def iniM0 (h : HP) : HP := (hput (hput (hput (hput (hput (hput (hput (hput (hput (hput (hput (hput (hput (hput (hput (hput (hput (hput (hput (hput (hput (hput (hput (hput (hput (hput (hput (hput (hput (hput (hput (hput (hput (hput (hput (hput (hput h 201 (oI 12464 (fun _ => 0))) 200 (oO 10 [vR 201, vN, vN, vN, vN, vN, vN, vN, vN, vN, vN, vN, vN, vN, vN, vN, vN, vN, vI 0, vI 0, vI 0, vI 0, vI 0, vI 0, vI 0, vI 0, vI 0])) 202 (oI 304 (fun _ => 0))) 200 (oO 10 [vR 201, vR 202, vN, vN, vN, vN, vN, vN, vN, vN, vN, vN, vN, vN, vN, vN, vN, vN, vI 0, vI 0, vI 0, vI 0, vI 0, vI 0, vI 0, vI 0, vI 0])) 203 (oI 6 (fun _ => 0))) 200 (oO 10 [vR 201, vR 202, vR 203, vN, vN, vN, vN, vN, vN, vN, vN, vN, vN, vN, vN, vN, vN, vN, vI 0, vI 0, vI 0, vI 0, vI 0, vI 0, vI 0, vI 0, vI 0])) 204 (oI 6 (fun _ => 0))) 200 (oO 10 [vR 201, vR 202, vR 203, vR 204, vN, vN, vN, vN, vN, vN, vN, vN, vN, vN, vN, vN, vN, vN, vI 0, vI 0, vI 0, vI 0, vI 0, vI 0, vI 0, vI 0, vI 0])) 205 (oI 6 (fun _ => 0))) 200 (oO 10 [vR 201, vR 202, vR 203, vR 204, vR 205, vN, vN, vN, vN, vN, vN, vN, vN, vN, vN, vN, vN, vN, vI 0, vI 0, vI 0, vI 0, vI 0, vI 0, vI 0, vI 0, vI 0])) 206 (oZ 4 (fun _ => 0))) 200 (oO 10 [vR 201, vR 202, vR 203, vR 204, vR 205, vR 206, vN, vN, vN, vN, vN, vN, vN, vN, vN, vN, vN, vN, vI 0, vI 0, vI 0, vI 0, vI 0, vI 0, vI 0, vI 0, vI 0])) 207 (oI 1216 (fun _ => 0))) 200 (oO 10 [vR 201, vR 202, vR 203, vR 204, vR 205, vR 206, vR 207, vN, vN, vN, vN, vN, vN, vN, vN, vN, vN, vN, vI 0, vI 0, vI 0, vI 0, vI 0, vI 0, vI 0, vI 0, vI 0])) 208 (oI 1216 (fun _ => 0))) 200 (oO 10 [vR 201, vR 202, vR 203, vR 204, vR 205, vR 206, vR 207, vR 208, vN, vN, vN, vN, vN, vN, vN, vN, vN, vN, vI 0, vI 0, vI 0, vI 0, vI 0, vI 0, vI 0, vI 0, vI 0])) 209 (oI 1216 (fun _ => 0))) 200 (oO 10 [vR 201, vR 202, vR 203, vR 204, vR 205, vR 206, vR 207, vR 208, vR 209, vN, vN, vN, vN, vN, vN, vN, vN, vN, vI 0, vI 0, vI 0, vI 0, vI 0, vI 0, vI 0, vI 0, vI 0])) 210 (oI 1216 (fun _ => 0))) 200 (oO 10 [vR 201, vR 202, vR 203, vR 204, vR 205, vR 206, vR 207, vR 208, vR 209, vR 210, vN, vN, vN, vN, vN, vN, vN, vN, vI 0, vI 0, vI 0, vI 0, vI 0, vI 0, vI 0, vI 0, vI 0])) 211 (oI 41 (fun _ => 0))) 200 (oO 10 [vR 201, vR 202, vR 203, vR 204, vR 205, vR 206, vR 207, vR 208, vR 209, vR 210, vR 211, vN, vN, vN, vN, vN, vN, vN, vI 0, vI 0, vI 0, vI 0, vI 0, vI 0, vI 0, vI 0, vI 0])) 212 (oI 768 (fun _ => 0))) 200 (oO 10 [vR 201, vR 202, vR 203, vR 204, vR 205, vR 206, vR 207, vR 208, vR 209, vR 210, vR 211, vR 212, vN, vN, vN, vN, vN, vN, vI 0, vI 0, vI 0, vI 0, vI 0, vI 0, vI 0, vI 0, vI 0])) 213 (oI 180 (fun _ => 0))) 200 (oO 10 [vR 201, vR 202, vR 203, vR 204, vR 205, vR 206, vR 207, vR 208, vR 209, vR 210, vR 211, vR 212, vR 213, vN, vN, vN, vN, vN, vI 0, vI 0, vI 0, vI 0, vI 0, vI 0, vI 0, vI 0, vI 0])) 214 (oI 3 (fun _ => 0))) 200 (oO 10 [vR 201, vR 202, vR 203, vR 204, vR 205, vR 206, vR 207, vR 208, vR 209, vR 210, vR 211, vR 212, vR 213, vR 214, vN, vN, vN, vN, vI 0, vI 0, vI 0, vI 0, vI 0, vI 0, vI 0, vI 0, vI 0])) 215 (oI 3 (fun _ => 0))) 200 (oO 10 [vR 201, vR 202, vR 203, vR 204, vR 205, vR 206, vR 207, vR 208, vR 209, vR 210, vR 211, vR 212, vR 213, vR 214, vR 215, vN, vN, vN, vI 0, vI 0, vI 0, vI 0, vI 0, vI 0, vI 0, vI 0, vI 0])) 216 (oZ 64 (fun _ => 0))) 200 (oO 10 [vR 201, vR 202, vR 203, vR 204, vR 205, vR 206, vR 207, vR 208, vR 209, vR 210, vR 211, vR 212, vR 213, vR 214, vR 215, vR 216, vN, vN, vI 0, vI 0, vI 0, vI 0, vI 0, vI 0, vI 0, vI 0, vI 0])) 217 (oI 64 (fun _ => 0))) 200 (oO 10 [vR 201, vR 202, vR 203, vR 204, vR 205, vR 206, vR 207, vR 208, vR 209, vR 210, vR 211, vR 212, vR 213, vR 214, vR 215, vR 216, vR 217, vN, vI 0, vI 0, vI 0, vI 0, vI 0, vI 0, vI 0, vI 0, vI 0])) 218 (oI 10 (fun _ => 0))) 200 (oO 10 [vR 201, vR 202, vR 203, vR 204, vR 205, vR 206, vR 207, vR 208, vR 209, vR 210, vR 211, vR 212, vR 213, vR 214, vR 215, vR 216, vR 217, vR 218, vI 0, vI 0, vI 0, vI 0, vI 0, vI 0, vI 0, vI 0, vI 0])) 200 (oO 10 [vR 201, vR 202, vR 203, vR 204, vR 205, vR 206, vR 207, vR 208, vR 209, vR 210, vR 211, vR 212, vR 213, vR 214, vR 215, vR 216, vR 217, vR 218, vI 0, vI 0, vI 0, vI 0, vI 0, vI (-1), vI 0, vI 0, vI 0]))
set_option maxRecDepth 20000 in
set_option maxHeartbeats 4000000 in
theorem k_Model {g : Gx} {h : HP}  (h_0 : h 200 = some (oO 10 [vN, vN, vN, vN, vN, vN, vN, vN, vN, vN, vN, vN, vN, vN, vN, vN, vN, vN, vI 0, vI 0, vI 0, vI 0, vI 0, vI 0, vI 0, vI 0, vI 0])) (hfree : ∀ j, 200 < j → j < 219 → h j = none) : Ct g yX11_init (.code yX11_init cX11_init 2 none) 1 18 19000 [vR 200] h (Rt none (hput (iniM0 h) 212 (oI 768 (fmix (fun _ => -1) (fun _ => 0) 768)))) := by
  refine Ct.of (by decide) (Nat.le_of_ble_eq_true rfl) (fun x hg C F => ?_)
  subst hg
  show T x 0 [(0, vR 200)] [] h 0 0
  refine st_aload_n C 0 dX11_init_0 rfl rfl ?_
  refine st_objInit C dX11_init_1 oi_X11_1 oi_2 oi_3 (by decide) (Nat.le_of_ble_eq_true rfl) ?_
  refine st_aload_n C 0 dX11_init_4 rfl rfl ?_
  refine st_sipush C dX11_init_5 (by decide) (by decide) ?_
  refine st_newI C 12464 dX11_init_8 201 rfl (by decide) ac_I (show _ = none from hfree 201 (by decide) (by decide)) (by omega) (by omega) ?_
  show T x 10 [(0, vR 200)] [vR 201, vR 200] (hput h 201 (oI 12464 (fun _ => 0))) (0 + 1) (0 + 12464)
  refine st_putf C dX11_init_10 fp_X11_7 (fun _ => rfl) (hput_o (by omega) h_0) (Nat.le_of_ble_eq_true rfl) fit_arrR ?_
  show T x 13 [(0, vR 200)] [] (hput (hput h 201 (oI 12464 (fun _ => 0))) 200 (oO 10 [vR 201, vN, vN, vN, vN, vN, vN, vN, vN, vN, vN, vN, vN, vN, vN, vN, vN, vN, vI 0, vI 0, vI 0, vI 0, vI 0, vI 0, vI 0, vI 0, vI 0])) _ _
  refine st_aload_n C 0 dX11_init_13 rfl rfl ?_
  refine st_sipush C dX11_init_14 (by decide) (by decide) ?_
  refine st_newI C 304 dX11_init_17 202 rfl (by decide) ac_I (show _ = none from hfree 202 (by decide) (by decide)) (by omega) (by omega) ?_
  show T x 19 [(0, vR 200)] [vR 202, vR 200] (hput (hput (hput h 201 (oI 12464 (fun _ => 0))) 200 (oO 10 [vR 201, vN, vN, vN, vN, vN, vN, vN, vN, vN, vN, vN, vN, vN, vN, vN, vN, vN, vI 0, vI 0, vI 0, vI 0, vI 0, vI 0, vI 0, vI 0, vI 0])) 202 (oI 304 (fun _ => 0))) (0 + 1 + 1) (0 + 12464 + 304)
  refine st_putf C dX11_init_19 fp_X11_13 (fun _ => rfl) (hput_o (by omega) hput_s) (Nat.le_of_ble_eq_true rfl) fit_arrR ?_
  show T x 22 [(0, vR 200)] [] (hput (hput (hput (hput h 201 (oI 12464 (fun _ => 0))) 200 (oO 10 [vR 201, vN, vN, vN, vN, vN, vN, vN, vN, vN, vN, vN, vN, vN, vN, vN, vN, vN, vI 0, vI 0, vI 0, vI 0, vI 0, vI 0, vI 0, vI 0, vI 0])) 202 (oI 304 (fun _ => 0))) 200 (oO 10 [vR 201, vR 202, vN, vN, vN, vN, vN, vN, vN, vN, vN, vN, vN, vN, vN, vN, vN, vN, vI 0, vI 0, vI 0, vI 0, vI 0, vI 0, vI 0, vI 0, vI 0])) _ _
  refine st_aload_n C 0 dX11_init_22 rfl rfl ?_
  refine st_bipush C dX11_init_23 (by decide) (by decide) ?_
  refine st_newI C 6 dX11_init_25 203 rfl (by decide) ac_I (show _ = none from hfree 203 (by decide) (by decide)) (by omega) (by omega) ?_
  show T x 27 [(0, vR 200)] [vR 203, vR 200] (hput (hput (hput (hput (hput h 201 (oI 12464 (fun _ => 0))) 200 (oO 10 [vR 201, vN, vN, vN, vN, vN, vN, vN, vN, vN, vN, vN, vN, vN, vN, vN, vN, vN, vI 0, vI 0, vI 0, vI 0, vI 0, vI 0, vI 0, vI 0, vI 0])) 202 (oI 304 (fun _ => 0))) 200 (oO 10 [vR 201, vR 202, vN, vN, vN, vN, vN, vN, vN, vN, vN, vN, vN, vN, vN, vN, vN, vN, vI 0, vI 0, vI 0, vI 0, vI 0, vI 0, vI 0, vI 0, vI 0])) 203 (oI 6 (fun _ => 0))) (0 + 1 + 1 + 1) (0 + 12464 + 304 + 6)
  refine st_putf C dX11_init_27 fp_X11_16 (fun _ => rfl) (hput_o (by omega) hput_s) (Nat.le_of_ble_eq_true rfl) fit_arrR ?_
  show T x 30 [(0, vR 200)] [] (hput (hput (hput (hput (hput (hput h 201 (oI 12464 (fun _ => 0))) 200 (oO 10 [vR 201, vN, vN, vN, vN, vN, vN, vN, vN, vN, vN, vN, vN, vN, vN, vN, vN, vN, vI 0, vI 0, vI 0, vI 0, vI 0, vI 0, vI 0, vI 0, vI 0])) 202 (oI 304 (fun _ => 0))) 200 (oO 10 [vR 201, vR 202, vN, vN, vN, vN, vN, vN, vN, vN, vN, vN, vN, vN, vN, vN, vN, vN, vI 0, vI 0, vI 0, vI 0, vI 0, vI 0, vI 0, vI 0, vI 0])) 203 (oI 6 (fun _ => 0))) 200 (oO 10 [vR 201, vR 202, vR 203, vN, vN, vN, vN, vN, vN, vN, vN, vN, vN, vN, vN, vN, vN, vN, vI 0, vI 0, vI 0, vI 0, vI 0, vI 0, vI 0, vI 0, vI 0])) _ _
  refine st_aload_n C 0 dX11_init_30 rfl rfl ?_
  refine st_bipush C dX11_init_31 (by decide) (by decide) ?_
  refine st_newI C 6 dX11_init_33 204 rfl (by decide) ac_I (show _ = none from hfree 204 (by decide) (by decide)) (by omega) (by omega) ?_
  show T x 35 [(0, vR 200)] [vR 204, vR 200] (hput (hput (hput (hput (hput (hput (hput h 201 (oI 12464 (fun _ => 0))) 200 (oO 10 [vR 201, vN, vN, vN, vN, vN, vN, vN, vN, vN, vN, vN, vN, vN, vN, vN, vN, vN, vI 0, vI 0, vI 0, vI 0, vI 0, vI 0, vI 0, vI 0, vI 0])) 202 (oI 304 (fun _ => 0))) 200 (oO 10 [vR 201, vR 202, vN, vN, vN, vN, vN, vN, vN, vN, vN, vN, vN, vN, vN, vN, vN, vN, vI 0, vI 0, vI 0, vI 0, vI 0, vI 0, vI 0, vI 0, vI 0])) 203 (oI 6 (fun _ => 0))) 200 (oO 10 [vR 201, vR 202, vR 203, vN, vN, vN, vN, vN, vN, vN, vN, vN, vN, vN, vN, vN, vN, vN, vI 0, vI 0, vI 0, vI 0, vI 0, vI 0, vI 0, vI 0, vI 0])) 204 (oI 6 (fun _ => 0))) (0 + 1 + 1 + 1 + 1) (0 + 12464 + 304 + 6 + 6)
  refine st_putf C dX11_init_35 fp_X11_19 (fun _ => rfl) (hput_o (by omega) hput_s) (Nat.le_of_ble_eq_true rfl) fit_arrR ?_
  show T x 38 [(0, vR 200)] [] (hput (hput (hput (hput (hput (hput (hput (hput h 201 (oI 12464 (fun _ => 0))) 200 (oO 10 [vR 201, vN, vN, vN, vN, vN, vN, vN, vN, vN, vN, vN, vN, vN, vN, vN, vN, vN, vI 0, vI 0, vI 0, vI 0, vI 0, vI 0, vI 0, vI 0, vI 0])) 202 (oI 304 (fun _ => 0))) 200 (oO 10 [vR 201, vR 202, vN, vN, vN, vN, vN, vN, vN, vN, vN, vN, vN, vN, vN, vN, vN, vN, vI 0, vI 0, vI 0, vI 0, vI 0, vI 0, vI 0, vI 0, vI 0])) 203 (oI 6 (fun _ => 0))) 200 (oO 10 [vR 201, vR 202, vR 203, vN, vN, vN, vN, vN, vN, vN, vN, vN, vN, vN, vN, vN, vN, vN, vI 0, vI 0, vI 0, vI 0, vI 0, vI 0, vI 0, vI 0, vI 0])) 204 (oI 6 (fun _ => 0))) 200 (oO 10 [vR 201, vR 202, vR 203, vR 204, vN, vN, vN, vN, vN, vN, vN, vN, vN, vN, vN, vN, vN, vN, vI 0, vI 0, vI 0, vI 0, vI 0, vI 0, vI 0, vI 0, vI 0])) _ _
  refine st_aload_n C 0 dX11_init_38 rfl rfl ?_
  refine st_bipush C dX11_init_39 (by decide) (by decide) ?_
  refine st_newI C 6 dX11_init_41 205 rfl (by decide) ac_I (show _ = none from hfree 205 (by decide) (by decide)) (by omega) (by omega) ?_
  show T x 43 [(0, vR 200)] [vR 205, vR 200] (hput (hput (hput (hput (hput (hput (hput (hput (hput h 201 (oI 12464 (fun _ => 0))) 200 (oO 10 [vR 201, vN, vN, vN, vN, vN, vN, vN, vN, vN, vN, vN, vN, vN, vN, vN, vN, vN, vI 0, vI 0, vI 0, vI 0, vI 0, vI 0, vI 0, vI 0, vI 0])) 202 (oI 304 (fun _ => 0))) 200 (oO 10 [vR 201, vR 202, vN, vN, vN, vN, vN, vN, vN, vN, vN, vN, vN, vN, vN, vN, vN, vN, vI 0, vI 0, vI 0, vI 0, vI 0, vI 0, vI 0, vI 0, vI 0])) 203 (oI 6 (fun _ => 0))) 200 (oO 10 [vR 201, vR 202, vR 203, vN, vN, vN, vN, vN, vN, vN, vN, vN, vN, vN, vN, vN, vN, vN, vI 0, vI 0, vI 0, vI 0, vI 0, vI 0, vI 0, vI 0, vI 0])) 204 (oI 6 (fun _ => 0))) 200 (oO 10 [vR 201, vR 202, vR 203, vR 204, vN, vN, vN, vN, vN, vN, vN, vN, vN, vN, vN, vN, vN, vN, vI 0, vI 0, vI 0, vI 0, vI 0, vI 0, vI 0, vI 0, vI 0])) 205 (oI 6 (fun _ => 0))) (0 + 1 + 1 + 1 + 1 + 1) (0 + 12464 + 304 + 6 + 6 + 6)
  refine st_putf C dX11_init_43 fp_X11_22 (fun _ => rfl) (hput_o (by omega) hput_s) (Nat.le_of_ble_eq_true rfl) fit_arrR ?_
  show T x 46 [(0, vR 200)] [] (hput (hput (hput (hput (hput (hput (hput (hput (hput (hput h 201 (oI 12464 (fun _ => 0))) 200 (oO 10 [vR 201, vN, vN, vN, vN, vN, vN, vN, vN, vN, vN, vN, vN, vN, vN, vN, vN, vN, vI 0, vI 0, vI 0, vI 0, vI 0, vI 0, vI 0, vI 0, vI 0])) 202 (oI 304 (fun _ => 0))) 200 (oO 10 [vR 201, vR 202, vN, vN, vN, vN, vN, vN, vN, vN, vN, vN, vN, vN, vN, vN, vN, vN, vI 0, vI 0, vI 0, vI 0, vI 0, vI 0, vI 0, vI 0, vI 0])) 203 (oI 6 (fun _ => 0))) 200 (oO 10 [vR 201, vR 202, vR 203, vN, vN, vN, vN, vN, vN, vN, vN, vN, vN, vN, vN, vN, vN, vN, vI 0, vI 0, vI 0, vI 0, vI 0, vI 0, vI 0, vI 0, vI 0])) 204 (oI 6 (fun _ => 0))) 200 (oO 10 [vR 201, vR 202, vR 203, vR 204, vN, vN, vN, vN, vN, vN, vN, vN, vN, vN, vN, vN, vN, vN, vI 0, vI 0, vI 0, vI 0, vI 0, vI 0, vI 0, vI 0, vI 0])) 205 (oI 6 (fun _ => 0))) 200 (oO 10 [vR 201, vR 202, vR 203, vR 204, vR 205, vN, vN, vN, vN, vN, vN, vN, vN, vN, vN, vN, vN, vN, vI 0, vI 0, vI 0, vI 0, vI 0, vI 0, vI 0, vI 0, vI 0])) _ _
  refine st_aload_n C 0 dX11_init_46 rfl rfl ?_
  refine st_iconst C dX11_init_47 (by decide) ?_
  refine st_newZ C 4 dX11_init_48 206 rfl (by decide) ac_Z (show _ = none from hfree 206 (by decide) (by decide)) (by omega) (by omega) ?_
  show T x 50 [(0, vR 200)] [vR 206, vR 200] (hput (hput (hput (hput (hput (hput (hput (hput (hput (hput (hput h 201 (oI 12464 (fun _ => 0))) 200 (oO 10 [vR 201, vN, vN, vN, vN, vN, vN, vN, vN, vN, vN, vN, vN, vN, vN, vN, vN, vN, vI 0, vI 0, vI 0, vI 0, vI 0, vI 0, vI 0, vI 0, vI 0])) 202 (oI 304 (fun _ => 0))) 200 (oO 10 [vR 201, vR 202, vN, vN, vN, vN, vN, vN, vN, vN, vN, vN, vN, vN, vN, vN, vN, vN, vI 0, vI 0, vI 0, vI 0, vI 0, vI 0, vI 0, vI 0, vI 0])) 203 (oI 6 (fun _ => 0))) 200 (oO 10 [vR 201, vR 202, vR 203, vN, vN, vN, vN, vN, vN, vN, vN, vN, vN, vN, vN, vN, vN, vN, vI 0, vI 0, vI 0, vI 0, vI 0, vI 0, vI 0, vI 0, vI 0])) 204 (oI 6 (fun _ => 0))) 200 (oO 10 [vR 201, vR 202, vR 203, vR 204, vN, vN, vN, vN, vN, vN, vN, vN, vN, vN, vN, vN, vN, vN, vI 0, vI 0, vI 0, vI 0, vI 0, vI 0, vI 0, vI 0, vI 0])) 205 (oI 6 (fun _ => 0))) 200 (oO 10 [vR 201, vR 202, vR 203, vR 204, vR 205, vN, vN, vN, vN, vN, vN, vN, vN, vN, vN, vN, vN, vN, vI 0, vI 0, vI 0, vI 0, vI 0, vI 0, vI 0, vI 0, vI 0])) 206 (oZ 4 (fun _ => 0))) (0 + 1 + 1 + 1 + 1 + 1 + 1) (0 + 12464 + 304 + 6 + 6 + 6 + 4)
  refine st_putf C dX11_init_50 fp_X11_25 (fun _ => rfl) (hput_o (by omega) hput_s) (Nat.le_of_ble_eq_true rfl) fit_arrR ?_
  show T x 53 [(0, vR 200)] [] (hput (hput (hput (hput (hput (hput (hput (hput (hput (hput (hput (hput h 201 (oI 12464 (fun _ => 0))) 200 (oO 10 [vR 201, vN, vN, vN, vN, vN, vN, vN, vN, vN, vN, vN, vN, vN, vN, vN, vN, vN, vI 0, vI 0, vI 0, vI 0, vI 0, vI 0, vI 0, vI 0, vI 0])) 202 (oI 304 (fun _ => 0))) 200 (oO 10 [vR 201, vR 202, vN, vN, vN, vN, vN, vN, vN, vN, vN, vN, vN, vN, vN, vN, vN, vN, vI 0, vI 0, vI 0, vI 0, vI 0, vI 0, vI 0, vI 0, vI 0])) 203 (oI 6 (fun _ => 0))) 200 (oO 10 [vR 201, vR 202, vR 203, vN, vN, vN, vN, vN, vN, vN, vN, vN, vN, vN, vN, vN, vN, vN, vI 0, vI 0, vI 0, vI 0, vI 0, vI 0, vI 0, vI 0, vI 0])) 204 (oI 6 (fun _ => 0))) 200 (oO 10 [vR 201, vR 202, vR 203, vR 204, vN, vN, vN, vN, vN, vN, vN, vN, vN, vN, vN, vN, vN, vN, vI 0, vI 0, vI 0, vI 0, vI 0, vI 0, vI 0, vI 0, vI 0])) 205 (oI 6 (fun _ => 0))) 200 (oO 10 [vR 201, vR 202, vR 203, vR 204, vR 205, vN, vN, vN, vN, vN, vN, vN, vN, vN, vN, vN, vN, vN, vI 0, vI 0, vI 0, vI 0, vI 0, vI 0, vI 0, vI 0, vI 0])) 206 (oZ 4 (fun _ => 0))) 200 (oO 10 [vR 201, vR 202, vR 203, vR 204, vR 205, vR 206, vN, vN, vN, vN, vN, vN, vN, vN, vN, vN, vN, vN, vI 0, vI 0, vI 0, vI 0, vI 0, vI 0, vI 0, vI 0, vI 0])) _ _
  refine st_aload_n C 0 dX11_init_53 rfl rfl ?_
  refine st_sipush C dX11_init_54 (by decide) (by decide) ?_
  refine st_newI C 1216 dX11_init_57 207 rfl (by decide) ac_I (show _ = none from hfree 207 (by decide) (by decide)) (by omega) (by omega) ?_
  show T x 59 [(0, vR 200)] [vR 207, vR 200] (hput (hput (hput (hput (hput (hput (hput (hput (hput (hput (hput (hput (hput h 201 (oI 12464 (fun _ => 0))) 200 (oO 10 [vR 201, vN, vN, vN, vN, vN, vN, vN, vN, vN, vN, vN, vN, vN, vN, vN, vN, vN, vI 0, vI 0, vI 0, vI 0, vI 0, vI 0, vI 0, vI 0, vI 0])) 202 (oI 304 (fun _ => 0))) 200 (oO 10 [vR 201, vR 202, vN, vN, vN, vN, vN, vN, vN, vN, vN, vN, vN, vN, vN, vN, vN, vN, vI 0, vI 0, vI 0, vI 0, vI 0, vI 0, vI 0, vI 0, vI 0])) 203 (oI 6 (fun _ => 0))) 200 (oO 10 [vR 201, vR 202, vR 203, vN, vN, vN, vN, vN, vN, vN, vN, vN, vN, vN, vN, vN, vN, vN, vI 0, vI 0, vI 0, vI 0, vI 0, vI 0, vI 0, vI 0, vI 0])) 204 (oI 6 (fun _ => 0))) 200 (oO 10 [vR 201, vR 202, vR 203, vR 204, vN, vN, vN, vN, vN, vN, vN, vN, vN, vN, vN, vN, vN, vN, vI 0, vI 0, vI 0, vI 0, vI 0, vI 0, vI 0, vI 0, vI 0])) 205 (oI 6 (fun _ => 0))) 200 (oO 10 [vR 201, vR 202, vR 203, vR 204, vR 205, vN, vN, vN, vN, vN, vN, vN, vN, vN, vN, vN, vN, vN, vI 0, vI 0, vI 0, vI 0, vI 0, vI 0, vI 0, vI 0, vI 0])) 206 (oZ 4 (fun _ => 0))) 200 (oO 10 [vR 201, vR 202, vR 203, vR 204, vR 205, vR 206, vN, vN, vN, vN, vN, vN, vN, vN, vN, vN, vN, vN, vI 0, vI 0, vI 0, vI 0, vI 0, vI 0, vI 0, vI 0, vI 0])) 207 (oI 1216 (fun _ => 0))) (0 + 1 + 1 + 1 + 1 + 1 + 1 + 1) (0 + 12464 + 304 + 6 + 6 + 6 + 4 + 1216)
  refine st_putf C dX11_init_59 fp_X11_29 (fun _ => rfl) (hput_o (by omega) hput_s) (Nat.le_of_ble_eq_true rfl) fit_arrR ?_
  show T x 62 [(0, vR 200)] [] (hput (hput (hput (hput (hput (hput (hput (hput (hput (hput (hput (hput (hput (hput h 201 (oI 12464 (fun _ => 0))) 200 (oO 10 [vR 201, vN, vN, vN, vN, vN, vN, vN, vN, vN, vN, vN, vN, vN, vN, vN, vN, vN, vI 0, vI 0, vI 0, vI 0, vI 0, vI 0, vI 0, vI 0, vI 0])) 202 (oI 304 (fun _ => 0))) 200 (oO 10 [vR 201, vR 202, vN, vN, vN, vN, vN, vN, vN, vN, vN, vN, vN, vN, vN, vN, vN, vN, vI 0, vI 0, vI 0, vI 0, vI 0, vI 0, vI 0, vI 0, vI 0])) 203 (oI 6 (fun _ => 0))) 200 (oO 10 [vR 201, vR 202, vR 203, vN, vN, vN, vN, vN, vN, vN, vN, vN, vN, vN, vN, vN, vN, vN, vI 0, vI 0, vI 0, vI 0, vI 0, vI 0, vI 0, vI 0, vI 0])) 204 (oI 6 (fun _ => 0))) 200 (oO 10 [vR 201, vR 202, vR 203, vR 204, vN, vN, vN, vN, vN, vN, vN, vN, vN, vN, vN, vN, vN, vN, vI 0, vI 0, vI 0, vI 0, vI 0, vI 0, vI 0, vI 0, vI 0])) 205 (oI 6 (fun _ => 0))) 200 (oO 10 [vR 201, vR 202, vR 203, vR 204, vR 205, vN, vN, vN, vN, vN, vN, vN, vN, vN, vN, vN, vN, vN, vI 0, vI 0, vI 0, vI 0, vI 0, vI 0, vI 0, vI 0, vI 0])) 206 (oZ 4 (fun _ => 0))) 200 (oO 10 [vR 201, vR 202, vR 203, vR 204, vR 205, vR 206, vN, vN, vN, vN, vN, vN, vN, vN, vN, vN, vN, vN, vI 0, vI 0, vI 0, vI 0, vI 0, vI 0, vI 0, vI 0, vI 0])) 207 (oI 1216 (fun _ => 0))) 200 (oO 10 [vR 201, vR 202, vR 203, vR 204, vR 205, vR 206, vR 207, vN, vN, vN, vN, vN, vN, vN, vN, vN, vN, vN, vI 0, vI 0, vI 0, vI 0, vI 0, vI 0, vI 0, vI 0, vI 0])) _ _
  refine st_aload_n C 0 dX11_init_62 rfl rfl ?_
  refine st_sipush C dX11_init_63 (by decide) (by decide) ?_
  refine st_newI C 1216 dX11_init_66 208 rfl (by decide) ac_I (show _ = none from hfree 208 (by decide) (by decide)) (by omega) (by omega) ?_
  show T x 68 [(0, vR 200)] [vR 208, vR 200] (hput (hput (hput (hput (hput (hput (hput (hput (hput (hput (hput (hput (hput (hput (hput h 201 (oI 12464 (fun _ => 0))) 200 (oO 10 [vR 201, vN, vN, vN, vN, vN, vN, vN, vN, vN, vN, vN, vN, vN, vN, vN, vN, vN, vI 0, vI 0, vI 0, vI 0, vI 0, vI 0, vI 0, vI 0, vI 0])) 202 (oI 304 (fun _ => 0))) 200 (oO 10 [vR 201, vR 202, vN, vN, vN, vN, vN, vN, vN, vN, vN, vN, vN, vN, vN, vN, vN, vN, vI 0, vI 0, vI 0, vI 0, vI 0, vI 0, vI 0, vI 0, vI 0])) 203 (oI 6 (fun _ => 0))) 200 (oO 10 [vR 201, vR 202, vR 203, vN, vN, vN, vN, vN, vN, vN, vN, vN, vN, vN, vN, vN, vN, vN, vI 0, vI 0, vI 0, vI 0, vI 0, vI 0, vI 0, vI 0, vI 0])) 204 (oI 6 (fun _ => 0))) 200 (oO 10 [vR 201, vR 202, vR 203, vR 204, vN, vN, vN, vN, vN, vN, vN, vN, vN, vN, vN, vN, vN, vN, vI 0, vI 0, vI 0, vI 0, vI 0, vI 0, vI 0, vI 0, vI 0])) 205 (oI 6 (fun _ => 0))) 200 (oO 10 [vR 201, vR 202, vR 203, vR 204, vR 205, vN, vN, vN, vN, vN, vN, vN, vN, vN, vN, vN, vN, vN, vI 0, vI 0, vI 0, vI 0, vI 0, vI 0, vI 0, vI 0, vI 0])) 206 (oZ 4 (fun _ => 0))) 200 (oO 10 [vR 201, vR 202, vR 203, vR 204, vR 205, vR 206, vN, vN, vN, vN, vN, vN, vN, vN, vN, vN, vN, vN, vI 0, vI 0, vI 0, vI 0, vI 0, vI 0, vI 0, vI 0, vI 0])) 207 (oI 1216 (fun _ => 0))) 200 (oO 10 [vR 201, vR 202, vR 203, vR 204, vR 205, vR 206, vR 207, vN, vN, vN, vN, vN, vN, vN, vN, vN, vN, vN, vI 0, vI 0, vI 0, vI 0, vI 0, vI 0, vI 0, vI 0, vI 0])) 208 (oI 1216 (fun _ => 0))) (0 + 1 + 1 + 1 + 1 + 1 + 1 + 1 + 1) (0 + 12464 + 304 + 6 + 6 + 6 + 4 + 1216 + 1216)
  refine st_putf C dX11_init_68 fp_X11_32 (fun _ => rfl) (hput_o (by omega) hput_s) (Nat.le_of_ble_eq_true rfl) fit_arrR ?_
  show T x 71 [(0, vR 200)] [] (hput (hput (hput (hput (hput (hput (hput (hput (hput (hput (hput (hput (hput (hput (hput (hput h 201 (oI 12464 (fun _ => 0))) 200 (oO 10 [vR 201, vN, vN, vN, vN, vN, vN, vN, vN, vN, vN, vN, vN, vN, vN, vN, vN, vN, vI 0, vI 0, vI 0, vI 0, vI 0, vI 0, vI 0, vI 0, vI 0])) 202 (oI 304 (fun _ => 0))) 200 (oO 10 [vR 201, vR 202, vN, vN, vN, vN, vN, vN, vN, vN, vN, vN, vN, vN, vN, vN, vN, vN, vI 0, vI 0, vI 0, vI 0, vI 0, vI 0, vI 0, vI 0, vI 0])) 203 (oI 6 (fun _ => 0))) 200 (oO 10 [vR 201, vR 202, vR 203, vN, vN, vN, vN, vN, vN, vN, vN, vN, vN, vN, vN, vN, vN, vN, vI 0, vI 0, vI 0, vI 0, vI 0, vI 0, vI 0, vI 0, vI 0])) 204 (oI 6 (fun _ => 0))) 200 (oO 10 [vR 201, vR 202, vR 203, vR 204, vN, vN, vN, vN, vN, vN, vN, vN, vN, vN, vN, vN, vN, vN, vI 0, vI 0, vI 0, vI 0, vI 0, vI 0, vI 0, vI 0, vI 0])) 205 (oI 6 (fun _ => 0))) 200 (oO 10 [vR 201, vR 202, vR 203, vR 204, vR 205, vN, vN, vN, vN, vN, vN, vN, vN, vN, vN, vN, vN, vN, vI 0, vI 0, vI 0, vI 0, vI 0, vI 0, vI 0, vI 0, vI 0])) 206 (oZ 4 (fun _ => 0))) 200 (oO 10 [vR 201, vR 202, vR 203, vR 204, vR 205, vR 206, vN, vN, vN, vN, vN, vN, vN, vN, vN, vN, vN, vN, vI 0, vI 0, vI 0, vI 0, vI 0, vI 0, vI 0, vI 0, vI 0])) 207 (oI 1216 (fun _ => 0))) 200 (oO 10 [vR 201, vR 202, vR 203, vR 204, vR 205, vR 206, vR 207, vN, vN, vN, vN, vN, vN, vN, vN, vN, vN, vN, vI 0, vI 0, vI 0, vI 0, vI 0, vI 0, vI 0, vI 0, vI 0])) 208 (oI 1216 (fun _ => 0))) 200 (oO 10 [vR 201, vR 202, vR 203, vR 204, vR 205, vR 206, vR 207, vR 208, vN, vN, vN, vN, vN, vN, vN, vN, vN, vN, vI 0, vI 0, vI 0, vI 0, vI 0, vI 0, vI 0, vI 0, vI 0])) _ _
  refine st_aload_n C 0 dX11_init_71 rfl rfl ?_
  refine st_sipush C dX11_init_72 (by decide) (by decide) ?_
  refine st_newI C 1216 dX11_init_75 209 rfl (by decide) ac_I (show _ = none from hfree 209 (by decide) (by decide)) (by omega) (by omega) ?_
  show T x 77 [(0, vR 200)] [vR 209, vR 200] (hput (hput (hput (hput (hput (hput (hput (hput (hput (hput (hput (hput (hput (hput (hput (hput (hput h 201 (oI 12464 (fun _ => 0))) 200 (oO 10 [vR 201, vN, vN, vN, vN, vN, vN, vN, vN, vN, vN, vN, vN, vN, vN, vN, vN, vN, vI 0, vI 0, vI 0, vI 0, vI 0, vI 0, vI 0, vI 0, vI 0])) 202 (oI 304 (fun _ => 0))) 200 (oO 10 [vR 201, vR 202, vN, vN, vN, vN, vN, vN, vN, vN, vN, vN, vN, vN, vN, vN, vN, vN, vI 0, vI 0, vI 0, vI 0, vI 0, vI 0, vI 0, vI 0, vI 0])) 203 (oI 6 (fun _ => 0))) 200 (oO 10 [vR 201, vR 202, vR 203, vN, vN, vN, vN, vN, vN, vN, vN, vN, vN, vN, vN, vN, vN, vN, vI 0, vI 0, vI 0, vI 0, vI 0, vI 0, vI 0, vI 0, vI 0])) 204 (oI 6 (fun _ => 0))) 200 (oO 10 [vR 201, vR 202, vR 203, vR 204, vN, vN, vN, vN, vN, vN, vN, vN, vN, vN, vN, vN, vN, vN, vI 0, vI 0, vI 0, vI 0, vI 0, vI 0, vI 0, vI 0, vI 0])) 205 (oI 6 (fun _ => 0))) 200 (oO 10 [vR 201, vR 202, vR 203, vR 204, vR 205, vN, vN, vN, vN, vN, vN, vN, vN, vN, vN, vN, vN, vN, vI 0, vI 0, vI 0, vI 0, vI 0, vI 0, vI 0, vI 0, vI 0])) 206 (oZ 4 (fun _ => 0))) 200 (oO 10 [vR 201, vR 202, vR 203, vR 204, vR 205, vR 206, vN, vN, vN, vN, vN, vN, vN, vN, vN, vN, vN, vN, vI 0, vI 0, vI 0, vI 0, vI 0, vI 0, vI 0, vI 0, vI 0])) 207 (oI 1216 (fun _ => 0))) 200 (oO 10 [vR 201, vR 202, vR 203, vR 204, vR 205, vR 206, vR 207, vN, vN, vN, vN, vN, vN, vN, vN, vN, vN, vN, vI 0, vI 0, vI 0, vI 0, vI 0, vI 0, vI 0, vI 0, vI 0])) 208 (oI 1216 (fun _ => 0))) 200 (oO 10 [vR 201, vR 202, vR 203, vR 204, vR 205, vR 206, vR 207, vR 208, vN, vN, vN, vN, vN, vN, vN, vN, vN, vN, vI 0, vI 0, vI 0, vI 0, vI 0, vI 0, vI 0, vI 0, vI 0])) 209 (oI 1216 (fun _ => 0))) (0 + 1 + 1 + 1 + 1 + 1 + 1 + 1 + 1 + 1) (0 + 12464 + 304 + 6 + 6 + 6 + 4 + 1216 + 1216 + 1216)
  refine st_putf C dX11_init_77 fp_X11_35 (fun _ => rfl) (hput_o (by omega) hput_s) (Nat.le_of_ble_eq_true rfl) fit_arrR ?_
  show T x 80 [(0, vR 200)] [] (hput (hput (hput (hput (hput (hput (hput (hput (hput (hput (hput (hput (hput (hput (hput (hput (hput (hput h 201 (oI 12464 (fun _ => 0))) 200 (oO 10 [vR 201, vN, vN, vN, vN, vN, vN, vN, vN, vN, vN, vN, vN, vN, vN, vN, vN, vN, vI 0, vI 0, vI 0, vI 0, vI 0, vI 0, vI 0, vI 0, vI 0])) 202 (oI 304 (fun _ => 0))) 200 (oO 10 [vR 201, vR 202, vN, vN, vN, vN, vN, vN, vN, vN, vN, vN, vN, vN, vN, vN, vN, vN, vI 0, vI 0, vI 0, vI 0, vI 0, vI 0, vI 0, vI 0, vI 0])) 203 (oI 6 (fun _ => 0))) 200 (oO 10 [vR 201, vR 202, vR 203, vN, vN, vN, vN, vN, vN, vN, vN, vN, vN, vN, vN, vN, vN, vN, vI 0, vI 0, vI 0, vI 0, vI 0, vI 0, vI 0, vI 0, vI 0])) 204 (oI 6 (fun _ => 0))) 200 (oO 10 [vR 201, vR 202, vR 203, vR 204, vN, vN, vN, vN, vN, vN, vN, vN, vN, vN, vN, vN, vN, vN, vI 0, vI 0, vI 0, vI 0, vI 0, vI 0, vI 0, vI 0, vI 0])) 205 (oI 6 (fun _ => 0))) 200 (oO 10 [vR 201, vR 202, vR 203, vR 204, vR 205, vN, vN, vN, vN, vN, vN, vN, vN, vN, vN, vN, vN, vN, vI 0, vI 0, vI 0, vI 0, vI 0, vI 0, vI 0, vI 0, vI 0])) 206 (oZ 4 (fun _ => 0))) 200 (oO 10 [vR 201, vR 202, vR 203, vR 204, vR 205, vR 206, vN, vN, vN, vN, vN, vN, vN, vN, vN, vN, vN, vN, vI 0, vI 0, vI 0, vI 0, vI 0, vI 0, vI 0, vI 0, vI 0])) 207 (oI 1216 (fun _ => 0))) 200 (oO 10 [vR 201, vR 202, vR 203, vR 204, vR 205, vR 206, vR 207, vN, vN, vN, vN, vN, vN, vN, vN, vN, vN, vN, vI 0, vI 0, vI 0, vI 0, vI 0, vI 0, vI 0, vI 0, vI 0])) 208 (oI 1216 (fun _ => 0))) 200 (oO 10 [vR 201, vR 202, vR 203, vR 204, vR 205, vR 206, vR 207, vR 208, vN, vN, vN, vN, vN, vN, vN, vN, vN, vN, vI 0, vI 0, vI 0, vI 0, vI 0, vI 0, vI 0, vI 0, vI 0])) 209 (oI 1216 (fun _ => 0))) 200 (oO 10 [vR 201, vR 202, vR 203, vR 204, vR 205, vR 206, vR 207, vR 208, vR 209, vN, vN, vN, vN, vN, vN, vN, vN, vN, vI 0, vI 0, vI 0, vI 0, vI 0, vI 0, vI 0, vI 0, vI 0])) _ _
  refine st_aload_n C 0 dX11_init_80 rfl rfl ?_
  refine st_sipush C dX11_init_81 (by decide) (by decide) ?_
  refine st_newI C 1216 dX11_init_84 210 rfl (by decide) ac_I (show _ = none from hfree 210 (by decide) (by decide)) (by omega) (by omega) ?_
  show T x 86 [(0, vR 200)] [vR 210, vR 200] (hput (hput (hput (hput (hput (hput (hput (hput (hput (hput (hput (hput (hput (hput (hput (hput (hput (hput (hput h 201 (oI 12464 (fun _ => 0))) 200 (oO 10 [vR 201, vN, vN, vN, vN, vN, vN, vN, vN, vN, vN, vN, vN, vN, vN, vN, vN, vN, vI 0, vI 0, vI 0, vI 0, vI 0, vI 0, vI 0, vI 0, vI 0])) 202 (oI 304 (fun _ => 0))) 200 (oO 10 [vR 201, vR 202, vN, vN, vN, vN, vN, vN, vN, vN, vN, vN, vN, vN, vN, vN, vN, vN, vI 0, vI 0, vI 0, vI 0, vI 0, vI 0, vI 0, vI 0, vI 0])) 203 (oI 6 (fun _ => 0))) 200 (oO 10 [vR 201, vR 202, vR 203, vN, vN, vN, vN, vN, vN, vN, vN, vN, vN, vN, vN, vN, vN, vN, vI 0, vI 0, vI 0, vI 0, vI 0, vI 0, vI 0, vI 0, vI 0])) 204 (oI 6 (fun _ => 0))) 200 (oO 10 [vR 201, vR 202, vR 203, vR 204, vN, vN, vN, vN, vN, vN, vN, vN, vN, vN, vN, vN, vN, vN, vI 0, vI 0, vI 0, vI 0, vI 0, vI 0, vI 0, vI 0, vI 0])) 205 (oI 6 (fun _ => 0))) 200 (oO 10 [vR 201, vR 202, vR 203, vR 204, vR 205, vN, vN, vN, vN, vN, vN, vN, vN, vN, vN, vN, vN, vN, vI 0, vI 0, vI 0, vI 0, vI 0, vI 0, vI 0, vI 0, vI 0])) 206 (oZ 4 (fun _ => 0))) 200 (oO 10 [vR 201, vR 202, vR 203, vR 204, vR 205, vR 206, vN, vN, vN, vN, vN, vN, vN, vN, vN, vN, vN, vN, vI 0, vI 0, vI 0, vI 0, vI 0, vI 0, vI 0, vI 0, vI 0])) 207 (oI 1216 (fun _ => 0))) 200 (oO 10 [vR 201, vR 202, vR 203, vR 204, vR 205, vR 206, vR 207, vN, vN, vN, vN, vN, vN, vN, vN, vN, vN, vN, vI 0, vI 0, vI 0, vI 0, vI 0, vI 0, vI 0, vI 0, vI 0])) 208 (oI 1216 (fun _ => 0))) 200 (oO 10 [vR 201, vR 202, vR 203, vR 204, vR 205, vR 206, vR 207, vR 208, vN, vN, vN, vN, vN, vN, vN, vN, vN, vN, vI 0, vI 0, vI 0, vI 0, vI 0, vI 0, vI 0, vI 0, vI 0])) 209 (oI 1216 (fun _ => 0))) 200 (oO 10 [vR 201, vR 202, vR 203, vR 204, vR 205, vR 206, vR 207, vR 208, vR 209, vN, vN, vN, vN, vN, vN, vN, vN, vN, vI 0, vI 0, vI 0, vI 0, vI 0, vI 0, vI 0, vI 0, vI 0])) 210 (oI 1216 (fun _ => 0))) (0 + 1 + 1 + 1 + 1 + 1 + 1 + 1 + 1 + 1 + 1) (0 + 12464 + 304 + 6 + 6 + 6 + 4 + 1216 + 1216 + 1216 + 1216)
  refine st_putf C dX11_init_86 fp_X11_38 (fun _ => rfl) (hput_o (by omega) hput_s) (Nat.le_of_ble_eq_true rfl) fit_arrR ?_
  show T x 89 [(0, vR 200)] [] (hput (hput (hput (hput (hput (hput (hput (hput (hput (hput (hput (hput (hput (hput (hput (hput (hput (hput (hput (hput h 201 (oI 12464 (fun _ => 0))) 200 (oO 10 [vR 201, vN, vN, vN, vN, vN, vN, vN, vN, vN, vN, vN, vN, vN, vN, vN, vN, vN, vI 0, vI 0, vI 0, vI 0, vI 0, vI 0, vI 0, vI 0, vI 0])) 202 (oI 304 (fun _ => 0))) 200 (oO 10 [vR 201, vR 202, vN, vN, vN, vN, vN, vN, vN, vN, vN, vN, vN, vN, vN, vN, vN, vN, vI 0, vI 0, vI 0, vI 0, vI 0, vI 0, vI 0, vI 0, vI 0])) 203 (oI 6 (fun _ => 0))) 200 (oO 10 [vR 201, vR 202, vR 203, vN, vN, vN, vN, vN, vN, vN, vN, vN, vN, vN, vN, vN, vN, vN, vI 0, vI 0, vI 0, vI 0, vI 0, vI 0, vI 0, vI 0, vI 0])) 204 (oI 6 (fun _ => 0))) 200 (oO 10 [vR 201, vR 202, vR 203, vR 204, vN, vN, vN, vN, vN, vN, vN, vN, vN, vN, vN, vN, vN, vN, vI 0, vI 0, vI 0, vI 0, vI 0, vI 0, vI 0, vI 0, vI 0])) 205 (oI 6 (fun _ => 0))) 200 (oO 10 [vR 201, vR 202, vR 203, vR 204, vR 205, vN, vN, vN, vN, vN, vN, vN, vN, vN, vN, vN, vN, vN, vI 0, vI 0, vI 0, vI 0, vI 0, vI 0, vI 0, vI 0, vI 0])) 206 (oZ 4 (fun _ => 0))) 200 (oO 10 [vR 201, vR 202, vR 203, vR 204, vR 205, vR 206, vN, vN, vN, vN, vN, vN, vN, vN, vN, vN, vN, vN, vI 0, vI 0, vI 0, vI 0, vI 0, vI 0, vI 0, vI 0, vI 0])) 207 (oI 1216 (fun _ => 0))) 200 (oO 10 [vR 201, vR 202, vR 203, vR 204, vR 205, vR 206, vR 207, vN, vN, vN, vN, vN, vN, vN, vN, vN, vN, vN, vI 0, vI 0, vI 0, vI 0, vI 0, vI 0, vI 0, vI 0, vI 0])) 208 (oI 1216 (fun _ => 0))) 200 (oO 10 [vR 201, vR 202, vR 203, vR 204, vR 205, vR 206, vR 207, vR 208, vN, vN, vN, vN, vN, vN, vN, vN, vN, vN, vI 0, vI 0, vI 0, vI 0, vI 0, vI 0, vI 0, vI 0, vI 0])) 209 (oI 1216 (fun _ => 0))) 200 (oO 10 [vR 201, vR 202, vR 203, vR 204, vR 205, vR 206, vR 207, vR 208, vR 209, vN, vN, vN, vN, vN, vN, vN, vN, vN, vI 0, vI 0, vI 0, vI 0, vI 0, vI 0, vI 0, vI 0, vI 0])) 210 (oI 1216 (fun _ => 0))) 200 (oO 10 [vR 201, vR 202, vR 203, vR 204, vR 205, vR 206, vR 207, vR 208, vR 209, vR 210, vN, vN, vN, vN, vN, vN, vN, vN, vI 0, vI 0, vI 0, vI 0, vI 0, vI 0, vI 0, vI 0, vI 0])) _ _
  refine st_aload_n C 0 dX11_init_89 rfl rfl ?_
  refine st_bipush C dX11_init_90 (by decide) (by decide) ?_
  refine st_newI C 41 dX11_init_92 211 rfl (by decide) ac_I (show _ = none from hfree 211 (by decide) (by decide)) (by omega) (by omega) ?_
  show T x 94 [(0, vR 200)] [vR 211, vR 200] (hput (hput (hput (hput (hput (hput (hput (hput (hput (hput (hput (hput (hput (hput (hput (hput (hput (hput (hput (hput (hput h 201 (oI 12464 (fun _ => 0))) 200 (oO 10 [vR 201, vN, vN, vN, vN, vN, vN, vN, vN, vN, vN, vN, vN, vN, vN, vN, vN, vN, vI 0, vI 0, vI 0, vI 0, vI 0, vI 0, vI 0, vI 0, vI 0])) 202 (oI 304 (fun _ => 0))) 200 (oO 10 [vR 201, vR 202, vN, vN, vN, vN, vN, vN, vN, vN, vN, vN, vN, vN, vN, vN, vN, vN, vI 0, vI 0, vI 0, vI 0, vI 0, vI 0, vI 0, vI 0, vI 0])) 203 (oI 6 (fun _ => 0))) 200 (oO 10 [vR 201, vR 202, vR 203, vN, vN, vN, vN, vN, vN, vN, vN, vN, vN, vN, vN, vN, vN, vN, vI 0, vI 0, vI 0, vI 0, vI 0, vI 0, vI 0, vI 0, vI 0])) 204 (oI 6 (fun _ => 0))) 200 (oO 10 [vR 201, vR 202, vR 203, vR 204, vN, vN, vN, vN, vN, vN, vN, vN, vN, vN, vN, vN, vN, vN, vI 0, vI 0, vI 0, vI 0, vI 0, vI 0, vI 0, vI 0, vI 0])) 205 (oI 6 (fun _ => 0))) 200 (oO 10 [vR 201, vR 202, vR 203, vR 204, vR 205, vN, vN, vN, vN, vN, vN, vN, vN, vN, vN, vN, vN, vN, vI 0, vI 0, vI 0, vI 0, vI 0, vI 0, vI 0, vI 0, vI 0])) 206 (oZ 4 (fun _ => 0))) 200 (oO 10 [vR 201, vR 202, vR 203, vR 204, vR 205, vR 206, vN, vN, vN, vN, vN, vN, vN, vN, vN, vN, vN, vN, vI 0, vI 0, vI 0, vI 0, vI 0, vI 0, vI 0, vI 0, vI 0])) 207 (oI 1216 (fun _ => 0))) 200 (oO 10 [vR 201, vR 202, vR 203, vR 204, vR 205, vR 206, vR 207, vN, vN, vN, vN, vN, vN, vN, vN, vN, vN, vN, vI 0, vI 0, vI 0, vI 0, vI 0, vI 0, vI 0, vI 0, vI 0])) 208 (oI 1216 (fun _ => 0))) 200 (oO 10 [vR 201, vR 202, vR 203, vR 204, vR 205, vR 206, vR 207, vR 208, vN, vN, vN, vN, vN, vN, vN, vN, vN, vN, vI 0, vI 0, vI 0, vI 0, vI 0, vI 0, vI 0, vI 0, vI 0])) 209 (oI 1216 (fun _ => 0))) 200 (oO 10 [vR 201, vR 202, vR 203, vR 204, vR 205, vR 206, vR 207, vR 208, vR 209, vN, vN, vN, vN, vN, vN, vN, vN, vN, vI 0, vI 0, vI 0, vI 0, vI 0, vI 0, vI 0, vI 0, vI 0])) 210 (oI 1216 (fun _ => 0))) 200 (oO 10 [vR 201, vR 202, vR 203, vR 204, vR 205, vR 206, vR 207, vR 208, vR 209, vR 210, vN, vN, vN, vN, vN, vN, vN, vN, vI 0, vI 0, vI 0, vI 0, vI 0, vI 0, vI 0, vI 0, vI 0])) 211 (oI 41 (fun _ => 0))) (0 + 1 + 1 + 1 + 1 + 1 + 1 + 1 + 1 + 1 + 1 + 1) (0 + 12464 + 304 + 6 + 6 + 6 + 4 + 1216 + 1216 + 1216 + 1216 + 41)
  refine st_putf C dX11_init_94 fp_X11_41 (fun _ => rfl) (hput_o (by omega) hput_s) (Nat.le_of_ble_eq_true rfl) fit_arrR ?_
  show T x 97 [(0, vR 200)] [] (hput (hput (hput (hput (hput (hput (hput (hput (hput (hput (hput (hput (hput (hput (hput (hput (hput (hput (hput (hput (hput (hput h 201 (oI 12464 (fun _ => 0))) 200 (oO 10 [vR 201, vN, vN, vN, vN, vN, vN, vN, vN, vN, vN, vN, vN, vN, vN, vN, vN, vN, vI 0, vI 0, vI 0, vI 0, vI 0, vI 0, vI 0, vI 0, vI 0])) 202 (oI 304 (fun _ => 0))) 200 (oO 10 [vR 201, vR 202, vN, vN, vN, vN, vN, vN, vN, vN, vN, vN, vN, vN, vN, vN, vN, vN, vI 0, vI 0, vI 0, vI 0, vI 0, vI 0, vI 0, vI 0, vI 0])) 203 (oI 6 (fun _ => 0))) 200 (oO 10 [vR 201, vR 202, vR 203, vN, vN, vN, vN, vN, vN, vN, vN, vN, vN, vN, vN, vN, vN, vN, vI 0, vI 0, vI 0, vI 0, vI 0, vI 0, vI 0, vI 0, vI 0])) 204 (oI 6 (fun _ => 0))) 200 (oO 10 [vR 201, vR 202, vR 203, vR 204, vN, vN, vN, vN, vN, vN, vN, vN, vN, vN, vN, vN, vN, vN, vI 0, vI 0, vI 0, vI 0, vI 0, vI 0, vI 0, vI 0, vI 0])) 205 (oI 6 (fun _ => 0))) 200 (oO 10 [vR 201, vR 202, vR 203, vR 204, vR 205, vN, vN, vN, vN, vN, vN, vN, vN, vN, vN, vN, vN, vN, vI 0, vI 0, vI 0, vI 0, vI 0, vI 0, vI 0, vI 0, vI 0])) 206 (oZ 4 (fun _ => 0))) 200 (oO 10 [vR 201, vR 202, vR 203, vR 204, vR 205, vR 206, vN, vN, vN, vN, vN, vN, vN, vN, vN, vN, vN, vN, vI 0, vI 0, vI 0, vI 0, vI 0, vI 0, vI 0, vI 0, vI 0])) 207 (oI 1216 (fun _ => 0))) 200 (oO 10 [vR 201, vR 202, vR 203, vR 204, vR 205, vR 206, vR 207, vN, vN, vN, vN, vN, vN, vN, vN, vN, vN, vN, vI 0, vI 0, vI 0, vI 0, vI 0, vI 0, vI 0, vI 0, vI 0])) 208 (oI 1216 (fun _ => 0))) 200 (oO 10 [vR 201, vR 202, vR 203, vR 204, vR 205, vR 206, vR 207, vR 208, vN, vN, vN, vN, vN, vN, vN, vN, vN, vN, vI 0, vI 0, vI 0, vI 0, vI 0, vI 0, vI 0, vI 0, vI 0])) 209 (oI 1216 (fun _ => 0))) 200 (oO 10 [vR 201, vR 202, vR 203, vR 204, vR 205, vR 206, vR 207, vR 208, vR 209, vN, vN, vN, vN, vN, vN, vN, vN, vN, vI 0, vI 0, vI 0, vI 0, vI 0, vI 0, vI 0, vI 0, vI 0])) 210 (oI 1216 (fun _ => 0))) 200 (oO 10 [vR 201, vR 202, vR 203, vR 204, vR 205, vR 206, vR 207, vR 208, vR 209, vR 210, vN, vN, vN, vN, vN, vN, vN, vN, vI 0, vI 0, vI 0, vI 0, vI 0, vI 0, vI 0, vI 0, vI 0])) 211 (oI 41 (fun _ => 0))) 200 (oO 10 [vR 201, vR 202, vR 203, vR 204, vR 205, vR 206, vR 207, vR 208, vR 209, vR 210, vR 211, vN, vN, vN, vN, vN, vN, vN, vI 0, vI 0, vI 0, vI 0, vI 0, vI 0, vI 0, vI 0, vI 0])) _ _
  refine st_aload_n C 0 dX11_init_97 rfl rfl ?_
  refine st_sipush C dX11_init_98 (by decide) (by decide) ?_
  refine st_newI C 768 dX11_init_101 212 rfl (by decide) ac_I (show _ = none from hfree 212 (by decide) (by decide)) (by omega) (by omega) ?_
  show T x 103 [(0, vR 200)] [vR 212, vR 200] (hput (hput (hput (hput (hput (hput (hput (hput (hput (hput (hput (hput (hput (hput (hput (hput (hput (hput (hput (hput (hput (hput (hput h 201 (oI 12464 (fun _ => 0))) 200 (oO 10 [vR 201, vN, vN, vN, vN, vN, vN, vN, vN, vN, vN, vN, vN, vN, vN, vN, vN, vN, vI 0, vI 0, vI 0, vI 0, vI 0, vI 0, vI 0, vI 0, vI 0])) 202 (oI 304 (fun _ => 0))) 200 (oO 10 [vR 201, vR 202, vN, vN, vN, vN, vN, vN, vN, vN, vN, vN, vN, vN, vN, vN, vN, vN, vI 0, vI 0, vI 0, vI 0, vI 0, vI 0, vI 0, vI 0, vI 0])) 203 (oI 6 (fun _ => 0))) 200 (oO 10 [vR 201, vR 202, vR 203, vN, vN, vN, vN, vN, vN, vN, vN, vN, vN, vN, vN, vN, vN, vN, vI 0, vI 0, vI 0, vI 0, vI 0, vI 0, vI 0, vI 0, vI 0])) 204 (oI 6 (fun _ => 0))) 200 (oO 10 [vR 201, vR 202, vR 203, vR 204, vN, vN, vN, vN, vN, vN, vN, vN, vN, vN, vN, vN, vN, vN, vI 0, vI 0, vI 0, vI 0, vI 0, vI 0, vI 0, vI 0, vI 0])) 205 (oI 6 (fun _ => 0))) 200 (oO 10 [vR 201, vR 202, vR 203, vR 204, vR 205, vN, vN, vN, vN, vN, vN, vN, vN, vN, vN, vN, vN, vN, vI 0, vI 0, vI 0, vI 0, vI 0, vI 0, vI 0, vI 0, vI 0])) 206 (oZ 4 (fun _ => 0))) 200 (oO 10 [vR 201, vR 202, vR 203, vR 204, vR 205, vR 206, vN, vN, vN, vN, vN, vN, vN, vN, vN, vN, vN, vN, vI 0, vI 0, vI 0, vI 0, vI 0, vI 0, vI 0, vI 0, vI 0])) 207 (oI 1216 (fun _ => 0))) 200 (oO 10 [vR 201, vR 202, vR 203, vR 204, vR 205, vR 206, vR 207, vN, vN, vN, vN, vN, vN, vN, vN, vN, vN, vN, vI 0, vI 0, vI 0, vI 0, vI 0, vI 0, vI 0, vI 0, vI 0])) 208 (oI 1216 (fun _ => 0))) 200 (oO 10 [vR 201, vR 202, vR 203, vR 204, vR 205, vR 206, vR 207, vR 208, vN, vN, vN, vN, vN, vN, vN, vN, vN, vN, vI 0, vI 0, vI 0, vI 0, vI 0, vI 0, vI 0, vI 0, vI 0])) 209 (oI 1216 (fun _ => 0))) 200 (oO 10 [vR 201, vR 202, vR 203, vR 204, vR 205, vR 206, vR 207, vR 208, vR 209, vN, vN, vN, vN, vN, vN, vN, vN, vN, vI 0, vI 0, vI 0, vI 0, vI 0, vI 0, vI 0, vI 0, vI 0])) 210 (oI 1216 (fun _ => 0))) 200 (oO 10 [vR 201, vR 202, vR 203, vR 204, vR 205, vR 206, vR 207, vR 208, vR 209, vR 210, vN, vN, vN, vN, vN, vN, vN, vN, vI 0, vI 0, vI 0, vI 0, vI 0, vI 0, vI 0, vI 0, vI 0])) 211 (oI 41 (fun _ => 0))) 200 (oO 10 [vR 201, vR 202, vR 203, vR 204, vR 205, vR 206, vR 207, vR 208, vR 209, vR 210, vR 211, vN, vN, vN, vN, vN, vN, vN, vI 0, vI 0, vI 0, vI 0, vI 0, vI 0, vI 0, vI 0, vI 0])) 212 (oI 768 (fun _ => 0))) (0 + 1 + 1 + 1 + 1 + 1 + 1 + 1 + 1 + 1 + 1 + 1 + 1) (0 + 12464 + 304 + 6 + 6 + 6 + 4 + 1216 + 1216 + 1216 + 1216 + 41 + 768)
  refine st_putf C dX11_init_103 fp_X11_44 (fun _ => rfl) (hput_o (by omega) hput_s) (Nat.le_of_ble_eq_true rfl) fit_arrR ?_
  show T x 106 [(0, vR 200)] [] (hput (hput (hput (hput (hput (hput (hput (hput (hput (hput (hput (hput (hput (hput (hput (hput (hput (hput (hput (hput (hput (hput (hput (hput h 201 (oI 12464 (fun _ => 0))) 200 (oO 10 [vR 201, vN, vN, vN, vN, vN, vN, vN, vN, vN, vN, vN, vN, vN, vN, vN, vN, vN, vI 0, vI 0, vI 0, vI 0, vI 0, vI 0, vI 0, vI 0, vI 0])) 202 (oI 304 (fun _ => 0))) 200 (oO 10 [vR 201, vR 202, vN, vN, vN, vN, vN, vN, vN, vN, vN, vN, vN, vN, vN, vN, vN, vN, vI 0, vI 0, vI 0, vI 0, vI 0, vI 0, vI 0, vI 0, vI 0])) 203 (oI 6 (fun _ => 0))) 200 (oO 10 [vR 201, vR 202, vR 203, vN, vN, vN, vN, vN, vN, vN, vN, vN, vN, vN, vN, vN, vN, vN, vI 0, vI 0, vI 0, vI 0, vI 0, vI 0, vI 0, vI 0, vI 0])) 204 (oI 6 (fun _ => 0))) 200 (oO 10 [vR 201, vR 202, vR 203, vR 204, vN, vN, vN, vN, vN, vN, vN, vN, vN, vN, vN, vN, vN, vN, vI 0, vI 0, vI 0, vI 0, vI 0, vI 0, vI 0, vI 0, vI 0])) 205 (oI 6 (fun _ => 0))) 200 (oO 10 [vR 201, vR 202, vR 203, vR 204, vR 205, vN, vN, vN, vN, vN, vN, vN, vN, vN, vN, vN, vN, vN, vI 0, vI 0, vI 0, vI 0, vI 0, vI 0, vI 0, vI 0, vI 0])) 206 (oZ 4 (fun _ => 0))) 200 (oO 10 [vR 201, vR 202, vR 203, vR 204, vR 205, vR 206, vN, vN, vN, vN, vN, vN, vN, vN, vN, vN, vN, vN, vI 0, vI 0, vI 0, vI 0, vI 0, vI 0, vI 0, vI 0, vI 0])) 207 (oI 1216 (fun _ => 0))) 200 (oO 10 [vR 201, vR 202, vR 203, vR 204, vR 205, vR 206, vR 207, vN, vN, vN, vN, vN, vN, vN, vN, vN, vN, vN, vI 0, vI 0, vI 0, vI 0, vI 0, vI 0, vI 0, vI 0, vI 0])) 208 (oI 1216 (fun _ => 0))) 200 (oO 10 [vR 201, vR 202, vR 203, vR 204, vR 205, vR 206, vR 207, vR 208, vN, vN, vN, vN, vN, vN, vN, vN, vN, vN, vI 0, vI 0, vI 0, vI 0, vI 0, vI 0, vI 0, vI 0, vI 0])) 209 (oI 1216 (fun _ => 0))) 200 (oO 10 [vR 201, vR 202, vR 203, vR 204, vR 205, vR 206, vR 207, vR 208, vR 209, vN, vN, vN, vN, vN, vN, vN, vN, vN, vI 0, vI 0, vI 0, vI 0, vI 0, vI 0, vI 0, vI 0, vI 0])) 210 (oI 1216 (fun _ => 0))) 200 (oO 10 [vR 201, vR 202, vR 203, vR 204, vR 205, vR 206, vR 207, vR 208, vR 209, vR 210, vN, vN, vN, vN, vN, vN, vN, vN, vI 0, vI 0, vI 0, vI 0, vI 0, vI 0, vI 0, vI 0, vI 0])) 211 (oI 41 (fun _ => 0))) 200 (oO 10 [vR 201, vR 202, vR 203, vR 204, vR 205, vR 206, vR 207, vR 208, vR 209, vR 210, vR 211, vN, vN, vN, vN, vN, vN, vN, vI 0, vI 0, vI 0, vI 0, vI 0, vI 0, vI 0, vI 0, vI 0])) 212 (oI 768 (fun _ => 0))) 200 (oO 10 [vR 201, vR 202, vR 203, vR 204, vR 205, vR 206, vR 207, vR 208, vR 209, vR 210, vR 211, vR 212, vN, vN, vN, vN, vN, vN, vI 0, vI 0, vI 0, vI 0, vI 0, vI 0, vI 0, vI 0, vI 0])) _ _
  refine st_aload_n C 0 dX11_init_106 rfl rfl ?_
  refine st_sipush C dX11_init_107 (by decide) (by decide) ?_
  refine st_newI C 180 dX11_init_110 213 rfl (by decide) ac_I (show _ = none from hfree 213 (by decide) (by decide)) (by omega) (by omega) ?_
  show T x 112 [(0, vR 200)] [vR 213, vR 200] (hput (hput (hput (hput (hput (hput (hput (hput (hput (hput (hput (hput (hput (hput (hput (hput (hput (hput (hput (hput (hput (hput (hput (hput (hput h 201 (oI 12464 (fun _ => 0))) 200 (oO 10 [vR 201, vN, vN, vN, vN, vN, vN, vN, vN, vN, vN, vN, vN, vN, vN, vN, vN, vN, vI 0, vI 0, vI 0, vI 0, vI 0, vI 0, vI 0, vI 0, vI 0])) 202 (oI 304 (fun _ => 0))) 200 (oO 10 [vR 201, vR 202, vN, vN, vN, vN, vN, vN, vN, vN, vN, vN, vN, vN, vN, vN, vN, vN, vI 0, vI 0, vI 0, vI 0, vI 0, vI 0, vI 0, vI 0, vI 0])) 203 (oI 6 (fun _ => 0))) 200 (oO 10 [vR 201, vR 202, vR 203, vN, vN, vN, vN, vN, vN, vN, vN, vN, vN, vN, vN, vN, vN, vN, vI 0, vI 0, vI 0, vI 0, vI 0, vI 0, vI 0, vI 0, vI 0])) 204 (oI 6 (fun _ => 0))) 200 (oO 10 [vR 201, vR 202, vR 203, vR 204, vN, vN, vN, vN, vN, vN, vN, vN, vN, vN, vN, vN, vN, vN, vI 0, vI 0, vI 0, vI 0, vI 0, vI 0, vI 0, vI 0, vI 0])) 205 (oI 6 (fun _ => 0))) 200 (oO 10 [vR 201, vR 202, vR 203, vR 204, vR 205, vN, vN, vN, vN, vN, vN, vN, vN, vN, vN, vN, vN, vN, vI 0, vI 0, vI 0, vI 0, vI 0, vI 0, vI 0, vI 0, vI 0])) 206 (oZ 4 (fun _ => 0))) 200 (oO 10 [vR 201, vR 202, vR 203, vR 204, vR 205, vR 206, vN, vN, vN, vN, vN, vN, vN, vN, vN, vN, vN, vN, vI 0, vI 0, vI 0, vI 0, vI 0, vI 0, vI 0, vI 0, vI 0])) 207 (oI 1216 (fun _ => 0))) 200 (oO 10 [vR 201, vR 202, vR 203, vR 204, vR 205, vR 206, vR 207, vN, vN, vN, vN, vN, vN, vN, vN, vN, vN, vN, vI 0, vI 0, vI 0, vI 0, vI 0, vI 0, vI 0, vI 0, vI 0])) 208 (oI 1216 (fun _ => 0))) 200 (oO 10 [vR 201, vR 202, vR 203, vR 204, vR 205, vR 206, vR 207, vR 208, vN, vN, vN, vN, vN, vN, vN, vN, vN, vN, vI 0, vI 0, vI 0, vI 0, vI 0, vI 0, vI 0, vI 0, vI 0])) 209 (oI 1216 (fun _ => 0))) 200 (oO 10 [vR 201, vR 202, vR 203, vR 204, vR 205, vR 206, vR 207, vR 208, vR 209, vN, vN, vN, vN, vN, vN, vN, vN, vN, vI 0, vI 0, vI 0, vI 0, vI 0, vI 0, vI 0, vI 0, vI 0])) 210 (oI 1216 (fun _ => 0))) 200 (oO 10 [vR 201, vR 202, vR 203, vR 204, vR 205, vR 206, vR 207, vR 208, vR 209, vR 210, vN, vN, vN, vN, vN, vN, vN, vN, vI 0, vI 0, vI 0, vI 0, vI 0, vI 0, vI 0, vI 0, vI 0])) 211 (oI 41 (fun _ => 0))) 200 (oO 10 [vR 201, vR 202, vR 203, vR 204, vR 205, vR 206, vR 207, vR 208, vR 209, vR 210, vR 211, vN, vN, vN, vN, vN, vN, vN, vI 0, vI 0, vI 0, vI 0, vI 0, vI 0, vI 0, vI 0, vI 0])) 212 (oI 768 (fun _ => 0))) 200 (oO 10 [vR 201, vR 202, vR 203, vR 204, vR 205, vR 206, vR 207, vR 208, vR 209, vR 210, vR 211, vR 212, vN, vN, vN, vN, vN, vN, vI 0, vI 0, vI 0, vI 0, vI 0, vI 0, vI 0, vI 0, vI 0])) 213 (oI 180 (fun _ => 0))) (0 + 1 + 1 + 1 + 1 + 1 + 1 + 1 + 1 + 1 + 1 + 1 + 1 + 1) (0 + 12464 + 304 + 6 + 6 + 6 + 4 + 1216 + 1216 + 1216 + 1216 + 41 + 768 + 180)
  refine st_putf C dX11_init_112 fp_X11_47 (fun _ => rfl) (hput_o (by omega) hput_s) (Nat.le_of_ble_eq_true rfl) fit_arrR ?_
  show T x 115 [(0, vR 200)] [] (hput (hput (hput (hput (hput (hput (hput (hput (hput (hput (hput (hput (hput (hput (hput (hput (hput (hput (hput (hput (hput (hput (hput (hput (hput (hput h 201 (oI 12464 (fun _ => 0))) 200 (oO 10 [vR 201, vN, vN, vN, vN, vN, vN, vN, vN, vN, vN, vN, vN, vN, vN, vN, vN, vN, vI 0, vI 0, vI 0, vI 0, vI 0, vI 0, vI 0, vI 0, vI 0])) 202 (oI 304 (fun _ => 0))) 200 (oO 10 [vR 201, vR 202, vN, vN, vN, vN, vN, vN, vN, vN, vN, vN, vN, vN, vN, vN, vN, vN, vI 0, vI 0, vI 0, vI 0, vI 0, vI 0, vI 0, vI 0, vI 0])) 203 (oI 6 (fun _ => 0))) 200 (oO 10 [vR 201, vR 202, vR 203, vN, vN, vN, vN, vN, vN, vN, vN, vN, vN, vN, vN, vN, vN, vN, vI 0, vI 0, vI 0, vI 0, vI 0, vI 0, vI 0, vI 0, vI 0])) 204 (oI 6 (fun _ => 0))) 200 (oO 10 [vR 201, vR 202, vR 203, vR 204, vN, vN, vN, vN, vN, vN, vN, vN, vN, vN, vN, vN, vN, vN, vI 0, vI 0, vI 0, vI 0, vI 0, vI 0, vI 0, vI 0, vI 0])) 205 (oI 6 (fun _ => 0))) 200 (oO 10 [vR 201, vR 202, vR 203, vR 204, vR 205, vN, vN, vN, vN, vN, vN, vN, vN, vN, vN, vN, vN, vN, vI 0, vI 0, vI 0, vI 0, vI 0, vI 0, vI 0, vI 0, vI 0])) 206 (oZ 4 (fun _ => 0))) 200 (oO 10 [vR 201, vR 202, vR 203, vR 204, vR 205, vR 206, vN, vN, vN, vN, vN, vN, vN, vN, vN, vN, vN, vN, vI 0, vI 0, vI 0, vI 0, vI 0, vI 0, vI 0, vI 0, vI 0])) 207 (oI 1216 (fun _ => 0))) 200 (oO 10 [vR 201, vR 202, vR 203, vR 204, vR 205, vR 206, vR 207, vN, vN, vN, vN, vN, vN, vN, vN, vN, vN, vN, vI 0, vI 0, vI 0, vI 0, vI 0, vI 0, vI 0, vI 0, vI 0])) 208 (oI 1216 (fun _ => 0))) 200 (oO 10 [vR 201, vR 202, vR 203, vR 204, vR 205, vR 206, vR 207, vR 208, vN, vN, vN, vN, vN, vN, vN, vN, vN, vN, vI 0, vI 0, vI 0, vI 0, vI 0, vI 0, vI 0, vI 0, vI 0])) 209 (oI 1216 (fun _ => 0))) 200 (oO 10 [vR 201, vR 202, vR 203, vR 204, vR 205, vR 206, vR 207, vR 208, vR 209, vN, vN, vN, vN, vN, vN, vN, vN, vN, vI 0, vI 0, vI 0, vI 0, vI 0, vI 0, vI 0, vI 0, vI 0])) 210 (oI 1216 (fun _ => 0))) 200 (oO 10 [vR 201, vR 202, vR 203, vR 204, vR 205, vR 206, vR 207, vR 208, vR 209, vR 210, vN, vN, vN, vN, vN, vN, vN, vN, vI 0, vI 0, vI 0, vI 0, vI 0, vI 0, vI 0, vI 0, vI 0])) 211 (oI 41 (fun _ => 0))) 200 (oO 10 [vR 201, vR 202, vR 203, vR 204, vR 205, vR 206, vR 207, vR 208, vR 209, vR 210, vR 211, vN, vN, vN, vN, vN, vN, vN, vI 0, vI 0, vI 0, vI 0, vI 0, vI 0, vI 0, vI 0, vI 0])) 212 (oI 768 (fun _ => 0))) 200 (oO 10 [vR 201, vR 202, vR 203, vR 204, vR 205, vR 206, vR 207, vR 208, vR 209, vR 210, vR 211, vR 212, vN, vN, vN, vN, vN, vN, vI 0, vI 0, vI 0, vI 0, vI 0, vI 0, vI 0, vI 0, vI 0])) 213 (oI 180 (fun _ => 0))) 200 (oO 10 [vR 201, vR 202, vR 203, vR 204, vR 205, vR 206, vR 207, vR 208, vR 209, vR 210, vR 211, vR 212, vR 213, vN, vN, vN, vN, vN, vI 0, vI 0, vI 0, vI 0, vI 0, vI 0, vI 0, vI 0, vI 0])) _ _
  refine st_aload_n C 0 dX11_init_115 rfl rfl ?_
  refine st_iconst C dX11_init_116 (by decide) ?_
  refine st_newI C 3 dX11_init_117 214 rfl (by decide) ac_I (show _ = none from hfree 214 (by decide) (by decide)) (by omega) (by omega) ?_
  show T x 119 [(0, vR 200)] [vR 214, vR 200] (hput (hput (hput (hput (hput (hput (hput (hput (hput (hput (hput (hput (hput (hput (hput (hput (hput (hput (hput (hput (hput (hput (hput (hput (hput (hput (hput h 201 (oI 12464 (fun _ => 0))) 200 (oO 10 [vR 201, vN, vN, vN, vN, vN, vN, vN, vN, vN, vN, vN, vN, vN, vN, vN, vN, vN, vI 0, vI 0, vI 0, vI 0, vI 0, vI 0, vI 0, vI 0, vI 0])) 202 (oI 304 (fun _ => 0))) 200 (oO 10 [vR 201, vR 202, vN, vN, vN, vN, vN, vN, vN, vN, vN, vN, vN, vN, vN, vN, vN, vN, vI 0, vI 0, vI 0, vI 0, vI 0, vI 0, vI 0, vI 0, vI 0])) 203 (oI 6 (fun _ => 0))) 200 (oO 10 [vR 201, vR 202, vR 203, vN, vN, vN, vN, vN, vN, vN, vN, vN, vN, vN, vN, vN, vN, vN, vI 0, vI 0, vI 0, vI 0, vI 0, vI 0, vI 0, vI 0, vI 0])) 204 (oI 6 (fun _ => 0))) 200 (oO 10 [vR 201, vR 202, vR 203, vR 204, vN, vN, vN, vN, vN, vN, vN, vN, vN, vN, vN, vN, vN, vN, vI 0, vI 0, vI 0, vI 0, vI 0, vI 0, vI 0, vI 0, vI 0])) 205 (oI 6 (fun _ => 0))) 200 (oO 10 [vR 201, vR 202, vR 203, vR 204, vR 205, vN, vN, vN, vN, vN, vN, vN, vN, vN, vN, vN, vN, vN, vI 0, vI 0, vI 0, vI 0, vI 0, vI 0, vI 0, vI 0, vI 0])) 206 (oZ 4 (fun _ => 0))) 200 (oO 10 [vR 201, vR 202, vR 203, vR 204, vR 205, vR 206, vN, vN, vN, vN, vN, vN, vN, vN, vN, vN, vN, vN, vI 0, vI 0, vI 0, vI 0, vI 0, vI 0, vI 0, vI 0, vI 0])) 207 (oI 1216 (fun _ => 0))) 200 (oO 10 [vR 201, vR 202, vR 203, vR 204, vR 205, vR 206, vR 207, vN, vN, vN, vN, vN, vN, vN, vN, vN, vN, vN, vI 0, vI 0, vI 0, vI 0, vI 0, vI 0, vI 0, vI 0, vI 0])) 208 (oI 1216 (fun _ => 0))) 200 (oO 10 [vR 201, vR 202, vR 203, vR 204, vR 205, vR 206, vR 207, vR 208, vN, vN, vN, vN, vN, vN, vN, vN, vN, vN, vI 0, vI 0, vI 0, vI 0, vI 0, vI 0, vI 0, vI 0, vI 0])) 209 (oI 1216 (fun _ => 0))) 200 (oO 10 [vR 201, vR 202, vR 203, vR 204, vR 205, vR 206, vR 207, vR 208, vR 209, vN, vN, vN, vN, vN, vN, vN, vN, vN, vI 0, vI 0, vI 0, vI 0, vI 0, vI 0, vI 0, vI 0, vI 0])) 210 (oI 1216 (fun _ => 0))) 200 (oO 10 [vR 201, vR 202, vR 203, vR 204, vR 205, vR 206, vR 207, vR 208, vR 209, vR 210, vN, vN, vN, vN, vN, vN, vN, vN, vI 0, vI 0, vI 0, vI 0, vI 0, vI 0, vI 0, vI 0, vI 0])) 211 (oI 41 (fun _ => 0))) 200 (oO 10 [vR 201, vR 202, vR 203, vR 204, vR 205, vR 206, vR 207, vR 208, vR 209, vR 210, vR 211, vN, vN, vN, vN, vN, vN, vN, vI 0, vI 0, vI 0, vI 0, vI 0, vI 0, vI 0, vI 0, vI 0])) 212 (oI 768 (fun _ => 0))) 200 (oO 10 [vR 201, vR 202, vR 203, vR 204, vR 205, vR 206, vR 207, vR 208, vR 209, vR 210, vR 211, vR 212, vN, vN, vN, vN, vN, vN, vI 0, vI 0, vI 0, vI 0, vI 0, vI 0, vI 0, vI 0, vI 0])) 213 (oI 180 (fun _ => 0))) 200 (oO 10 [vR 201, vR 202, vR 203, vR 204, vR 205, vR 206, vR 207, vR 208, vR 209, vR 210, vR 211, vR 212, vR 213, vN, vN, vN, vN, vN, vI 0, vI 0, vI 0, vI 0, vI 0, vI 0, vI 0, vI 0, vI 0])) 214 (oI 3 (fun _ => 0))) (0 + 1 + 1 + 1 + 1 + 1 + 1 + 1 + 1 + 1 + 1 + 1 + 1 + 1 + 1) (0 + 12464 + 304 + 6 + 6 + 6 + 4 + 1216 + 1216 + 1216 + 1216 + 41 + 768 + 180 + 3)
  refine st_putf C dX11_init_119 fp_X11_50 (fun _ => rfl) (hput_o (by omega) hput_s) (Nat.le_of_ble_eq_true rfl) fit_arrR ?_
  show T x 122 [(0, vR 200)] [] (hput (hput (hput (hput (hput (hput (hput (hput (hput (hput (hput (hput (hput (hput (hput (hput (hput (hput (hput (hput (hput (hput (hput (hput (hput (hput (hput (hput h 201 (oI 12464 (fun _ => 0))) 200 (oO 10 [vR 201, vN, vN, vN, vN, vN, vN, vN, vN, vN, vN, vN, vN, vN, vN, vN, vN, vN, vI 0, vI 0, vI 0, vI 0, vI 0, vI 0, vI 0, vI 0, vI 0])) 202 (oI 304 (fun _ => 0))) 200 (oO 10 [vR 201, vR 202, vN, vN, vN, vN, vN, vN, vN, vN, vN, vN, vN, vN, vN, vN, vN, vN, vI 0, vI 0, vI 0, vI 0, vI 0, vI 0, vI 0, vI 0, vI 0])) 203 (oI 6 (fun _ => 0))) 200 (oO 10 [vR 201, vR 202, vR 203, vN, vN, vN, vN, vN, vN, vN, vN, vN, vN, vN, vN, vN, vN, vN, vI 0, vI 0, vI 0, vI 0, vI 0, vI 0, vI 0, vI 0, vI 0])) 204 (oI 6 (fun _ => 0))) 200 (oO 10 [vR 201, vR 202, vR 203, vR 204, vN, vN, vN, vN, vN, vN, vN, vN, vN, vN, vN, vN, vN, vN, vI 0, vI 0, vI 0, vI 0, vI 0, vI 0, vI 0, vI 0, vI 0])) 205 (oI 6 (fun _ => 0))) 200 (oO 10 [vR 201, vR 202, vR 203, vR 204, vR 205, vN, vN, vN, vN, vN, vN, vN, vN, vN, vN, vN, vN, vN, vI 0, vI 0, vI 0, vI 0, vI 0, vI 0, vI 0, vI 0, vI 0])) 206 (oZ 4 (fun _ => 0))) 200 (oO 10 [vR 201, vR 202, vR 203, vR 204, vR 205, vR 206, vN, vN, vN, vN, vN, vN, vN, vN, vN, vN, vN, vN, vI 0, vI 0, vI 0, vI 0, vI 0, vI 0, vI 0, vI 0, vI 0])) 207 (oI 1216 (fun _ => 0))) 200 (oO 10 [vR 201, vR 202, vR 203, vR 204, vR 205, vR 206, vR 207, vN, vN, vN, vN, vN, vN, vN, vN, vN, vN, vN, vI 0, vI 0, vI 0, vI 0, vI 0, vI 0, vI 0, vI 0, vI 0])) 208 (oI 1216 (fun _ => 0))) 200 (oO 10 [vR 201, vR 202, vR 203, vR 204, vR 205, vR 206, vR 207, vR 208, vN, vN, vN, vN, vN, vN, vN, vN, vN, vN, vI 0, vI 0, vI 0, vI 0, vI 0, vI 0, vI 0, vI 0, vI 0])) 209 (oI 1216 (fun _ => 0))) 200 (oO 10 [vR 201, vR 202, vR 203, vR 204, vR 205, vR 206, vR 207, vR 208, vR 209, vN, vN, vN, vN, vN, vN, vN, vN, vN, vI 0, vI 0, vI 0, vI 0, vI 0, vI 0, vI 0, vI 0, vI 0])) 210 (oI 1216 (fun _ => 0))) 200 (oO 10 [vR 201, vR 202, vR 203, vR 204, vR 205, vR 206, vR 207, vR 208, vR 209, vR 210, vN, vN, vN, vN, vN, vN, vN, vN, vI 0, vI 0, vI 0, vI 0, vI 0, vI 0, vI 0, vI 0, vI 0])) 211 (oI 41 (fun _ => 0))) 200 (oO 10 [vR 201, vR 202, vR 203, vR 204, vR 205, vR 206, vR 207, vR 208, vR 209, vR 210, vR 211, vN, vN, vN, vN, vN, vN, vN, vI 0, vI 0, vI 0, vI 0, vI 0, vI 0, vI 0, vI 0, vI 0])) 212 (oI 768 (fun _ => 0))) 200 (oO 10 [vR 201, vR 202, vR 203, vR 204, vR 205, vR 206, vR 207, vR 208, vR 209, vR 210, vR 211, vR 212, vN, vN, vN, vN, vN, vN, vI 0, vI 0, vI 0, vI 0, vI 0, vI 0, vI 0, vI 0, vI 0])) 213 (oI 180 (fun _ => 0))) 200 (oO 10 [vR 201, vR 202, vR 203, vR 204, vR 205, vR 206, vR 207, vR 208, vR 209, vR 210, vR 211, vR 212, vR 213, vN, vN, vN, vN, vN, vI 0, vI 0, vI 0, vI 0, vI 0, vI 0, vI 0, vI 0, vI 0])) 214 (oI 3 (fun _ => 0))) 200 (oO 10 [vR 201, vR 202, vR 203, vR 204, vR 205, vR 206, vR 207, vR 208, vR 209, vR 210, vR 211, vR 212, vR 213, vR 214, vN, vN, vN, vN, vI 0, vI 0, vI 0, vI 0, vI 0, vI 0, vI 0, vI 0, vI 0])) _ _
  refine st_aload_n C 0 dX11_init_122 rfl rfl ?_
  refine st_iconst C dX11_init_123 (by decide) ?_
  refine st_newI C 3 dX11_init_124 215 rfl (by decide) ac_I (show _ = none from hfree 215 (by decide) (by decide)) (by omega) (by omega) ?_
  show T x 126 [(0, vR 200)] [vR 215, vR 200] (hput (hput (hput (hput (hput (hput (hput (hput (hput (hput (hput (hput (hput (hput (hput (hput (hput (hput (hput (hput (hput (hput (hput (hput (hput (hput (hput (hput (hput h 201 (oI 12464 (fun _ => 0))) 200 (oO 10 [vR 201, vN, vN, vN, vN, vN, vN, vN, vN, vN, vN, vN, vN, vN, vN, vN, vN, vN, vI 0, vI 0, vI 0, vI 0, vI 0, vI 0, vI 0, vI 0, vI 0])) 202 (oI 304 (fun _ => 0))) 200 (oO 10 [vR 201, vR 202, vN, vN, vN, vN, vN, vN, vN, vN, vN, vN, vN, vN, vN, vN, vN, vN, vI 0, vI 0, vI 0, vI 0, vI 0, vI 0, vI 0, vI 0, vI 0])) 203 (oI 6 (fun _ => 0))) 200 (oO 10 [vR 201, vR 202, vR 203, vN, vN, vN, vN, vN, vN, vN, vN, vN, vN, vN, vN, vN, vN, vN, vI 0, vI 0, vI 0, vI 0, vI 0, vI 0, vI 0, vI 0, vI 0])) 204 (oI 6 (fun _ => 0))) 200 (oO 10 [vR 201, vR 202, vR 203, vR 204, vN, vN, vN, vN, vN, vN, vN, vN, vN, vN, vN, vN, vN, vN, vI 0, vI 0, vI 0, vI 0, vI 0, vI 0, vI 0, vI 0, vI 0])) 205 (oI 6 (fun _ => 0))) 200 (oO 10 [vR 201, vR 202, vR 203, vR 204, vR 205, vN, vN, vN, vN, vN, vN, vN, vN, vN, vN, vN, vN, vN, vI 0, vI 0, vI 0, vI 0, vI 0, vI 0, vI 0, vI 0, vI 0])) 206 (oZ 4 (fun _ => 0))) 200 (oO 10 [vR 201, vR 202, vR 203, vR 204, vR 205, vR 206, vN, vN, vN, vN, vN, vN, vN, vN, vN, vN, vN, vN, vI 0, vI 0, vI 0, vI 0, vI 0, vI 0, vI 0, vI 0, vI 0])) 207 (oI 1216 (fun _ => 0))) 200 (oO 10 [vR 201, vR 202, vR 203, vR 204, vR 205, vR 206, vR 207, vN, vN, vN, vN, vN, vN, vN, vN, vN, vN, vN, vI 0, vI 0, vI 0, vI 0, vI 0, vI 0, vI 0, vI 0, vI 0])) 208 (oI 1216 (fun _ => 0))) 200 (oO 10 [vR 201, vR 202, vR 203, vR 204, vR 205, vR 206, vR 207, vR 208, vN, vN, vN, vN, vN, vN, vN, vN, vN, vN, vI 0, vI 0, vI 0, vI 0, vI 0, vI 0, vI 0, vI 0, vI 0])) 209 (oI 1216 (fun _ => 0))) 200 (oO 10 [vR 201, vR 202, vR 203, vR 204, vR 205, vR 206, vR 207, vR 208, vR 209, vN, vN, vN, vN, vN, vN, vN, vN, vN, vI 0, vI 0, vI 0, vI 0, vI 0, vI 0, vI 0, vI 0, vI 0])) 210 (oI 1216 (fun _ => 0))) 200 (oO 10 [vR 201, vR 202, vR 203, vR 204, vR 205, vR 206, vR 207, vR 208, vR 209, vR 210, vN, vN, vN, vN, vN, vN, vN, vN, vI 0, vI 0, vI 0, vI 0, vI 0, vI 0, vI 0, vI 0, vI 0])) 211 (oI 41 (fun _ => 0))) 200 (oO 10 [vR 201, vR 202, vR 203, vR 204, vR 205, vR 206, vR 207, vR 208, vR 209, vR 210, vR 211, vN, vN, vN, vN, vN, vN, vN, vI 0, vI 0, vI 0, vI 0, vI 0, vI 0, vI 0, vI 0, vI 0])) 212 (oI 768 (fun _ => 0))) 200 (oO 10 [vR 201, vR 202, vR 203, vR 204, vR 205, vR 206, vR 207, vR 208, vR 209, vR 210, vR 211, vR 212, vN, vN, vN, vN, vN, vN, vI 0, vI 0, vI 0, vI 0, vI 0, vI 0, vI 0, vI 0, vI 0])) 213 (oI 180 (fun _ => 0))) 200 (oO 10 [vR 201, vR 202, vR 203, vR 204, vR 205, vR 206, vR 207, vR 208, vR 209, vR 210, vR 211, vR 212, vR 213, vN, vN, vN, vN, vN, vI 0, vI 0, vI 0, vI 0, vI 0, vI 0, vI 0, vI 0, vI 0])) 214 (oI 3 (fun _ => 0))) 200 (oO 10 [vR 201, vR 202, vR 203, vR 204, vR 205, vR 206, vR 207, vR 208, vR 209, vR 210, vR 211, vR 212, vR 213, vR 214, vN, vN, vN, vN, vI 0, vI 0, vI 0, vI 0, vI 0, vI 0, vI 0, vI 0, vI 0])) 215 (oI 3 (fun _ => 0))) (0 + 1 + 1 + 1 + 1 + 1 + 1 + 1 + 1 + 1 + 1 + 1 + 1 + 1 + 1 + 1) (0 + 12464 + 304 + 6 + 6 + 6 + 4 + 1216 + 1216 + 1216 + 1216 + 41 + 768 + 180 + 3 + 3)
  refine st_putf C dX11_init_126 fp_X11_53 (fun _ => rfl) (hput_o (by omega) hput_s) (Nat.le_of_ble_eq_true rfl) fit_arrR ?_
  show T x 129 [(0, vR 200)] [] (hput (hput (hput (hput (hput (hput (hput (hput (hput (hput (hput (hput (hput (hput (hput (hput (hput (hput (hput (hput (hput (hput (hput (hput (hput (hput (hput (hput (hput (hput h 201 (oI 12464 (fun _ => 0))) 200 (oO 10 [vR 201, vN, vN, vN, vN, vN, vN, vN, vN, vN, vN, vN, vN, vN, vN, vN, vN, vN, vI 0, vI 0, vI 0, vI 0, vI 0, vI 0, vI 0, vI 0, vI 0])) 202 (oI 304 (fun _ => 0))) 200 (oO 10 [vR 201, vR 202, vN, vN, vN, vN, vN, vN, vN, vN, vN, vN, vN, vN, vN, vN, vN, vN, vI 0, vI 0, vI 0, vI 0, vI 0, vI 0, vI 0, vI 0, vI 0])) 203 (oI 6 (fun _ => 0))) 200 (oO 10 [vR 201, vR 202, vR 203, vN, vN, vN, vN, vN, vN, vN, vN, vN, vN, vN, vN, vN, vN, vN, vI 0, vI 0, vI 0, vI 0, vI 0, vI 0, vI 0, vI 0, vI 0])) 204 (oI 6 (fun _ => 0))) 200 (oO 10 [vR 201, vR 202, vR 203, vR 204, vN, vN, vN, vN, vN, vN, vN, vN, vN, vN, vN, vN, vN, vN, vI 0, vI 0, vI 0, vI 0, vI 0, vI 0, vI 0, vI 0, vI 0])) 205 (oI 6 (fun _ => 0))) 200 (oO 10 [vR 201, vR 202, vR 203, vR 204, vR 205, vN, vN, vN, vN, vN, vN, vN, vN, vN, vN, vN, vN, vN, vI 0, vI 0, vI 0, vI 0, vI 0, vI 0, vI 0, vI 0, vI 0])) 206 (oZ 4 (fun _ => 0))) 200 (oO 10 [vR 201, vR 202, vR 203, vR 204, vR 205, vR 206, vN, vN, vN, vN, vN, vN, vN, vN, vN, vN, vN, vN, vI 0, vI 0, vI 0, vI 0, vI 0, vI 0, vI 0, vI 0, vI 0])) 207 (oI 1216 (fun _ => 0))) 200 (oO 10 [vR 201, vR 202, vR 203, vR 204, vR 205, vR 206, vR 207, vN, vN, vN, vN, vN, vN, vN, vN, vN, vN, vN, vI 0, vI 0, vI 0, vI 0, vI 0, vI 0, vI 0, vI 0, vI 0])) 208 (oI 1216 (fun _ => 0))) 200 (oO 10 [vR 201, vR 202, vR 203, vR 204, vR 205, vR 206, vR 207, vR 208, vN, vN, vN, vN, vN, vN, vN, vN, vN, vN, vI 0, vI 0, vI 0, vI 0, vI 0, vI 0, vI 0, vI 0, vI 0])) 209 (oI 1216 (fun _ => 0))) 200 (oO 10 [vR 201, vR 202, vR 203, vR 204, vR 205, vR 206, vR 207, vR 208, vR 209, vN, vN, vN, vN, vN, vN, vN, vN, vN, vI 0, vI 0, vI 0, vI 0, vI 0, vI 0, vI 0, vI 0, vI 0])) 210 (oI 1216 (fun _ => 0))) 200 (oO 10 [vR 201, vR 202, vR 203, vR 204, vR 205, vR 206, vR 207, vR 208, vR 209, vR 210, vN, vN, vN, vN, vN, vN, vN, vN, vI 0, vI 0, vI 0, vI 0, vI 0, vI 0, vI 0, vI 0, vI 0])) 211 (oI 41 (fun _ => 0))) 200 (oO 10 [vR 201, vR 202, vR 203, vR 204, vR 205, vR 206, vR 207, vR 208, vR 209, vR 210, vR 211, vN, vN, vN, vN, vN, vN, vN, vI 0, vI 0, vI 0, vI 0, vI 0, vI 0, vI 0, vI 0, vI 0])) 212 (oI 768 (fun _ => 0))) 200 (oO 10 [vR 201, vR 202, vR 203, vR 204, vR 205, vR 206, vR 207, vR 208, vR 209, vR 210, vR 211, vR 212, vN, vN, vN, vN, vN, vN, vI 0, vI 0, vI 0, vI 0, vI 0, vI 0, vI 0, vI 0, vI 0])) 213 (oI 180 (fun _ => 0))) 200 (oO 10 [vR 201, vR 202, vR 203, vR 204, vR 205, vR 206, vR 207, vR 208, vR 209, vR 210, vR 211, vR 212, vR 213, vN, vN, vN, vN, vN, vI 0, vI 0, vI 0, vI 0, vI 0, vI 0, vI 0, vI 0, vI 0])) 214 (oI 3 (fun _ => 0))) 200 (oO 10 [vR 201, vR 202, vR 203, vR 204, vR 205, vR 206, vR 207, vR 208, vR 209, vR 210, vR 211, vR 212, vR 213, vR 214, vN, vN, vN, vN, vI 0, vI 0, vI 0, vI 0, vI 0, vI 0, vI 0, vI 0, vI 0])) 215 (oI 3 (fun _ => 0))) 200 (oO 10 [vR 201, vR 202, vR 203, vR 204, vR 205, vR 206, vR 207, vR 208, vR 209, vR 210, vR 211, vR 212, vR 213, vR 214, vR 215, vN, vN, vN, vI 0, vI 0, vI 0, vI 0, vI 0, vI 0, vI 0, vI 0, vI 0])) _ _
  refine st_aload_n C 0 dX11_init_129 rfl rfl ?_
  refine st_bipush C dX11_init_130 (by decide) (by decide) ?_
  refine st_newZ C 64 dX11_init_132 216 rfl (by decide) ac_Z (show _ = none from hfree 216 (by decide) (by decide)) (by omega) (by omega) ?_
  show T x 134 [(0, vR 200)] [vR 216, vR 200] (hput (hput (hput (hput (hput (hput (hput (hput (hput (hput (hput (hput (hput (hput (hput (hput (hput (hput (hput (hput (hput (hput (hput (hput (hput (hput (hput (hput (hput (hput (hput h 201 (oI 12464 (fun _ => 0))) 200 (oO 10 [vR 201, vN, vN, vN, vN, vN, vN, vN, vN, vN, vN, vN, vN, vN, vN, vN, vN, vN, vI 0, vI 0, vI 0, vI 0, vI 0, vI 0, vI 0, vI 0, vI 0])) 202 (oI 304 (fun _ => 0))) 200 (oO 10 [vR 201, vR 202, vN, vN, vN, vN, vN, vN, vN, vN, vN, vN, vN, vN, vN, vN, vN, vN, vI 0, vI 0, vI 0, vI 0, vI 0, vI 0, vI 0, vI 0, vI 0])) 203 (oI 6 (fun _ => 0))) 200 (oO 10 [vR 201, vR 202, vR 203, vN, vN, vN, vN, vN, vN, vN, vN, vN, vN, vN, vN, vN, vN, vN, vI 0, vI 0, vI 0, vI 0, vI 0, vI 0, vI 0, vI 0, vI 0])) 204 (oI 6 (fun _ => 0))) 200 (oO 10 [vR 201, vR 202, vR 203, vR 204, vN, vN, vN, vN, vN, vN, vN, vN, vN, vN, vN, vN, vN, vN, vI 0, vI 0, vI 0, vI 0, vI 0, vI 0, vI 0, vI 0, vI 0])) 205 (oI 6 (fun _ => 0))) 200 (oO 10 [vR 201, vR 202, vR 203, vR 204, vR 205, vN, vN, vN, vN, vN, vN, vN, vN, vN, vN, vN, vN, vN, vI 0, vI 0, vI 0, vI 0, vI 0, vI 0, vI 0, vI 0, vI 0])) 206 (oZ 4 (fun _ => 0))) 200 (oO 10 [vR 201, vR 202, vR 203, vR 204, vR 205, vR 206, vN, vN, vN, vN, vN, vN, vN, vN, vN, vN, vN, vN, vI 0, vI 0, vI 0, vI 0, vI 0, vI 0, vI 0, vI 0, vI 0])) 207 (oI 1216 (fun _ => 0))) 200 (oO 10 [vR 201, vR 202, vR 203, vR 204, vR 205, vR 206, vR 207, vN, vN, vN, vN, vN, vN, vN, vN, vN, vN, vN, vI 0, vI 0, vI 0, vI 0, vI 0, vI 0, vI 0, vI 0, vI 0])) 208 (oI 1216 (fun _ => 0))) 200 (oO 10 [vR 201, vR 202, vR 203, vR 204, vR 205, vR 206, vR 207, vR 208, vN, vN, vN, vN, vN, vN, vN, vN, vN, vN, vI 0, vI 0, vI 0, vI 0, vI 0, vI 0, vI 0, vI 0, vI 0])) 209 (oI 1216 (fun _ => 0))) 200 (oO 10 [vR 201, vR 202, vR 203, vR 204, vR 205, vR 206, vR 207, vR 208, vR 209, vN, vN, vN, vN, vN, vN, vN, vN, vN, vI 0, vI 0, vI 0, vI 0, vI 0, vI 0, vI 0, vI 0, vI 0])) 210 (oI 1216 (fun _ => 0))) 200 (oO 10 [vR 201, vR 202, vR 203, vR 204, vR 205, vR 206, vR 207, vR 208, vR 209, vR 210, vN, vN, vN, vN, vN, vN, vN, vN, vI 0, vI 0, vI 0, vI 0, vI 0, vI 0, vI 0, vI 0, vI 0])) 211 (oI 41 (fun _ => 0))) 200 (oO 10 [vR 201, vR 202, vR 203, vR 204, vR 205, vR 206, vR 207, vR 208, vR 209, vR 210, vR 211, vN, vN, vN, vN, vN, vN, vN, vI 0, vI 0, vI 0, vI 0, vI 0, vI 0, vI 0, vI 0, vI 0])) 212 (oI 768 (fun _ => 0))) 200 (oO 10 [vR 201, vR 202, vR 203, vR 204, vR 205, vR 206, vR 207, vR 208, vR 209, vR 210, vR 211, vR 212, vN, vN, vN, vN, vN, vN, vI 0, vI 0, vI 0, vI 0, vI 0, vI 0, vI 0, vI 0, vI 0])) 213 (oI 180 (fun _ => 0))) 200 (oO 10 [vR 201, vR 202, vR 203, vR 204, vR 205, vR 206, vR 207, vR 208, vR 209, vR 210, vR 211, vR 212, vR 213, vN, vN, vN, vN, vN, vI 0, vI 0, vI 0, vI 0, vI 0, vI 0, vI 0, vI 0, vI 0])) 214 (oI 3 (fun _ => 0))) 200 (oO 10 [vR 201, vR 202, vR 203, vR 204, vR 205, vR 206, vR 207, vR 208, vR 209, vR 210, vR 211, vR 212, vR 213, vR 214, vN, vN, vN, vN, vI 0, vI 0, vI 0, vI 0, vI 0, vI 0, vI 0, vI 0, vI 0])) 215 (oI 3 (fun _ => 0))) 200 (oO 10 [vR 201, vR 202, vR 203, vR 204, vR 205, vR 206, vR 207, vR 208, vR 209, vR 210, vR 211, vR 212, vR 213, vR 214, vR 215, vN, vN, vN, vI 0, vI 0, vI 0, vI 0, vI 0, vI 0, vI 0, vI 0, vI 0])) 216 (oZ 64 (fun _ => 0))) (0 + 1 + 1 + 1 + 1 + 1 + 1 + 1 + 1 + 1 + 1 + 1 + 1 + 1 + 1 + 1 + 1) (0 + 12464 + 304 + 6 + 6 + 6 + 4 + 1216 + 1216 + 1216 + 1216 + 41 + 768 + 180 + 3 + 3 + 64)
  refine st_putf C dX11_init_134 fp_X11_56 (fun _ => rfl) (hput_o (by omega) hput_s) (Nat.le_of_ble_eq_true rfl) fit_arrR ?_
  show T x 137 [(0, vR 200)] [] (hput (hput (hput (hput (hput (hput (hput (hput (hput (hput (hput (hput (hput (hput (hput (hput (hput (hput (hput (hput (hput (hput (hput (hput (hput (hput (hput (hput (hput (hput (hput (hput h 201 (oI 12464 (fun _ => 0))) 200 (oO 10 [vR 201, vN, vN, vN, vN, vN, vN, vN, vN, vN, vN, vN, vN, vN, vN, vN, vN, vN, vI 0, vI 0, vI 0, vI 0, vI 0, vI 0, vI 0, vI 0, vI 0])) 202 (oI 304 (fun _ => 0))) 200 (oO 10 [vR 201, vR 202, vN, vN, vN, vN, vN, vN, vN, vN, vN, vN, vN, vN, vN, vN, vN, vN, vI 0, vI 0, vI 0, vI 0, vI 0, vI 0, vI 0, vI 0, vI 0])) 203 (oI 6 (fun _ => 0))) 200 (oO 10 [vR 201, vR 202, vR 203, vN, vN, vN, vN, vN, vN, vN, vN, vN, vN, vN, vN, vN, vN, vN, vI 0, vI 0, vI 0, vI 0, vI 0, vI 0, vI 0, vI 0, vI 0])) 204 (oI 6 (fun _ => 0))) 200 (oO 10 [vR 201, vR 202, vR 203, vR 204, vN, vN, vN, vN, vN, vN, vN, vN, vN, vN, vN, vN, vN, vN, vI 0, vI 0, vI 0, vI 0, vI 0, vI 0, vI 0, vI 0, vI 0])) 205 (oI 6 (fun _ => 0))) 200 (oO 10 [vR 201, vR 202, vR 203, vR 204, vR 205, vN, vN, vN, vN, vN, vN, vN, vN, vN, vN, vN, vN, vN, vI 0, vI 0, vI 0, vI 0, vI 0, vI 0, vI 0, vI 0, vI 0])) 206 (oZ 4 (fun _ => 0))) 200 (oO 10 [vR 201, vR 202, vR 203, vR 204, vR 205, vR 206, vN, vN, vN, vN, vN, vN, vN, vN, vN, vN, vN, vN, vI 0, vI 0, vI 0, vI 0, vI 0, vI 0, vI 0, vI 0, vI 0])) 207 (oI 1216 (fun _ => 0))) 200 (oO 10 [vR 201, vR 202, vR 203, vR 204, vR 205, vR 206, vR 207, vN, vN, vN, vN, vN, vN, vN, vN, vN, vN, vN, vI 0, vI 0, vI 0, vI 0, vI 0, vI 0, vI 0, vI 0, vI 0])) 208 (oI 1216 (fun _ => 0))) 200 (oO 10 [vR 201, vR 202, vR 203, vR 204, vR 205, vR 206, vR 207, vR 208, vN, vN, vN, vN, vN, vN, vN, vN, vN, vN, vI 0, vI 0, vI 0, vI 0, vI 0, vI 0, vI 0, vI 0, vI 0])) 209 (oI 1216 (fun _ => 0))) 200 (oO 10 [vR 201, vR 202, vR 203, vR 204, vR 205, vR 206, vR 207, vR 208, vR 209, vN, vN, vN, vN, vN, vN, vN, vN, vN, vI 0, vI 0, vI 0, vI 0, vI 0, vI 0, vI 0, vI 0, vI 0])) 210 (oI 1216 (fun _ => 0))) 200 (oO 10 [vR 201, vR 202, vR 203, vR 204, vR 205, vR 206, vR 207, vR 208, vR 209, vR 210, vN, vN, vN, vN, vN, vN, vN, vN, vI 0, vI 0, vI 0, vI 0, vI 0, vI 0, vI 0, vI 0, vI 0])) 211 (oI 41 (fun _ => 0))) 200 (oO 10 [vR 201, vR 202, vR 203, vR 204, vR 205, vR 206, vR 207, vR 208, vR 209, vR 210, vR 211, vN, vN, vN, vN, vN, vN, vN, vI 0, vI 0, vI 0, vI 0, vI 0, vI 0, vI 0, vI 0, vI 0])) 212 (oI 768 (fun _ => 0))) 200 (oO 10 [vR 201, vR 202, vR 203, vR 204, vR 205, vR 206, vR 207, vR 208, vR 209, vR 210, vR 211, vR 212, vN, vN, vN, vN, vN, vN, vI 0, vI 0, vI 0, vI 0, vI 0, vI 0, vI 0, vI 0, vI 0])) 213 (oI 180 (fun _ => 0))) 200 (oO 10 [vR 201, vR 202, vR 203, vR 204, vR 205, vR 206, vR 207, vR 208, vR 209, vR 210, vR 211, vR 212, vR 213, vN, vN, vN, vN, vN, vI 0, vI 0, vI 0, vI 0, vI 0, vI 0, vI 0, vI 0, vI 0])) 214 (oI 3 (fun _ => 0))) 200 (oO 10 [vR 201, vR 202, vR 203, vR 204, vR 205, vR 206, vR 207, vR 208, vR 209, vR 210, vR 211, vR 212, vR 213, vR 214, vN, vN, vN, vN, vI 0, vI 0, vI 0, vI 0, vI 0, vI 0, vI 0, vI 0, vI 0])) 215 (oI 3 (fun _ => 0))) 200 (oO 10 [vR 201, vR 202, vR 203, vR 204, vR 205, vR 206, vR 207, vR 208, vR 209, vR 210, vR 211, vR 212, vR 213, vR 214, vR 215, vN, vN, vN, vI 0, vI 0, vI 0, vI 0, vI 0, vI 0, vI 0, vI 0, vI 0])) 216 (oZ 64 (fun _ => 0))) 200 (oO 10 [vR 201, vR 202, vR 203, vR 204, vR 205, vR 206, vR 207, vR 208, vR 209, vR 210, vR 211, vR 212, vR 213, vR 214, vR 215, vR 216, vN, vN, vI 0, vI 0, vI 0, vI 0, vI 0, vI 0, vI 0, vI 0, vI 0])) _ _
  refine st_aload_n C 0 dX11_init_137 rfl rfl ?_
  refine st_bipush C dX11_init_138 (by decide) (by decide) ?_
  refine st_newI C 64 dX11_init_140 217 rfl (by decide) ac_I (show _ = none from hfree 217 (by decide) (by decide)) (by omega) (by omega) ?_
  show T x 142 [(0, vR 200)] [vR 217, vR 200] (hput (hput (hput (hput (hput (hput (hput (hput (hput (hput (hput (hput (hput (hput (hput (hput (hput (hput (hput (hput (hput (hput (hput (hput (hput (hput (hput (hput (hput (hput (hput (hput (hput h 201 (oI 12464 (fun _ => 0))) 200 (oO 10 [vR 201, vN, vN, vN, vN, vN, vN, vN, vN, vN, vN, vN, vN, vN, vN, vN, vN, vN, vI 0, vI 0, vI 0, vI 0, vI 0, vI 0, vI 0, vI 0, vI 0])) 202 (oI 304 (fun _ => 0))) 200 (oO 10 [vR 201, vR 202, vN, vN, vN, vN, vN, vN, vN, vN, vN, vN, vN, vN, vN, vN, vN, vN, vI 0, vI 0, vI 0, vI 0, vI 0, vI 0, vI 0, vI 0, vI 0])) 203 (oI 6 (fun _ => 0))) 200 (oO 10 [vR 201, vR 202, vR 203, vN, vN, vN, vN, vN, vN, vN, vN, vN, vN, vN, vN, vN, vN, vN, vI 0, vI 0, vI 0, vI 0, vI 0, vI 0, vI 0, vI 0, vI 0])) 204 (oI 6 (fun _ => 0))) 200 (oO 10 [vR 201, vR 202, vR 203, vR 204, vN, vN, vN, vN, vN, vN, vN, vN, vN, vN, vN, vN, vN, vN, vI 0, vI 0, vI 0, vI 0, vI 0, vI 0, vI 0, vI 0, vI 0])) 205 (oI 6 (fun _ => 0))) 200 (oO 10 [vR 201, vR 202, vR 203, vR 204, vR 205, vN, vN, vN, vN, vN, vN, vN, vN, vN, vN, vN, vN, vN, vI 0, vI 0, vI 0, vI 0, vI 0, vI 0, vI 0, vI 0, vI 0])) 206 (oZ 4 (fun _ => 0))) 200 (oO 10 [vR 201, vR 202, vR 203, vR 204, vR 205, vR 206, vN, vN, vN, vN, vN, vN, vN, vN, vN, vN, vN, vN, vI 0, vI 0, vI 0, vI 0, vI 0, vI 0, vI 0, vI 0, vI 0])) 207 (oI 1216 (fun _ => 0))) 200 (oO 10 [vR 201, vR 202, vR 203, vR 204, vR 205, vR 206, vR 207, vN, vN, vN, vN, vN, vN, vN, vN, vN, vN, vN, vI 0, vI 0, vI 0, vI 0, vI 0, vI 0, vI 0, vI 0, vI 0])) 208 (oI 1216 (fun _ => 0))) 200 (oO 10 [vR 201, vR 202, vR 203, vR 204, vR 205, vR 206, vR 207, vR 208, vN, vN, vN, vN, vN, vN, vN, vN, vN, vN, vI 0, vI 0, vI 0, vI 0, vI 0, vI 0, vI 0, vI 0, vI 0])) 209 (oI 1216 (fun _ => 0))) 200 (oO 10 [vR 201, vR 202, vR 203, vR 204, vR 205, vR 206, vR 207, vR 208, vR 209, vN, vN, vN, vN, vN, vN, vN, vN, vN, vI 0, vI 0, vI 0, vI 0, vI 0, vI 0, vI 0, vI 0, vI 0])) 210 (oI 1216 (fun _ => 0))) 200 (oO 10 [vR 201, vR 202, vR 203, vR 204, vR 205, vR 206, vR 207, vR 208, vR 209, vR 210, vN, vN, vN, vN, vN, vN, vN, vN, vI 0, vI 0, vI 0, vI 0, vI 0, vI 0, vI 0, vI 0, vI 0])) 211 (oI 41 (fun _ => 0))) 200 (oO 10 [vR 201, vR 202, vR 203, vR 204, vR 205, vR 206, vR 207, vR 208, vR 209, vR 210, vR 211, vN, vN, vN, vN, vN, vN, vN, vI 0, vI 0, vI 0, vI 0, vI 0, vI 0, vI 0, vI 0, vI 0])) 212 (oI 768 (fun _ => 0))) 200 (oO 10 [vR 201, vR 202, vR 203, vR 204, vR 205, vR 206, vR 207, vR 208, vR 209, vR 210, vR 211, vR 212, vN, vN, vN, vN, vN, vN, vI 0, vI 0, vI 0, vI 0, vI 0, vI 0, vI 0, vI 0, vI 0])) 213 (oI 180 (fun _ => 0))) 200 (oO 10 [vR 201, vR 202, vR 203, vR 204, vR 205, vR 206, vR 207, vR 208, vR 209, vR 210, vR 211, vR 212, vR 213, vN, vN, vN, vN, vN, vI 0, vI 0, vI 0, vI 0, vI 0, vI 0, vI 0, vI 0, vI 0])) 214 (oI 3 (fun _ => 0))) 200 (oO 10 [vR 201, vR 202, vR 203, vR 204, vR 205, vR 206, vR 207, vR 208, vR 209, vR 210, vR 211, vR 212, vR 213, vR 214, vN, vN, vN, vN, vI 0, vI 0, vI 0, vI 0, vI 0, vI 0, vI 0, vI 0, vI 0])) 215 (oI 3 (fun _ => 0))) 200 (oO 10 [vR 201, vR 202, vR 203, vR 204, vR 205, vR 206, vR 207, vR 208, vR 209, vR 210, vR 211, vR 212, vR 213, vR 214, vR 215, vN, vN, vN, vI 0, vI 0, vI 0, vI 0, vI 0, vI 0, vI 0, vI 0, vI 0])) 216 (oZ 64 (fun _ => 0))) 200 (oO 10 [vR 201, vR 202, vR 203, vR 204, vR 205, vR 206, vR 207, vR 208, vR 209, vR 210, vR 211, vR 212, vR 213, vR 214, vR 215, vR 216, vN, vN, vI 0, vI 0, vI 0, vI 0, vI 0, vI 0, vI 0, vI 0, vI 0])) 217 (oI 64 (fun _ => 0))) (0 + 1 + 1 + 1 + 1 + 1 + 1 + 1 + 1 + 1 + 1 + 1 + 1 + 1 + 1 + 1 + 1 + 1) (0 + 12464 + 304 + 6 + 6 + 6 + 4 + 1216 + 1216 + 1216 + 1216 + 41 + 768 + 180 + 3 + 3 + 64 + 64)
  refine st_putf C dX11_init_142 fp_X11_59 (fun _ => rfl) (hput_o (by omega) hput_s) (Nat.le_of_ble_eq_true rfl) fit_arrR ?_
  show T x 145 [(0, vR 200)] [] (hput (hput (hput (hput (hput (hput (hput (hput (hput (hput (hput (hput (hput (hput (hput (hput (hput (hput (hput (hput (hput (hput (hput (hput (hput (hput (hput (hput (hput (hput (hput (hput (hput (hput h 201 (oI 12464 (fun _ => 0))) 200 (oO 10 [vR 201, vN, vN, vN, vN, vN, vN, vN, vN, vN, vN, vN, vN, vN, vN, vN, vN, vN, vI 0, vI 0, vI 0, vI 0, vI 0, vI 0, vI 0, vI 0, vI 0])) 202 (oI 304 (fun _ => 0))) 200 (oO 10 [vR 201, vR 202, vN, vN, vN, vN, vN, vN, vN, vN, vN, vN, vN, vN, vN, vN, vN, vN, vI 0, vI 0, vI 0, vI 0, vI 0, vI 0, vI 0, vI 0, vI 0])) 203 (oI 6 (fun _ => 0))) 200 (oO 10 [vR 201, vR 202, vR 203, vN, vN, vN, vN, vN, vN, vN, vN, vN, vN, vN, vN, vN, vN, vN, vI 0, vI 0, vI 0, vI 0, vI 0, vI 0, vI 0, vI 0, vI 0])) 204 (oI 6 (fun _ => 0))) 200 (oO 10 [vR 201, vR 202, vR 203, vR 204, vN, vN, vN, vN, vN, vN, vN, vN, vN, vN, vN, vN, vN, vN, vI 0, vI 0, vI 0, vI 0, vI 0, vI 0, vI 0, vI 0, vI 0])) 205 (oI 6 (fun _ => 0))) 200 (oO 10 [vR 201, vR 202, vR 203, vR 204, vR 205, vN, vN, vN, vN, vN, vN, vN, vN, vN, vN, vN, vN, vN, vI 0, vI 0, vI 0, vI 0, vI 0, vI 0, vI 0, vI 0, vI 0])) 206 (oZ 4 (fun _ => 0))) 200 (oO 10 [vR 201, vR 202, vR 203, vR 204, vR 205, vR 206, vN, vN, vN, vN, vN, vN, vN, vN, vN, vN, vN, vN, vI 0, vI 0, vI 0, vI 0, vI 0, vI 0, vI 0, vI 0, vI 0])) 207 (oI 1216 (fun _ => 0))) 200 (oO 10 [vR 201, vR 202, vR 203, vR 204, vR 205, vR 206, vR 207, vN, vN, vN, vN, vN, vN, vN, vN, vN, vN, vN, vI 0, vI 0, vI 0, vI 0, vI 0, vI 0, vI 0, vI 0, vI 0])) 208 (oI 1216 (fun _ => 0))) 200 (oO 10 [vR 201, vR 202, vR 203, vR 204, vR 205, vR 206, vR 207, vR 208, vN, vN, vN, vN, vN, vN, vN, vN, vN, vN, vI 0, vI 0, vI 0, vI 0, vI 0, vI 0, vI 0, vI 0, vI 0])) 209 (oI 1216 (fun _ => 0))) 200 (oO 10 [vR 201, vR 202, vR 203, vR 204, vR 205, vR 206, vR 207, vR 208, vR 209, vN, vN, vN, vN, vN, vN, vN, vN, vN, vI 0, vI 0, vI 0, vI 0, vI 0, vI 0, vI 0, vI 0, vI 0])) 210 (oI 1216 (fun _ => 0))) 200 (oO 10 [vR 201, vR 202, vR 203, vR 204, vR 205, vR 206, vR 207, vR 208, vR 209, vR 210, vN, vN, vN, vN, vN, vN, vN, vN, vI 0, vI 0, vI 0, vI 0, vI 0, vI 0, vI 0, vI 0, vI 0])) 211 (oI 41 (fun _ => 0))) 200 (oO 10 [vR 201, vR 202, vR 203, vR 204, vR 205, vR 206, vR 207, vR 208, vR 209, vR 210, vR 211, vN, vN, vN, vN, vN, vN, vN, vI 0, vI 0, vI 0, vI 0, vI 0, vI 0, vI 0, vI 0, vI 0])) 212 (oI 768 (fun _ => 0))) 200 (oO 10 [vR 201, vR 202, vR 203, vR 204, vR 205, vR 206, vR 207, vR 208, vR 209, vR 210, vR 211, vR 212, vN, vN, vN, vN, vN, vN, vI 0, vI 0, vI 0, vI 0, vI 0, vI 0, vI 0, vI 0, vI 0])) 213 (oI 180 (fun _ => 0))) 200 (oO 10 [vR 201, vR 202, vR 203, vR 204, vR 205, vR 206, vR 207, vR 208, vR 209, vR 210, vR 211, vR 212, vR 213, vN, vN, vN, vN, vN, vI 0, vI 0, vI 0, vI 0, vI 0, vI 0, vI 0, vI 0, vI 0])) 214 (oI 3 (fun _ => 0))) 200 (oO 10 [vR 201, vR 202, vR 203, vR 204, vR 205, vR 206, vR 207, vR 208, vR 209, vR 210, vR 211, vR 212, vR 213, vR 214, vN, vN, vN, vN, vI 0, vI 0, vI 0, vI 0, vI 0, vI 0, vI 0, vI 0, vI 0])) 215 (oI 3 (fun _ => 0))) 200 (oO 10 [vR 201, vR 202, vR 203, vR 204, vR 205, vR 206, vR 207, vR 208, vR 209, vR 210, vR 211, vR 212, vR 213, vR 214, vR 215, vN, vN, vN, vI 0, vI 0, vI 0, vI 0, vI 0, vI 0, vI 0, vI 0, vI 0])) 216 (oZ 64 (fun _ => 0))) 200 (oO 10 [vR 201, vR 202, vR 203, vR 204, vR 205, vR 206, vR 207, vR 208, vR 209, vR 210, vR 211, vR 212, vR 213, vR 214, vR 215, vR 216, vN, vN, vI 0, vI 0, vI 0, vI 0, vI 0, vI 0, vI 0, vI 0, vI 0])) 217 (oI 64 (fun _ => 0))) 200 (oO 10 [vR 201, vR 202, vR 203, vR 204, vR 205, vR 206, vR 207, vR 208, vR 209, vR 210, vR 211, vR 212, vR 213, vR 214, vR 215, vR 216, vR 217, vN, vI 0, vI 0, vI 0, vI 0, vI 0, vI 0, vI 0, vI 0, vI 0])) _ _
  refine st_aload_n C 0 dX11_init_145 rfl rfl ?_
  refine st_bipush C dX11_init_146 (by decide) (by decide) ?_
  refine st_newI C 10 dX11_init_148 218 rfl (by decide) ac_I (show _ = none from hfree 218 (by decide) (by decide)) (by omega) (by omega) ?_
  show T x 150 [(0, vR 200)] [vR 218, vR 200] (hput (hput (hput (hput (hput (hput (hput (hput (hput (hput (hput (hput (hput (hput (hput (hput (hput (hput (hput (hput (hput (hput (hput (hput (hput (hput (hput (hput (hput (hput (hput (hput (hput (hput (hput h 201 (oI 12464 (fun _ => 0))) 200 (oO 10 [vR 201, vN, vN, vN, vN, vN, vN, vN, vN, vN, vN, vN, vN, vN, vN, vN, vN, vN, vI 0, vI 0, vI 0, vI 0, vI 0, vI 0, vI 0, vI 0, vI 0])) 202 (oI 304 (fun _ => 0))) 200 (oO 10 [vR 201, vR 202, vN, vN, vN, vN, vN, vN, vN, vN, vN, vN, vN, vN, vN, vN, vN, vN, vI 0, vI 0, vI 0, vI 0, vI 0, vI 0, vI 0, vI 0, vI 0])) 203 (oI 6 (fun _ => 0))) 200 (oO 10 [vR 201, vR 202, vR 203, vN, vN, vN, vN, vN, vN, vN, vN, vN, vN, vN, vN, vN, vN, vN, vI 0, vI 0, vI 0, vI 0, vI 0, vI 0, vI 0, vI 0, vI 0])) 204 (oI 6 (fun _ => 0))) 200 (oO 10 [vR 201, vR 202, vR 203, vR 204, vN, vN, vN, vN, vN, vN, vN, vN, vN, vN, vN, vN, vN, vN, vI 0, vI 0, vI 0, vI 0, vI 0, vI 0, vI 0, vI 0, vI 0])) 205 (oI 6 (fun _ => 0))) 200 (oO 10 [vR 201, vR 202, vR 203, vR 204, vR 205, vN, vN, vN, vN, vN, vN, vN, vN, vN, vN, vN, vN, vN, vI 0, vI 0, vI 0, vI 0, vI 0, vI 0, vI 0, vI 0, vI 0])) 206 (oZ 4 (fun _ => 0))) 200 (oO 10 [vR 201, vR 202, vR 203, vR 204, vR 205, vR 206, vN, vN, vN, vN, vN, vN, vN, vN, vN, vN, vN, vN, vI 0, vI 0, vI 0, vI 0, vI 0, vI 0, vI 0, vI 0, vI 0])) 207 (oI 1216 (fun _ => 0))) 200 (oO 10 [vR 201, vR 202, vR 203, vR 204, vR 205, vR 206, vR 207, vN, vN, vN, vN, vN, vN, vN, vN, vN, vN, vN, vI 0, vI 0, vI 0, vI 0, vI 0, vI 0, vI 0, vI 0, vI 0])) 208 (oI 1216 (fun _ => 0))) 200 (oO 10 [vR 201, vR 202, vR 203, vR 204, vR 205, vR 206, vR 207, vR 208, vN, vN, vN, vN, vN, vN, vN, vN, vN, vN, vI 0, vI 0, vI 0, vI 0, vI 0, vI 0, vI 0, vI 0, vI 0])) 209 (oI 1216 (fun _ => 0))) 200 (oO 10 [vR 201, vR 202, vR 203, vR 204, vR 205, vR 206, vR 207, vR 208, vR 209, vN, vN, vN, vN, vN, vN, vN, vN, vN, vI 0, vI 0, vI 0, vI 0, vI 0, vI 0, vI 0, vI 0, vI 0])) 210 (oI 1216 (fun _ => 0))) 200 (oO 10 [vR 201, vR 202, vR 203, vR 204, vR 205, vR 206, vR 207, vR 208, vR 209, vR 210, vN, vN, vN, vN, vN, vN, vN, vN, vI 0, vI 0, vI 0, vI 0, vI 0, vI 0, vI 0, vI 0, vI 0])) 211 (oI 41 (fun _ => 0))) 200 (oO 10 [vR 201, vR 202, vR 203, vR 204, vR 205, vR 206, vR 207, vR 208, vR 209, vR 210, vR 211, vN, vN, vN, vN, vN, vN, vN, vI 0, vI 0, vI 0, vI 0, vI 0, vI 0, vI 0, vI 0, vI 0])) 212 (oI 768 (fun _ => 0))) 200 (oO 10 [vR 201, vR 202, vR 203, vR 204, vR 205, vR 206, vR 207, vR 208, vR 209, vR 210, vR 211, vR 212, vN, vN, vN, vN, vN, vN, vI 0, vI 0, vI 0, vI 0, vI 0, vI 0, vI 0, vI 0, vI 0])) 213 (oI 180 (fun _ => 0))) 200 (oO 10 [vR 201, vR 202, vR 203, vR 204, vR 205, vR 206, vR 207, vR 208, vR 209, vR 210, vR 211, vR 212, vR 213, vN, vN, vN, vN, vN, vI 0, vI 0, vI 0, vI 0, vI 0, vI 0, vI 0, vI 0, vI 0])) 214 (oI 3 (fun _ => 0))) 200 (oO 10 [vR 201, vR 202, vR 203, vR 204, vR 205, vR 206, vR 207, vR 208, vR 209, vR 210, vR 211, vR 212, vR 213, vR 214, vN, vN, vN, vN, vI 0, vI 0, vI 0, vI 0, vI 0, vI 0, vI 0, vI 0, vI 0])) 215 (oI 3 (fun _ => 0))) 200 (oO 10 [vR 201, vR 202, vR 203, vR 204, vR 205, vR 206, vR 207, vR 208, vR 209, vR 210, vR 211, vR 212, vR 213, vR 214, vR 215, vN, vN, vN, vI 0, vI 0, vI 0, vI 0, vI 0, vI 0, vI 0, vI 0, vI 0])) 216 (oZ 64 (fun _ => 0))) 200 (oO 10 [vR 201, vR 202, vR 203, vR 204, vR 205, vR 206, vR 207, vR 208, vR 209, vR 210, vR 211, vR 212, vR 213, vR 214, vR 215, vR 216, vN, vN, vI 0, vI 0, vI 0, vI 0, vI 0, vI 0, vI 0, vI 0, vI 0])) 217 (oI 64 (fun _ => 0))) 200 (oO 10 [vR 201, vR 202, vR 203, vR 204, vR 205, vR 206, vR 207, vR 208, vR 209, vR 210, vR 211, vR 212, vR 213, vR 214, vR 215, vR 216, vR 217, vN, vI 0, vI 0, vI 0, vI 0, vI 0, vI 0, vI 0, vI 0, vI 0])) 218 (oI 10 (fun _ => 0))) (0 + 1 + 1 + 1 + 1 + 1 + 1 + 1 + 1 + 1 + 1 + 1 + 1 + 1 + 1 + 1 + 1 + 1 + 1) (0 + 12464 + 304 + 6 + 6 + 6 + 4 + 1216 + 1216 + 1216 + 1216 + 41 + 768 + 180 + 3 + 3 + 64 + 64 + 10)
  refine st_putf C dX11_init_150 fp_X11_62 (fun _ => rfl) (hput_o (by omega) hput_s) (Nat.le_of_ble_eq_true rfl) fit_arrR ?_
  show T x 153 [(0, vR 200)] [] (hput (hput (hput (hput (hput (hput (hput (hput (hput (hput (hput (hput (hput (hput (hput (hput (hput (hput (hput (hput (hput (hput (hput (hput (hput (hput (hput (hput (hput (hput (hput (hput (hput (hput (hput (hput h 201 (oI 12464 (fun _ => 0))) 200 (oO 10 [vR 201, vN, vN, vN, vN, vN, vN, vN, vN, vN, vN, vN, vN, vN, vN, vN, vN, vN, vI 0, vI 0, vI 0, vI 0, vI 0, vI 0, vI 0, vI 0, vI 0])) 202 (oI 304 (fun _ => 0))) 200 (oO 10 [vR 201, vR 202, vN, vN, vN, vN, vN, vN, vN, vN, vN, vN, vN, vN, vN, vN, vN, vN, vI 0, vI 0, vI 0, vI 0, vI 0, vI 0, vI 0, vI 0, vI 0])) 203 (oI 6 (fun _ => 0))) 200 (oO 10 [vR 201, vR 202, vR 203, vN, vN, vN, vN, vN, vN, vN, vN, vN, vN, vN, vN, vN, vN, vN, vI 0, vI 0, vI 0, vI 0, vI 0, vI 0, vI 0, vI 0, vI 0])) 204 (oI 6 (fun _ => 0))) 200 (oO 10 [vR 201, vR 202, vR 203, vR 204, vN, vN, vN, vN, vN, vN, vN, vN, vN, vN, vN, vN, vN, vN, vI 0, vI 0, vI 0, vI 0, vI 0, vI 0, vI 0, vI 0, vI 0])) 205 (oI 6 (fun _ => 0))) 200 (oO 10 [vR 201, vR 202, vR 203, vR 204, vR 205, vN, vN, vN, vN, vN, vN, vN, vN, vN, vN, vN, vN, vN, vI 0, vI 0, vI 0, vI 0, vI 0, vI 0, vI 0, vI 0, vI 0])) 206 (oZ 4 (fun _ => 0))) 200 (oO 10 [vR 201, vR 202, vR 203, vR 204, vR 205, vR 206, vN, vN, vN, vN, vN, vN, vN, vN, vN, vN, vN, vN, vI 0, vI 0, vI 0, vI 0, vI 0, vI 0, vI 0, vI 0, vI 0])) 207 (oI 1216 (fun _ => 0))) 200 (oO 10 [vR 201, vR 202, vR 203, vR 204, vR 205, vR 206, vR 207, vN, vN, vN, vN, vN, vN, vN, vN, vN, vN, vN, vI 0, vI 0, vI 0, vI 0, vI 0, vI 0, vI 0, vI 0, vI 0])) 208 (oI 1216 (fun _ => 0))) 200 (oO 10 [vR 201, vR 202, vR 203, vR 204, vR 205, vR 206, vR 207, vR 208, vN, vN, vN, vN, vN, vN, vN, vN, vN, vN, vI 0, vI 0, vI 0, vI 0, vI 0, vI 0, vI 0, vI 0, vI 0])) 209 (oI 1216 (fun _ => 0))) 200 (oO 10 [vR 201, vR 202, vR 203, vR 204, vR 205, vR 206, vR 207, vR 208, vR 209, vN, vN, vN, vN, vN, vN, vN, vN, vN, vI 0, vI 0, vI 0, vI 0, vI 0, vI 0, vI 0, vI 0, vI 0])) 210 (oI 1216 (fun _ => 0))) 200 (oO 10 [vR 201, vR 202, vR 203, vR 204, vR 205, vR 206, vR 207, vR 208, vR 209, vR 210, vN, vN, vN, vN, vN, vN, vN, vN, vI 0, vI 0, vI 0, vI 0, vI 0, vI 0, vI 0, vI 0, vI 0])) 211 (oI 41 (fun _ => 0))) 200 (oO 10 [vR 201, vR 202, vR 203, vR 204, vR 205, vR 206, vR 207, vR 208, vR 209, vR 210, vR 211, vN, vN, vN, vN, vN, vN, vN, vI 0, vI 0, vI 0, vI 0, vI 0, vI 0, vI 0, vI 0, vI 0])) 212 (oI 768 (fun _ => 0))) 200 (oO 10 [vR 201, vR 202, vR 203, vR 204, vR 205, vR 206, vR 207, vR 208, vR 209, vR 210, vR 211, vR 212, vN, vN, vN, vN, vN, vN, vI 0, vI 0, vI 0, vI 0, vI 0, vI 0, vI 0, vI 0, vI 0])) 213 (oI 180 (fun _ => 0))) 200 (oO 10 [vR 201, vR 202, vR 203, vR 204, vR 205, vR 206, vR 207, vR 208, vR 209, vR 210, vR 211, vR 212, vR 213, vN, vN, vN, vN, vN, vI 0, vI 0, vI 0, vI 0, vI 0, vI 0, vI 0, vI 0, vI 0])) 214 (oI 3 (fun _ => 0))) 200 (oO 10 [vR 201, vR 202, vR 203, vR 204, vR 205, vR 206, vR 207, vR 208, vR 209, vR 210, vR 211, vR 212, vR 213, vR 214, vN, vN, vN, vN, vI 0, vI 0, vI 0, vI 0, vI 0, vI 0, vI 0, vI 0, vI 0])) 215 (oI 3 (fun _ => 0))) 200 (oO 10 [vR 201, vR 202, vR 203, vR 204, vR 205, vR 206, vR 207, vR 208, vR 209, vR 210, vR 211, vR 212, vR 213, vR 214, vR 215, vN, vN, vN, vI 0, vI 0, vI 0, vI 0, vI 0, vI 0, vI 0, vI 0, vI 0])) 216 (oZ 64 (fun _ => 0))) 200 (oO 10 [vR 201, vR 202, vR 203, vR 204, vR 205, vR 206, vR 207, vR 208, vR 209, vR 210, vR 211, vR 212, vR 213, vR 214, vR 215, vR 216, vN, vN, vI 0, vI 0, vI 0, vI 0, vI 0, vI 0, vI 0, vI 0, vI 0])) 217 (oI 64 (fun _ => 0))) 200 (oO 10 [vR 201, vR 202, vR 203, vR 204, vR 205, vR 206, vR 207, vR 208, vR 209, vR 210, vR 211, vR 212, vR 213, vR 214, vR 215, vR 216, vR 217, vN, vI 0, vI 0, vI 0, vI 0, vI 0, vI 0, vI 0, vI 0, vI 0])) 218 (oI 10 (fun _ => 0))) 200 (oO 10 [vR 201, vR 202, vR 203, vR 204, vR 205, vR 206, vR 207, vR 208, vR 209, vR 210, vR 211, vR 212, vR 213, vR 214, vR 215, vR 216, vR 217, vR 218, vI 0, vI 0, vI 0, vI 0, vI 0, vI 0, vI 0, vI 0, vI 0])) _ _
  refine st_aload_n C 0 dX11_init_153 rfl rfl ?_
  refine st_iconst C dX11_init_154 (by decide) ?_
  refine st_putf C dX11_init_155 fp_X11_65 (fun q => by cases q) hput_s (Nat.le_of_ble_eq_true rfl) fit_int ?_
  show T x 158 [(0, vR 200)] [] (hput (hput (hput (hput (hput (hput (hput (hput (hput (hput (hput (hput (hput (hput (hput (hput (hput (hput (hput (hput (hput (hput (hput (hput (hput (hput (hput (hput (hput (hput (hput (hput (hput (hput (hput (hput (hput h 201 (oI 12464 (fun _ => 0))) 200 (oO 10 [vR 201, vN, vN, vN, vN, vN, vN, vN, vN, vN, vN, vN, vN, vN, vN, vN, vN, vN, vI 0, vI 0, vI 0, vI 0, vI 0, vI 0, vI 0, vI 0, vI 0])) 202 (oI 304 (fun _ => 0))) 200 (oO 10 [vR 201, vR 202, vN, vN, vN, vN, vN, vN, vN, vN, vN, vN, vN, vN, vN, vN, vN, vN, vI 0, vI 0, vI 0, vI 0, vI 0, vI 0, vI 0, vI 0, vI 0])) 203 (oI 6 (fun _ => 0))) 200 (oO 10 [vR 201, vR 202, vR 203, vN, vN, vN, vN, vN, vN, vN, vN, vN, vN, vN, vN, vN, vN, vN, vI 0, vI 0, vI 0, vI 0, vI 0, vI 0, vI 0, vI 0, vI 0])) 204 (oI 6 (fun _ => 0))) 200 (oO 10 [vR 201, vR 202, vR 203, vR 204, vN, vN, vN, vN, vN, vN, vN, vN, vN, vN, vN, vN, vN, vN, vI 0, vI 0, vI 0, vI 0, vI 0, vI 0, vI 0, vI 0, vI 0])) 205 (oI 6 (fun _ => 0))) 200 (oO 10 [vR 201, vR 202, vR 203, vR 204, vR 205, vN, vN, vN, vN, vN, vN, vN, vN, vN, vN, vN, vN, vN, vI 0, vI 0, vI 0, vI 0, vI 0, vI 0, vI 0, vI 0, vI 0])) 206 (oZ 4 (fun _ => 0))) 200 (oO 10 [vR 201, vR 202, vR 203, vR 204, vR 205, vR 206, vN, vN, vN, vN, vN, vN, vN, vN, vN, vN, vN, vN, vI 0, vI 0, vI 0, vI 0, vI 0, vI 0, vI 0, vI 0, vI 0])) 207 (oI 1216 (fun _ => 0))) 200 (oO 10 [vR 201, vR 202, vR 203, vR 204, vR 205, vR 206, vR 207, vN, vN, vN, vN, vN, vN, vN, vN, vN, vN, vN, vI 0, vI 0, vI 0, vI 0, vI 0, vI 0, vI 0, vI 0, vI 0])) 208 (oI 1216 (fun _ => 0))) 200 (oO 10 [vR 201, vR 202, vR 203, vR 204, vR 205, vR 206, vR 207, vR 208, vN, vN, vN, vN, vN, vN, vN, vN, vN, vN, vI 0, vI 0, vI 0, vI 0, vI 0, vI 0, vI 0, vI 0, vI 0])) 209 (oI 1216 (fun _ => 0))) 200 (oO 10 [vR 201, vR 202, vR 203, vR 204, vR 205, vR 206, vR 207, vR 208, vR 209, vN, vN, vN, vN, vN, vN, vN, vN, vN, vI 0, vI 0, vI 0, vI 0, vI 0, vI 0, vI 0, vI 0, vI 0])) 210 (oI 1216 (fun _ => 0))) 200 (oO 10 [vR 201, vR 202, vR 203, vR 204, vR 205, vR 206, vR 207, vR 208, vR 209, vR 210, vN, vN, vN, vN, vN, vN, vN, vN, vI 0, vI 0, vI 0, vI 0, vI 0, vI 0, vI 0, vI 0, vI 0])) 211 (oI 41 (fun _ => 0))) 200 (oO 10 [vR 201, vR 202, vR 203, vR 204, vR 205, vR 206, vR 207, vR 208, vR 209, vR 210, vR 211, vN, vN, vN, vN, vN, vN, vN, vI 0, vI 0, vI 0, vI 0, vI 0, vI 0, vI 0, vI 0, vI 0])) 212 (oI 768 (fun _ => 0))) 200 (oO 10 [vR 201, vR 202, vR 203, vR 204, vR 205, vR 206, vR 207, vR 208, vR 209, vR 210, vR 211, vR 212, vN, vN, vN, vN, vN, vN, vI 0, vI 0, vI 0, vI 0, vI 0, vI 0, vI 0, vI 0, vI 0])) 213 (oI 180 (fun _ => 0))) 200 (oO 10 [vR 201, vR 202, vR 203, vR 204, vR 205, vR 206, vR 207, vR 208, vR 209, vR 210, vR 211, vR 212, vR 213, vN, vN, vN, vN, vN, vI 0, vI 0, vI 0, vI 0, vI 0, vI 0, vI 0, vI 0, vI 0])) 214 (oI 3 (fun _ => 0))) 200 (oO 10 [vR 201, vR 202, vR 203, vR 204, vR 205, vR 206, vR 207, vR 208, vR 209, vR 210, vR 211, vR 212, vR 213, vR 214, vN, vN, vN, vN, vI 0, vI 0, vI 0, vI 0, vI 0, vI 0, vI 0, vI 0, vI 0])) 215 (oI 3 (fun _ => 0))) 200 (oO 10 [vR 201, vR 202, vR 203, vR 204, vR 205, vR 206, vR 207, vR 208, vR 209, vR 210, vR 211, vR 212, vR 213, vR 214, vR 215, vN, vN, vN, vI 0, vI 0, vI 0, vI 0, vI 0, vI 0, vI 0, vI 0, vI 0])) 216 (oZ 64 (fun _ => 0))) 200 (oO 10 [vR 201, vR 202, vR 203, vR 204, vR 205, vR 206, vR 207, vR 208, vR 209, vR 210, vR 211, vR 212, vR 213, vR 214, vR 215, vR 216, vN, vN, vI 0, vI 0, vI 0, vI 0, vI 0, vI 0, vI 0, vI 0, vI 0])) 217 (oI 64 (fun _ => 0))) 200 (oO 10 [vR 201, vR 202, vR 203, vR 204, vR 205, vR 206, vR 207, vR 208, vR 209, vR 210, vR 211, vR 212, vR 213, vR 214, vR 215, vR 216, vR 217, vN, vI 0, vI 0, vI 0, vI 0, vI 0, vI 0, vI 0, vI 0, vI 0])) 218 (oI 10 (fun _ => 0))) 200 (oO 10 [vR 201, vR 202, vR 203, vR 204, vR 205, vR 206, vR 207, vR 208, vR 209, vR 210, vR 211, vR 212, vR 213, vR 214, vR 215, vR 216, vR 217, vR 218, vI 0, vI 0, vI 0, vI 0, vI 0, vI 0, vI 0, vI 0, vI 0])) 200 (oO 10 [vR 201, vR 202, vR 203, vR 204, vR 205, vR 206, vR 207, vR 208, vR 209, vR 210, vR 211, vR 212, vR 213, vR 214, vR 215, vR 216, vR 217, vR 218, vI 0, vI 0, vI 0, vI 0, vI 0, vI (-1), vI 0, vI 0, vI 0])) _ _
  refine st_iconst C dX11_init_158 (by decide) ?_
  refine st_istore_n C 1 dX11_init_159 rfl (by decide) rfl ?_
  show T x 160 [(0, vR 200), (1, vI 0)] [] _ _ _
  have loop_160 : ∀ (n_160 : Nat) (i : Int) (h1 : HP), (0 ≤ i) → (i ≤ 768) → (h1 = hput (iniM0 h) 212 (oI 768 (fmix (fun _ => -1) (fun _ => 0) i))) → (768 - i).toNat < n_160 → T x 160 [(0, vR 200), (1, vI i)] [] h1 (0 + 1 + 1 + 1 + 1 + 1 + 1 + 1 + 1 + 1 + 1 + 1 + 1 + 1 + 1 + 1 + 1 + 1 + 1) (0 + 12464 + 304 + 6 + 6 + 6 + 4 + 1216 + 1216 + 1216 + 1216 + 41 + 768 + 180 + 3 + 3 + 64 + 64 + 10) := by
    intro n_160
    induction n_160 with
    | zero => intro i h1 g1 g2 hh hm_160; exact absurd hm_160 (Nat.not_lt_zero _)
    | succ n_160 ih_160 =>
      intro i h1 g1 g2 hh hm_160
      refine st_iload_n C 1 dX11_init_160 rfl rfl ?_
      refine st_sipush C dX11_init_161 (by decide) (by decide) ?_
      refine st_icmp_ge (tgt := 180) C dX11_init_164 (by decide) (fun c_164 => ?_) (fun c_164 => ?_)
      · exact st_return C F dX11_init_180 rfl (rt_n (by rw [hh, show i = 768 by omega])) (by omega) (by omega)
      · refine st_aload_n C 0 dX11_init_167 rfl rfl ?_
        refine st_getf C dX11_init_168 fl_X11_44 (by rw [hh]; exact hput_o (by decide) rfl) rfl ?_
        refine st_iload_n C 1 dX11_init_171 rfl rfl ?_
        refine st_iconst C dX11_init_172 (by decide) ?_
        refine st_iast C dX11_init_173 (by rw [hh]; exact hput_s) (by omega) (by omega) ?_
        refine st_iinc C dX11_init_174 rfl (by decide) rfl ⟨(by omega), (by omega)⟩ ?_
        show T x 177 [(0, vR 200), (1, vI (i + 1))] [] _ _ _
        refine st_goto (tgt := 160) C dX11_init_177 (by decide) ?_
        exact ih_160 (i + 1) (hput h1 212 (oI 768 (fput (fmix (fun _ => -1) (fun _ => 0) i) i (-1)))) (by omega) (by omega) (by rw [hh, hput_hput, fmix_s g1 rfl]) (by omega)
  exact loop_160 _ 0 (hput (hput (hput (hput (hput (hput (hput (hput (hput (hput (hput (hput (hput (hput (hput (hput (hput (hput (hput (hput (hput (hput (hput (hput (hput (hput (hput (hput (hput (hput (hput (hput (hput (hput (hput (hput (hput h 201 (oI 12464 (fun _ => 0))) 200 (oO 10 [vR 201, vN, vN, vN, vN, vN, vN, vN, vN, vN, vN, vN, vN, vN, vN, vN, vN, vN, vI 0, vI 0, vI 0, vI 0, vI 0, vI 0, vI 0, vI 0, vI 0])) 202 (oI 304 (fun _ => 0))) 200 (oO 10 [vR 201, vR 202, vN, vN, vN, vN, vN, vN, vN, vN, vN, vN, vN, vN, vN, vN, vN, vN, vI 0, vI 0, vI 0, vI 0, vI 0, vI 0, vI 0, vI 0, vI 0])) 203 (oI 6 (fun _ => 0))) 200 (oO 10 [vR 201, vR 202, vR 203, vN, vN, vN, vN, vN, vN, vN, vN, vN, vN, vN, vN, vN, vN, vN, vI 0, vI 0, vI 0, vI 0, vI 0, vI 0, vI 0, vI 0, vI 0])) 204 (oI 6 (fun _ => 0))) 200 (oO 10 [vR 201, vR 202, vR 203, vR 204, vN, vN, vN, vN, vN, vN, vN, vN, vN, vN, vN, vN, vN, vN, vI 0, vI 0, vI 0, vI 0, vI 0, vI 0, vI 0, vI 0, vI 0])) 205 (oI 6 (fun _ => 0))) 200 (oO 10 [vR 201, vR 202, vR 203, vR 204, vR 205, vN, vN, vN, vN, vN, vN, vN, vN, vN, vN, vN, vN, vN, vI 0, vI 0, vI 0, vI 0, vI 0, vI 0, vI 0, vI 0, vI 0])) 206 (oZ 4 (fun _ => 0))) 200 (oO 10 [vR 201, vR 202, vR 203, vR 204, vR 205, vR 206, vN, vN, vN, vN, vN, vN, vN, vN, vN, vN, vN, vN, vI 0, vI 0, vI 0, vI 0, vI 0, vI 0, vI 0, vI 0, vI 0])) 207 (oI 1216 (fun _ => 0))) 200 (oO 10 [vR 201, vR 202, vR 203, vR 204, vR 205, vR 206, vR 207, vN, vN, vN, vN, vN, vN, vN, vN, vN, vN, vN, vI 0, vI 0, vI 0, vI 0, vI 0, vI 0, vI 0, vI 0, vI 0])) 208 (oI 1216 (fun _ => 0))) 200 (oO 10 [vR 201, vR 202, vR 203, vR 204, vR 205, vR 206, vR 207, vR 208, vN, vN, vN, vN, vN, vN, vN, vN, vN, vN, vI 0, vI 0, vI 0, vI 0, vI 0, vI 0, vI 0, vI 0, vI 0])) 209 (oI 1216 (fun _ => 0))) 200 (oO 10 [vR 201, vR 202, vR 203, vR 204, vR 205, vR 206, vR 207, vR 208, vR 209, vN, vN, vN, vN, vN, vN, vN, vN, vN, vI 0, vI 0, vI 0, vI 0, vI 0, vI 0, vI 0, vI 0, vI 0])) 210 (oI 1216 (fun _ => 0))) 200 (oO 10 [vR 201, vR 202, vR 203, vR 204, vR 205, vR 206, vR 207, vR 208, vR 209, vR 210, vN, vN, vN, vN, vN, vN, vN, vN, vI 0, vI 0, vI 0, vI 0, vI 0, vI 0, vI 0, vI 0, vI 0])) 211 (oI 41 (fun _ => 0))) 200 (oO 10 [vR 201, vR 202, vR 203, vR 204, vR 205, vR 206, vR 207, vR 208, vR 209, vR 210, vR 211, vN, vN, vN, vN, vN, vN, vN, vI 0, vI 0, vI 0, vI 0, vI 0, vI 0, vI 0, vI 0, vI 0])) 212 (oI 768 (fun _ => 0))) 200 (oO 10 [vR 201, vR 202, vR 203, vR 204, vR 205, vR 206, vR 207, vR 208, vR 209, vR 210, vR 211, vR 212, vN, vN, vN, vN, vN, vN, vI 0, vI 0, vI 0, vI 0, vI 0, vI 0, vI 0, vI 0, vI 0])) 213 (oI 180 (fun _ => 0))) 200 (oO 10 [vR 201, vR 202, vR 203, vR 204, vR 205, vR 206, vR 207, vR 208, vR 209, vR 210, vR 211, vR 212, vR 213, vN, vN, vN, vN, vN, vI 0, vI 0, vI 0, vI 0, vI 0, vI 0, vI 0, vI 0, vI 0])) 214 (oI 3 (fun _ => 0))) 200 (oO 10 [vR 201, vR 202, vR 203, vR 204, vR 205, vR 206, vR 207, vR 208, vR 209, vR 210, vR 211, vR 212, vR 213, vR 214, vN, vN, vN, vN, vI 0, vI 0, vI 0, vI 0, vI 0, vI 0, vI 0, vI 0, vI 0])) 215 (oI 3 (fun _ => 0))) 200 (oO 10 [vR 201, vR 202, vR 203, vR 204, vR 205, vR 206, vR 207, vR 208, vR 209, vR 210, vR 211, vR 212, vR 213, vR 214, vR 215, vN, vN, vN, vI 0, vI 0, vI 0, vI 0, vI 0, vI 0, vI 0, vI 0, vI 0])) 216 (oZ 64 (fun _ => 0))) 200 (oO 10 [vR 201, vR 202, vR 203, vR 204, vR 205, vR 206, vR 207, vR 208, vR 209, vR 210, vR 211, vR 212, vR 213, vR 214, vR 215, vR 216, vN, vN, vI 0, vI 0, vI 0, vI 0, vI 0, vI 0, vI 0, vI 0, vI 0])) 217 (oI 64 (fun _ => 0))) 200 (oO 10 [vR 201, vR 202, vR 203, vR 204, vR 205, vR 206, vR 207, vR 208, vR 209, vR 210, vR 211, vR 212, vR 213, vR 214, vR 215, vR 216, vR 217, vN, vI 0, vI 0, vI 0, vI 0, vI 0, vI 0, vI 0, vI 0, vI 0])) 218 (oI 10 (fun _ => 0))) 200 (oO 10 [vR 201, vR 202, vR 203, vR 204, vR 205, vR 206, vR 207, vR 208, vR 209, vR 210, vR 211, vR 212, vR 213, vR 214, vR 215, vR 216, vR 217, vR 218, vI 0, vI 0, vI 0, vI 0, vI 0, vI 0, vI 0, vI 0, vI 0])) 200 (oO 10 [vR 201, vR 202, vR 203, vR 204, vR 205, vR 206, vR 207, vR 208, vR 209, vR 210, vR 211, vR 212, vR 213, vR 214, vR 215, vR 216, vR 217, vR 218, vI 0, vI 0, vI 0, vI 0, vI 0, vI (-1), vI 0, vI 0, vI 0])) (by omega) (by omega) (by rw [fmix_0, hput_self (show iniM0 h 212 = some (oI 768 (fun _ => 0)) from rfl)]; rfl) (Nat.lt_succ_self _)
