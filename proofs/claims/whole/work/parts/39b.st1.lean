/-! the store's world: names 0 to 16, 20 to 51, 102 to 181 -/
def brN (i : Int) : Nat := (20 + 5 * i).toNat
def dvN (i : Int) : Nat := (40 + 4 * i).toNat
theorem brN_in {i : Int} (h : 0 ≤ i ∧ i ≤ 3) : 20 ≤ brN i ∧ brN i ≤ 35 := by unfold brN; omega
theorem dvN_in {i : Int} (h : 0 ≤ i ∧ i ≤ 2) : 40 ≤ dvN i ∧ dvN i ≤ 48 := by unfold dvN; omega
def cS (h : HP) (rc dc : Int) : Prop := h 0 = some (oO 9 [vR 1, vR 2, vR 3, vI rc, vR 4, vR 5, vI dc, vR 6, vR 7, vR 8, vR 9, vR 10])
def cM (h : HP) (mf : Int → Int) : Prop := h 1 = some (oI 304 mf)
def cT (h : HP) : Prop := ∃ f, h 2 = some (oI 304 f)
def cR (h : HP) (rc : Int) (rk ra rb : Int → Int) (rn : Int → Nat) : Prop := ∃ f, h 3 = some (oA 4 6 f) ∧ ∀ i, 0 ≤ i → i < rc → f i = some (rn i) ∧ 1000 ≤ rn i ∧ h (rn i) = some (oO 4 [vI (rk i), vI (ra i), vI (rb i)])
def cB1 (h : HP) (op : Int → Int) (bs ed co no : Int → Int → Int) (i : Int) : Prop := h (brN i) = some (oO 0 [vI (op i), vR (brN i + 1), vR (brN i + 2), vR (brN i + 3), vR (brN i + 4)]) ∧ h (brN i + 1) = some (oI 304 (bs i)) ∧ h (brN i + 2) = some (oI 304 (ed i)) ∧ h (brN i + 3) = some (oI 304 (co i)) ∧ h (brN i + 4) = some (oI 304 (no i)) ∧ (op i = 0 ∨ op i = 1)
def cB (h : HP) (op : Int → Int) (bs ed co no : Int → Int → Int) : Prop := ∃ f, h 4 = some (oA 5 4 f) ∧ ∀ i, 0 ≤ i → i ≤ 3 → f i = some (brN i) ∧ cB1 h op bs ed co no i
def cD1 (h : HP) (ct ld : Int → Int) (tf sf af : Int → Int → Int) (i : Int) : Prop := h (dvN i) = some (oO 1 [vI (ct i), vI (ld i), vR (dvN i + 1), vR (dvN i + 2), vR (dvN i + 3)]) ∧ h (dvN i + 1) = some (oI 20 (tf i)) ∧ h (dvN i + 2) = some (oI 20 (sf i)) ∧ h (dvN i + 3) = some (oI 20 (af i))
def cD (h : HP) (dc : Int) (ct ld : Int → Int) (tf sf af : Int → Int → Int) : Prop := (∃ f, h 5 = some (oA 6 3 f) ∧ (∀ i, 0 ≤ i → i < dc → f i = some (dvN i)) ∧ ∀ i, dc ≤ i → i ≤ 2 → f i = none) ∧ (∀ i, 0 ≤ i → i < dc → cD1 h ct ld tf sf af i) ∧ ∀ i, dc ≤ i → i ≤ 2 → h (dvN i) = none ∧ h (dvN i + 1) = none ∧ h (dvN i + 2) = none ∧ h (dvN i + 3) = none
def cH (h : HP) (nw mcn : Int) (sv : Int → Int → Int) (gf : Int → Int) : Prop := ∃ f, HisR h 6 11 12 nw mcn f sv ∧ h 12 = some (oI 40 gf) ∧ ∀ v, nw < v → v ≤ 40 → h (stN v) = none ∧ h (stN v + 1) = none
def cL (h : HP) (mk : Int) (tl : Int → Int) : Prop := h 7 = some (oO 7 [vI mk, vR 13]) ∧ h 13 = some (oI 255 tl)
def cK (h : HP) (bg la ly ar : Int) : Prop := h 8 = some (oO 8 [vI bg, vI la, vI ly, vI ar])
def cX (h : HP) : Prop := h 9 = some (oO 5 [vR 14, vR 15]) ∧ (∃ q, h 14 = some (oI 64 q)) ∧ ∃ s, h 15 = some (oI 64 s)
def cP (h : HP) : Prop := h 10 = some (oO 3 [vR 16]) ∧ ∃ q, h 16 = some (oI 64 q)
/-! what is put elsewhere leaves it -/
theorem cS.put {h : HP} {rc dc : Int} {k : Nat} {e : PE} (c : cS h rc dc) (n : k ≠ 0) : cS (hput h k e) rc dc := hput_o n.symm c
theorem cM.put {h : HP} {mf : Int → Int} {k : Nat} {e : PE} (c : cM h mf) (n : k ≠ 1) : cM (hput h k e) mf := hput_o n.symm c
theorem cT.put {h : HP} {k : Nat} {e : PE} (c : cT h) (n : k ≠ 2) : cT (hput h k e) := by
  obtain ⟨f, hf⟩ := c
  exact ⟨f, hput_o n.symm hf⟩
theorem cT.at2 {h : HP} {f : Int → Int} : cT (hput h 2 (oI 304 f)) := ⟨f, hput_s⟩
theorem cR.put {h : HP} {rc : Int} {rk ra rb : Int → Int} {rn : Int → Nat} {k : Nat} {e : PE} (c : cR h rc rk ra rb rn) (n : k ≠ 3) (n2 : k < 1000) : cR (hput h k e) rc rk ra rb rn := by
  obtain ⟨f, hf, hr⟩ := c
  refine ⟨f, hput_o n.symm hf, fun i h1 h2 => ?_⟩
  obtain ⟨a, b, d⟩ := hr i h1 h2
  exact ⟨a, b, hput_o (by omega) d⟩
theorem cB1.put {h : HP} {op : Int → Int} {bs ed co no : Int → Int → Int} {i : Int} {k : Nat} {e : PE} (c : cB1 h op bs ed co no i) (n : k < brN i ∨ brN i + 4 < k) : cB1 (hput h k e) op bs ed co no i := by
  obtain ⟨h0, h1, h2, h3, h4, h5⟩ := c
  exact ⟨hput_o (by omega) h0, hput_o (by omega) h1, hput_o (by omega) h2, hput_o (by omega) h3, hput_o (by omega) h4, h5⟩
theorem cB.put {h : HP} {op : Int → Int} {bs ed co no : Int → Int → Int} {k : Nat} {e : PE} (c : cB h op bs ed co no) (n : k ≠ 4) (n2 : k < 20 ∨ 40 ≤ k) : cB (hput h k e) op bs ed co no := by
  obtain ⟨f, hf, hb⟩ := c
  refine ⟨f, hput_o n.symm hf, fun i h1 h2 => ⟨(hb i h1 h2).1, (hb i h1 h2).2.put ?_⟩⟩
  have := brN_in (i := i) ⟨h1, h2⟩
  omega
theorem cD1.put {h : HP} {ct ld : Int → Int} {tf sf af : Int → Int → Int} {i : Int} {k : Nat} {e : PE} (c : cD1 h ct ld tf sf af i) (n : k < dvN i ∨ dvN i + 3 < k) : cD1 (hput h k e) ct ld tf sf af i := by
  obtain ⟨h0, h1, h2, h3⟩ := c
  exact ⟨hput_o (by omega) h0, hput_o (by omega) h1, hput_o (by omega) h2, hput_o (by omega) h3⟩
theorem cD.put {h : HP} {dc : Int} {ct ld : Int → Int} {tf sf af : Int → Int → Int} {k : Nat} {e : PE} (c : cD h dc ct ld tf sf af) (h0 : 0 ≤ dc ∧ dc ≤ 3) (n : k ≠ 5) (n2 : k < 40 ∨ 52 ≤ k) : cD (hput h k e) dc ct ld tf sf af := by
  obtain ⟨⟨f, hf, hf1, hf2⟩, hd, hn⟩ := c
  refine ⟨⟨f, hput_o n.symm hf, hf1, hf2⟩, fun i h1 h2 => (hd i h1 h2).put ?_, fun i h1 h2 => ?_⟩
  · have := dvN_in (i := i) ⟨h1, by omega⟩
    omega
  · have := dvN_in (i := i) ⟨by omega, h2⟩
    obtain ⟨a, b, c, d⟩ := hn i h1 h2
    exact ⟨hput_o (by omega) a, hput_o (by omega) b, hput_o (by omega) c, hput_o (by omega) d⟩
theorem stN_le {v : Int} (h : v ≤ 40) : stN v + 1 ≤ 181 := by unfold stN; omega
theorem cH.put {h : HP} {nw mcn : Int} {sv : Int → Int → Int} {gf : Int → Int} {k : Nat} {e : PE} (c : cH h nw mcn sv gf) (h0 : 0 ≤ nw ∧ nw ≤ 40) (n : k ≠ 6 ∧ k ≠ 11 ∧ k ≠ 12) (n2 : k < 102 ∨ 182 ≤ k) : cH (hput h k e) nw mcn sv gf := by
  obtain ⟨f, hR, hG, hn⟩ := c
  refine ⟨f, hR.put (Ne.symm n.1) (Ne.symm n.2.1) (fun v h1 h2 => ?_), hput_o (Ne.symm n.2.2) hG, fun v h1 h2 => ?_⟩
  · have := stN_ge h1
    have := stN_le (v := v) (by omega)
    omega
  · have := stN_ge (v := v) (by omega)
    have := stN_le (v := v) (by omega)
    exact ⟨hput_o (by omega) (hn v h1 h2).1, hput_o (by omega) (hn v h1 h2).2⟩
theorem cL.put {h : HP} {mk : Int} {tl : Int → Int} {k : Nat} {e : PE} (c : cL h mk tl) (n : k ≠ 7 ∧ k ≠ 13) : cL (hput h k e) mk tl := ⟨hput_o (Ne.symm n.1) c.1, hput_o (Ne.symm n.2) c.2⟩
theorem cK.put {h : HP} {bg la ly ar : Int} {k : Nat} {e : PE} (c : cK h bg la ly ar) (n : k ≠ 8) : cK (hput h k e) bg la ly ar := hput_o n.symm c
theorem cX.put {h : HP} {k : Nat} {e : PE} (c : cX h) (n : k ≠ 9 ∧ k ≠ 14 ∧ k ≠ 15) : cX (hput h k e) := by
  obtain ⟨a, ⟨q, b⟩, s, d⟩ := c
  exact ⟨hput_o (Ne.symm n.1) a, ⟨q, hput_o (Ne.symm n.2.1) b⟩, s, hput_o (Ne.symm n.2.2) d⟩
theorem cP.put {h : HP} {k : Nat} {e : PE} (c : cP h) (n : k ≠ 10 ∧ k ≠ 16) : cP (hput h k e) := by
  obtain ⟨a, q, b⟩ := c
  exact ⟨hput_o (Ne.symm n.1) a, q, hput_o (Ne.symm n.2) b⟩
theorem cX.sc {h : HP} {q s : Int → Int} (c : cX h) : cX (sc h 14 15 q s) := ⟨sc_o (by omega) (by omega) c.1, ⟨q, sc_Q (by omega)⟩, s, sc_S⟩
set_option maxRecDepth 20000 in
set_option maxHeartbeats 4000000 in
theorem k_need_t {g : Gx} {h : HP}   : Ct g yX10_need (.code yX10_need cX10_need 1 none) 6 0 0 [vI 1] h (Rt none h) := by
  refine Ct.of (by decide) (Nat.le_of_ble_eq_true rfl) (fun x hg C F => ?_)
  subst hg
  show T x 0 [(0, vI 1)] [] h 0 0
  refine st_iload_n C 0 dX10_need_0 rfl rfl ?_
  refine st_if_ne (tgt := 12) C dX10_need_1 (by decide) (fun c_1 => ?_) (fun c_1 => by omega)
  exact st_return C F dX10_need_12 rfl ⟨rfl, rfl⟩ (by omega) (by omega)
set_option maxRecDepth 20000 in
set_option maxHeartbeats 4000000 in
theorem k_need_f {g : Gx} {h : HP}   : Ct g yX10_need (.code yX10_need cX10_need 1 none) 6 1 6 [vI 0] h (Th "java/lang/IllegalArgumentException" h) := by
  refine Ct.of (by decide) (Nat.le_of_ble_eq_true rfl) (fun x hg C F => ?_)
  subst hg
  show T x 0 [(0, vI 0)] [] h 0 0
  refine st_iload_n C 0 dX10_need_0 rfl rfl ?_
  refine st_if_ne (tgt := 12) C dX10_need_1 (by decide) (fun c_1 => by omega) (fun c_1 => ?_)
  exact st_throw C F dX10_need_4 dX10_need_7 dX10_need_8 dX10_need_11 xw_X10_321 (by decide) ⟨rfl, rfl⟩ (by omega) (by omega)
set_option maxRecDepth 20000 in
set_option maxHeartbeats 4000000 in
theorem k_isPlace_t {g : Gx} {h : HP} {v9 x9 y9 : Int} (hP : 0 ≤ v9 ∧ v9 ≤ 2 ∧ 0 ≤ x9 ∧ x9 ≤ 7 ∧ 0 ≤ y9 ∧ y9 ≤ 7) : Ct g yX10_isPlace (.code yX10_isPlace cX10_isPlace 3 (some .boolean)) 3 0 0 [vI v9, vI x9, vI y9] h (Rt (some (vI 1)) h) := by
  refine Ct.of (by decide) (Nat.le_of_ble_eq_true rfl) (fun x hg C F => ?_)
  subst hg
  show T x 0 [(0, vI v9), (1, vI x9), (2, vI y9)] [] h 0 0
  refine st_iload_n C 0 dX10_isPlace_0 rfl rfl ?_
  by_cases b_1 : 0 ≤ v9 ∧ v9 ≤ 2
  · refine st_callS (st := []) C dX10_isPlace_1 [vI v9] (k_isLayer_t (v9 := v9)  b_1) w_X10_249 rfl (by decide) (by decide) (by omega) (by omega) (Nat.le_of_ble_eq_true rfl) (ko_rt ?_)
    show T x 4 [(0, vI v9), (1, vI x9), (2, vI y9)] [vI 1] _ _ _
    refine st_if_eq (tgt := 29) C dX10_isPlace_4 (by decide) (fun c_4 => by omega) (fun c_4 => ?_)
    refine st_iload_n C 1 dX10_isPlace_7 rfl rfl ?_
    refine st_bipush C dX10_isPlace_8 (by decide) (by decide) ?_
    by_cases b_10 : 0 ≤ x9 ∧ x9 ≤ 7
    · refine st_callS (st := []) C dX10_isPlace_10 [vI x9, vI 7] (k_isWithin_t (v9 := x9) (m9 := 7)  b_10) w_X10_118 rfl (by decide) (by decide) (by omega) (by omega) (Nat.le_of_ble_eq_true rfl) (ko_rt ?_)
      show T x 13 [(0, vI v9), (1, vI x9), (2, vI y9)] [vI 1] _ _ _
      refine st_if_eq (tgt := 29) C dX10_isPlace_13 (by decide) (fun c_13 => by omega) (fun c_13 => ?_)
      refine st_iload_n C 2 dX10_isPlace_16 rfl rfl ?_
      refine st_bipush C dX10_isPlace_17 (by decide) (by decide) ?_
      by_cases b_19 : 0 ≤ y9 ∧ y9 ≤ 7
      · refine st_callS (st := []) C dX10_isPlace_19 [vI y9, vI 7] (k_isWithin_t (v9 := y9) (m9 := 7)  b_19) w_X10_118 rfl (by decide) (by decide) (by omega) (by omega) (Nat.le_of_ble_eq_true rfl) (ko_rt ?_)
        show T x 22 [(0, vI v9), (1, vI x9), (2, vI y9)] [vI 1] _ _ _
        refine st_if_eq (tgt := 29) C dX10_isPlace_22 (by decide) (fun c_22 => by omega) (fun c_22 => ?_)
        refine st_iconst C dX10_isPlace_25 (by decide) ?_
        refine st_goto (tgt := 30) C dX10_isPlace_26 (by decide) ?_
        exact st_zreturn C F dX10_isPlace_30 rfl (by omega) (rt_i (by first | rfl | omega) rfl) (by omega) (by omega)
      · refine st_callS (st := []) C dX10_isPlace_19 [vI y9, vI 7] (k_isWithin_f (v9 := y9) (m9 := 7)  b_19) w_X10_118 rfl (by decide) (by decide) (by omega) (by omega) (Nat.le_of_ble_eq_true rfl) (ko_rt ?_)
        show T x 22 [(0, vI v9), (1, vI x9), (2, vI y9)] [vI 0] _ _ _
        refine st_if_eq (tgt := 29) C dX10_isPlace_22 (by decide) (fun c_22 => ?_) (fun c_22 => by omega)
        refine st_iconst C dX10_isPlace_29 (by decide) ?_
        exact st_zreturn C F dX10_isPlace_30 rfl (by omega) (rt_i (by first | rfl | omega) rfl) (by omega) (by omega)
    · refine st_callS (st := []) C dX10_isPlace_10 [vI x9, vI 7] (k_isWithin_f (v9 := x9) (m9 := 7)  b_10) w_X10_118 rfl (by decide) (by decide) (by omega) (by omega) (Nat.le_of_ble_eq_true rfl) (ko_rt ?_)
      show T x 13 [(0, vI v9), (1, vI x9), (2, vI y9)] [vI 0] _ _ _
      refine st_if_eq (tgt := 29) C dX10_isPlace_13 (by decide) (fun c_13 => ?_) (fun c_13 => by omega)
      refine st_iconst C dX10_isPlace_29 (by decide) ?_
      exact st_zreturn C F dX10_isPlace_30 rfl (by omega) (rt_i (by first | rfl | omega) rfl) (by omega) (by omega)
  · refine st_callS (st := []) C dX10_isPlace_1 [vI v9] (k_isLayer_f (v9 := v9)  b_1) w_X10_249 rfl (by decide) (by decide) (by omega) (by omega) (Nat.le_of_ble_eq_true rfl) (ko_rt ?_)
    show T x 4 [(0, vI v9), (1, vI x9), (2, vI y9)] [vI 0] _ _ _
    refine st_if_eq (tgt := 29) C dX10_isPlace_4 (by decide) (fun c_4 => ?_) (fun c_4 => by omega)
    refine st_iconst C dX10_isPlace_29 (by decide) ?_
    exact st_zreturn C F dX10_isPlace_30 rfl (by omega) (rt_i (by first | rfl | omega) rfl) (by omega) (by omega)
set_option maxRecDepth 20000 in
set_option maxHeartbeats 4000000 in
theorem k_isPlace_f {g : Gx} {h : HP} {v9 x9 y9 : Int} (hP : ¬ (0 ≤ v9 ∧ v9 ≤ 2 ∧ 0 ≤ x9 ∧ x9 ≤ 7 ∧ 0 ≤ y9 ∧ y9 ≤ 7)) : Ct g yX10_isPlace (.code yX10_isPlace cX10_isPlace 3 (some .boolean)) 3 0 0 [vI v9, vI x9, vI y9] h (Rt (some (vI 0)) h) := by
  refine Ct.of (by decide) (Nat.le_of_ble_eq_true rfl) (fun x hg C F => ?_)
  subst hg
  show T x 0 [(0, vI v9), (1, vI x9), (2, vI y9)] [] h 0 0
  refine st_iload_n C 0 dX10_isPlace_0 rfl rfl ?_
  by_cases b_1 : 0 ≤ v9 ∧ v9 ≤ 2
  · refine st_callS (st := []) C dX10_isPlace_1 [vI v9] (k_isLayer_t (v9 := v9)  b_1) w_X10_249 rfl (by decide) (by decide) (by omega) (by omega) (Nat.le_of_ble_eq_true rfl) (ko_rt ?_)
    show T x 4 [(0, vI v9), (1, vI x9), (2, vI y9)] [vI 1] _ _ _
    refine st_if_eq (tgt := 29) C dX10_isPlace_4 (by decide) (fun c_4 => by omega) (fun c_4 => ?_)
    refine st_iload_n C 1 dX10_isPlace_7 rfl rfl ?_
    refine st_bipush C dX10_isPlace_8 (by decide) (by decide) ?_
    by_cases b_10 : 0 ≤ x9 ∧ x9 ≤ 7
    · refine st_callS (st := []) C dX10_isPlace_10 [vI x9, vI 7] (k_isWithin_t (v9 := x9) (m9 := 7)  b_10) w_X10_118 rfl (by decide) (by decide) (by omega) (by omega) (Nat.le_of_ble_eq_true rfl) (ko_rt ?_)
      show T x 13 [(0, vI v9), (1, vI x9), (2, vI y9)] [vI 1] _ _ _
      refine st_if_eq (tgt := 29) C dX10_isPlace_13 (by decide) (fun c_13 => by omega) (fun c_13 => ?_)
      refine st_iload_n C 2 dX10_isPlace_16 rfl rfl ?_
      refine st_bipush C dX10_isPlace_17 (by decide) (by decide) ?_
      by_cases b_19 : 0 ≤ y9 ∧ y9 ≤ 7
      · refine st_callS (st := []) C dX10_isPlace_19 [vI y9, vI 7] (k_isWithin_t (v9 := y9) (m9 := 7)  b_19) w_X10_118 rfl (by decide) (by decide) (by omega) (by omega) (Nat.le_of_ble_eq_true rfl) (ko_rt ?_)
        show T x 22 [(0, vI v9), (1, vI x9), (2, vI y9)] [vI 1] _ _ _
        refine st_if_eq (tgt := 29) C dX10_isPlace_22 (by decide) (fun c_22 => by omega) (fun c_22 => ?_)
        refine st_iconst C dX10_isPlace_25 (by decide) ?_
        refine st_goto (tgt := 30) C dX10_isPlace_26 (by decide) ?_
        exact st_zreturn C F dX10_isPlace_30 rfl (by omega) (rt_i (by first | rfl | omega) rfl) (by omega) (by omega)
      · refine st_callS (st := []) C dX10_isPlace_19 [vI y9, vI 7] (k_isWithin_f (v9 := y9) (m9 := 7)  b_19) w_X10_118 rfl (by decide) (by decide) (by omega) (by omega) (Nat.le_of_ble_eq_true rfl) (ko_rt ?_)
        show T x 22 [(0, vI v9), (1, vI x9), (2, vI y9)] [vI 0] _ _ _
        refine st_if_eq (tgt := 29) C dX10_isPlace_22 (by decide) (fun c_22 => ?_) (fun c_22 => by omega)
        refine st_iconst C dX10_isPlace_29 (by decide) ?_
        exact st_zreturn C F dX10_isPlace_30 rfl (by omega) (rt_i (by first | rfl | omega) rfl) (by omega) (by omega)
    · refine st_callS (st := []) C dX10_isPlace_10 [vI x9, vI 7] (k_isWithin_f (v9 := x9) (m9 := 7)  b_10) w_X10_118 rfl (by decide) (by decide) (by omega) (by omega) (Nat.le_of_ble_eq_true rfl) (ko_rt ?_)
      show T x 13 [(0, vI v9), (1, vI x9), (2, vI y9)] [vI 0] _ _ _
      refine st_if_eq (tgt := 29) C dX10_isPlace_13 (by decide) (fun c_13 => ?_) (fun c_13 => by omega)
      refine st_iconst C dX10_isPlace_29 (by decide) ?_
      exact st_zreturn C F dX10_isPlace_30 rfl (by omega) (rt_i (by first | rfl | omega) rfl) (by omega) (by omega)
  · refine st_callS (st := []) C dX10_isPlace_1 [vI v9] (k_isLayer_f (v9 := v9)  b_1) w_X10_249 rfl (by decide) (by decide) (by omega) (by omega) (Nat.le_of_ble_eq_true rfl) (ko_rt ?_)
    show T x 4 [(0, vI v9), (1, vI x9), (2, vI y9)] [vI 0] _ _ _
    refine st_if_eq (tgt := 29) C dX10_isPlace_4 (by decide) (fun c_4 => ?_) (fun c_4 => by omega)
    refine st_iconst C dX10_isPlace_29 (by decide) ?_
    exact st_zreturn C F dX10_isPlace_30 rfl (by omega) (rt_i (by first | rfl | omega) rfl) (by omega) (by omega)
set_option maxRecDepth 20000 in
set_option maxHeartbeats 4000000 in
theorem k_isSpot_t {g : Gx} {h : HP} {v9 : Int} (hP : 0 ≤ v9 ∧ v9 ≤ 303) : Ct g yX10_isSpot (.code yX10_isSpot cX10_isSpot 1 (some .boolean)) 2 0 0 [vI v9] h (Rt (some (vI 1)) h) := by
  refine Ct.of (by decide) (Nat.le_of_ble_eq_true rfl) (fun x hg C F => ?_)
  subst hg
  show T x 0 [(0, vI v9)] [] h 0 0
  refine st_iload_n C 0 dX10_isSpot_0 rfl rfl ?_
  refine st_sipush C dX10_isSpot_1 (by decide) (by decide) ?_
  by_cases b_4 : 0 ≤ v9 ∧ v9 ≤ 303
  · refine st_callS (st := []) C dX10_isSpot_4 [vI v9, vI 303] (k_isWithin_t (v9 := v9) (m9 := 303)  b_4) w_X10_118 rfl (by decide) (by decide) (by omega) (by omega) (Nat.le_of_ble_eq_true rfl) (ko_rt ?_)
    show T x 7 [(0, vI v9)] [vI 1] _ _ _
    exact st_zreturn C F dX10_isSpot_7 rfl (by omega) (rt_i (by first | rfl | omega) rfl) (by omega) (by omega)
  · refine st_callS (st := []) C dX10_isSpot_4 [vI v9, vI 303] (k_isWithin_f (v9 := v9) (m9 := 303)  b_4) w_X10_118 rfl (by decide) (by decide) (by omega) (by omega) (Nat.le_of_ble_eq_true rfl) (ko_rt ?_)
    show T x 7 [(0, vI v9)] [vI 0] _ _ _
    exact st_zreturn C F dX10_isSpot_7 rfl (by omega) (rt_i (by first | rfl | omega) rfl) (by omega) (by omega)
set_option maxRecDepth 20000 in
set_option maxHeartbeats 4000000 in
theorem k_isSpot_f {g : Gx} {h : HP} {v9 : Int} (hP : ¬ (0 ≤ v9 ∧ v9 ≤ 303)) : Ct g yX10_isSpot (.code yX10_isSpot cX10_isSpot 1 (some .boolean)) 2 0 0 [vI v9] h (Rt (some (vI 0)) h) := by
  refine Ct.of (by decide) (Nat.le_of_ble_eq_true rfl) (fun x hg C F => ?_)
  subst hg
  show T x 0 [(0, vI v9)] [] h 0 0
  refine st_iload_n C 0 dX10_isSpot_0 rfl rfl ?_
  refine st_sipush C dX10_isSpot_1 (by decide) (by decide) ?_
  by_cases b_4 : 0 ≤ v9 ∧ v9 ≤ 303
  · refine st_callS (st := []) C dX10_isSpot_4 [vI v9, vI 303] (k_isWithin_t (v9 := v9) (m9 := 303)  b_4) w_X10_118 rfl (by decide) (by decide) (by omega) (by omega) (Nat.le_of_ble_eq_true rfl) (ko_rt ?_)
    show T x 7 [(0, vI v9)] [vI 1] _ _ _
    exact st_zreturn C F dX10_isSpot_7 rfl (by omega) (rt_i (by first | rfl | omega) rfl) (by omega) (by omega)
  · refine st_callS (st := []) C dX10_isSpot_4 [vI v9, vI 303] (k_isWithin_f (v9 := v9) (m9 := 303)  b_4) w_X10_118 rfl (by decide) (by decide) (by omega) (by omega) (Nat.le_of_ble_eq_true rfl) (ko_rt ?_)
    show T x 7 [(0, vI v9)] [vI 0] _ _ _
    exact st_zreturn C F dX10_isSpot_7 rfl (by omega) (rt_i (by first | rfl | omega) rfl) (by omega) (by omega)
set_option maxRecDepth 20000 in
set_option maxHeartbeats 4000000 in
theorem k_isArea_t {g : Gx} {h : HP} {v9 : Int} (hP : 1 ≤ v9 ∧ v9 ≤ 9) : Ct g yX10_isArea (.code yX10_isArea cX10_isArea 1 (some .boolean)) 1 0 0 [vI v9] h (Rt (some (vI 1)) h) := by
  refine Ct.of (by decide) (Nat.le_of_ble_eq_true rfl) (fun x hg C F => ?_)
  subst hg
  show T x 0 [(0, vI v9)] [] h 0 0
  refine st_iload_n C 0 dX10_isArea_0 rfl rfl ?_
  refine st_iconst C dX10_isArea_1 (by decide) ?_
  refine st_icmp_lt (tgt := 15) C dX10_isArea_2 (by decide) (fun c_2 => ?_) (fun c_2 => ?_)
  · refine st_iconst C dX10_isArea_15 (by decide) ?_
    exact st_zreturn C F dX10_isArea_16 rfl (by omega) (rt_i (by first | rfl | omega) rfl) (by omega) (by omega)
  · refine st_iload_n C 0 dX10_isArea_5 rfl rfl ?_
    refine st_bipush C dX10_isArea_6 (by decide) (by decide) ?_
    refine st_icmp_gt (tgt := 15) C dX10_isArea_8 (by decide) (fun c_8 => ?_) (fun c_8 => ?_)
    · refine st_iconst C dX10_isArea_15 (by decide) ?_
      exact st_zreturn C F dX10_isArea_16 rfl (by omega) (rt_i (by first | rfl | omega) rfl) (by omega) (by omega)
    · refine st_iconst C dX10_isArea_11 (by decide) ?_
      refine st_goto (tgt := 16) C dX10_isArea_12 (by decide) ?_
      exact st_zreturn C F dX10_isArea_16 rfl (by omega) (rt_i (by first | rfl | omega) rfl) (by omega) (by omega)
set_option maxRecDepth 20000 in
set_option maxHeartbeats 4000000 in
theorem k_isArea_f {g : Gx} {h : HP} {v9 : Int} (hP : ¬ (1 ≤ v9 ∧ v9 ≤ 9)) : Ct g yX10_isArea (.code yX10_isArea cX10_isArea 1 (some .boolean)) 1 0 0 [vI v9] h (Rt (some (vI 0)) h) := by
  refine Ct.of (by decide) (Nat.le_of_ble_eq_true rfl) (fun x hg C F => ?_)
  subst hg
  show T x 0 [(0, vI v9)] [] h 0 0
  refine st_iload_n C 0 dX10_isArea_0 rfl rfl ?_
  refine st_iconst C dX10_isArea_1 (by decide) ?_
  refine st_icmp_lt (tgt := 15) C dX10_isArea_2 (by decide) (fun c_2 => ?_) (fun c_2 => ?_)
  · refine st_iconst C dX10_isArea_15 (by decide) ?_
    exact st_zreturn C F dX10_isArea_16 rfl (by omega) (rt_i (by first | rfl | omega) rfl) (by omega) (by omega)
  · refine st_iload_n C 0 dX10_isArea_5 rfl rfl ?_
    refine st_bipush C dX10_isArea_6 (by decide) (by decide) ?_
    refine st_icmp_gt (tgt := 15) C dX10_isArea_8 (by decide) (fun c_8 => ?_) (fun c_8 => ?_)
    · refine st_iconst C dX10_isArea_15 (by decide) ?_
      exact st_zreturn C F dX10_isArea_16 rfl (by omega) (rt_i (by first | rfl | omega) rfl) (by omega) (by omega)
    · refine st_iconst C dX10_isArea_11 (by decide) ?_
      refine st_goto (tgt := 16) C dX10_isArea_12 (by decide) ?_
      exact st_zreturn C F dX10_isArea_16 rfl (by omega) (rt_i (by first | rfl | omega) rfl) (by omega) (by omega)
set_option maxRecDepth 20000 in
set_option maxHeartbeats 4000000 in
theorem k_openBranch_t {g : Gx} {h : HP} {rc dc : Int} {op : Int → Int} {bs ed co no : Int → Int → Int} {n9 : Int} (hs : cS h rc dc) (hB : cB h op bs ed co no) (hP : 0 ≤ n9 ∧ n9 ≤ 3 ∧ op n9 = 1) : Ct g yX10_openBranch (.code yX10_openBranch cX10_openBranch 3 (some (.object "CindermapStore$Branch"))) 6 0 0 [vR 0, vI n9] h (Rt (some (vR (brN n9))) h) := by
  refine Ct.of (by decide) (Nat.le_of_ble_eq_true rfl) (fun x hg C F => ?_)
  subst hg
  obtain ⟨bf, hbf, hbr⟩ := id hB
  obtain ⟨hbn, h_0, h_1, h_2, h_3, h_4, hop⟩ := hbr n9 (by omega) (by omega)
  have hbi := brN_in (i := n9) (by omega)
  show T x 0 [(0, vR 0), (1, vI n9)] [] h 0 0
  refine st_iload_n C 1 dX10_openBranch_0 rfl rfl ?_
  refine st_if_lt (tgt := 9) C dX10_openBranch_1 (by decide) (fun c_1 => by omega) (fun c_1 => ?_)
  refine st_iload_n C 1 dX10_openBranch_4 rfl rfl ?_
  refine st_iconst C dX10_openBranch_5 (by decide) ?_
  refine st_icmp_lt (tgt := 17) C dX10_openBranch_6 (by decide) (fun c_6 => ?_) (fun c_6 => by omega)
  refine st_aload_n C 0 dX10_openBranch_17 rfl rfl ?_
  refine st_getf C dX10_openBranch_18 fl_X10_28 hs rfl ?_
  refine st_iload_n C 1 dX10_openBranch_21 rfl rfl ?_
  refine st_aald C dX10_openBranch_22 RX0 (fun _ => rfl) hbf (by omega) (by omega) ?_
  rw [hbn]
  show T x 23 [(0, vR 0), (1, vI n9)] [vR (brN n9)] _ _ _
  refine st_astore_n C 2 dX10_openBranch_23 rfl (by decide) rfl ?_
  show T x 24 [(0, vR 0), (1, vI n9), (2, vR (brN n9))] [] _ _ _
  refine st_aload_n C 2 dX10_openBranch_24 rfl rfl ?_
  refine st_ifnull_r C dX10_openBranch_25 ?_
  refine st_aload_n C 2 dX10_openBranch_28 rfl rfl ?_
  refine st_getf C dX10_openBranch_29 fl_X10_98 h_0 rfl ?_
  refine st_if_ne (tgt := 43) C dX10_openBranch_32 (by decide) (fun c_32 => ?_) (fun c_32 => by omega)
  refine st_aload_n C 2 dX10_openBranch_43 rfl rfl ?_
  exact st_areturn C F dX10_openBranch_44 rfl ⟨rfl, rfl⟩ (by omega) (by omega)
set_option maxRecDepth 20000 in
set_option maxHeartbeats 4000000 in
theorem k_openBranch_c {g : Gx} {h : HP} {rc dc : Int} {op : Int → Int} {bs ed co no : Int → Int → Int} {n9 : Int} (hs : cS h rc dc) (hB : cB h op bs ed co no) (hi : 0 ≤ n9 ∧ n9 ≤ 3) (hP : op n9 = 0) : Ct g yX10_openBranch (.code yX10_openBranch cX10_openBranch 3 (some (.object "CindermapStore$Branch"))) 6 1 6 [vR 0, vI n9] h (Th "java/lang/IndexOutOfBoundsException" h) := by
  refine Ct.of (by decide) (Nat.le_of_ble_eq_true rfl) (fun x hg C F => ?_)
  subst hg
  obtain ⟨bf, hbf, hbr⟩ := id hB
  obtain ⟨hbn, h_0, h_1, h_2, h_3, h_4, hop⟩ := hbr n9 (by omega) (by omega)
  have hbi := brN_in (i := n9) (by omega)
  show T x 0 [(0, vR 0), (1, vI n9)] [] h 0 0
  refine st_iload_n C 1 dX10_openBranch_0 rfl rfl ?_
  refine st_if_lt (tgt := 9) C dX10_openBranch_1 (by decide) (fun c_1 => by omega) (fun c_1 => ?_)
  refine st_iload_n C 1 dX10_openBranch_4 rfl rfl ?_
  refine st_iconst C dX10_openBranch_5 (by decide) ?_
  refine st_icmp_lt (tgt := 17) C dX10_openBranch_6 (by decide) (fun c_6 => ?_) (fun c_6 => by omega)
  refine st_aload_n C 0 dX10_openBranch_17 rfl rfl ?_
  refine st_getf C dX10_openBranch_18 fl_X10_28 hs rfl ?_
  refine st_iload_n C 1 dX10_openBranch_21 rfl rfl ?_
  refine st_aald C dX10_openBranch_22 RX0 (fun _ => rfl) hbf (by omega) (by omega) ?_
  rw [hbn]
  show T x 23 [(0, vR 0), (1, vI n9)] [vR (brN n9)] _ _ _
  refine st_astore_n C 2 dX10_openBranch_23 rfl (by decide) rfl ?_
  show T x 24 [(0, vR 0), (1, vI n9), (2, vR (brN n9))] [] _ _ _
  refine st_aload_n C 2 dX10_openBranch_24 rfl rfl ?_
  refine st_ifnull_r C dX10_openBranch_25 ?_
  refine st_aload_n C 2 dX10_openBranch_28 rfl rfl ?_
  refine st_getf C dX10_openBranch_29 fl_X10_98 h_0 rfl ?_
  refine st_if_ne (tgt := 43) C dX10_openBranch_32 (by decide) (fun c_32 => by omega) (fun c_32 => ?_)
  exact st_throw C F dX10_openBranch_35 dX10_openBranch_38 dX10_openBranch_39 dX10_openBranch_42 xw_X10_167 (by decide) ⟨rfl, rfl⟩ (by omega) (by omega)
set_option maxRecDepth 20000 in
set_option maxHeartbeats 4000000 in
theorem k_openBranch_l {g : Gx} {h : HP} {rc dc : Int} {n9 : Int} (hs : cS h rc dc) (hP : n9 < 0) : Ct g yX10_openBranch (.code yX10_openBranch cX10_openBranch 3 (some (.object "CindermapStore$Branch"))) 6 1 6 [vR 0, vI n9] h (Th "java/lang/IndexOutOfBoundsException" h) := by
  refine Ct.of (by decide) (Nat.le_of_ble_eq_true rfl) (fun x hg C F => ?_)
  subst hg
  show T x 0 [(0, vR 0), (1, vI n9)] [] h 0 0
  refine st_iload_n C 1 dX10_openBranch_0 rfl rfl ?_
  refine st_if_lt (tgt := 9) C dX10_openBranch_1 (by decide) (fun c_1 => ?_) (fun c_1 => by omega)
  exact st_throw C F dX10_openBranch_9 dX10_openBranch_12 dX10_openBranch_13 dX10_openBranch_16 xw_X10_167 (by decide) ⟨rfl, rfl⟩ (by omega) (by omega)
set_option maxRecDepth 20000 in
set_option maxHeartbeats 4000000 in
theorem k_knownDevice_l {g : Gx} {h : HP} {rc dc : Int} {n9 : Int} (hs : cS h rc dc) (hP : n9 < 0) : Ct g yX10_knownDevice (.code yX10_knownDevice cX10_knownDevice 3 (some (.object "CindermapStore$Device"))) 6 1 6 [vR 0, vI n9] h (Th "java/lang/IndexOutOfBoundsException" h) := by
  refine Ct.of (by decide) (Nat.le_of_ble_eq_true rfl) (fun x hg C F => ?_)
  subst hg
  show T x 0 [(0, vR 0), (1, vI n9)] [] h 0 0
  refine st_iload_n C 1 dX10_knownDevice_0 rfl rfl ?_
  refine st_if_lt (tgt := 9) C dX10_knownDevice_1 (by decide) (fun c_1 => ?_) (fun c_1 => by omega)
  exact st_throw C F dX10_knownDevice_9 dX10_knownDevice_12 dX10_knownDevice_13 dX10_knownDevice_16 xw_X10_167 (by decide) ⟨rfl, rfl⟩ (by omega) (by omega)
set_option maxRecDepth 20000 in
set_option maxHeartbeats 4000000 in
theorem k_openBranch_g {g : Gx} {h : HP} {rc dc : Int} {n9 : Int} (hs : cS h rc dc) (hP : 4 ≤ n9) : Ct g yX10_openBranch (.code yX10_openBranch cX10_openBranch 3 (some (.object "CindermapStore$Branch"))) 6 1 6 [vR 0, vI n9] h (Th "java/lang/IndexOutOfBoundsException" h) := by
  refine Ct.of (by decide) (Nat.le_of_ble_eq_true rfl) (fun x hg C F => ?_)
  subst hg
  show T x 0 [(0, vR 0), (1, vI n9)] [] h 0 0
  refine st_iload_n C 1 dX10_openBranch_0 rfl rfl ?_
  refine st_if_lt (tgt := 9) C dX10_openBranch_1 (by decide) (fun c_1 => by omega) (fun c_1 => ?_)
  refine st_iload_n C 1 dX10_openBranch_4 rfl rfl ?_
  refine st_iconst C dX10_openBranch_5 (by decide) ?_
  refine st_icmp_lt (tgt := 17) C dX10_openBranch_6 (by decide) (fun c_6 => by omega) (fun c_6 => ?_)
  exact st_throw C F dX10_openBranch_9 dX10_openBranch_12 dX10_openBranch_13 dX10_openBranch_16 xw_X10_167 (by decide) ⟨rfl, rfl⟩ (by omega) (by omega)
set_option maxRecDepth 20000 in
set_option maxHeartbeats 4000000 in
theorem k_knownDevice_g {g : Gx} {h : HP} {rc dc : Int} {n9 : Int} (hs : cS h rc dc) (hP : 3 ≤ n9) : Ct g yX10_knownDevice (.code yX10_knownDevice cX10_knownDevice 3 (some (.object "CindermapStore$Device"))) 6 1 6 [vR 0, vI n9] h (Th "java/lang/IndexOutOfBoundsException" h) := by
  refine Ct.of (by decide) (Nat.le_of_ble_eq_true rfl) (fun x hg C F => ?_)
  subst hg
  show T x 0 [(0, vR 0), (1, vI n9)] [] h 0 0
  refine st_iload_n C 1 dX10_knownDevice_0 rfl rfl ?_
  refine st_if_lt (tgt := 9) C dX10_knownDevice_1 (by decide) (fun c_1 => by omega) (fun c_1 => ?_)
  refine st_iload_n C 1 dX10_knownDevice_4 rfl rfl ?_
  refine st_iconst C dX10_knownDevice_5 (by decide) ?_
  refine st_icmp_lt (tgt := 17) C dX10_knownDevice_6 (by decide) (fun c_6 => by omega) (fun c_6 => ?_)
  exact st_throw C F dX10_knownDevice_9 dX10_knownDevice_12 dX10_knownDevice_13 dX10_knownDevice_16 xw_X10_167 (by decide) ⟨rfl, rfl⟩ (by omega) (by omega)
theorem k_openBranch_f {g : Gx} {h : HP} {rc dc : Int} {op : Int → Int} {bs ed co no : Int → Int → Int} {n9 : Int} (hs : cS h rc dc) (hB : cB h op bs ed co no) (hP : ¬ (0 ≤ n9 ∧ n9 ≤ 3 ∧ op n9 = 1)) : Ct g yX10_openBranch (.code yX10_openBranch cX10_openBranch 3 (some (.object "CindermapStore$Branch"))) 6 1 6 [vR 0, vI n9] h (Th "java/lang/IndexOutOfBoundsException" h) := by
  by_cases c1 : n9 < 0
  · exact k_openBranch_l hs c1
  by_cases c2 : 4 ≤ n9
  · exact k_openBranch_g hs c2
  obtain ⟨bf, hbf, hbr⟩ := id hB
  obtain ⟨-, -, -, -, -, -, hop⟩ := hbr n9 (by omega) (by omega)
  exact k_openBranch_c hs hB (by omega) (by omega)
set_option maxRecDepth 20000 in
set_option maxHeartbeats 4000000 in
theorem s_drop_x1 {g : Gx} {h : HP} {rc dc : Int} {op : Int → Int} {bs ed co no : Int → Int → Int} {mf : Int → Int} {n9 : Int} (hs : cS h rc dc) (hB : cB h op bs ed co no) (hM : cM h mf) (hO : ¬ (0 ≤ n9 ∧ n9 ≤ 3 ∧ op n9 = 1)) : Ct g yX10_drop (.code yX10_drop cX10_drop 3 (some .int)) 7 1 6 [vR 0, vI n9] h (Th "java/lang/IndexOutOfBoundsException" h) := by
  refine Ct.of (by decide) (Nat.le_of_ble_eq_true rfl) (fun x hg C F => ?_)
  subst hg
  obtain ⟨bf, hbf, hbr⟩ := id hB
  show T x 0 [(0, vR 0), (1, vI n9)] [] h 0 0
  refine st_aload_n C 0 dX10_drop_0 rfl rfl ?_
  refine st_iload_n C 1 dX10_drop_1 rfl rfl ?_
  refine st_callV (st := []) C dX10_drop_2 [vI n9] (k_openBranch_f (rc := rc) (dc := dc) (op := op) (bs := bs) (ed := ed) (co := co) (no := no) (n9 := n9) hs hB hO) hs w_X10_106 rfl (by decide) (by decide) (by omega) (by omega) (Nat.le_of_ble_eq_true rfl) (ko_th ?_)
  exact st_out C F (by first | exact ⟨rfl, rfl⟩ | (exfalso; omega) | exact absurd (by assumption) hQ | exact absurd hQ (by assumption)) (by omega) (by omega)
set_option maxRecDepth 20000 in
set_option maxHeartbeats 4000000 in
theorem s_edits_x1 {g : Gx} {h : HP} {rc dc : Int} {op : Int → Int} {bs ed co no : Int → Int → Int} {mf : Int → Int} {n9 : Int} (hs : cS h rc dc) (hB : cB h op bs ed co no) (hM : cM h mf) (hO : ¬ (0 ≤ n9 ∧ n9 ≤ 3 ∧ op n9 = 1)) : Ct g yX10_edits (.code yX10_edits cX10_edits 2 (some .int)) 7 1 6 [vR 0, vI n9] h (Th "java/lang/IndexOutOfBoundsException" h) := by
  refine Ct.of (by decide) (Nat.le_of_ble_eq_true rfl) (fun x hg C F => ?_)
  subst hg
  obtain ⟨bf, hbf, hbr⟩ := id hB
  show T x 0 [(0, vR 0), (1, vI n9)] [] h 0 0
  refine st_aload_n C 0 dX10_edits_0 rfl rfl ?_
  refine st_iload_n C 1 dX10_edits_1 rfl rfl ?_
  refine st_callV (st := []) C dX10_edits_2 [vI n9] (k_openBranch_f (rc := rc) (dc := dc) (op := op) (bs := bs) (ed := ed) (co := co) (no := no) (n9 := n9) hs hB hO) hs w_X10_106 rfl (by decide) (by decide) (by omega) (by omega) (Nat.le_of_ble_eq_true rfl) (ko_th ?_)
  exact st_out C F (by first | exact ⟨rfl, rfl⟩ | (exfalso; omega) | exact absurd (by assumption) hQ | exact absurd hQ (by assumption)) (by omega) (by omega)
set_option maxRecDepth 20000 in
set_option maxHeartbeats 4000000 in
theorem s_conflicts_x1 {g : Gx} {h : HP} {rc dc : Int} {op : Int → Int} {bs ed co no : Int → Int → Int} {mf : Int → Int} {n9 : Int} (hs : cS h rc dc) (hB : cB h op bs ed co no) (hM : cM h mf) (hO : ¬ (0 ≤ n9 ∧ n9 ≤ 3 ∧ op n9 = 1)) : Ct g yX10_conflicts (.code yX10_conflicts cX10_conflicts 2 (some .int)) 7 1 6 [vR 0, vI n9] h (Th "java/lang/IndexOutOfBoundsException" h) := by
  refine Ct.of (by decide) (Nat.le_of_ble_eq_true rfl) (fun x hg C F => ?_)
  subst hg
  obtain ⟨bf, hbf, hbr⟩ := id hB
  show T x 0 [(0, vR 0), (1, vI n9)] [] h 0 0
  refine st_aload_n C 0 dX10_conflicts_0 rfl rfl ?_
  refine st_iload_n C 1 dX10_conflicts_1 rfl rfl ?_
  refine st_callV (st := []) C dX10_conflicts_2 [vI n9] (k_openBranch_f (rc := rc) (dc := dc) (op := op) (bs := bs) (ed := ed) (co := co) (no := no) (n9 := n9) hs hB hO) hs w_X10_106 rfl (by decide) (by decide) (by omega) (by omega) (Nat.le_of_ble_eq_true rfl) (ko_th ?_)
  exact st_out C F (by first | exact ⟨rfl, rfl⟩ | (exfalso; omega) | exact absurd (by assumption) hQ | exact absurd hQ (by assumption)) (by omega) (by omega)
set_option maxRecDepth 20000 in
set_option maxHeartbeats 4000000 in
theorem s_breaks_x1 {g : Gx} {h : HP} {rc dc : Int} {op : Int → Int} {bs ed co no : Int → Int → Int} {mf : Int → Int} {n9 : Int} (hs : cS h rc dc) (hB : cB h op bs ed co no) (hM : cM h mf) (hO : ¬ (0 ≤ n9 ∧ n9 ≤ 3 ∧ op n9 = 1)) : Ct g yX10_breaks (.code yX10_breaks cX10_breaks 2 (some .int)) 7 1 6 [vR 0, vI n9] h (Th "java/lang/IndexOutOfBoundsException" h) := by
  refine Ct.of (by decide) (Nat.le_of_ble_eq_true rfl) (fun x hg C F => ?_)
  subst hg
  obtain ⟨bf, hbf, hbr⟩ := id hB
  show T x 0 [(0, vR 0), (1, vI n9)] [] h 0 0
  refine st_aload_n C 0 dX10_breaks_0 rfl rfl ?_
  refine st_iload_n C 1 dX10_breaks_1 rfl rfl ?_
  refine st_callV (st := []) C dX10_breaks_2 [vI n9] (k_openBranch_f (rc := rc) (dc := dc) (op := op) (bs := bs) (ed := ed) (co := co) (no := no) (n9 := n9) hs hB hO) hs w_X10_106 rfl (by decide) (by decide) (by omega) (by omega) (Nat.le_of_ble_eq_true rfl) (ko_th ?_)
  exact st_out C F (by first | exact ⟨rfl, rfl⟩ | (exfalso; omega) | exact absurd (by assumption) hQ | exact absurd hQ (by assumption)) (by omega) (by omega)
set_option maxRecDepth 20000 in
set_option maxHeartbeats 4000000 in
theorem s_paint_x1 {g : Gx} {h : HP} {rc dc : Int} {op : Int → Int} {bs ed co no : Int → Int → Int} {mf : Int → Int} {n9 : Int} {l9 x9 y9 v9 : Int} (hs : cS h rc dc) (hB : cB h op bs ed co no) (hM : cM h mf) (hO : ¬ (0 ≤ n9 ∧ n9 ≤ 3 ∧ op n9 = 1)) : Ct g yX10_paint (.code yX10_paint cX10_paint 7 (some .int)) 7 1 6 [vR 0, vI n9, vI l9, vI x9, vI y9, vI v9] h (Th "java/lang/IndexOutOfBoundsException" h) := by
  refine Ct.of (by decide) (Nat.le_of_ble_eq_true rfl) (fun x hg C F => ?_)
  subst hg
  obtain ⟨bf, hbf, hbr⟩ := id hB
  show T x 0 [(0, vR 0), (1, vI n9), (2, vI l9), (3, vI x9), (4, vI y9), (5, vI v9)] [] h 0 0
  refine st_aload_n C 0 dX10_paint_0 rfl rfl ?_
  refine st_iload_n C 1 dX10_paint_1 rfl rfl ?_
  refine st_callV (st := []) C dX10_paint_2 [vI n9] (k_openBranch_f (rc := rc) (dc := dc) (op := op) (bs := bs) (ed := ed) (co := co) (no := no) (n9 := n9) hs hB hO) hs w_X10_106 rfl (by decide) (by decide) (by omega) (by omega) (Nat.le_of_ble_eq_true rfl) (ko_th ?_)
  exact st_out C F (by first | exact ⟨rfl, rfl⟩ | (exfalso; omega) | exact absurd (by assumption) hQ | exact absurd hQ (by assumption)) (by omega) (by omega)
set_option maxRecDepth 20000 in
set_option maxHeartbeats 4000000 in
theorem s_road_x1 {g : Gx} {h : HP} {rc dc : Int} {op : Int → Int} {bs ed co no : Int → Int → Int} {mf : Int → Int} {n9 : Int} {x9 y9 d9 i9 : Int} (hs : cS h rc dc) (hB : cB h op bs ed co no) (hM : cM h mf) (hO : ¬ (0 ≤ n9 ∧ n9 ≤ 3 ∧ op n9 = 1)) : Ct g yX10_road (.code yX10_road cX10_road 7 (some .int)) 7 1 6 [vR 0, vI n9, vI x9, vI y9, vI d9, vI i9] h (Th "java/lang/IndexOutOfBoundsException" h) := by
  refine Ct.of (by decide) (Nat.le_of_ble_eq_true rfl) (fun x hg C F => ?_)
  subst hg
  obtain ⟨bf, hbf, hbr⟩ := id hB
  show T x 0 [(0, vR 0), (1, vI n9), (2, vI x9), (3, vI y9), (4, vI d9), (5, vI i9)] [] h 0 0
  refine st_aload_n C 0 dX10_road_0 rfl rfl ?_
  refine st_iload_n C 1 dX10_road_1 rfl rfl ?_
  refine st_callV (st := []) C dX10_road_2 [vI n9] (k_openBranch_f (rc := rc) (dc := dc) (op := op) (bs := bs) (ed := ed) (co := co) (no := no) (n9 := n9) hs hB hO) hs w_X10_106 rfl (by decide) (by decide) (by omega) (by omega) (Nat.le_of_ble_eq_true rfl) (ko_th ?_)
  exact st_out C F (by first | exact ⟨rfl, rfl⟩ | (exfalso; omega) | exact absurd (by assumption) hQ | exact absurd hQ (by assumption)) (by omega) (by omega)
set_option maxRecDepth 20000 in
set_option maxHeartbeats 4000000 in
theorem s_seen_x1 {g : Gx} {h : HP} {rc dc : Int} {op : Int → Int} {bs ed co no : Int → Int → Int} {mf : Int → Int} {n9 : Int} {s9 : Int} (hs : cS h rc dc) (hB : cB h op bs ed co no) (hM : cM h mf) (hO : ¬ (0 ≤ n9 ∧ n9 ≤ 3 ∧ op n9 = 1)) : Ct g yX10_seen (.code yX10_seen cX10_seen 4 (some .int)) 7 1 6 [vR 0, vI n9, vI s9] h (Th "java/lang/IndexOutOfBoundsException" h) := by
  refine Ct.of (by decide) (Nat.le_of_ble_eq_true rfl) (fun x hg C F => ?_)
  subst hg
  obtain ⟨bf, hbf, hbr⟩ := id hB
  show T x 0 [(0, vR 0), (1, vI n9), (2, vI s9)] [] h 0 0
  refine st_aload_n C 0 dX10_seen_0 rfl rfl ?_
  refine st_iload_n C 1 dX10_seen_1 rfl rfl ?_
  refine st_callV (st := []) C dX10_seen_2 [vI n9] (k_openBranch_f (rc := rc) (dc := dc) (op := op) (bs := bs) (ed := ed) (co := co) (no := no) (n9 := n9) hs hB hO) hs w_X10_106 rfl (by decide) (by decide) (by omega) (by omega) (Nat.le_of_ble_eq_true rfl) (ko_th ?_)
  exact st_out C F (by first | exact ⟨rfl, rfl⟩ | (exfalso; omega) | exact absurd (by assumption) hQ | exact absurd hQ (by assumption)) (by omega) (by omega)
set_option maxRecDepth 20000 in
set_option maxHeartbeats 4000000 in
theorem s_conflict_x1 {g : Gx} {h : HP} {rc dc : Int} {op : Int → Int} {bs ed co no : Int → Int → Int} {mf : Int → Int} {n9 : Int} {k9 : Int} (hs : cS h rc dc) (hB : cB h op bs ed co no) (hM : cM h mf) (hO : ¬ (0 ≤ n9 ∧ n9 ≤ 3 ∧ op n9 = 1)) : Ct g yX10_conflict (.code yX10_conflict cX10_conflict 4 (some .int)) 7 1 6 [vR 0, vI n9, vI k9] h (Th "java/lang/IndexOutOfBoundsException" h) := by
  refine Ct.of (by decide) (Nat.le_of_ble_eq_true rfl) (fun x hg C F => ?_)
  subst hg
  obtain ⟨bf, hbf, hbr⟩ := id hB
  show T x 0 [(0, vR 0), (1, vI n9), (2, vI k9)] [] h 0 0
  refine st_aload_n C 0 dX10_conflict_0 rfl rfl ?_
  refine st_iload_n C 1 dX10_conflict_1 rfl rfl ?_
  refine st_callV (st := []) C dX10_conflict_2 [vI n9] (k_openBranch_f (rc := rc) (dc := dc) (op := op) (bs := bs) (ed := ed) (co := co) (no := no) (n9 := n9) hs hB hO) hs w_X10_106 rfl (by decide) (by decide) (by omega) (by omega) (Nat.le_of_ble_eq_true rfl) (ko_th ?_)
  exact st_out C F (by first | exact ⟨rfl, rfl⟩ | (exfalso; omega) | exact absurd (by assumption) hQ | exact absurd hQ (by assumption)) (by omega) (by omega)
set_option maxRecDepth 20000 in
set_option maxHeartbeats 4000000 in
theorem s_settle_x1 {g : Gx} {h : HP} {rc dc : Int} {op : Int → Int} {bs ed co no : Int → Int → Int} {mf : Int → Int} {n9 : Int} {s9 o9 : Int} (hs : cS h rc dc) (hB : cB h op bs ed co no) (hM : cM h mf) (hO : ¬ (0 ≤ n9 ∧ n9 ≤ 3 ∧ op n9 = 1)) : Ct g yX10_settle (.code yX10_settle cX10_settle 5 (some .int)) 7 1 6 [vR 0, vI n9, vI s9, vI o9] h (Th "java/lang/IndexOutOfBoundsException" h) := by
  refine Ct.of (by decide) (Nat.le_of_ble_eq_true rfl) (fun x hg C F => ?_)
  subst hg
  obtain ⟨bf, hbf, hbr⟩ := id hB
  show T x 0 [(0, vR 0), (1, vI n9), (2, vI s9), (3, vI o9)] [] h 0 0
  refine st_aload_n C 0 dX10_settle_0 rfl rfl ?_
  refine st_iload_n C 1 dX10_settle_1 rfl rfl ?_
  refine st_callV (st := []) C dX10_settle_2 [vI n9] (k_openBranch_f (rc := rc) (dc := dc) (op := op) (bs := bs) (ed := ed) (co := co) (no := no) (n9 := n9) hs hB hO) hs w_X10_106 rfl (by decide) (by decide) (by omega) (by omega) (Nat.le_of_ble_eq_true rfl) (ko_th ?_)
  exact st_out C F (by first | exact ⟨rfl, rfl⟩ | (exfalso; omega) | exact absurd (by assumption) hQ | exact absurd hQ (by assumption)) (by omega) (by omega)
set_option maxRecDepth 20000 in
set_option maxHeartbeats 4000000 in
theorem s_merge_x1 {g : Gx} {h : HP} {rc dc : Int} {op : Int → Int} {bs ed co no : Int → Int → Int} {mf : Int → Int} {n9 : Int} (hs : cS h rc dc) (hB : cB h op bs ed co no) (hM : cM h mf) (hO : ¬ (0 ≤ n9 ∧ n9 ≤ 3 ∧ op n9 = 1)) : Ct g yX10_merge (.code yX10_merge cX10_merge 4 (some .int)) 7 1 6 [vR 0, vI n9] h (Th "java/lang/IndexOutOfBoundsException" h) := by
  refine Ct.of (by decide) (Nat.le_of_ble_eq_true rfl) (fun x hg C F => ?_)
  subst hg
  obtain ⟨bf, hbf, hbr⟩ := id hB
  show T x 0 [(0, vR 0), (1, vI n9)] [] h 0 0
  refine st_aload_n C 0 dX10_merge_0 rfl rfl ?_
  refine st_iload_n C 1 dX10_merge_1 rfl rfl ?_
  refine st_callV (st := []) C dX10_merge_2 [vI n9] (k_openBranch_f (rc := rc) (dc := dc) (op := op) (bs := bs) (ed := ed) (co := co) (no := no) (n9 := n9) hs hB hO) hs w_X10_106 rfl (by decide) (by decide) (by omega) (by omega) (Nat.le_of_ble_eq_true rfl) (ko_th ?_)
  exact st_out C F (by first | exact ⟨rfl, rfl⟩ | (exfalso; omega) | exact absurd (by assumption) hQ | exact absurd hQ (by assumption)) (by omega) (by omega)
set_option maxRecDepth 20000 in
set_option maxHeartbeats 4000000 in
theorem s_edits {g : Gx} {h : HP} {rc dc : Int} {op : Int → Int} {bs ed co no : Int → Int → Int} {mf : Int → Int} {n9 : Int} (hs : cS h rc dc) (hB : cB h op bs ed co no) (hM : cM h mf) (hO : 0 ≤ n9 ∧ n9 ≤ 3 ∧ op n9 = 1) : Ct g yX10_edits (.code yX10_edits cX10_edits 2 (some .int)) 7 1 6 [vR 0, vI n9] h (Rt (some (vI (cnt (fun j => ed n9 j ≠ -1) 304))) h) := by
  refine Ct.of (by decide) (Nat.le_of_ble_eq_true rfl) (fun x hg C F => ?_)
  subst hg
  obtain ⟨bf, hbf, hbr⟩ := id hB
  obtain ⟨hbn, h_0, h_1, h_2, h_3, h_4, hop⟩ := hbr n9 (by omega) (by omega)
  have hbi := brN_in (i := n9) (by omega)
  show T x 0 [(0, vR 0), (1, vI n9)] [] h 0 0
  refine st_aload_n C 0 dX10_edits_0 rfl rfl ?_
  refine st_iload_n C 1 dX10_edits_1 rfl rfl ?_
  refine st_callV (st := []) C dX10_edits_2 [vI n9] (k_openBranch_t (rc := rc) (dc := dc) (op := op) (bs := bs) (ed := ed) (co := co) (no := no) (n9 := n9) hs hB hO) hs w_X10_106 rfl (by decide) (by decide) (by omega) (by omega) (Nat.le_of_ble_eq_true rfl) (ko_rt ?_)
  show T x 5 [(0, vR 0), (1, vI n9)] [vR (brN n9)] _ _ _
  refine st_callV (st := []) C dX10_edits_5 [] (k_editCount (b := (brN n9)) (op := (op n9)) (bs := (bs n9)) (ed := (ed n9)) (co := (co n9)) (no := (no n9)) h_0 h_1 h_2 h_3 h_4) h_0 w_X10_110 rfl (by decide) (by decide) (by omega) (by omega) (Nat.le_of_ble_eq_true rfl) (ko_rt ?_)
  show T x 8 [(0, vR 0), (1, vI n9)] [vI (cnt (fun j => (ed n9) j ≠ -1) 304)] _ _ _
  exact st_ireturn C F dX10_edits_8 rfl (by first | exact ⟨by with_reducible rfl, by with_reducible rfl⟩ | (exfalso; omega) | exact absurd (by assumption) hQ | exact absurd hQ (by assumption)) (by omega) (by omega)
set_option maxRecDepth 20000 in
set_option maxHeartbeats 4000000 in
theorem s_drop {g : Gx} {h : HP} {rc dc : Int} {op : Int → Int} {bs ed co no : Int → Int → Int} {mf : Int → Int} {n9 : Int} (hs : cS h rc dc) (hB : cB h op bs ed co no) (hM : cM h mf) (hO : 0 ≤ n9 ∧ n9 ≤ 3 ∧ op n9 = 1) : Ct g yX10_drop (.code yX10_drop cX10_drop 3 (some .int)) 7 1 6 [vR 0, vI n9] h (Rt (some (vI (cnt (fun j => ed n9 j ≠ -1) 304))) (hput h (brN n9) (oO 0 [vI 0, vR (brN n9 + 1), vR (brN n9 + 2), vR (brN n9 + 3), vR (brN n9 + 4)]))) := by
  refine Ct.of (by decide) (Nat.le_of_ble_eq_true rfl) (fun x hg C F => ?_)
  subst hg
  obtain ⟨bf, hbf, hbr⟩ := id hB
  obtain ⟨hbn, h_0, h_1, h_2, h_3, h_4, hop⟩ := hbr n9 (by omega) (by omega)
  have hbi := brN_in (i := n9) (by omega)
  show T x 0 [(0, vR 0), (1, vI n9)] [] h 0 0
  refine st_aload_n C 0 dX10_drop_0 rfl rfl ?_
  refine st_iload_n C 1 dX10_drop_1 rfl rfl ?_
  refine st_callV (st := []) C dX10_drop_2 [vI n9] (k_openBranch_t (rc := rc) (dc := dc) (op := op) (bs := bs) (ed := ed) (co := co) (no := no) (n9 := n9) hs hB hO) hs w_X10_106 rfl (by decide) (by decide) (by omega) (by omega) (Nat.le_of_ble_eq_true rfl) (ko_rt ?_)
  show T x 5 [(0, vR 0), (1, vI n9)] [vR (brN n9)] _ _ _
  refine st_astore_n C 2 dX10_drop_5 rfl (by decide) rfl ?_
  show T x 6 [(0, vR 0), (1, vI n9), (2, vR (brN n9))] [] _ _ _
  refine st_aload_n C 2 dX10_drop_6 rfl rfl ?_
  refine st_iconst C dX10_drop_7 (by decide) ?_
  refine st_putf C dX10_drop_8 fp_X10_98 (fun q => by cases q) h_0 (Nat.le_of_ble_eq_true rfl) (fit_bool (by omega)) ?_
  show T x 11 [(0, vR 0), (1, vI n9), (2, vR (brN n9))] [] (hput h (brN n9) (oO 0 [vI 0, vR (brN n9 + 1), vR (brN n9 + 2), vR (brN n9 + 3), vR (brN n9 + 4)])) _ _
  refine st_aload_n C 2 dX10_drop_11 rfl rfl ?_
  refine st_callV (st := []) C dX10_drop_12 [] (k_editCount (b := (brN n9)) (op := 0) (bs := (bs n9)) (ed := (ed n9)) (co := (co n9)) (no := (no n9)) hput_s (hput_o (by omega) h_1) (hput_o (by omega) h_2) (hput_o (by omega) h_3) (hput_o (by omega) h_4)) hput_s w_X10_110 rfl (by decide) (by decide) (by omega) (by omega) (Nat.le_of_ble_eq_true rfl) (ko_rt ?_)
  show T x 15 [(0, vR 0), (1, vI n9), (2, vR (brN n9))] [vI (cnt (fun j => (ed n9) j ≠ -1) 304)] _ _ _
  exact st_ireturn C F dX10_drop_15 rfl (by first | exact ⟨by with_reducible rfl, by with_reducible rfl⟩ | (exfalso; omega) | exact absurd (by assumption) hQ | exact absurd hQ (by assumption)) (by omega) (by omega)
set_option maxRecDepth 20000 in
set_option maxHeartbeats 4000000 in
theorem s_conflicts {g : Gx} {h : HP} {rc dc : Int} {op : Int → Int} {bs ed co no : Int → Int → Int} {mf : Int → Int} {n9 : Int} (hs : cS h rc dc) (hB : cB h op bs ed co no) (hM : cM h mf) (hO : 0 ≤ n9 ∧ n9 ≤ 3 ∧ op n9 = 1) : Ct g yX10_conflicts (.code yX10_conflicts cX10_conflicts 2 (some .int)) 7 1 6 [vR 0, vI n9] h (Rt (some (vI (cnt (fun j => Cf (ed n9) (bs n9) (co n9) j (mf j)) 304))) h) := by
  refine Ct.of (by decide) (Nat.le_of_ble_eq_true rfl) (fun x hg C F => ?_)
  subst hg
  obtain ⟨bf, hbf, hbr⟩ := id hB
  obtain ⟨hbn, h_0, h_1, h_2, h_3, h_4, hop⟩ := hbr n9 (by omega) (by omega)
  have hbi := brN_in (i := n9) (by omega)
  show T x 0 [(0, vR 0), (1, vI n9)] [] h 0 0
  refine st_aload_n C 0 dX10_conflicts_0 rfl rfl ?_
  refine st_iload_n C 1 dX10_conflicts_1 rfl rfl ?_
  refine st_callV (st := []) C dX10_conflicts_2 [vI n9] (k_openBranch_t (rc := rc) (dc := dc) (op := op) (bs := bs) (ed := ed) (co := co) (no := no) (n9 := n9) hs hB hO) hs w_X10_106 rfl (by decide) (by decide) (by omega) (by omega) (Nat.le_of_ble_eq_true rfl) (ko_rt ?_)
  show T x 5 [(0, vR 0), (1, vI n9)] [vR (brN n9)] _ _ _
  refine st_aload_n C 0 dX10_conflicts_5 rfl rfl ?_
  refine st_getf C dX10_conflicts_6 fl_X10_9 hs rfl ?_
  refine st_callV (st := []) C dX10_conflicts_9 [vR 1] (k_conflictCount (b := (brN n9)) (op := (op n9)) (bs := (bs n9)) (ed := (ed n9)) (co := (co n9)) (no := (no n9)) (mf := mf) h_0 h_1 h_2 h_3 h_4 hM) h_0 w_X10_146 rfl (by decide) (by decide) (by omega) (by omega) (Nat.le_of_ble_eq_true rfl) (ko_rt ?_)
  show T x 12 [(0, vR 0), (1, vI n9)] [vI (cnt (fun j => Cf (ed n9) (bs n9) (co n9) j (mf j)) 304)] _ _ _
  exact st_ireturn C F dX10_conflicts_12 rfl (by first | exact ⟨by with_reducible rfl, by with_reducible rfl⟩ | (exfalso; omega) | exact absurd (by assumption) hQ | exact absurd hQ (by assumption)) (by omega) (by omega)
set_option maxRecDepth 20000 in
set_option maxHeartbeats 4000000 in
theorem s_seen_x2 {g : Gx} {h : HP} {rc dc : Int} {op : Int → Int} {bs ed co no : Int → Int → Int} {mf : Int → Int} {n9 : Int} {s9 : Int} (hs : cS h rc dc) (hB : cB h op bs ed co no) (hM : cM h mf) (hO : 0 ≤ n9 ∧ n9 ≤ 3 ∧ op n9 = 1) (hQ : ¬ (0 ≤ s9 ∧ s9 ≤ 303)) : Ct g yX10_seen (.code yX10_seen cX10_seen 4 (some .int)) 7 1 6 [vR 0, vI n9, vI s9] h (Th "java/lang/IllegalArgumentException" h) := by
  refine Ct.of (by decide) (Nat.le_of_ble_eq_true rfl) (fun x hg C F => ?_)
  subst hg
  obtain ⟨bf, hbf, hbr⟩ := id hB
  obtain ⟨hbn, h_0, h_1, h_2, h_3, h_4, hop⟩ := hbr n9 (by omega) (by omega)
  have hbi := brN_in (i := n9) (by omega)
  show T x 0 [(0, vR 0), (1, vI n9), (2, vI s9)] [] h 0 0
  refine st_aload_n C 0 dX10_seen_0 rfl rfl ?_
  refine st_iload_n C 1 dX10_seen_1 rfl rfl ?_
  refine st_callV (st := []) C dX10_seen_2 [vI n9] (k_openBranch_t (rc := rc) (dc := dc) (op := op) (bs := bs) (ed := ed) (co := co) (no := no) (n9 := n9) hs hB hO) hs w_X10_106 rfl (by decide) (by decide) (by omega) (by omega) (Nat.le_of_ble_eq_true rfl) (ko_rt ?_)
  show T x 5 [(0, vR 0), (1, vI n9), (2, vI s9)] [vR (brN n9)] _ _ _
  refine st_astore_n C 3 dX10_seen_5 rfl (by decide) rfl ?_
  show T x 6 [(0, vR 0), (1, vI n9), (2, vI s9), (3, vR (brN n9))] [] _ _ _
  refine st_iload_n C 2 dX10_seen_6 rfl rfl ?_
  by_cases b_7 : 0 ≤ s9 ∧ s9 ≤ 303
  · refine st_callS (st := []) C dX10_seen_7 [vI s9] (k_isSpot_t (v9 := s9)  b_7) w_X10_138 rfl (by decide) (by decide) (by omega) (by omega) (Nat.le_of_ble_eq_true rfl) (ko_rt ?_)
    show T x 10 [(0, vR 0), (1, vI n9), (2, vI s9), (3, vR (brN n9))] [vI 1] _ _ _
    refine st_callS (st := []) C dX10_seen_10 [vI 1] k_need_t w_X10_81 rfl (by decide) (by decide) (by omega) (by omega) (Nat.le_of_ble_eq_true rfl) (ko_rn ?_)
    show T x 13 [(0, vR 0), (1, vI n9), (2, vI s9), (3, vR (brN n9))] [] _ _ _
    refine st_aload_n C 3 dX10_seen_13 rfl rfl ?_
    refine st_iload_n C 2 dX10_seen_14 rfl rfl ?_
    refine st_callV (st := []) C dX10_seen_15 [vI s9] (k_sight (b := (brN n9)) (op := (op n9)) (bs := (bs n9)) (ed := (ed n9)) (co := (co n9)) (no := (no n9)) (s9 := s9) h_0 h_1 h_2 h_3 h_4 (by omega)) h_0 w_X10_142 rfl (by decide) (by decide) (by omega) (by omega) (Nat.le_of_ble_eq_true rfl) (ko_rt ?_)
    show T x 18 [(0, vR 0), (1, vI n9), (2, vI s9), (3, vR (brN n9))] [vI (if (ed n9) s9 = -1 then (bs n9) s9 else (ed n9) s9)] _ _ _
    exact st_ireturn C F dX10_seen_18 rfl (by first | exact ⟨by with_reducible rfl, by with_reducible rfl⟩ | (exfalso; omega) | exact absurd (by assumption) hQ | exact absurd hQ (by assumption)) (by omega) (by omega)
  · refine st_callS (st := []) C dX10_seen_7 [vI s9] (k_isSpot_f (v9 := s9)  b_7) w_X10_138 rfl (by decide) (by decide) (by omega) (by omega) (Nat.le_of_ble_eq_true rfl) (ko_rt ?_)
    show T x 10 [(0, vR 0), (1, vI n9), (2, vI s9), (3, vR (brN n9))] [vI 0] _ _ _
    refine st_callS (st := []) C dX10_seen_10 [vI 0] k_need_f w_X10_81 rfl (by decide) (by decide) (by omega) (by omega) (Nat.le_of_ble_eq_true rfl) (ko_th ?_)
    exact st_out C F (by first | exact ⟨rfl, rfl⟩ | (exfalso; omega) | exact absurd (by assumption) hQ | exact absurd hQ (by assumption)) (by omega) (by omega)
set_option maxRecDepth 20000 in
set_option maxHeartbeats 4000000 in
theorem s_seen {g : Gx} {h : HP} {rc dc : Int} {op : Int → Int} {bs ed co no : Int → Int → Int} {mf : Int → Int} {n9 : Int} {s9 : Int} (hs : cS h rc dc) (hB : cB h op bs ed co no) (hM : cM h mf) (hO : 0 ≤ n9 ∧ n9 ≤ 3 ∧ op n9 = 1) (hQ : 0 ≤ s9 ∧ s9 ≤ 303) : Ct g yX10_seen (.code yX10_seen cX10_seen 4 (some .int)) 7 1 6 [vR 0, vI n9, vI s9] h (Rt (some (vI (if ed n9 s9 = -1 then bs n9 s9 else ed n9 s9))) h) := by
  refine Ct.of (by decide) (Nat.le_of_ble_eq_true rfl) (fun x hg C F => ?_)
  subst hg
  obtain ⟨bf, hbf, hbr⟩ := id hB
  obtain ⟨hbn, h_0, h_1, h_2, h_3, h_4, hop⟩ := hbr n9 (by omega) (by omega)
  have hbi := brN_in (i := n9) (by omega)
  show T x 0 [(0, vR 0), (1, vI n9), (2, vI s9)] [] h 0 0
  refine st_aload_n C 0 dX10_seen_0 rfl rfl ?_
  refine st_iload_n C 1 dX10_seen_1 rfl rfl ?_
  refine st_callV (st := []) C dX10_seen_2 [vI n9] (k_openBranch_t (rc := rc) (dc := dc) (op := op) (bs := bs) (ed := ed) (co := co) (no := no) (n9 := n9) hs hB hO) hs w_X10_106 rfl (by decide) (by decide) (by omega) (by omega) (Nat.le_of_ble_eq_true rfl) (ko_rt ?_)
  show T x 5 [(0, vR 0), (1, vI n9), (2, vI s9)] [vR (brN n9)] _ _ _
  refine st_astore_n C 3 dX10_seen_5 rfl (by decide) rfl ?_
  show T x 6 [(0, vR 0), (1, vI n9), (2, vI s9), (3, vR (brN n9))] [] _ _ _
  refine st_iload_n C 2 dX10_seen_6 rfl rfl ?_
  have b_7 : 0 ≤ s9 ∧ s9 ≤ 303 := by omega
  refine st_callS (st := []) C dX10_seen_7 [vI s9] (k_isSpot_t (v9 := s9)  b_7) w_X10_138 rfl (by decide) (by decide) (by omega) (by omega) (Nat.le_of_ble_eq_true rfl) (ko_rt ?_)
  show T x 10 [(0, vR 0), (1, vI n9), (2, vI s9), (3, vR (brN n9))] [vI 1] _ _ _
  refine st_callS (st := []) C dX10_seen_10 [vI 1] k_need_t w_X10_81 rfl (by decide) (by decide) (by omega) (by omega) (Nat.le_of_ble_eq_true rfl) (ko_rn ?_)
  show T x 13 [(0, vR 0), (1, vI n9), (2, vI s9), (3, vR (brN n9))] [] _ _ _
  refine st_aload_n C 3 dX10_seen_13 rfl rfl ?_
  refine st_iload_n C 2 dX10_seen_14 rfl rfl ?_
  refine st_callV (st := []) C dX10_seen_15 [vI s9] (k_sight (b := (brN n9)) (op := (op n9)) (bs := (bs n9)) (ed := (ed n9)) (co := (co n9)) (no := (no n9)) (s9 := s9) h_0 h_1 h_2 h_3 h_4 (by omega)) h_0 w_X10_142 rfl (by decide) (by decide) (by omega) (by omega) (Nat.le_of_ble_eq_true rfl) (ko_rt ?_)
  show T x 18 [(0, vR 0), (1, vI n9), (2, vI s9), (3, vR (brN n9))] [vI (if (ed n9) s9 = -1 then (bs n9) s9 else (ed n9) s9)] _ _ _
  exact st_ireturn C F dX10_seen_18 rfl (by first | exact ⟨by with_reducible rfl, by with_reducible rfl⟩ | (exfalso; omega) | exact absurd (by assumption) hQ | exact absurd hQ (by assumption)) (by omega) (by omega)
set_option maxRecDepth 20000 in
set_option maxHeartbeats 4000000 in
theorem s_paint_x2 {g : Gx} {h : HP} {rc dc : Int} {op : Int → Int} {bs ed co no : Int → Int → Int} {mf : Int → Int} {n9 : Int} {l9 x9 y9 v9 : Int} (hs : cS h rc dc) (hB : cB h op bs ed co no) (hM : cM h mf) (hO : 0 ≤ n9 ∧ n9 ≤ 3 ∧ op n9 = 1) (hQ : ¬ ((0 ≤ l9 ∧ l9 ≤ 2 ∧ 0 ≤ x9 ∧ x9 ≤ 7 ∧ 0 ≤ y9 ∧ y9 ≤ 7) ∧ 0 ≤ v9 ∧ v9 ≤ 9)) : Ct g yX10_paint (.code yX10_paint cX10_paint 7 (some .int)) 7 1 6 [vR 0, vI n9, vI l9, vI x9, vI y9, vI v9] h (Th "java/lang/IllegalArgumentException" h) := by
  refine Ct.of (by decide) (Nat.le_of_ble_eq_true rfl) (fun x hg C F => ?_)
  subst hg
  obtain ⟨bf, hbf, hbr⟩ := id hB
  obtain ⟨hbn, h_0, h_1, h_2, h_3, h_4, hop⟩ := hbr n9 (by omega) (by omega)
  have hbi := brN_in (i := n9) (by omega)
  show T x 0 [(0, vR 0), (1, vI n9), (2, vI l9), (3, vI x9), (4, vI y9), (5, vI v9)] [] h 0 0
  refine st_aload_n C 0 dX10_paint_0 rfl rfl ?_
  refine st_iload_n C 1 dX10_paint_1 rfl rfl ?_
  refine st_callV (st := []) C dX10_paint_2 [vI n9] (k_openBranch_t (rc := rc) (dc := dc) (op := op) (bs := bs) (ed := ed) (co := co) (no := no) (n9 := n9) hs hB hO) hs w_X10_106 rfl (by decide) (by decide) (by omega) (by omega) (Nat.le_of_ble_eq_true rfl) (ko_rt ?_)
  show T x 5 [(0, vR 0), (1, vI n9), (2, vI l9), (3, vI x9), (4, vI y9), (5, vI v9)] [vR (brN n9)] _ _ _
  refine st_astore C dX10_paint_5 (by decide) rfl ?_
  show T x 7 [(0, vR 0), (1, vI n9), (2, vI l9), (3, vI x9), (4, vI y9), (5, vI v9), (6, vR (brN n9))] [] _ _ _
  refine st_iload_n C 2 dX10_paint_7 rfl rfl ?_
  refine st_iload_n C 3 dX10_paint_8 rfl rfl ?_
  refine st_iload C dX10_paint_9 rfl ?_
  by_cases b_11 : 0 ≤ l9 ∧ l9 ≤ 2 ∧ 0 ≤ x9 ∧ x9 ≤ 7 ∧ 0 ≤ y9 ∧ y9 ≤ 7
  · refine st_callS (st := []) C dX10_paint_11 [vI l9, vI x9, vI y9] (k_isPlace_t (v9 := l9) (x9 := x9) (y9 := y9)  b_11) w_X10_114 rfl (by decide) (by decide) (by omega) (by omega) (Nat.le_of_ble_eq_true rfl) (ko_rt ?_)
    show T x 14 [(0, vR 0), (1, vI n9), (2, vI l9), (3, vI x9), (4, vI y9), (5, vI v9), (6, vR (brN n9))] [vI 1] _ _ _
    refine st_if_eq (tgt := 31) C dX10_paint_14 (by decide) (fun c_14 => by omega) (fun c_14 => ?_)
    refine st_iload C dX10_paint_17 rfl ?_
    refine st_bipush C dX10_paint_19 (by decide) (by decide) ?_
    by_cases b_21 : 0 ≤ v9 ∧ v9 ≤ 9
    · refine st_callS (st := []) C dX10_paint_21 [vI v9, vI 9] (k_isWithin_t (v9 := v9) (m9 := 9)  b_21) w_X10_118 rfl (by decide) (by decide) (by omega) (by omega) (Nat.le_of_ble_eq_true rfl) (ko_rt ?_)
      show T x 24 [(0, vR 0), (1, vI n9), (2, vI l9), (3, vI x9), (4, vI y9), (5, vI v9), (6, vR (brN n9))] [vI 1] _ _ _
      refine st_if_eq (tgt := 31) C dX10_paint_24 (by decide) (fun c_24 => by omega) (fun c_24 => ?_)
      refine st_iconst C dX10_paint_27 (by decide) ?_
      refine st_goto (tgt := 32) C dX10_paint_28 (by decide) ?_
      refine st_callS (st := []) C dX10_paint_32 [vI 1] k_need_t w_X10_81 rfl (by decide) (by decide) (by omega) (by omega) (Nat.le_of_ble_eq_true rfl) (ko_rn ?_)
      show T x 35 [(0, vR 0), (1, vI n9), (2, vI l9), (3, vI x9), (4, vI y9), (5, vI v9), (6, vR (brN n9))] [] _ _ _
      refine st_aload C dX10_paint_35 rfl ?_
      refine st_iload_n C 2 dX10_paint_37 rfl rfl ?_
      refine st_bipush C dX10_paint_38 (by decide) (by decide) ?_
      refine st_iload C dX10_paint_40 rfl ?_
      refine st_imul C dX10_paint_42 ⟨(by omega), (by omega)⟩ ?_
      refine st_iload_n C 3 dX10_paint_43 rfl rfl ?_
      refine st_iadd C dX10_paint_44 ⟨(by omega), (by omega)⟩ ?_
      refine st_callS (st := [vR (brN n9)]) C dX10_paint_45 [vI l9, vI (8 * y9 + x9)] (k_areaSpot (l := l9) (p := (8 * y9 + x9)) (by omega) (by omega)) w_X10_122 rfl (by decide) (by decide) (by omega) (by omega) (Nat.le_of_ble_eq_true rfl) (ko_rt ?_)
      show T x 48 [(0, vR 0), (1, vI n9), (2, vI l9), (3, vI x9), (4, vI y9), (5, vI v9), (6, vR (brN n9))] [vI (64 * l9 + (8 * y9 + x9)), vR (brN n9)] _ _ _
      refine st_iload C dX10_paint_48 rfl ?_
      refine st_callV (st := []) C dX10_paint_50 [vI (64 * l9 + (8 * y9 + x9)), vI v9] (k_put (b := (brN n9)) (op := (op n9)) (bs := (bs n9)) (ed := (ed n9)) (co := (co n9)) (no := (no n9)) (s9 := (64 * l9 + (8 * y9 + x9))) (v9 := v9) h_0 h_1 h_2 h_3 h_4 (by omega)) h_0 w_X10_128 rfl (by decide) (by decide) (by omega) (by omega) (Nat.le_of_ble_eq_true rfl) (ko_rn ?_)
      show T x 53 [(0, vR 0), (1, vI n9), (2, vI l9), (3, vI x9), (4, vI y9), (5, vI v9), (6, vR (brN n9))] [] (hput (hput h (brN n9 + 2) (oI 304 (edF (ed n9) (bs n9) (64 * l9 + (8 * y9 + x9)) v9))) (brN n9 + 3) (oI 304 (coF (co n9) (bs n9) (64 * l9 + (8 * y9 + x9)) v9))) _ _
      refine st_aload C dX10_paint_53 rfl ?_
      refine st_callV (st := []) C dX10_paint_55 [] (k_editCount (b := (brN n9)) (op := (op n9)) (bs := (bs n9)) (ed := (edF (ed n9) (bs n9) (64 * l9 + (8 * y9 + x9)) v9)) (co := (coF (co n9) (bs n9) (64 * l9 + (8 * y9 + x9)) v9)) (no := (no n9)) (hput_o (by omega) (hput_o (by omega) h_0)) (hput_o (by omega) (hput_o (by omega) h_1)) (hput_o (by omega) hput_s) hput_s (hput_o (by omega) (hput_o (by omega) h_4))) (hput_o (by omega) (hput_o (by omega) h_0)) w_X10_110 rfl (by decide) (by decide) (by omega) (by omega) (Nat.le_of_ble_eq_true rfl) (ko_rt ?_)
      show T x 58 [(0, vR 0), (1, vI n9), (2, vI l9), (3, vI x9), (4, vI y9), (5, vI v9), (6, vR (brN n9))] [vI (cnt (fun j => (edF (ed n9) (bs n9) (64 * l9 + (8 * y9 + x9)) v9) j ≠ -1) 304)] _ _ _
      exact st_ireturn C F dX10_paint_58 rfl (by first | exact ⟨by with_reducible rfl, by with_reducible rfl⟩ | (exfalso; omega) | exact absurd (by assumption) hQ | exact absurd hQ (by assumption)) (by omega) (by omega)
    · refine st_callS (st := []) C dX10_paint_21 [vI v9, vI 9] (k_isWithin_f (v9 := v9) (m9 := 9)  b_21) w_X10_118 rfl (by decide) (by decide) (by omega) (by omega) (Nat.le_of_ble_eq_true rfl) (ko_rt ?_)
      show T x 24 [(0, vR 0), (1, vI n9), (2, vI l9), (3, vI x9), (4, vI y9), (5, vI v9), (6, vR (brN n9))] [vI 0] _ _ _
      refine st_if_eq (tgt := 31) C dX10_paint_24 (by decide) (fun c_24 => ?_) (fun c_24 => by omega)
      refine st_iconst C dX10_paint_31 (by decide) ?_
      refine st_callS (st := []) C dX10_paint_32 [vI 0] k_need_f w_X10_81 rfl (by decide) (by decide) (by omega) (by omega) (Nat.le_of_ble_eq_true rfl) (ko_th ?_)
      exact st_out C F (by first | exact ⟨rfl, rfl⟩ | (exfalso; omega) | exact absurd (by assumption) hQ | exact absurd hQ (by assumption)) (by omega) (by omega)
  · refine st_callS (st := []) C dX10_paint_11 [vI l9, vI x9, vI y9] (k_isPlace_f (v9 := l9) (x9 := x9) (y9 := y9)  b_11) w_X10_114 rfl (by decide) (by decide) (by omega) (by omega) (Nat.le_of_ble_eq_true rfl) (ko_rt ?_)
    show T x 14 [(0, vR 0), (1, vI n9), (2, vI l9), (3, vI x9), (4, vI y9), (5, vI v9), (6, vR (brN n9))] [vI 0] _ _ _
    refine st_if_eq (tgt := 31) C dX10_paint_14 (by decide) (fun c_14 => ?_) (fun c_14 => by omega)
    refine st_iconst C dX10_paint_31 (by decide) ?_
    refine st_callS (st := []) C dX10_paint_32 [vI 0] k_need_f w_X10_81 rfl (by decide) (by decide) (by omega) (by omega) (Nat.le_of_ble_eq_true rfl) (ko_th ?_)
    exact st_out C F (by first | exact ⟨rfl, rfl⟩ | (exfalso; omega) | exact absurd (by assumption) hQ | exact absurd hQ (by assumption)) (by omega) (by omega)
set_option maxRecDepth 20000 in
set_option maxHeartbeats 4000000 in
theorem s_paint {g : Gx} {h : HP} {rc dc : Int} {op : Int → Int} {bs ed co no : Int → Int → Int} {mf : Int → Int} {n9 : Int} {l9 x9 y9 v9 : Int} (hs : cS h rc dc) (hB : cB h op bs ed co no) (hM : cM h mf) (hO : 0 ≤ n9 ∧ n9 ≤ 3 ∧ op n9 = 1) (hQ : (0 ≤ l9 ∧ l9 ≤ 2 ∧ 0 ≤ x9 ∧ x9 ≤ 7 ∧ 0 ≤ y9 ∧ y9 ≤ 7) ∧ 0 ≤ v9 ∧ v9 ≤ 9) : Ct g yX10_paint (.code yX10_paint cX10_paint 7 (some .int)) 7 1 6 [vR 0, vI n9, vI l9, vI x9, vI y9, vI v9] h (Rt (some (vI (cnt (fun j => edF (ed n9) (bs n9) (64 * l9 + (8 * y9 + x9)) v9 j ≠ -1) 304))) (put2 h (brN n9) (edF (ed n9) (bs n9) (64 * l9 + (8 * y9 + x9)) v9) (coF (co n9) (bs n9) (64 * l9 + (8 * y9 + x9)) v9))) := by
  refine Ct.of (by decide) (Nat.le_of_ble_eq_true rfl) (fun x hg C F => ?_)
  subst hg
  obtain ⟨bf, hbf, hbr⟩ := id hB
  obtain ⟨hbn, h_0, h_1, h_2, h_3, h_4, hop⟩ := hbr n9 (by omega) (by omega)
  have hbi := brN_in (i := n9) (by omega)
  show T x 0 [(0, vR 0), (1, vI n9), (2, vI l9), (3, vI x9), (4, vI y9), (5, vI v9)] [] h 0 0
  refine st_aload_n C 0 dX10_paint_0 rfl rfl ?_
  refine st_iload_n C 1 dX10_paint_1 rfl rfl ?_
  refine st_callV (st := []) C dX10_paint_2 [vI n9] (k_openBranch_t (rc := rc) (dc := dc) (op := op) (bs := bs) (ed := ed) (co := co) (no := no) (n9 := n9) hs hB hO) hs w_X10_106 rfl (by decide) (by decide) (by omega) (by omega) (Nat.le_of_ble_eq_true rfl) (ko_rt ?_)
  show T x 5 [(0, vR 0), (1, vI n9), (2, vI l9), (3, vI x9), (4, vI y9), (5, vI v9)] [vR (brN n9)] _ _ _
  refine st_astore C dX10_paint_5 (by decide) rfl ?_
  show T x 7 [(0, vR 0), (1, vI n9), (2, vI l9), (3, vI x9), (4, vI y9), (5, vI v9), (6, vR (brN n9))] [] _ _ _
  refine st_iload_n C 2 dX10_paint_7 rfl rfl ?_
  refine st_iload_n C 3 dX10_paint_8 rfl rfl ?_
  refine st_iload C dX10_paint_9 rfl ?_
  have b_11 : 0 ≤ l9 ∧ l9 ≤ 2 ∧ 0 ≤ x9 ∧ x9 ≤ 7 ∧ 0 ≤ y9 ∧ y9 ≤ 7 := by omega
  refine st_callS (st := []) C dX10_paint_11 [vI l9, vI x9, vI y9] (k_isPlace_t (v9 := l9) (x9 := x9) (y9 := y9)  b_11) w_X10_114 rfl (by decide) (by decide) (by omega) (by omega) (Nat.le_of_ble_eq_true rfl) (ko_rt ?_)
  show T x 14 [(0, vR 0), (1, vI n9), (2, vI l9), (3, vI x9), (4, vI y9), (5, vI v9), (6, vR (brN n9))] [vI 1] _ _ _
  refine st_if_eq (tgt := 31) C dX10_paint_14 (by decide) (fun c_14 => by omega) (fun c_14 => ?_)
  refine st_iload C dX10_paint_17 rfl ?_
  refine st_bipush C dX10_paint_19 (by decide) (by decide) ?_
  have b_21 : 0 ≤ v9 ∧ v9 ≤ 9 := by omega
  refine st_callS (st := []) C dX10_paint_21 [vI v9, vI 9] (k_isWithin_t (v9 := v9) (m9 := 9)  b_21) w_X10_118 rfl (by decide) (by decide) (by omega) (by omega) (Nat.le_of_ble_eq_true rfl) (ko_rt ?_)
  show T x 24 [(0, vR 0), (1, vI n9), (2, vI l9), (3, vI x9), (4, vI y9), (5, vI v9), (6, vR (brN n9))] [vI 1] _ _ _
  refine st_if_eq (tgt := 31) C dX10_paint_24 (by decide) (fun c_24 => by omega) (fun c_24 => ?_)
  refine st_iconst C dX10_paint_27 (by decide) ?_
  refine st_goto (tgt := 32) C dX10_paint_28 (by decide) ?_
  refine st_callS (st := []) C dX10_paint_32 [vI 1] k_need_t w_X10_81 rfl (by decide) (by decide) (by omega) (by omega) (Nat.le_of_ble_eq_true rfl) (ko_rn ?_)
  show T x 35 [(0, vR 0), (1, vI n9), (2, vI l9), (3, vI x9), (4, vI y9), (5, vI v9), (6, vR (brN n9))] [] _ _ _
  refine st_aload C dX10_paint_35 rfl ?_
  refine st_iload_n C 2 dX10_paint_37 rfl rfl ?_
  refine st_bipush C dX10_paint_38 (by decide) (by decide) ?_
  refine st_iload C dX10_paint_40 rfl ?_
  refine st_imul C dX10_paint_42 ⟨(by omega), (by omega)⟩ ?_
  refine st_iload_n C 3 dX10_paint_43 rfl rfl ?_
  refine st_iadd C dX10_paint_44 ⟨(by omega), (by omega)⟩ ?_
  refine st_callS (st := [vR (brN n9)]) C dX10_paint_45 [vI l9, vI (8 * y9 + x9)] (k_areaSpot (l := l9) (p := (8 * y9 + x9)) (by omega) (by omega)) w_X10_122 rfl (by decide) (by decide) (by omega) (by omega) (Nat.le_of_ble_eq_true rfl) (ko_rt ?_)
  show T x 48 [(0, vR 0), (1, vI n9), (2, vI l9), (3, vI x9), (4, vI y9), (5, vI v9), (6, vR (brN n9))] [vI (64 * l9 + (8 * y9 + x9)), vR (brN n9)] _ _ _
  refine st_iload C dX10_paint_48 rfl ?_
  refine st_callV (st := []) C dX10_paint_50 [vI (64 * l9 + (8 * y9 + x9)), vI v9] (k_put (b := (brN n9)) (op := (op n9)) (bs := (bs n9)) (ed := (ed n9)) (co := (co n9)) (no := (no n9)) (s9 := (64 * l9 + (8 * y9 + x9))) (v9 := v9) h_0 h_1 h_2 h_3 h_4 (by omega)) h_0 w_X10_128 rfl (by decide) (by decide) (by omega) (by omega) (Nat.le_of_ble_eq_true rfl) (ko_rn ?_)
  show T x 53 [(0, vR 0), (1, vI n9), (2, vI l9), (3, vI x9), (4, vI y9), (5, vI v9), (6, vR (brN n9))] [] (hput (hput h (brN n9 + 2) (oI 304 (edF (ed n9) (bs n9) (64 * l9 + (8 * y9 + x9)) v9))) (brN n9 + 3) (oI 304 (coF (co n9) (bs n9) (64 * l9 + (8 * y9 + x9)) v9))) _ _
  refine st_aload C dX10_paint_53 rfl ?_
  refine st_callV (st := []) C dX10_paint_55 [] (k_editCount (b := (brN n9)) (op := (op n9)) (bs := (bs n9)) (ed := (edF (ed n9) (bs n9) (64 * l9 + (8 * y9 + x9)) v9)) (co := (coF (co n9) (bs n9) (64 * l9 + (8 * y9 + x9)) v9)) (no := (no n9)) (hput_o (by omega) (hput_o (by omega) h_0)) (hput_o (by omega) (hput_o (by omega) h_1)) (hput_o (by omega) hput_s) hput_s (hput_o (by omega) (hput_o (by omega) h_4))) (hput_o (by omega) (hput_o (by omega) h_0)) w_X10_110 rfl (by decide) (by decide) (by omega) (by omega) (Nat.le_of_ble_eq_true rfl) (ko_rt ?_)
  show T x 58 [(0, vR 0), (1, vI n9), (2, vI l9), (3, vI x9), (4, vI y9), (5, vI v9), (6, vR (brN n9))] [vI (cnt (fun j => (edF (ed n9) (bs n9) (64 * l9 + (8 * y9 + x9)) v9) j ≠ -1) 304)] _ _ _
  exact st_ireturn C F dX10_paint_58 rfl (by first | exact ⟨by with_reducible rfl, rfl⟩ | (exfalso; omega) | exact absurd (by assumption) hQ | exact absurd hQ (by assumption)) (by omega) (by omega)
set_option maxRecDepth 20000 in
set_option maxHeartbeats 4000000 in
theorem s_road_x2 {g : Gx} {h : HP} {rc dc : Int} {op : Int → Int} {bs ed co no : Int → Int → Int} {mf : Int → Int} {n9 : Int} {x9 y9 d9 i9 : Int} (hs : cS h rc dc) (hB : cB h op bs ed co no) (hM : cM h mf) (hO : 0 ≤ n9 ∧ n9 ≤ 3 ∧ op n9 = 1) (hd : d9 = 0 ∨ d9 = 1) (hQ : ¬ ((d9 = 0 ∧ 0 ≤ x9 ∧ x9 ≤ 6 ∧ 0 ≤ y9 ∧ y9 ≤ 7) ∨ (d9 = 1 ∧ 0 ≤ x9 ∧ x9 ≤ 7 ∧ 0 ≤ y9 ∧ y9 ≤ 6))) : Ct g yX10_road (.code yX10_road cX10_road 7 (some .int)) 7 1 6 [vR 0, vI n9, vI x9, vI y9, vI d9, vI i9] h (Th "java/lang/IllegalArgumentException" h) := by
  refine Ct.of (by decide) (Nat.le_of_ble_eq_true rfl) (fun x hg C F => ?_)
  subst hg
  obtain ⟨bf, hbf, hbr⟩ := id hB
  obtain ⟨hbn, h_0, h_1, h_2, h_3, h_4, hop⟩ := hbr n9 (by omega) (by omega)
  have hbi := brN_in (i := n9) (by omega)
  show T x 0 [(0, vR 0), (1, vI n9), (2, vI x9), (3, vI y9), (4, vI d9), (5, vI i9)] [] h 0 0
  refine st_aload_n C 0 dX10_road_0 rfl rfl ?_
  refine st_iload_n C 1 dX10_road_1 rfl rfl ?_
  refine st_callV (st := []) C dX10_road_2 [vI n9] (k_openBranch_t (rc := rc) (dc := dc) (op := op) (bs := bs) (ed := ed) (co := co) (no := no) (n9 := n9) hs hB hO) hs w_X10_106 rfl (by decide) (by decide) (by omega) (by omega) (Nat.le_of_ble_eq_true rfl) (ko_rt ?_)
  show T x 5 [(0, vR 0), (1, vI n9), (2, vI x9), (3, vI y9), (4, vI d9), (5, vI i9)] [vR (brN n9)] _ _ _
  refine st_astore C dX10_road_5 (by decide) rfl ?_
  show T x 7 [(0, vR 0), (1, vI n9), (2, vI x9), (3, vI y9), (4, vI d9), (5, vI i9), (6, vR (brN n9))] [] _ _ _
  refine st_iload_n C 2 dX10_road_7 rfl rfl ?_
  refine st_iload C dX10_road_8 rfl ?_
  refine st_if_eq (tgt := 18) C dX10_road_10 (by decide) (fun c_10 => ?_) (fun c_10 => ?_)
  · refine st_bipush C dX10_road_18 (by decide) (by decide) ?_
    by_cases b_20 : 0 ≤ x9 ∧ x9 ≤ 6
    · refine st_callS (st := []) C dX10_road_20 [vI x9, vI 6] (k_isWithin_t (v9 := x9) (m9 := 6)  b_20) w_X10_118 rfl (by decide) (by decide) (by omega) (by omega) (Nat.le_of_ble_eq_true rfl) (ko_rt ?_)
      show T x 23 [(0, vR 0), (1, vI n9), (2, vI x9), (3, vI y9), (4, vI d9), (5, vI i9), (6, vR (brN n9))] [vI 1] _ _ _
      refine st_if_eq (tgt := 49) C dX10_road_23 (by decide) (fun c_23 => by omega) (fun c_23 => ?_)
      refine st_iload_n C 3 dX10_road_26 rfl rfl ?_
      refine st_iload C dX10_road_27 rfl ?_
      refine st_if_eq (tgt := 37) C dX10_road_29 (by decide) (fun c_29 => ?_) (fun c_29 => by omega)
      refine st_bipush C dX10_road_37 (by decide) (by decide) ?_
      by_cases b_39 : 0 ≤ y9 ∧ y9 ≤ 7
      · refine st_callS (st := []) C dX10_road_39 [vI y9, vI 7] (k_isWithin_t (v9 := y9) (m9 := 7)  b_39) w_X10_118 rfl (by decide) (by decide) (by omega) (by omega) (Nat.le_of_ble_eq_true rfl) (ko_rt ?_)
        show T x 42 [(0, vR 0), (1, vI n9), (2, vI x9), (3, vI y9), (4, vI d9), (5, vI i9), (6, vR (brN n9))] [vI 1] _ _ _
        refine st_if_eq (tgt := 49) C dX10_road_42 (by decide) (fun c_42 => by omega) (fun c_42 => ?_)
        refine st_iconst C dX10_road_45 (by decide) ?_
        refine st_goto (tgt := 50) C dX10_road_46 (by decide) ?_
        refine st_callS (st := []) C dX10_road_50 [vI 1] k_need_t w_X10_81 rfl (by decide) (by decide) (by omega) (by omega) (Nat.le_of_ble_eq_true rfl) (ko_rn ?_)
        show T x 53 [(0, vR 0), (1, vI n9), (2, vI x9), (3, vI y9), (4, vI d9), (5, vI i9), (6, vR (brN n9))] [] _ _ _
        refine st_aload C dX10_road_53 rfl ?_
        refine st_iload C dX10_road_55 rfl ?_
        refine st_if_eq (tgt := 68) C dX10_road_57 (by decide) (fun c_57 => ?_) (fun c_57 => by omega)
        refine st_iload_n C 2 dX10_road_68 rfl rfl ?_
        refine st_iload_n C 3 dX10_road_69 rfl rfl ?_
        refine st_callS (st := [vR (brN n9)]) C dX10_road_70 [vI x9, vI y9] (k_rightRoad (x9 := x9) (y9 := y9) (by omega) (by omega)) w_X10_135 rfl (by decide) (by decide) (by omega) (by omega) (Nat.le_of_ble_eq_true rfl) (ko_rt ?_)
        show T x 73 [(0, vR 0), (1, vI n9), (2, vI x9), (3, vI y9), (4, vI d9), (5, vI i9), (6, vR (brN n9))] [vI (192 + 7 * y9 + x9), vR (brN n9)] _ _ _
        refine st_iload C dX10_road_73 rfl ?_
        refine st_if_eq (tgt := 82) C dX10_road_75 (by decide) (fun c_75 => ?_) (fun c_75 => ?_)
        · refine st_iconst C dX10_road_82 (by decide) ?_
          refine st_callV (st := []) C dX10_road_83 [vI (192 + 7 * y9 + x9), vI 0] (k_put (b := (brN n9)) (op := (op n9)) (bs := (bs n9)) (ed := (ed n9)) (co := (co n9)) (no := (no n9)) (s9 := (192 + 7 * y9 + x9)) (v9 := 0) h_0 h_1 h_2 h_3 h_4 (by omega)) h_0 w_X10_128 rfl (by decide) (by decide) (by omega) (by omega) (Nat.le_of_ble_eq_true rfl) (ko_rn ?_)
          show T x 86 [(0, vR 0), (1, vI n9), (2, vI x9), (3, vI y9), (4, vI d9), (5, vI i9), (6, vR (brN n9))] [] (hput (hput h (brN n9 + 2) (oI 304 (edF (ed n9) (bs n9) (192 + 7 * y9 + x9) 0))) (brN n9 + 3) (oI 304 (coF (co n9) (bs n9) (192 + 7 * y9 + x9) 0))) _ _
          refine st_aload C dX10_road_86 rfl ?_
          refine st_callV (st := []) C dX10_road_88 [] (k_editCount (b := (brN n9)) (op := (op n9)) (bs := (bs n9)) (ed := (edF (ed n9) (bs n9) (192 + 7 * y9 + x9) 0)) (co := (coF (co n9) (bs n9) (192 + 7 * y9 + x9) 0)) (no := (no n9)) (hput_o (by omega) (hput_o (by omega) h_0)) (hput_o (by omega) (hput_o (by omega) h_1)) (hput_o (by omega) hput_s) hput_s (hput_o (by omega) (hput_o (by omega) h_4))) (hput_o (by omega) (hput_o (by omega) h_0)) w_X10_110 rfl (by decide) (by decide) (by omega) (by omega) (Nat.le_of_ble_eq_true rfl) (ko_rt ?_)
          show T x 91 [(0, vR 0), (1, vI n9), (2, vI x9), (3, vI y9), (4, vI d9), (5, vI i9), (6, vR (brN n9))] [vI (cnt (fun j => (edF (ed n9) (bs n9) (192 + 7 * y9 + x9) 0) j ≠ -1) 304)] _ _ _
          exact st_ireturn C F dX10_road_91 rfl (by first | exact ⟨by with_reducible rfl, by with_reducible rfl⟩ | (exfalso; omega) | exact absurd (by assumption) hQ | exact absurd hQ (by assumption)) (by omega) (by omega)
        · refine st_iconst C dX10_road_78 (by decide) ?_
          refine st_goto (tgt := 83) C dX10_road_79 (by decide) ?_
          refine st_callV (st := []) C dX10_road_83 [vI (192 + 7 * y9 + x9), vI 1] (k_put (b := (brN n9)) (op := (op n9)) (bs := (bs n9)) (ed := (ed n9)) (co := (co n9)) (no := (no n9)) (s9 := (192 + 7 * y9 + x9)) (v9 := 1) h_0 h_1 h_2 h_3 h_4 (by omega)) h_0 w_X10_128 rfl (by decide) (by decide) (by omega) (by omega) (Nat.le_of_ble_eq_true rfl) (ko_rn ?_)
          show T x 86 [(0, vR 0), (1, vI n9), (2, vI x9), (3, vI y9), (4, vI d9), (5, vI i9), (6, vR (brN n9))] [] (hput (hput h (brN n9 + 2) (oI 304 (edF (ed n9) (bs n9) (192 + 7 * y9 + x9) 1))) (brN n9 + 3) (oI 304 (coF (co n9) (bs n9) (192 + 7 * y9 + x9) 1))) _ _
          refine st_aload C dX10_road_86 rfl ?_
          refine st_callV (st := []) C dX10_road_88 [] (k_editCount (b := (brN n9)) (op := (op n9)) (bs := (bs n9)) (ed := (edF (ed n9) (bs n9) (192 + 7 * y9 + x9) 1)) (co := (coF (co n9) (bs n9) (192 + 7 * y9 + x9) 1)) (no := (no n9)) (hput_o (by omega) (hput_o (by omega) h_0)) (hput_o (by omega) (hput_o (by omega) h_1)) (hput_o (by omega) hput_s) hput_s (hput_o (by omega) (hput_o (by omega) h_4))) (hput_o (by omega) (hput_o (by omega) h_0)) w_X10_110 rfl (by decide) (by decide) (by omega) (by omega) (Nat.le_of_ble_eq_true rfl) (ko_rt ?_)
          show T x 91 [(0, vR 0), (1, vI n9), (2, vI x9), (3, vI y9), (4, vI d9), (5, vI i9), (6, vR (brN n9))] [vI (cnt (fun j => (edF (ed n9) (bs n9) (192 + 7 * y9 + x9) 1) j ≠ -1) 304)] _ _ _
          exact st_ireturn C F dX10_road_91 rfl (by first | exact ⟨by with_reducible rfl, by with_reducible rfl⟩ | (exfalso; omega) | exact absurd (by assumption) hQ | exact absurd hQ (by assumption)) (by omega) (by omega)
      · refine st_callS (st := []) C dX10_road_39 [vI y9, vI 7] (k_isWithin_f (v9 := y9) (m9 := 7)  b_39) w_X10_118 rfl (by decide) (by decide) (by omega) (by omega) (Nat.le_of_ble_eq_true rfl) (ko_rt ?_)
        show T x 42 [(0, vR 0), (1, vI n9), (2, vI x9), (3, vI y9), (4, vI d9), (5, vI i9), (6, vR (brN n9))] [vI 0] _ _ _
        refine st_if_eq (tgt := 49) C dX10_road_42 (by decide) (fun c_42 => ?_) (fun c_42 => by omega)
        refine st_iconst C dX10_road_49 (by decide) ?_
        refine st_callS (st := []) C dX10_road_50 [vI 0] k_need_f w_X10_81 rfl (by decide) (by decide) (by omega) (by omega) (Nat.le_of_ble_eq_true rfl) (ko_th ?_)
        exact st_out C F (by first | exact ⟨rfl, rfl⟩ | (exfalso; omega) | exact absurd (by assumption) hQ | exact absurd hQ (by assumption)) (by omega) (by omega)
    · refine st_callS (st := []) C dX10_road_20 [vI x9, vI 6] (k_isWithin_f (v9 := x9) (m9 := 6)  b_20) w_X10_118 rfl (by decide) (by decide) (by omega) (by omega) (Nat.le_of_ble_eq_true rfl) (ko_rt ?_)
      show T x 23 [(0, vR 0), (1, vI n9), (2, vI x9), (3, vI y9), (4, vI d9), (5, vI i9), (6, vR (brN n9))] [vI 0] _ _ _
      refine st_if_eq (tgt := 49) C dX10_road_23 (by decide) (fun c_23 => ?_) (fun c_23 => by omega)
      refine st_iconst C dX10_road_49 (by decide) ?_
      refine st_callS (st := []) C dX10_road_50 [vI 0] k_need_f w_X10_81 rfl (by decide) (by decide) (by omega) (by omega) (Nat.le_of_ble_eq_true rfl) (ko_th ?_)
      exact st_out C F (by first | exact ⟨rfl, rfl⟩ | (exfalso; omega) | exact absurd (by assumption) hQ | exact absurd hQ (by assumption)) (by omega) (by omega)
  · refine st_bipush C dX10_road_13 (by decide) (by decide) ?_
    refine st_goto (tgt := 20) C dX10_road_15 (by decide) ?_
    by_cases b_20 : 0 ≤ x9 ∧ x9 ≤ 7
    · refine st_callS (st := []) C dX10_road_20 [vI x9, vI 7] (k_isWithin_t (v9 := x9) (m9 := 7)  b_20) w_X10_118 rfl (by decide) (by decide) (by omega) (by omega) (Nat.le_of_ble_eq_true rfl) (ko_rt ?_)
      show T x 23 [(0, vR 0), (1, vI n9), (2, vI x9), (3, vI y9), (4, vI d9), (5, vI i9), (6, vR (brN n9))] [vI 1] _ _ _
      refine st_if_eq (tgt := 49) C dX10_road_23 (by decide) (fun c_23 => by omega) (fun c_23 => ?_)
      refine st_iload_n C 3 dX10_road_26 rfl rfl ?_
      refine st_iload C dX10_road_27 rfl ?_
      refine st_if_eq (tgt := 37) C dX10_road_29 (by decide) (fun c_29 => ?_) (fun c_29 => ?_)
      · refine st_bipush C dX10_road_37 (by decide) (by decide) ?_
        by_cases b_39 : 0 ≤ y9 ∧ y9 ≤ 7
        · refine st_callS (st := []) C dX10_road_39 [vI y9, vI 7] (k_isWithin_t (v9 := y9) (m9 := 7)  b_39) w_X10_118 rfl (by decide) (by decide) (by omega) (by omega) (Nat.le_of_ble_eq_true rfl) (ko_rt ?_)
          show T x 42 [(0, vR 0), (1, vI n9), (2, vI x9), (3, vI y9), (4, vI d9), (5, vI i9), (6, vR (brN n9))] [vI 1] _ _ _
          refine st_if_eq (tgt := 49) C dX10_road_42 (by decide) (fun c_42 => by omega) (fun c_42 => ?_)
          refine st_iconst C dX10_road_45 (by decide) ?_
          refine st_goto (tgt := 50) C dX10_road_46 (by decide) ?_
          refine st_callS (st := []) C dX10_road_50 [vI 1] k_need_t w_X10_81 rfl (by decide) (by decide) (by omega) (by omega) (Nat.le_of_ble_eq_true rfl) (ko_rn ?_)
          show T x 53 [(0, vR 0), (1, vI n9), (2, vI x9), (3, vI y9), (4, vI d9), (5, vI i9), (6, vR (brN n9))] [] _ _ _
          refine st_aload C dX10_road_53 rfl ?_
          refine st_iload C dX10_road_55 rfl ?_
          refine st_if_eq (tgt := 68) C dX10_road_57 (by decide) (fun c_57 => ?_) (fun c_57 => by omega)
          refine st_iload_n C 2 dX10_road_68 rfl rfl ?_
          refine st_iload_n C 3 dX10_road_69 rfl rfl ?_
          refine st_callS (st := [vR (brN n9)]) C dX10_road_70 [vI x9, vI y9] (k_rightRoad (x9 := x9) (y9 := y9) (by omega) (by omega)) w_X10_135 rfl (by decide) (by decide) (by omega) (by omega) (Nat.le_of_ble_eq_true rfl) (ko_rt ?_)
          show T x 73 [(0, vR 0), (1, vI n9), (2, vI x9), (3, vI y9), (4, vI d9), (5, vI i9), (6, vR (brN n9))] [vI (192 + 7 * y9 + x9), vR (brN n9)] _ _ _
          refine st_iload C dX10_road_73 rfl ?_
          refine st_if_eq (tgt := 82) C dX10_road_75 (by decide) (fun c_75 => ?_) (fun c_75 => ?_)
          · refine st_iconst C dX10_road_82 (by decide) ?_
            refine st_callV (st := []) C dX10_road_83 [vI (192 + 7 * y9 + x9), vI 0] (k_put (b := (brN n9)) (op := (op n9)) (bs := (bs n9)) (ed := (ed n9)) (co := (co n9)) (no := (no n9)) (s9 := (192 + 7 * y9 + x9)) (v9 := 0) h_0 h_1 h_2 h_3 h_4 (by omega)) h_0 w_X10_128 rfl (by decide) (by decide) (by omega) (by omega) (Nat.le_of_ble_eq_true rfl) (ko_rn ?_)
            show T x 86 [(0, vR 0), (1, vI n9), (2, vI x9), (3, vI y9), (4, vI d9), (5, vI i9), (6, vR (brN n9))] [] (hput (hput h (brN n9 + 2) (oI 304 (edF (ed n9) (bs n9) (192 + 7 * y9 + x9) 0))) (brN n9 + 3) (oI 304 (coF (co n9) (bs n9) (192 + 7 * y9 + x9) 0))) _ _
            refine st_aload C dX10_road_86 rfl ?_
            refine st_callV (st := []) C dX10_road_88 [] (k_editCount (b := (brN n9)) (op := (op n9)) (bs := (bs n9)) (ed := (edF (ed n9) (bs n9) (192 + 7 * y9 + x9) 0)) (co := (coF (co n9) (bs n9) (192 + 7 * y9 + x9) 0)) (no := (no n9)) (hput_o (by omega) (hput_o (by omega) h_0)) (hput_o (by omega) (hput_o (by omega) h_1)) (hput_o (by omega) hput_s) hput_s (hput_o (by omega) (hput_o (by omega) h_4))) (hput_o (by omega) (hput_o (by omega) h_0)) w_X10_110 rfl (by decide) (by decide) (by omega) (by omega) (Nat.le_of_ble_eq_true rfl) (ko_rt ?_)
            show T x 91 [(0, vR 0), (1, vI n9), (2, vI x9), (3, vI y9), (4, vI d9), (5, vI i9), (6, vR (brN n9))] [vI (cnt (fun j => (edF (ed n9) (bs n9) (192 + 7 * y9 + x9) 0) j ≠ -1) 304)] _ _ _
            exact st_ireturn C F dX10_road_91 rfl (by first | exact ⟨by with_reducible rfl, by with_reducible rfl⟩ | (exfalso; omega) | exact absurd (by assumption) hQ | exact absurd hQ (by assumption)) (by omega) (by omega)
          · refine st_iconst C dX10_road_78 (by decide) ?_
            refine st_goto (tgt := 83) C dX10_road_79 (by decide) ?_
            refine st_callV (st := []) C dX10_road_83 [vI (192 + 7 * y9 + x9), vI 1] (k_put (b := (brN n9)) (op := (op n9)) (bs := (bs n9)) (ed := (ed n9)) (co := (co n9)) (no := (no n9)) (s9 := (192 + 7 * y9 + x9)) (v9 := 1) h_0 h_1 h_2 h_3 h_4 (by omega)) h_0 w_X10_128 rfl (by decide) (by decide) (by omega) (by omega) (Nat.le_of_ble_eq_true rfl) (ko_rn ?_)
            show T x 86 [(0, vR 0), (1, vI n9), (2, vI x9), (3, vI y9), (4, vI d9), (5, vI i9), (6, vR (brN n9))] [] (hput (hput h (brN n9 + 2) (oI 304 (edF (ed n9) (bs n9) (192 + 7 * y9 + x9) 1))) (brN n9 + 3) (oI 304 (coF (co n9) (bs n9) (192 + 7 * y9 + x9) 1))) _ _
            refine st_aload C dX10_road_86 rfl ?_
            refine st_callV (st := []) C dX10_road_88 [] (k_editCount (b := (brN n9)) (op := (op n9)) (bs := (bs n9)) (ed := (edF (ed n9) (bs n9) (192 + 7 * y9 + x9) 1)) (co := (coF (co n9) (bs n9) (192 + 7 * y9 + x9) 1)) (no := (no n9)) (hput_o (by omega) (hput_o (by omega) h_0)) (hput_o (by omega) (hput_o (by omega) h_1)) (hput_o (by omega) hput_s) hput_s (hput_o (by omega) (hput_o (by omega) h_4))) (hput_o (by omega) (hput_o (by omega) h_0)) w_X10_110 rfl (by decide) (by decide) (by omega) (by omega) (Nat.le_of_ble_eq_true rfl) (ko_rt ?_)
            show T x 91 [(0, vR 0), (1, vI n9), (2, vI x9), (3, vI y9), (4, vI d9), (5, vI i9), (6, vR (brN n9))] [vI (cnt (fun j => (edF (ed n9) (bs n9) (192 + 7 * y9 + x9) 1) j ≠ -1) 304)] _ _ _
            exact st_ireturn C F dX10_road_91 rfl (by first | exact ⟨by with_reducible rfl, by with_reducible rfl⟩ | (exfalso; omega) | exact absurd (by assumption) hQ | exact absurd hQ (by assumption)) (by omega) (by omega)
        · refine st_callS (st := []) C dX10_road_39 [vI y9, vI 7] (k_isWithin_f (v9 := y9) (m9 := 7)  b_39) w_X10_118 rfl (by decide) (by decide) (by omega) (by omega) (Nat.le_of_ble_eq_true rfl) (ko_rt ?_)
          show T x 42 [(0, vR 0), (1, vI n9), (2, vI x9), (3, vI y9), (4, vI d9), (5, vI i9), (6, vR (brN n9))] [vI 0] _ _ _
          refine st_if_eq (tgt := 49) C dX10_road_42 (by decide) (fun c_42 => ?_) (fun c_42 => by omega)
          refine st_iconst C dX10_road_49 (by decide) ?_
          refine st_callS (st := []) C dX10_road_50 [vI 0] k_need_f w_X10_81 rfl (by decide) (by decide) (by omega) (by omega) (Nat.le_of_ble_eq_true rfl) (ko_th ?_)
          exact st_out C F (by first | exact ⟨rfl, rfl⟩ | (exfalso; omega) | exact absurd (by assumption) hQ | exact absurd hQ (by assumption)) (by omega) (by omega)
      · refine st_bipush C dX10_road_32 (by decide) (by decide) ?_
        refine st_goto (tgt := 39) C dX10_road_34 (by decide) ?_
        by_cases b_39 : 0 ≤ y9 ∧ y9 ≤ 6
        · refine st_callS (st := []) C dX10_road_39 [vI y9, vI 6] (k_isWithin_t (v9 := y9) (m9 := 6)  b_39) w_X10_118 rfl (by decide) (by decide) (by omega) (by omega) (Nat.le_of_ble_eq_true rfl) (ko_rt ?_)
          show T x 42 [(0, vR 0), (1, vI n9), (2, vI x9), (3, vI y9), (4, vI d9), (5, vI i9), (6, vR (brN n9))] [vI 1] _ _ _
          refine st_if_eq (tgt := 49) C dX10_road_42 (by decide) (fun c_42 => by omega) (fun c_42 => ?_)
          refine st_iconst C dX10_road_45 (by decide) ?_
          refine st_goto (tgt := 50) C dX10_road_46 (by decide) ?_
          refine st_callS (st := []) C dX10_road_50 [vI 1] k_need_t w_X10_81 rfl (by decide) (by decide) (by omega) (by omega) (Nat.le_of_ble_eq_true rfl) (ko_rn ?_)
          show T x 53 [(0, vR 0), (1, vI n9), (2, vI x9), (3, vI y9), (4, vI d9), (5, vI i9), (6, vR (brN n9))] [] _ _ _
          refine st_aload C dX10_road_53 rfl ?_
          refine st_iload C dX10_road_55 rfl ?_
          refine st_if_eq (tgt := 68) C dX10_road_57 (by decide) (fun c_57 => ?_) (fun c_57 => ?_)
          · refine st_iload_n C 2 dX10_road_68 rfl rfl ?_
            refine st_iload_n C 3 dX10_road_69 rfl rfl ?_
            refine st_callS (st := [vR (brN n9)]) C dX10_road_70 [vI x9, vI y9] (k_rightRoad (x9 := x9) (y9 := y9) (by omega) (by omega)) w_X10_135 rfl (by decide) (by decide) (by omega) (by omega) (Nat.le_of_ble_eq_true rfl) (ko_rt ?_)
            show T x 73 [(0, vR 0), (1, vI n9), (2, vI x9), (3, vI y9), (4, vI d9), (5, vI i9), (6, vR (brN n9))] [vI (192 + 7 * y9 + x9), vR (brN n9)] _ _ _
            refine st_iload C dX10_road_73 rfl ?_
            refine st_if_eq (tgt := 82) C dX10_road_75 (by decide) (fun c_75 => ?_) (fun c_75 => ?_)
            · refine st_iconst C dX10_road_82 (by decide) ?_
              refine st_callV (st := []) C dX10_road_83 [vI (192 + 7 * y9 + x9), vI 0] (k_put (b := (brN n9)) (op := (op n9)) (bs := (bs n9)) (ed := (ed n9)) (co := (co n9)) (no := (no n9)) (s9 := (192 + 7 * y9 + x9)) (v9 := 0) h_0 h_1 h_2 h_3 h_4 (by omega)) h_0 w_X10_128 rfl (by decide) (by decide) (by omega) (by omega) (Nat.le_of_ble_eq_true rfl) (ko_rn ?_)
              show T x 86 [(0, vR 0), (1, vI n9), (2, vI x9), (3, vI y9), (4, vI d9), (5, vI i9), (6, vR (brN n9))] [] (hput (hput h (brN n9 + 2) (oI 304 (edF (ed n9) (bs n9) (192 + 7 * y9 + x9) 0))) (brN n9 + 3) (oI 304 (coF (co n9) (bs n9) (192 + 7 * y9 + x9) 0))) _ _
              refine st_aload C dX10_road_86 rfl ?_
              refine st_callV (st := []) C dX10_road_88 [] (k_editCount (b := (brN n9)) (op := (op n9)) (bs := (bs n9)) (ed := (edF (ed n9) (bs n9) (192 + 7 * y9 + x9) 0)) (co := (coF (co n9) (bs n9) (192 + 7 * y9 + x9) 0)) (no := (no n9)) (hput_o (by omega) (hput_o (by omega) h_0)) (hput_o (by omega) (hput_o (by omega) h_1)) (hput_o (by omega) hput_s) hput_s (hput_o (by omega) (hput_o (by omega) h_4))) (hput_o (by omega) (hput_o (by omega) h_0)) w_X10_110 rfl (by decide) (by decide) (by omega) (by omega) (Nat.le_of_ble_eq_true rfl) (ko_rt ?_)
              show T x 91 [(0, vR 0), (1, vI n9), (2, vI x9), (3, vI y9), (4, vI d9), (5, vI i9), (6, vR (brN n9))] [vI (cnt (fun j => (edF (ed n9) (bs n9) (192 + 7 * y9 + x9) 0) j ≠ -1) 304)] _ _ _
              exact st_ireturn C F dX10_road_91 rfl (by first | exact ⟨by with_reducible rfl, by with_reducible rfl⟩ | (exfalso; omega) | exact absurd (by assumption) hQ | exact absurd hQ (by assumption)) (by omega) (by omega)
            · refine st_iconst C dX10_road_78 (by decide) ?_
              refine st_goto (tgt := 83) C dX10_road_79 (by decide) ?_
              refine st_callV (st := []) C dX10_road_83 [vI (192 + 7 * y9 + x9), vI 1] (k_put (b := (brN n9)) (op := (op n9)) (bs := (bs n9)) (ed := (ed n9)) (co := (co n9)) (no := (no n9)) (s9 := (192 + 7 * y9 + x9)) (v9 := 1) h_0 h_1 h_2 h_3 h_4 (by omega)) h_0 w_X10_128 rfl (by decide) (by decide) (by omega) (by omega) (Nat.le_of_ble_eq_true rfl) (ko_rn ?_)
              show T x 86 [(0, vR 0), (1, vI n9), (2, vI x9), (3, vI y9), (4, vI d9), (5, vI i9), (6, vR (brN n9))] [] (hput (hput h (brN n9 + 2) (oI 304 (edF (ed n9) (bs n9) (192 + 7 * y9 + x9) 1))) (brN n9 + 3) (oI 304 (coF (co n9) (bs n9) (192 + 7 * y9 + x9) 1))) _ _
              refine st_aload C dX10_road_86 rfl ?_
              refine st_callV (st := []) C dX10_road_88 [] (k_editCount (b := (brN n9)) (op := (op n9)) (bs := (bs n9)) (ed := (edF (ed n9) (bs n9) (192 + 7 * y9 + x9) 1)) (co := (coF (co n9) (bs n9) (192 + 7 * y9 + x9) 1)) (no := (no n9)) (hput_o (by omega) (hput_o (by omega) h_0)) (hput_o (by omega) (hput_o (by omega) h_1)) (hput_o (by omega) hput_s) hput_s (hput_o (by omega) (hput_o (by omega) h_4))) (hput_o (by omega) (hput_o (by omega) h_0)) w_X10_110 rfl (by decide) (by decide) (by omega) (by omega) (Nat.le_of_ble_eq_true rfl) (ko_rt ?_)
              show T x 91 [(0, vR 0), (1, vI n9), (2, vI x9), (3, vI y9), (4, vI d9), (5, vI i9), (6, vR (brN n9))] [vI (cnt (fun j => (edF (ed n9) (bs n9) (192 + 7 * y9 + x9) 1) j ≠ -1) 304)] _ _ _
              exact st_ireturn C F dX10_road_91 rfl (by first | exact ⟨by with_reducible rfl, by with_reducible rfl⟩ | (exfalso; omega) | exact absurd (by assumption) hQ | exact absurd hQ (by assumption)) (by omega) (by omega)
          · refine st_iload_n C 2 dX10_road_60 rfl rfl ?_
            refine st_iload_n C 3 dX10_road_61 rfl rfl ?_
            refine st_callS (st := [vR (brN n9)]) C dX10_road_62 [vI x9, vI y9] (k_downRoad (x9 := x9) (y9 := y9) (by omega) (by omega)) w_X10_132 rfl (by decide) (by decide) (by omega) (by omega) (Nat.le_of_ble_eq_true rfl) (ko_rt ?_)
            show T x 65 [(0, vR 0), (1, vI n9), (2, vI x9), (3, vI y9), (4, vI d9), (5, vI i9), (6, vR (brN n9))] [vI (248 + 8 * y9 + x9), vR (brN n9)] _ _ _
            refine st_goto (tgt := 73) C dX10_road_65 (by decide) ?_
            refine st_iload C dX10_road_73 rfl ?_
            refine st_if_eq (tgt := 82) C dX10_road_75 (by decide) (fun c_75 => ?_) (fun c_75 => ?_)
            · refine st_iconst C dX10_road_82 (by decide) ?_
              refine st_callV (st := []) C dX10_road_83 [vI (248 + 8 * y9 + x9), vI 0] (k_put (b := (brN n9)) (op := (op n9)) (bs := (bs n9)) (ed := (ed n9)) (co := (co n9)) (no := (no n9)) (s9 := (248 + 8 * y9 + x9)) (v9 := 0) h_0 h_1 h_2 h_3 h_4 (by omega)) h_0 w_X10_128 rfl (by decide) (by decide) (by omega) (by omega) (Nat.le_of_ble_eq_true rfl) (ko_rn ?_)
              show T x 86 [(0, vR 0), (1, vI n9), (2, vI x9), (3, vI y9), (4, vI d9), (5, vI i9), (6, vR (brN n9))] [] (hput (hput h (brN n9 + 2) (oI 304 (edF (ed n9) (bs n9) (248 + 8 * y9 + x9) 0))) (brN n9 + 3) (oI 304 (coF (co n9) (bs n9) (248 + 8 * y9 + x9) 0))) _ _
              refine st_aload C dX10_road_86 rfl ?_
              refine st_callV (st := []) C dX10_road_88 [] (k_editCount (b := (brN n9)) (op := (op n9)) (bs := (bs n9)) (ed := (edF (ed n9) (bs n9) (248 + 8 * y9 + x9) 0)) (co := (coF (co n9) (bs n9) (248 + 8 * y9 + x9) 0)) (no := (no n9)) (hput_o (by omega) (hput_o (by omega) h_0)) (hput_o (by omega) (hput_o (by omega) h_1)) (hput_o (by omega) hput_s) hput_s (hput_o (by omega) (hput_o (by omega) h_4))) (hput_o (by omega) (hput_o (by omega) h_0)) w_X10_110 rfl (by decide) (by decide) (by omega) (by omega) (Nat.le_of_ble_eq_true rfl) (ko_rt ?_)
              show T x 91 [(0, vR 0), (1, vI n9), (2, vI x9), (3, vI y9), (4, vI d9), (5, vI i9), (6, vR (brN n9))] [vI (cnt (fun j => (edF (ed n9) (bs n9) (248 + 8 * y9 + x9) 0) j ≠ -1) 304)] _ _ _
              exact st_ireturn C F dX10_road_91 rfl (by first | exact ⟨by with_reducible rfl, by with_reducible rfl⟩ | (exfalso; omega) | exact absurd (by assumption) hQ | exact absurd hQ (by assumption)) (by omega) (by omega)
            · refine st_iconst C dX10_road_78 (by decide) ?_
              refine st_goto (tgt := 83) C dX10_road_79 (by decide) ?_
              refine st_callV (st := []) C dX10_road_83 [vI (248 + 8 * y9 + x9), vI 1] (k_put (b := (brN n9)) (op := (op n9)) (bs := (bs n9)) (ed := (ed n9)) (co := (co n9)) (no := (no n9)) (s9 := (248 + 8 * y9 + x9)) (v9 := 1) h_0 h_1 h_2 h_3 h_4 (by omega)) h_0 w_X10_128 rfl (by decide) (by decide) (by omega) (by omega) (Nat.le_of_ble_eq_true rfl) (ko_rn ?_)
              show T x 86 [(0, vR 0), (1, vI n9), (2, vI x9), (3, vI y9), (4, vI d9), (5, vI i9), (6, vR (brN n9))] [] (hput (hput h (brN n9 + 2) (oI 304 (edF (ed n9) (bs n9) (248 + 8 * y9 + x9) 1))) (brN n9 + 3) (oI 304 (coF (co n9) (bs n9) (248 + 8 * y9 + x9) 1))) _ _
              refine st_aload C dX10_road_86 rfl ?_
              refine st_callV (st := []) C dX10_road_88 [] (k_editCount (b := (brN n9)) (op := (op n9)) (bs := (bs n9)) (ed := (edF (ed n9) (bs n9) (248 + 8 * y9 + x9) 1)) (co := (coF (co n9) (bs n9) (248 + 8 * y9 + x9) 1)) (no := (no n9)) (hput_o (by omega) (hput_o (by omega) h_0)) (hput_o (by omega) (hput_o (by omega) h_1)) (hput_o (by omega) hput_s) hput_s (hput_o (by omega) (hput_o (by omega) h_4))) (hput_o (by omega) (hput_o (by omega) h_0)) w_X10_110 rfl (by decide) (by decide) (by omega) (by omega) (Nat.le_of_ble_eq_true rfl) (ko_rt ?_)
              show T x 91 [(0, vR 0), (1, vI n9), (2, vI x9), (3, vI y9), (4, vI d9), (5, vI i9), (6, vR (brN n9))] [vI (cnt (fun j => (edF (ed n9) (bs n9) (248 + 8 * y9 + x9) 1) j ≠ -1) 304)] _ _ _
              exact st_ireturn C F dX10_road_91 rfl (by first | exact ⟨by with_reducible rfl, by with_reducible rfl⟩ | (exfalso; omega) | exact absurd (by assumption) hQ | exact absurd hQ (by assumption)) (by omega) (by omega)
        · refine st_callS (st := []) C dX10_road_39 [vI y9, vI 6] (k_isWithin_f (v9 := y9) (m9 := 6)  b_39) w_X10_118 rfl (by decide) (by decide) (by omega) (by omega) (Nat.le_of_ble_eq_true rfl) (ko_rt ?_)
          show T x 42 [(0, vR 0), (1, vI n9), (2, vI x9), (3, vI y9), (4, vI d9), (5, vI i9), (6, vR (brN n9))] [vI 0] _ _ _
          refine st_if_eq (tgt := 49) C dX10_road_42 (by decide) (fun c_42 => ?_) (fun c_42 => by omega)
          refine st_iconst C dX10_road_49 (by decide) ?_
          refine st_callS (st := []) C dX10_road_50 [vI 0] k_need_f w_X10_81 rfl (by decide) (by decide) (by omega) (by omega) (Nat.le_of_ble_eq_true rfl) (ko_th ?_)
          exact st_out C F (by first | exact ⟨rfl, rfl⟩ | (exfalso; omega) | exact absurd (by assumption) hQ | exact absurd hQ (by assumption)) (by omega) (by omega)
    · refine st_callS (st := []) C dX10_road_20 [vI x9, vI 7] (k_isWithin_f (v9 := x9) (m9 := 7)  b_20) w_X10_118 rfl (by decide) (by decide) (by omega) (by omega) (Nat.le_of_ble_eq_true rfl) (ko_rt ?_)
      show T x 23 [(0, vR 0), (1, vI n9), (2, vI x9), (3, vI y9), (4, vI d9), (5, vI i9), (6, vR (brN n9))] [vI 0] _ _ _
      refine st_if_eq (tgt := 49) C dX10_road_23 (by decide) (fun c_23 => ?_) (fun c_23 => by omega)
      refine st_iconst C dX10_road_49 (by decide) ?_
      refine st_callS (st := []) C dX10_road_50 [vI 0] k_need_f w_X10_81 rfl (by decide) (by decide) (by omega) (by omega) (Nat.le_of_ble_eq_true rfl) (ko_th ?_)
      exact st_out C F (by first | exact ⟨rfl, rfl⟩ | (exfalso; omega) | exact absurd (by assumption) hQ | exact absurd hQ (by assumption)) (by omega) (by omega)
set_option maxRecDepth 20000 in
set_option maxHeartbeats 4000000 in
theorem s_road00 {g : Gx} {h : HP} {rc dc : Int} {op : Int → Int} {bs ed co no : Int → Int → Int} {mf : Int → Int} {n9 : Int} {x9 y9 i9 : Int} (hs : cS h rc dc) (hB : cB h op bs ed co no) (hM : cM h mf) (hO : 0 ≤ n9 ∧ n9 ≤ 3 ∧ op n9 = 1) (hi : i9 = 0) (hQ : 0 ≤ x9 ∧ x9 ≤ 6 ∧ 0 ≤ y9 ∧ y9 ≤ 7) : Ct g yX10_road (.code yX10_road cX10_road 7 (some .int)) 7 1 6 [vR 0, vI n9, vI x9, vI y9, vI 0, vI i9] h (Rt (some (vI (cnt (fun j => edF (ed n9) (bs n9) (192 + 7 * y9 + x9) 0 j ≠ -1) 304))) (put2 h (brN n9) (edF (ed n9) (bs n9) (192 + 7 * y9 + x9) 0) (coF (co n9) (bs n9) (192 + 7 * y9 + x9) 0))) := by
  refine Ct.of (by decide) (Nat.le_of_ble_eq_true rfl) (fun x hg C F => ?_)
  subst hg
  obtain ⟨bf, hbf, hbr⟩ := id hB
  obtain ⟨hbn, h_0, h_1, h_2, h_3, h_4, hop⟩ := hbr n9 (by omega) (by omega)
  have hbi := brN_in (i := n9) (by omega)
  show T x 0 [(0, vR 0), (1, vI n9), (2, vI x9), (3, vI y9), (4, vI 0), (5, vI i9)] [] h 0 0
  refine st_aload_n C 0 dX10_road_0 rfl rfl ?_
  refine st_iload_n C 1 dX10_road_1 rfl rfl ?_
  refine st_callV (st := []) C dX10_road_2 [vI n9] (k_openBranch_t (rc := rc) (dc := dc) (op := op) (bs := bs) (ed := ed) (co := co) (no := no) (n9 := n9) hs hB hO) hs w_X10_106 rfl (by decide) (by decide) (by omega) (by omega) (Nat.le_of_ble_eq_true rfl) (ko_rt ?_)
  show T x 5 [(0, vR 0), (1, vI n9), (2, vI x9), (3, vI y9), (4, vI 0), (5, vI i9)] [vR (brN n9)] _ _ _
  refine st_astore C dX10_road_5 (by decide) rfl ?_
  show T x 7 [(0, vR 0), (1, vI n9), (2, vI x9), (3, vI y9), (4, vI 0), (5, vI i9), (6, vR (brN n9))] [] _ _ _
  refine st_iload_n C 2 dX10_road_7 rfl rfl ?_
  refine st_iload C dX10_road_8 rfl ?_
  refine st_if_eq (tgt := 18) C dX10_road_10 (by decide) (fun c_10 => ?_) (fun c_10 => by omega)
  refine st_bipush C dX10_road_18 (by decide) (by decide) ?_
  have b_20 : 0 ≤ x9 ∧ x9 ≤ 6 := by omega
  refine st_callS (st := []) C dX10_road_20 [vI x9, vI 6] (k_isWithin_t (v9 := x9) (m9 := 6)  b_20) w_X10_118 rfl (by decide) (by decide) (by omega) (by omega) (Nat.le_of_ble_eq_true rfl) (ko_rt ?_)
  show T x 23 [(0, vR 0), (1, vI n9), (2, vI x9), (3, vI y9), (4, vI 0), (5, vI i9), (6, vR (brN n9))] [vI 1] _ _ _
  refine st_if_eq (tgt := 49) C dX10_road_23 (by decide) (fun c_23 => by omega) (fun c_23 => ?_)
  refine st_iload_n C 3 dX10_road_26 rfl rfl ?_
  refine st_iload C dX10_road_27 rfl ?_
  refine st_if_eq (tgt := 37) C dX10_road_29 (by decide) (fun c_29 => ?_) (fun c_29 => by omega)
  refine st_bipush C dX10_road_37 (by decide) (by decide) ?_
  have b_39 : 0 ≤ y9 ∧ y9 ≤ 7 := by omega
  refine st_callS (st := []) C dX10_road_39 [vI y9, vI 7] (k_isWithin_t (v9 := y9) (m9 := 7)  b_39) w_X10_118 rfl (by decide) (by decide) (by omega) (by omega) (Nat.le_of_ble_eq_true rfl) (ko_rt ?_)
  show T x 42 [(0, vR 0), (1, vI n9), (2, vI x9), (3, vI y9), (4, vI 0), (5, vI i9), (6, vR (brN n9))] [vI 1] _ _ _
  refine st_if_eq (tgt := 49) C dX10_road_42 (by decide) (fun c_42 => by omega) (fun c_42 => ?_)
  refine st_iconst C dX10_road_45 (by decide) ?_
  refine st_goto (tgt := 50) C dX10_road_46 (by decide) ?_
  refine st_callS (st := []) C dX10_road_50 [vI 1] k_need_t w_X10_81 rfl (by decide) (by decide) (by omega) (by omega) (Nat.le_of_ble_eq_true rfl) (ko_rn ?_)
  show T x 53 [(0, vR 0), (1, vI n9), (2, vI x9), (3, vI y9), (4, vI 0), (5, vI i9), (6, vR (brN n9))] [] _ _ _
  refine st_aload C dX10_road_53 rfl ?_
  refine st_iload C dX10_road_55 rfl ?_
  refine st_if_eq (tgt := 68) C dX10_road_57 (by decide) (fun c_57 => ?_) (fun c_57 => by omega)
  refine st_iload_n C 2 dX10_road_68 rfl rfl ?_
  refine st_iload_n C 3 dX10_road_69 rfl rfl ?_
  refine st_callS (st := [vR (brN n9)]) C dX10_road_70 [vI x9, vI y9] (k_rightRoad (x9 := x9) (y9 := y9) (by omega) (by omega)) w_X10_135 rfl (by decide) (by decide) (by omega) (by omega) (Nat.le_of_ble_eq_true rfl) (ko_rt ?_)
  show T x 73 [(0, vR 0), (1, vI n9), (2, vI x9), (3, vI y9), (4, vI 0), (5, vI i9), (6, vR (brN n9))] [vI (192 + 7 * y9 + x9), vR (brN n9)] _ _ _
  refine st_iload C dX10_road_73 rfl ?_
  refine st_if_eq (tgt := 82) C dX10_road_75 (by decide) (fun c_75 => ?_) (fun c_75 => ?_)
  · refine st_iconst C dX10_road_82 (by decide) ?_
    refine st_callV (st := []) C dX10_road_83 [vI (192 + 7 * y9 + x9), vI 0] (k_put (b := (brN n9)) (op := (op n9)) (bs := (bs n9)) (ed := (ed n9)) (co := (co n9)) (no := (no n9)) (s9 := (192 + 7 * y9 + x9)) (v9 := 0) h_0 h_1 h_2 h_3 h_4 (by omega)) h_0 w_X10_128 rfl (by decide) (by decide) (by omega) (by omega) (Nat.le_of_ble_eq_true rfl) (ko_rn ?_)
    show T x 86 [(0, vR 0), (1, vI n9), (2, vI x9), (3, vI y9), (4, vI 0), (5, vI i9), (6, vR (brN n9))] [] (hput (hput h (brN n9 + 2) (oI 304 (edF (ed n9) (bs n9) (192 + 7 * y9 + x9) 0))) (brN n9 + 3) (oI 304 (coF (co n9) (bs n9) (192 + 7 * y9 + x9) 0))) _ _
    refine st_aload C dX10_road_86 rfl ?_
    refine st_callV (st := []) C dX10_road_88 [] (k_editCount (b := (brN n9)) (op := (op n9)) (bs := (bs n9)) (ed := (edF (ed n9) (bs n9) (192 + 7 * y9 + x9) 0)) (co := (coF (co n9) (bs n9) (192 + 7 * y9 + x9) 0)) (no := (no n9)) (hput_o (by omega) (hput_o (by omega) h_0)) (hput_o (by omega) (hput_o (by omega) h_1)) (hput_o (by omega) hput_s) hput_s (hput_o (by omega) (hput_o (by omega) h_4))) (hput_o (by omega) (hput_o (by omega) h_0)) w_X10_110 rfl (by decide) (by decide) (by omega) (by omega) (Nat.le_of_ble_eq_true rfl) (ko_rt ?_)
    show T x 91 [(0, vR 0), (1, vI n9), (2, vI x9), (3, vI y9), (4, vI 0), (5, vI i9), (6, vR (brN n9))] [vI (cnt (fun j => (edF (ed n9) (bs n9) (192 + 7 * y9 + x9) 0) j ≠ -1) 304)] _ _ _
    exact st_ireturn C F dX10_road_91 rfl (by first | exact ⟨by with_reducible rfl, rfl⟩ | (exfalso; omega) | exact absurd (by assumption) hQ | exact absurd hQ (by assumption)) (by omega) (by omega)
  · refine st_iconst C dX10_road_78 (by decide) ?_
    refine st_goto (tgt := 83) C dX10_road_79 (by decide) ?_
    refine st_callV (st := []) C dX10_road_83 [vI (192 + 7 * y9 + x9), vI 1] (k_put (b := (brN n9)) (op := (op n9)) (bs := (bs n9)) (ed := (ed n9)) (co := (co n9)) (no := (no n9)) (s9 := (192 + 7 * y9 + x9)) (v9 := 1) h_0 h_1 h_2 h_3 h_4 (by omega)) h_0 w_X10_128 rfl (by decide) (by decide) (by omega) (by omega) (Nat.le_of_ble_eq_true rfl) (ko_rn ?_)
    show T x 86 [(0, vR 0), (1, vI n9), (2, vI x9), (3, vI y9), (4, vI 0), (5, vI i9), (6, vR (brN n9))] [] (hput (hput h (brN n9 + 2) (oI 304 (edF (ed n9) (bs n9) (192 + 7 * y9 + x9) 1))) (brN n9 + 3) (oI 304 (coF (co n9) (bs n9) (192 + 7 * y9 + x9) 1))) _ _
    refine st_aload C dX10_road_86 rfl ?_
    refine st_callV (st := []) C dX10_road_88 [] (k_editCount (b := (brN n9)) (op := (op n9)) (bs := (bs n9)) (ed := (edF (ed n9) (bs n9) (192 + 7 * y9 + x9) 1)) (co := (coF (co n9) (bs n9) (192 + 7 * y9 + x9) 1)) (no := (no n9)) (hput_o (by omega) (hput_o (by omega) h_0)) (hput_o (by omega) (hput_o (by omega) h_1)) (hput_o (by omega) hput_s) hput_s (hput_o (by omega) (hput_o (by omega) h_4))) (hput_o (by omega) (hput_o (by omega) h_0)) w_X10_110 rfl (by decide) (by decide) (by omega) (by omega) (Nat.le_of_ble_eq_true rfl) (ko_rt ?_)
    show T x 91 [(0, vR 0), (1, vI n9), (2, vI x9), (3, vI y9), (4, vI 0), (5, vI i9), (6, vR (brN n9))] [vI (cnt (fun j => (edF (ed n9) (bs n9) (192 + 7 * y9 + x9) 1) j ≠ -1) 304)] _ _ _
    exact st_ireturn C F dX10_road_91 rfl (by first | exact ⟨by with_reducible rfl, rfl⟩ | (exfalso; omega) | exact absurd (by assumption) hQ | exact absurd hQ (by assumption)) (by omega) (by omega)
set_option maxRecDepth 20000 in
set_option maxHeartbeats 4000000 in
theorem s_road01 {g : Gx} {h : HP} {rc dc : Int} {op : Int → Int} {bs ed co no : Int → Int → Int} {mf : Int → Int} {n9 : Int} {x9 y9 i9 : Int} (hs : cS h rc dc) (hB : cB h op bs ed co no) (hM : cM h mf) (hO : 0 ≤ n9 ∧ n9 ≤ 3 ∧ op n9 = 1) (hi : i9 ≠ 0) (hQ : 0 ≤ x9 ∧ x9 ≤ 6 ∧ 0 ≤ y9 ∧ y9 ≤ 7) : Ct g yX10_road (.code yX10_road cX10_road 7 (some .int)) 7 1 6 [vR 0, vI n9, vI x9, vI y9, vI 0, vI i9] h (Rt (some (vI (cnt (fun j => edF (ed n9) (bs n9) (192 + 7 * y9 + x9) 1 j ≠ -1) 304))) (put2 h (brN n9) (edF (ed n9) (bs n9) (192 + 7 * y9 + x9) 1) (coF (co n9) (bs n9) (192 + 7 * y9 + x9) 1))) := by
  refine Ct.of (by decide) (Nat.le_of_ble_eq_true rfl) (fun x hg C F => ?_)
  subst hg
  obtain ⟨bf, hbf, hbr⟩ := id hB
  obtain ⟨hbn, h_0, h_1, h_2, h_3, h_4, hop⟩ := hbr n9 (by omega) (by omega)
  have hbi := brN_in (i := n9) (by omega)
  show T x 0 [(0, vR 0), (1, vI n9), (2, vI x9), (3, vI y9), (4, vI 0), (5, vI i9)] [] h 0 0
  refine st_aload_n C 0 dX10_road_0 rfl rfl ?_
  refine st_iload_n C 1 dX10_road_1 rfl rfl ?_
  refine st_callV (st := []) C dX10_road_2 [vI n9] (k_openBranch_t (rc := rc) (dc := dc) (op := op) (bs := bs) (ed := ed) (co := co) (no := no) (n9 := n9) hs hB hO) hs w_X10_106 rfl (by decide) (by decide) (by omega) (by omega) (Nat.le_of_ble_eq_true rfl) (ko_rt ?_)
  show T x 5 [(0, vR 0), (1, vI n9), (2, vI x9), (3, vI y9), (4, vI 0), (5, vI i9)] [vR (brN n9)] _ _ _
  refine st_astore C dX10_road_5 (by decide) rfl ?_
  show T x 7 [(0, vR 0), (1, vI n9), (2, vI x9), (3, vI y9), (4, vI 0), (5, vI i9), (6, vR (brN n9))] [] _ _ _
  refine st_iload_n C 2 dX10_road_7 rfl rfl ?_
  refine st_iload C dX10_road_8 rfl ?_
  refine st_if_eq (tgt := 18) C dX10_road_10 (by decide) (fun c_10 => ?_) (fun c_10 => by omega)
  refine st_bipush C dX10_road_18 (by decide) (by decide) ?_
  have b_20 : 0 ≤ x9 ∧ x9 ≤ 6 := by omega
  refine st_callS (st := []) C dX10_road_20 [vI x9, vI 6] (k_isWithin_t (v9 := x9) (m9 := 6)  b_20) w_X10_118 rfl (by decide) (by decide) (by omega) (by omega) (Nat.le_of_ble_eq_true rfl) (ko_rt ?_)
  show T x 23 [(0, vR 0), (1, vI n9), (2, vI x9), (3, vI y9), (4, vI 0), (5, vI i9), (6, vR (brN n9))] [vI 1] _ _ _
  refine st_if_eq (tgt := 49) C dX10_road_23 (by decide) (fun c_23 => by omega) (fun c_23 => ?_)
  refine st_iload_n C 3 dX10_road_26 rfl rfl ?_
  refine st_iload C dX10_road_27 rfl ?_
  refine st_if_eq (tgt := 37) C dX10_road_29 (by decide) (fun c_29 => ?_) (fun c_29 => by omega)
  refine st_bipush C dX10_road_37 (by decide) (by decide) ?_
  have b_39 : 0 ≤ y9 ∧ y9 ≤ 7 := by omega
  refine st_callS (st := []) C dX10_road_39 [vI y9, vI 7] (k_isWithin_t (v9 := y9) (m9 := 7)  b_39) w_X10_118 rfl (by decide) (by decide) (by omega) (by omega) (Nat.le_of_ble_eq_true rfl) (ko_rt ?_)
  show T x 42 [(0, vR 0), (1, vI n9), (2, vI x9), (3, vI y9), (4, vI 0), (5, vI i9), (6, vR (brN n9))] [vI 1] _ _ _
  refine st_if_eq (tgt := 49) C dX10_road_42 (by decide) (fun c_42 => by omega) (fun c_42 => ?_)
  refine st_iconst C dX10_road_45 (by decide) ?_
  refine st_goto (tgt := 50) C dX10_road_46 (by decide) ?_
  refine st_callS (st := []) C dX10_road_50 [vI 1] k_need_t w_X10_81 rfl (by decide) (by decide) (by omega) (by omega) (Nat.le_of_ble_eq_true rfl) (ko_rn ?_)
  show T x 53 [(0, vR 0), (1, vI n9), (2, vI x9), (3, vI y9), (4, vI 0), (5, vI i9), (6, vR (brN n9))] [] _ _ _
  refine st_aload C dX10_road_53 rfl ?_
  refine st_iload C dX10_road_55 rfl ?_
  refine st_if_eq (tgt := 68) C dX10_road_57 (by decide) (fun c_57 => ?_) (fun c_57 => by omega)
  refine st_iload_n C 2 dX10_road_68 rfl rfl ?_
  refine st_iload_n C 3 dX10_road_69 rfl rfl ?_
  refine st_callS (st := [vR (brN n9)]) C dX10_road_70 [vI x9, vI y9] (k_rightRoad (x9 := x9) (y9 := y9) (by omega) (by omega)) w_X10_135 rfl (by decide) (by decide) (by omega) (by omega) (Nat.le_of_ble_eq_true rfl) (ko_rt ?_)
  show T x 73 [(0, vR 0), (1, vI n9), (2, vI x9), (3, vI y9), (4, vI 0), (5, vI i9), (6, vR (brN n9))] [vI (192 + 7 * y9 + x9), vR (brN n9)] _ _ _
  refine st_iload C dX10_road_73 rfl ?_
  refine st_if_eq (tgt := 82) C dX10_road_75 (by decide) (fun c_75 => ?_) (fun c_75 => ?_)
  · refine st_iconst C dX10_road_82 (by decide) ?_
    refine st_callV (st := []) C dX10_road_83 [vI (192 + 7 * y9 + x9), vI 0] (k_put (b := (brN n9)) (op := (op n9)) (bs := (bs n9)) (ed := (ed n9)) (co := (co n9)) (no := (no n9)) (s9 := (192 + 7 * y9 + x9)) (v9 := 0) h_0 h_1 h_2 h_3 h_4 (by omega)) h_0 w_X10_128 rfl (by decide) (by decide) (by omega) (by omega) (Nat.le_of_ble_eq_true rfl) (ko_rn ?_)
    show T x 86 [(0, vR 0), (1, vI n9), (2, vI x9), (3, vI y9), (4, vI 0), (5, vI i9), (6, vR (brN n9))] [] (hput (hput h (brN n9 + 2) (oI 304 (edF (ed n9) (bs n9) (192 + 7 * y9 + x9) 0))) (brN n9 + 3) (oI 304 (coF (co n9) (bs n9) (192 + 7 * y9 + x9) 0))) _ _
    refine st_aload C dX10_road_86 rfl ?_
    refine st_callV (st := []) C dX10_road_88 [] (k_editCount (b := (brN n9)) (op := (op n9)) (bs := (bs n9)) (ed := (edF (ed n9) (bs n9) (192 + 7 * y9 + x9) 0)) (co := (coF (co n9) (bs n9) (192 + 7 * y9 + x9) 0)) (no := (no n9)) (hput_o (by omega) (hput_o (by omega) h_0)) (hput_o (by omega) (hput_o (by omega) h_1)) (hput_o (by omega) hput_s) hput_s (hput_o (by omega) (hput_o (by omega) h_4))) (hput_o (by omega) (hput_o (by omega) h_0)) w_X10_110 rfl (by decide) (by decide) (by omega) (by omega) (Nat.le_of_ble_eq_true rfl) (ko_rt ?_)
    show T x 91 [(0, vR 0), (1, vI n9), (2, vI x9), (3, vI y9), (4, vI 0), (5, vI i9), (6, vR (brN n9))] [vI (cnt (fun j => (edF (ed n9) (bs n9) (192 + 7 * y9 + x9) 0) j ≠ -1) 304)] _ _ _
    exact st_ireturn C F dX10_road_91 rfl (by first | exact ⟨by with_reducible rfl, rfl⟩ | (exfalso; omega) | exact absurd (by assumption) hQ | exact absurd hQ (by assumption)) (by omega) (by omega)
  · refine st_iconst C dX10_road_78 (by decide) ?_
    refine st_goto (tgt := 83) C dX10_road_79 (by decide) ?_
    refine st_callV (st := []) C dX10_road_83 [vI (192 + 7 * y9 + x9), vI 1] (k_put (b := (brN n9)) (op := (op n9)) (bs := (bs n9)) (ed := (ed n9)) (co := (co n9)) (no := (no n9)) (s9 := (192 + 7 * y9 + x9)) (v9 := 1) h_0 h_1 h_2 h_3 h_4 (by omega)) h_0 w_X10_128 rfl (by decide) (by decide) (by omega) (by omega) (Nat.le_of_ble_eq_true rfl) (ko_rn ?_)
    show T x 86 [(0, vR 0), (1, vI n9), (2, vI x9), (3, vI y9), (4, vI 0), (5, vI i9), (6, vR (brN n9))] [] (hput (hput h (brN n9 + 2) (oI 304 (edF (ed n9) (bs n9) (192 + 7 * y9 + x9) 1))) (brN n9 + 3) (oI 304 (coF (co n9) (bs n9) (192 + 7 * y9 + x9) 1))) _ _
    refine st_aload C dX10_road_86 rfl ?_
    refine st_callV (st := []) C dX10_road_88 [] (k_editCount (b := (brN n9)) (op := (op n9)) (bs := (bs n9)) (ed := (edF (ed n9) (bs n9) (192 + 7 * y9 + x9) 1)) (co := (coF (co n9) (bs n9) (192 + 7 * y9 + x9) 1)) (no := (no n9)) (hput_o (by omega) (hput_o (by omega) h_0)) (hput_o (by omega) (hput_o (by omega) h_1)) (hput_o (by omega) hput_s) hput_s (hput_o (by omega) (hput_o (by omega) h_4))) (hput_o (by omega) (hput_o (by omega) h_0)) w_X10_110 rfl (by decide) (by decide) (by omega) (by omega) (Nat.le_of_ble_eq_true rfl) (ko_rt ?_)
    show T x 91 [(0, vR 0), (1, vI n9), (2, vI x9), (3, vI y9), (4, vI 0), (5, vI i9), (6, vR (brN n9))] [vI (cnt (fun j => (edF (ed n9) (bs n9) (192 + 7 * y9 + x9) 1) j ≠ -1) 304)] _ _ _
    exact st_ireturn C F dX10_road_91 rfl (by first | exact ⟨by with_reducible rfl, rfl⟩ | (exfalso; omega) | exact absurd (by assumption) hQ | exact absurd hQ (by assumption)) (by omega) (by omega)
set_option maxRecDepth 20000 in
set_option maxHeartbeats 4000000 in
theorem s_road10 {g : Gx} {h : HP} {rc dc : Int} {op : Int → Int} {bs ed co no : Int → Int → Int} {mf : Int → Int} {n9 : Int} {x9 y9 i9 : Int} (hs : cS h rc dc) (hB : cB h op bs ed co no) (hM : cM h mf) (hO : 0 ≤ n9 ∧ n9 ≤ 3 ∧ op n9 = 1) (hi : i9 = 0) (hQ : 0 ≤ x9 ∧ x9 ≤ 7 ∧ 0 ≤ y9 ∧ y9 ≤ 6) : Ct g yX10_road (.code yX10_road cX10_road 7 (some .int)) 7 1 6 [vR 0, vI n9, vI x9, vI y9, vI 1, vI i9] h (Rt (some (vI (cnt (fun j => edF (ed n9) (bs n9) (248 + 8 * y9 + x9) 0 j ≠ -1) 304))) (put2 h (brN n9) (edF (ed n9) (bs n9) (248 + 8 * y9 + x9) 0) (coF (co n9) (bs n9) (248 + 8 * y9 + x9) 0))) := by
  refine Ct.of (by decide) (Nat.le_of_ble_eq_true rfl) (fun x hg C F => ?_)
  subst hg
  obtain ⟨bf, hbf, hbr⟩ := id hB
  obtain ⟨hbn, h_0, h_1, h_2, h_3, h_4, hop⟩ := hbr n9 (by omega) (by omega)
  have hbi := brN_in (i := n9) (by omega)
  show T x 0 [(0, vR 0), (1, vI n9), (2, vI x9), (3, vI y9), (4, vI 1), (5, vI i9)] [] h 0 0
  refine st_aload_n C 0 dX10_road_0 rfl rfl ?_
  refine st_iload_n C 1 dX10_road_1 rfl rfl ?_
  refine st_callV (st := []) C dX10_road_2 [vI n9] (k_openBranch_t (rc := rc) (dc := dc) (op := op) (bs := bs) (ed := ed) (co := co) (no := no) (n9 := n9) hs hB hO) hs w_X10_106 rfl (by decide) (by decide) (by omega) (by omega) (Nat.le_of_ble_eq_true rfl) (ko_rt ?_)
  show T x 5 [(0, vR 0), (1, vI n9), (2, vI x9), (3, vI y9), (4, vI 1), (5, vI i9)] [vR (brN n9)] _ _ _
  refine st_astore C dX10_road_5 (by decide) rfl ?_
  show T x 7 [(0, vR 0), (1, vI n9), (2, vI x9), (3, vI y9), (4, vI 1), (5, vI i9), (6, vR (brN n9))] [] _ _ _
  refine st_iload_n C 2 dX10_road_7 rfl rfl ?_
  refine st_iload C dX10_road_8 rfl ?_
  refine st_if_eq (tgt := 18) C dX10_road_10 (by decide) (fun c_10 => by omega) (fun c_10 => ?_)
  refine st_bipush C dX10_road_13 (by decide) (by decide) ?_
  refine st_goto (tgt := 20) C dX10_road_15 (by decide) ?_
  have b_20 : 0 ≤ x9 ∧ x9 ≤ 7 := by omega
  refine st_callS (st := []) C dX10_road_20 [vI x9, vI 7] (k_isWithin_t (v9 := x9) (m9 := 7)  b_20) w_X10_118 rfl (by decide) (by decide) (by omega) (by omega) (Nat.le_of_ble_eq_true rfl) (ko_rt ?_)
  show T x 23 [(0, vR 0), (1, vI n9), (2, vI x9), (3, vI y9), (4, vI 1), (5, vI i9), (6, vR (brN n9))] [vI 1] _ _ _
  refine st_if_eq (tgt := 49) C dX10_road_23 (by decide) (fun c_23 => by omega) (fun c_23 => ?_)
  refine st_iload_n C 3 dX10_road_26 rfl rfl ?_
  refine st_iload C dX10_road_27 rfl ?_
  refine st_if_eq (tgt := 37) C dX10_road_29 (by decide) (fun c_29 => by omega) (fun c_29 => ?_)
  refine st_bipush C dX10_road_32 (by decide) (by decide) ?_
  refine st_goto (tgt := 39) C dX10_road_34 (by decide) ?_
  have b_39 : 0 ≤ y9 ∧ y9 ≤ 6 := by omega
  refine st_callS (st := []) C dX10_road_39 [vI y9, vI 6] (k_isWithin_t (v9 := y9) (m9 := 6)  b_39) w_X10_118 rfl (by decide) (by decide) (by omega) (by omega) (Nat.le_of_ble_eq_true rfl) (ko_rt ?_)
  show T x 42 [(0, vR 0), (1, vI n9), (2, vI x9), (3, vI y9), (4, vI 1), (5, vI i9), (6, vR (brN n9))] [vI 1] _ _ _
  refine st_if_eq (tgt := 49) C dX10_road_42 (by decide) (fun c_42 => by omega) (fun c_42 => ?_)
  refine st_iconst C dX10_road_45 (by decide) ?_
  refine st_goto (tgt := 50) C dX10_road_46 (by decide) ?_
  refine st_callS (st := []) C dX10_road_50 [vI 1] k_need_t w_X10_81 rfl (by decide) (by decide) (by omega) (by omega) (Nat.le_of_ble_eq_true rfl) (ko_rn ?_)
  show T x 53 [(0, vR 0), (1, vI n9), (2, vI x9), (3, vI y9), (4, vI 1), (5, vI i9), (6, vR (brN n9))] [] _ _ _
  refine st_aload C dX10_road_53 rfl ?_
  refine st_iload C dX10_road_55 rfl ?_
  refine st_if_eq (tgt := 68) C dX10_road_57 (by decide) (fun c_57 => by omega) (fun c_57 => ?_)
  refine st_iload_n C 2 dX10_road_60 rfl rfl ?_
  refine st_iload_n C 3 dX10_road_61 rfl rfl ?_
  refine st_callS (st := [vR (brN n9)]) C dX10_road_62 [vI x9, vI y9] (k_downRoad (x9 := x9) (y9 := y9) (by omega) (by omega)) w_X10_132 rfl (by decide) (by decide) (by omega) (by omega) (Nat.le_of_ble_eq_true rfl) (ko_rt ?_)
  show T x 65 [(0, vR 0), (1, vI n9), (2, vI x9), (3, vI y9), (4, vI 1), (5, vI i9), (6, vR (brN n9))] [vI (248 + 8 * y9 + x9), vR (brN n9)] _ _ _
  refine st_goto (tgt := 73) C dX10_road_65 (by decide) ?_
  refine st_iload C dX10_road_73 rfl ?_
  refine st_if_eq (tgt := 82) C dX10_road_75 (by decide) (fun c_75 => ?_) (fun c_75 => ?_)
  · refine st_iconst C dX10_road_82 (by decide) ?_
    refine st_callV (st := []) C dX10_road_83 [vI (248 + 8 * y9 + x9), vI 0] (k_put (b := (brN n9)) (op := (op n9)) (bs := (bs n9)) (ed := (ed n9)) (co := (co n9)) (no := (no n9)) (s9 := (248 + 8 * y9 + x9)) (v9 := 0) h_0 h_1 h_2 h_3 h_4 (by omega)) h_0 w_X10_128 rfl (by decide) (by decide) (by omega) (by omega) (Nat.le_of_ble_eq_true rfl) (ko_rn ?_)
    show T x 86 [(0, vR 0), (1, vI n9), (2, vI x9), (3, vI y9), (4, vI 1), (5, vI i9), (6, vR (brN n9))] [] (hput (hput h (brN n9 + 2) (oI 304 (edF (ed n9) (bs n9) (248 + 8 * y9 + x9) 0))) (brN n9 + 3) (oI 304 (coF (co n9) (bs n9) (248 + 8 * y9 + x9) 0))) _ _
    refine st_aload C dX10_road_86 rfl ?_
    refine st_callV (st := []) C dX10_road_88 [] (k_editCount (b := (brN n9)) (op := (op n9)) (bs := (bs n9)) (ed := (edF (ed n9) (bs n9) (248 + 8 * y9 + x9) 0)) (co := (coF (co n9) (bs n9) (248 + 8 * y9 + x9) 0)) (no := (no n9)) (hput_o (by omega) (hput_o (by omega) h_0)) (hput_o (by omega) (hput_o (by omega) h_1)) (hput_o (by omega) hput_s) hput_s (hput_o (by omega) (hput_o (by omega) h_4))) (hput_o (by omega) (hput_o (by omega) h_0)) w_X10_110 rfl (by decide) (by decide) (by omega) (by omega) (Nat.le_of_ble_eq_true rfl) (ko_rt ?_)
    show T x 91 [(0, vR 0), (1, vI n9), (2, vI x9), (3, vI y9), (4, vI 1), (5, vI i9), (6, vR (brN n9))] [vI (cnt (fun j => (edF (ed n9) (bs n9) (248 + 8 * y9 + x9) 0) j ≠ -1) 304)] _ _ _
    exact st_ireturn C F dX10_road_91 rfl (by first | exact ⟨by with_reducible rfl, rfl⟩ | (exfalso; omega) | exact absurd (by assumption) hQ | exact absurd hQ (by assumption)) (by omega) (by omega)
  · refine st_iconst C dX10_road_78 (by decide) ?_
    refine st_goto (tgt := 83) C dX10_road_79 (by decide) ?_
    refine st_callV (st := []) C dX10_road_83 [vI (248 + 8 * y9 + x9), vI 1] (k_put (b := (brN n9)) (op := (op n9)) (bs := (bs n9)) (ed := (ed n9)) (co := (co n9)) (no := (no n9)) (s9 := (248 + 8 * y9 + x9)) (v9 := 1) h_0 h_1 h_2 h_3 h_4 (by omega)) h_0 w_X10_128 rfl (by decide) (by decide) (by omega) (by omega) (Nat.le_of_ble_eq_true rfl) (ko_rn ?_)
    show T x 86 [(0, vR 0), (1, vI n9), (2, vI x9), (3, vI y9), (4, vI 1), (5, vI i9), (6, vR (brN n9))] [] (hput (hput h (brN n9 + 2) (oI 304 (edF (ed n9) (bs n9) (248 + 8 * y9 + x9) 1))) (brN n9 + 3) (oI 304 (coF (co n9) (bs n9) (248 + 8 * y9 + x9) 1))) _ _
    refine st_aload C dX10_road_86 rfl ?_
    refine st_callV (st := []) C dX10_road_88 [] (k_editCount (b := (brN n9)) (op := (op n9)) (bs := (bs n9)) (ed := (edF (ed n9) (bs n9) (248 + 8 * y9 + x9) 1)) (co := (coF (co n9) (bs n9) (248 + 8 * y9 + x9) 1)) (no := (no n9)) (hput_o (by omega) (hput_o (by omega) h_0)) (hput_o (by omega) (hput_o (by omega) h_1)) (hput_o (by omega) hput_s) hput_s (hput_o (by omega) (hput_o (by omega) h_4))) (hput_o (by omega) (hput_o (by omega) h_0)) w_X10_110 rfl (by decide) (by decide) (by omega) (by omega) (Nat.le_of_ble_eq_true rfl) (ko_rt ?_)
    show T x 91 [(0, vR 0), (1, vI n9), (2, vI x9), (3, vI y9), (4, vI 1), (5, vI i9), (6, vR (brN n9))] [vI (cnt (fun j => (edF (ed n9) (bs n9) (248 + 8 * y9 + x9) 1) j ≠ -1) 304)] _ _ _
    exact st_ireturn C F dX10_road_91 rfl (by first | exact ⟨by with_reducible rfl, rfl⟩ | (exfalso; omega) | exact absurd (by assumption) hQ | exact absurd hQ (by assumption)) (by omega) (by omega)
set_option maxRecDepth 20000 in
set_option maxHeartbeats 4000000 in
theorem s_road11 {g : Gx} {h : HP} {rc dc : Int} {op : Int → Int} {bs ed co no : Int → Int → Int} {mf : Int → Int} {n9 : Int} {x9 y9 i9 : Int} (hs : cS h rc dc) (hB : cB h op bs ed co no) (hM : cM h mf) (hO : 0 ≤ n9 ∧ n9 ≤ 3 ∧ op n9 = 1) (hi : i9 ≠ 0) (hQ : 0 ≤ x9 ∧ x9 ≤ 7 ∧ 0 ≤ y9 ∧ y9 ≤ 6) : Ct g yX10_road (.code yX10_road cX10_road 7 (some .int)) 7 1 6 [vR 0, vI n9, vI x9, vI y9, vI 1, vI i9] h (Rt (some (vI (cnt (fun j => edF (ed n9) (bs n9) (248 + 8 * y9 + x9) 1 j ≠ -1) 304))) (put2 h (brN n9) (edF (ed n9) (bs n9) (248 + 8 * y9 + x9) 1) (coF (co n9) (bs n9) (248 + 8 * y9 + x9) 1))) := by
  refine Ct.of (by decide) (Nat.le_of_ble_eq_true rfl) (fun x hg C F => ?_)
  subst hg
  obtain ⟨bf, hbf, hbr⟩ := id hB
  obtain ⟨hbn, h_0, h_1, h_2, h_3, h_4, hop⟩ := hbr n9 (by omega) (by omega)
  have hbi := brN_in (i := n9) (by omega)
  show T x 0 [(0, vR 0), (1, vI n9), (2, vI x9), (3, vI y9), (4, vI 1), (5, vI i9)] [] h 0 0
  refine st_aload_n C 0 dX10_road_0 rfl rfl ?_
  refine st_iload_n C 1 dX10_road_1 rfl rfl ?_
  refine st_callV (st := []) C dX10_road_2 [vI n9] (k_openBranch_t (rc := rc) (dc := dc) (op := op) (bs := bs) (ed := ed) (co := co) (no := no) (n9 := n9) hs hB hO) hs w_X10_106 rfl (by decide) (by decide) (by omega) (by omega) (Nat.le_of_ble_eq_true rfl) (ko_rt ?_)
  show T x 5 [(0, vR 0), (1, vI n9), (2, vI x9), (3, vI y9), (4, vI 1), (5, vI i9)] [vR (brN n9)] _ _ _
  refine st_astore C dX10_road_5 (by decide) rfl ?_
  show T x 7 [(0, vR 0), (1, vI n9), (2, vI x9), (3, vI y9), (4, vI 1), (5, vI i9), (6, vR (brN n9))] [] _ _ _
  refine st_iload_n C 2 dX10_road_7 rfl rfl ?_
  refine st_iload C dX10_road_8 rfl ?_
  refine st_if_eq (tgt := 18) C dX10_road_10 (by decide) (fun c_10 => by omega) (fun c_10 => ?_)
  refine st_bipush C dX10_road_13 (by decide) (by decide) ?_
  refine st_goto (tgt := 20) C dX10_road_15 (by decide) ?_
  have b_20 : 0 ≤ x9 ∧ x9 ≤ 7 := by omega
  refine st_callS (st := []) C dX10_road_20 [vI x9, vI 7] (k_isWithin_t (v9 := x9) (m9 := 7)  b_20) w_X10_118 rfl (by decide) (by decide) (by omega) (by omega) (Nat.le_of_ble_eq_true rfl) (ko_rt ?_)
  show T x 23 [(0, vR 0), (1, vI n9), (2, vI x9), (3, vI y9), (4, vI 1), (5, vI i9), (6, vR (brN n9))] [vI 1] _ _ _
  refine st_if_eq (tgt := 49) C dX10_road_23 (by decide) (fun c_23 => by omega) (fun c_23 => ?_)
  refine st_iload_n C 3 dX10_road_26 rfl rfl ?_
  refine st_iload C dX10_road_27 rfl ?_
  refine st_if_eq (tgt := 37) C dX10_road_29 (by decide) (fun c_29 => by omega) (fun c_29 => ?_)
  refine st_bipush C dX10_road_32 (by decide) (by decide) ?_
  refine st_goto (tgt := 39) C dX10_road_34 (by decide) ?_
  have b_39 : 0 ≤ y9 ∧ y9 ≤ 6 := by omega
  refine st_callS (st := []) C dX10_road_39 [vI y9, vI 6] (k_isWithin_t (v9 := y9) (m9 := 6)  b_39) w_X10_118 rfl (by decide) (by decide) (by omega) (by omega) (Nat.le_of_ble_eq_true rfl) (ko_rt ?_)
  show T x 42 [(0, vR 0), (1, vI n9), (2, vI x9), (3, vI y9), (4, vI 1), (5, vI i9), (6, vR (brN n9))] [vI 1] _ _ _
  refine st_if_eq (tgt := 49) C dX10_road_42 (by decide) (fun c_42 => by omega) (fun c_42 => ?_)
  refine st_iconst C dX10_road_45 (by decide) ?_
  refine st_goto (tgt := 50) C dX10_road_46 (by decide) ?_
  refine st_callS (st := []) C dX10_road_50 [vI 1] k_need_t w_X10_81 rfl (by decide) (by decide) (by omega) (by omega) (Nat.le_of_ble_eq_true rfl) (ko_rn ?_)
  show T x 53 [(0, vR 0), (1, vI n9), (2, vI x9), (3, vI y9), (4, vI 1), (5, vI i9), (6, vR (brN n9))] [] _ _ _
  refine st_aload C dX10_road_53 rfl ?_
  refine st_iload C dX10_road_55 rfl ?_
  refine st_if_eq (tgt := 68) C dX10_road_57 (by decide) (fun c_57 => by omega) (fun c_57 => ?_)
  refine st_iload_n C 2 dX10_road_60 rfl rfl ?_
  refine st_iload_n C 3 dX10_road_61 rfl rfl ?_
  refine st_callS (st := [vR (brN n9)]) C dX10_road_62 [vI x9, vI y9] (k_downRoad (x9 := x9) (y9 := y9) (by omega) (by omega)) w_X10_132 rfl (by decide) (by decide) (by omega) (by omega) (Nat.le_of_ble_eq_true rfl) (ko_rt ?_)
  show T x 65 [(0, vR 0), (1, vI n9), (2, vI x9), (3, vI y9), (4, vI 1), (5, vI i9), (6, vR (brN n9))] [vI (248 + 8 * y9 + x9), vR (brN n9)] _ _ _
  refine st_goto (tgt := 73) C dX10_road_65 (by decide) ?_
  refine st_iload C dX10_road_73 rfl ?_
  refine st_if_eq (tgt := 82) C dX10_road_75 (by decide) (fun c_75 => ?_) (fun c_75 => ?_)
  · refine st_iconst C dX10_road_82 (by decide) ?_
    refine st_callV (st := []) C dX10_road_83 [vI (248 + 8 * y9 + x9), vI 0] (k_put (b := (brN n9)) (op := (op n9)) (bs := (bs n9)) (ed := (ed n9)) (co := (co n9)) (no := (no n9)) (s9 := (248 + 8 * y9 + x9)) (v9 := 0) h_0 h_1 h_2 h_3 h_4 (by omega)) h_0 w_X10_128 rfl (by decide) (by decide) (by omega) (by omega) (Nat.le_of_ble_eq_true rfl) (ko_rn ?_)
    show T x 86 [(0, vR 0), (1, vI n9), (2, vI x9), (3, vI y9), (4, vI 1), (5, vI i9), (6, vR (brN n9))] [] (hput (hput h (brN n9 + 2) (oI 304 (edF (ed n9) (bs n9) (248 + 8 * y9 + x9) 0))) (brN n9 + 3) (oI 304 (coF (co n9) (bs n9) (248 + 8 * y9 + x9) 0))) _ _
    refine st_aload C dX10_road_86 rfl ?_
    refine st_callV (st := []) C dX10_road_88 [] (k_editCount (b := (brN n9)) (op := (op n9)) (bs := (bs n9)) (ed := (edF (ed n9) (bs n9) (248 + 8 * y9 + x9) 0)) (co := (coF (co n9) (bs n9) (248 + 8 * y9 + x9) 0)) (no := (no n9)) (hput_o (by omega) (hput_o (by omega) h_0)) (hput_o (by omega) (hput_o (by omega) h_1)) (hput_o (by omega) hput_s) hput_s (hput_o (by omega) (hput_o (by omega) h_4))) (hput_o (by omega) (hput_o (by omega) h_0)) w_X10_110 rfl (by decide) (by decide) (by omega) (by omega) (Nat.le_of_ble_eq_true rfl) (ko_rt ?_)
    show T x 91 [(0, vR 0), (1, vI n9), (2, vI x9), (3, vI y9), (4, vI 1), (5, vI i9), (6, vR (brN n9))] [vI (cnt (fun j => (edF (ed n9) (bs n9) (248 + 8 * y9 + x9) 0) j ≠ -1) 304)] _ _ _
    exact st_ireturn C F dX10_road_91 rfl (by first | exact ⟨by with_reducible rfl, rfl⟩ | (exfalso; omega) | exact absurd (by assumption) hQ | exact absurd hQ (by assumption)) (by omega) (by omega)
  · refine st_iconst C dX10_road_78 (by decide) ?_
    refine st_goto (tgt := 83) C dX10_road_79 (by decide) ?_
    refine st_callV (st := []) C dX10_road_83 [vI (248 + 8 * y9 + x9), vI 1] (k_put (b := (brN n9)) (op := (op n9)) (bs := (bs n9)) (ed := (ed n9)) (co := (co n9)) (no := (no n9)) (s9 := (248 + 8 * y9 + x9)) (v9 := 1) h_0 h_1 h_2 h_3 h_4 (by omega)) h_0 w_X10_128 rfl (by decide) (by decide) (by omega) (by omega) (Nat.le_of_ble_eq_true rfl) (ko_rn ?_)
    show T x 86 [(0, vR 0), (1, vI n9), (2, vI x9), (3, vI y9), (4, vI 1), (5, vI i9), (6, vR (brN n9))] [] (hput (hput h (brN n9 + 2) (oI 304 (edF (ed n9) (bs n9) (248 + 8 * y9 + x9) 1))) (brN n9 + 3) (oI 304 (coF (co n9) (bs n9) (248 + 8 * y9 + x9) 1))) _ _
    refine st_aload C dX10_road_86 rfl ?_
    refine st_callV (st := []) C dX10_road_88 [] (k_editCount (b := (brN n9)) (op := (op n9)) (bs := (bs n9)) (ed := (edF (ed n9) (bs n9) (248 + 8 * y9 + x9) 1)) (co := (coF (co n9) (bs n9) (248 + 8 * y9 + x9) 1)) (no := (no n9)) (hput_o (by omega) (hput_o (by omega) h_0)) (hput_o (by omega) (hput_o (by omega) h_1)) (hput_o (by omega) hput_s) hput_s (hput_o (by omega) (hput_o (by omega) h_4))) (hput_o (by omega) (hput_o (by omega) h_0)) w_X10_110 rfl (by decide) (by decide) (by omega) (by omega) (Nat.le_of_ble_eq_true rfl) (ko_rt ?_)
    show T x 91 [(0, vR 0), (1, vI n9), (2, vI x9), (3, vI y9), (4, vI 1), (5, vI i9), (6, vR (brN n9))] [vI (cnt (fun j => (edF (ed n9) (bs n9) (248 + 8 * y9 + x9) 1) j ≠ -1) 304)] _ _ _
    exact st_ireturn C F dX10_road_91 rfl (by first | exact ⟨by with_reducible rfl, rfl⟩ | (exfalso; omega) | exact absurd (by assumption) hQ | exact absurd hQ (by assumption)) (by omega) (by omega)
set_option maxRecDepth 20000 in
set_option maxHeartbeats 4000000 in
theorem s_conflict_x2 {g : Gx} {h : HP} {rc dc : Int} {op : Int → Int} {bs ed co no : Int → Int → Int} {mf : Int → Int} {n9 : Int} {k9 r9 : Int} (hs : cS h rc dc) (hB : cB h op bs ed co no) (hM : cM h mf) (hO : 0 ≤ n9 ∧ n9 ≤ 3 ∧ op n9 = 1) (hr : IsNth (fun j => Cf (ed n9) (bs n9) (co n9) j (mf j)) 304 k9 r9) (hQ : r9 = -1) : Ct g yX10_conflict (.code yX10_conflict cX10_conflict 4 (some .int)) 7 1 6 [vR 0, vI n9, vI k9] h (Th "java/util/NoSuchElementException" h) := by
  refine Ct.of (by decide) (Nat.le_of_ble_eq_true rfl) (fun x hg C F => ?_)
  subst hg
  obtain ⟨bf, hbf, hbr⟩ := id hB
  obtain ⟨hbn, h_0, h_1, h_2, h_3, h_4, hop⟩ := hbr n9 (by omega) (by omega)
  have hbi := brN_in (i := n9) (by omega)
  show T x 0 [(0, vR 0), (1, vI n9), (2, vI k9)] [] h 0 0
  refine st_aload_n C 0 dX10_conflict_0 rfl rfl ?_
  refine st_iload_n C 1 dX10_conflict_1 rfl rfl ?_
  refine st_callV (st := []) C dX10_conflict_2 [vI n9] (k_openBranch_t (rc := rc) (dc := dc) (op := op) (bs := bs) (ed := ed) (co := co) (no := no) (n9 := n9) hs hB hO) hs w_X10_106 rfl (by decide) (by decide) (by omega) (by omega) (Nat.le_of_ble_eq_true rfl) (ko_rt ?_)
  show T x 5 [(0, vR 0), (1, vI n9), (2, vI k9)] [vR (brN n9)] _ _ _
  refine st_iload_n C 2 dX10_conflict_5 rfl rfl ?_
  refine st_aload_n C 0 dX10_conflict_6 rfl rfl ?_
  refine st_getf C dX10_conflict_7 fl_X10_9 hs rfl ?_
  refine st_callV (st := []) C dX10_conflict_10 [vI k9, vR 1] (k_conflictAt (b := (brN n9)) (op := (op n9)) (bs := (bs n9)) (ed := (ed n9)) (co := (co n9)) (no := (no n9)) (mf := mf) (k9 := k9) (r9 := r9) h_0 h_1 h_2 h_3 h_4 hM hr) h_0 w_X10_150 rfl (by decide) (by decide) (by omega) (by omega) (Nat.le_of_ble_eq_true rfl) (ko_rt ?_)
  show T x 13 [(0, vR 0), (1, vI n9), (2, vI k9)] [vI r9] _ _ _
  refine st_istore_n C 3 dX10_conflict_13 rfl (by decide) rfl ?_
  show T x 14 [(0, vR 0), (1, vI n9), (2, vI k9), (3, vI r9)] [] _ _ _
  refine st_iload_n C 3 dX10_conflict_14 rfl rfl ?_
  refine st_iconst C dX10_conflict_15 (by decide) ?_
  refine st_icmp_ne (tgt := 27) C dX10_conflict_16 (by decide) (fun c_16 => by omega) (fun c_16 => ?_)
  exact st_throw C F dX10_conflict_19 dX10_conflict_22 dX10_conflict_23 dX10_conflict_26 xw_X10_154 (by decide) (by first | exact ⟨rfl, rfl⟩ | (exfalso; omega) | exact absurd (by assumption) hQ | exact absurd hQ (by assumption)) (by omega) (by omega)
set_option maxRecDepth 20000 in
set_option maxHeartbeats 4000000 in
theorem s_conflict {g : Gx} {h : HP} {rc dc : Int} {op : Int → Int} {bs ed co no : Int → Int → Int} {mf : Int → Int} {n9 : Int} {k9 r9 : Int} (hs : cS h rc dc) (hB : cB h op bs ed co no) (hM : cM h mf) (hO : 0 ≤ n9 ∧ n9 ≤ 3 ∧ op n9 = 1) (hr : IsNth (fun j => Cf (ed n9) (bs n9) (co n9) j (mf j)) 304 k9 r9) (hQ : r9 ≠ -1) : Ct g yX10_conflict (.code yX10_conflict cX10_conflict 4 (some .int)) 7 1 6 [vR 0, vI n9, vI k9] h (Rt (some (vI r9)) h) := by
  refine Ct.of (by decide) (Nat.le_of_ble_eq_true rfl) (fun x hg C F => ?_)
  subst hg
  obtain ⟨bf, hbf, hbr⟩ := id hB
  obtain ⟨hbn, h_0, h_1, h_2, h_3, h_4, hop⟩ := hbr n9 (by omega) (by omega)
  have hbi := brN_in (i := n9) (by omega)
  show T x 0 [(0, vR 0), (1, vI n9), (2, vI k9)] [] h 0 0
  refine st_aload_n C 0 dX10_conflict_0 rfl rfl ?_
  refine st_iload_n C 1 dX10_conflict_1 rfl rfl ?_
  refine st_callV (st := []) C dX10_conflict_2 [vI n9] (k_openBranch_t (rc := rc) (dc := dc) (op := op) (bs := bs) (ed := ed) (co := co) (no := no) (n9 := n9) hs hB hO) hs w_X10_106 rfl (by decide) (by decide) (by omega) (by omega) (Nat.le_of_ble_eq_true rfl) (ko_rt ?_)
  show T x 5 [(0, vR 0), (1, vI n9), (2, vI k9)] [vR (brN n9)] _ _ _
  refine st_iload_n C 2 dX10_conflict_5 rfl rfl ?_
  refine st_aload_n C 0 dX10_conflict_6 rfl rfl ?_
  refine st_getf C dX10_conflict_7 fl_X10_9 hs rfl ?_
  refine st_callV (st := []) C dX10_conflict_10 [vI k9, vR 1] (k_conflictAt (b := (brN n9)) (op := (op n9)) (bs := (bs n9)) (ed := (ed n9)) (co := (co n9)) (no := (no n9)) (mf := mf) (k9 := k9) (r9 := r9) h_0 h_1 h_2 h_3 h_4 hM hr) h_0 w_X10_150 rfl (by decide) (by decide) (by omega) (by omega) (Nat.le_of_ble_eq_true rfl) (ko_rt ?_)
  show T x 13 [(0, vR 0), (1, vI n9), (2, vI k9)] [vI r9] _ _ _
  refine st_istore_n C 3 dX10_conflict_13 rfl (by decide) rfl ?_
  show T x 14 [(0, vR 0), (1, vI n9), (2, vI k9), (3, vI r9)] [] _ _ _
  refine st_iload_n C 3 dX10_conflict_14 rfl rfl ?_
  refine st_iconst C dX10_conflict_15 (by decide) ?_
  refine st_icmp_ne (tgt := 27) C dX10_conflict_16 (by decide) (fun c_16 => ?_) (fun c_16 => ?_)
  · refine st_iload_n C 3 dX10_conflict_27 rfl rfl ?_
    exact st_ireturn C F dX10_conflict_28 rfl (by first | exact ⟨by with_reducible rfl, by with_reducible rfl⟩ | (exfalso; omega) | exact absurd (by assumption) hQ | exact absurd hQ (by assumption)) (by omega) (by omega)
  · exact st_throw C F dX10_conflict_19 dX10_conflict_22 dX10_conflict_23 dX10_conflict_26 xw_X10_154 (by decide) (by first | exact ⟨rfl, rfl⟩ | (exfalso; omega) | exact absurd (by assumption) hQ | exact absurd hQ (by assumption)) (by omega) (by omega)
set_option maxRecDepth 20000 in
set_option maxHeartbeats 4000000 in
theorem s_settle_x2 {g : Gx} {h : HP} {rc dc : Int} {op : Int → Int} {bs ed co no : Int → Int → Int} {mf : Int → Int} {n9 : Int} {s9 o9 : Int} (hs : cS h rc dc) (hB : cB h op bs ed co no) (hM : cM h mf) (hO : 0 ≤ n9 ∧ n9 ≤ 3 ∧ op n9 = 1) (hQ : ¬ (0 ≤ s9 ∧ s9 ≤ 303)) : Ct g yX10_settle (.code yX10_settle cX10_settle 5 (some .int)) 7 1 6 [vR 0, vI n9, vI s9, vI o9] h (Th "java/lang/IllegalArgumentException" h) := by
  refine Ct.of (by decide) (Nat.le_of_ble_eq_true rfl) (fun x hg C F => ?_)
  subst hg
  obtain ⟨bf, hbf, hbr⟩ := id hB
  obtain ⟨hbn, h_0, h_1, h_2, h_3, h_4, hop⟩ := hbr n9 (by omega) (by omega)
  have hbi := brN_in (i := n9) (by omega)
  show T x 0 [(0, vR 0), (1, vI n9), (2, vI s9), (3, vI o9)] [] h 0 0
  refine st_aload_n C 0 dX10_settle_0 rfl rfl ?_
  refine st_iload_n C 1 dX10_settle_1 rfl rfl ?_
  refine st_callV (st := []) C dX10_settle_2 [vI n9] (k_openBranch_t (rc := rc) (dc := dc) (op := op) (bs := bs) (ed := ed) (co := co) (no := no) (n9 := n9) hs hB hO) hs w_X10_106 rfl (by decide) (by decide) (by omega) (by omega) (Nat.le_of_ble_eq_true rfl) (ko_rt ?_)
  show T x 5 [(0, vR 0), (1, vI n9), (2, vI s9), (3, vI o9)] [vR (brN n9)] _ _ _
  refine st_astore C dX10_settle_5 (by decide) rfl ?_
  show T x 7 [(0, vR 0), (1, vI n9), (2, vI s9), (3, vI o9), (4, vR (brN n9))] [] _ _ _
  refine st_iload_n C 2 dX10_settle_7 rfl rfl ?_
  by_cases b_8 : 0 ≤ s9 ∧ s9 ≤ 303
  · refine st_callS (st := []) C dX10_settle_8 [vI s9] (k_isSpot_t (v9 := s9)  b_8) w_X10_138 rfl (by decide) (by decide) (by omega) (by omega) (Nat.le_of_ble_eq_true rfl) (ko_rt ?_)
    show T x 11 [(0, vR 0), (1, vI n9), (2, vI s9), (3, vI o9), (4, vR (brN n9))] [vI 1] _ _ _
    refine st_callS (st := []) C dX10_settle_11 [vI 1] k_need_t w_X10_81 rfl (by decide) (by decide) (by omega) (by omega) (Nat.le_of_ble_eq_true rfl) (ko_rn ?_)
    show T x 14 [(0, vR 0), (1, vI n9), (2, vI s9), (3, vI o9), (4, vR (brN n9))] [] _ _ _
    refine st_aload C dX10_settle_14 rfl ?_
    refine st_iload_n C 2 dX10_settle_16 rfl rfl ?_
    refine st_aload_n C 0 dX10_settle_17 rfl rfl ?_
    refine st_getf C dX10_settle_18 fl_X10_9 hs rfl ?_
    refine st_iload_n C 2 dX10_settle_21 rfl rfl ?_
    refine st_iald C dX10_settle_22 hM (by omega) (by omega) ?_
    by_cases b_23 : Cf (ed n9) (bs n9) (co n9) s9 (mf s9)
    · refine st_callV (st := []) C dX10_settle_23 [vI s9, vI (mf s9)] (k_isConflict_t (b := (brN n9)) (op := (op n9)) (bs := (bs n9)) (ed := (ed n9)) (co := (co n9)) (no := (no n9)) (s9 := s9) (v9 := (mf s9)) h_0 h_1 h_2 h_3 h_4 (by omega) b_23) h_0 w_X10_157 rfl (by decide) (by decide) (by omega) (by omega) (Nat.le_of_ble_eq_true rfl) (ko_rt ?_)
      show T x 26 [(0, vR 0), (1, vI n9), (2, vI s9), (3, vI o9), (4, vR (brN n9))] [vI 1] _ _ _
      refine st_if_ne (tgt := 37) C dX10_settle_26 (by decide) (fun c_26 => ?_) (fun c_26 => by omega)
      refine st_iload_n C 3 dX10_settle_37 rfl rfl ?_
      refine st_if_eq (tgt := 56) C dX10_settle_38 (by decide) (fun c_38 => ?_) (fun c_38 => ?_)
      · refine st_aload C dX10_settle_56 rfl ?_
        refine st_iload_n C 2 dX10_settle_58 rfl rfl ?_
        refine st_callV (st := []) C dX10_settle_59 [vI s9] (k_takeAway (b := (brN n9)) (op := (op n9)) (bs := (bs n9)) (ed := (ed n9)) (co := (co n9)) (no := (no n9)) (s9 := s9) h_0 h_1 h_2 h_3 h_4 (by omega)) h_0 w_X10_163 rfl (by decide) (by decide) (by omega) (by omega) (Nat.le_of_ble_eq_true rfl) (ko_rn ?_)
        show T x 62 [(0, vR 0), (1, vI n9), (2, vI s9), (3, vI o9), (4, vR (brN n9))] [] (hput (hput h (brN n9 + 2) (oI 304 (fput (ed n9) s9 (-1)))) (brN n9 + 3) (oI 304 (fput (co n9) s9 (-1)))) _ _
        refine st_aload C dX10_settle_62 rfl ?_
        refine st_aload_n C 0 dX10_settle_64 rfl rfl ?_
        refine st_getf C dX10_settle_65 fl_X10_9 (hput_o (by omega) (hput_o (by omega) hs)) rfl ?_
        refine st_callV (st := []) C dX10_settle_68 [vR 1] (k_conflictCount (b := (brN n9)) (op := (op n9)) (bs := (bs n9)) (ed := (fput (ed n9) s9 (-1))) (co := (fput (co n9) s9 (-1))) (no := (no n9)) (mf := mf) (hput_o (by omega) (hput_o (by omega) h_0)) (hput_o (by omega) (hput_o (by omega) h_1)) (hput_o (by omega) hput_s) hput_s (hput_o (by omega) (hput_o (by omega) h_4)) (hput_o (by omega) (hput_o (by omega) hM))) (hput_o (by omega) (hput_o (by omega) h_0)) w_X10_146 rfl (by decide) (by decide) (by omega) (by omega) (Nat.le_of_ble_eq_true rfl) (ko_rt ?_)
        show T x 71 [(0, vR 0), (1, vI n9), (2, vI s9), (3, vI o9), (4, vR (brN n9))] [vI (cnt (fun j => Cf (fput (ed n9) s9 (-1)) (bs n9) (fput (co n9) s9 (-1)) j (mf j)) 304)] _ _ _
        exact st_ireturn C F dX10_settle_71 rfl (by first | exact ⟨by with_reducible rfl, by with_reducible rfl⟩ | (exfalso; omega) | exact absurd (by assumption) hQ | exact absurd hQ (by assumption)) (by omega) (by omega)
      · refine st_aload C dX10_settle_41 rfl ?_
        refine st_iload_n C 2 dX10_settle_43 rfl rfl ?_
        refine st_aload_n C 0 dX10_settle_44 rfl rfl ?_
        refine st_getf C dX10_settle_45 fl_X10_9 hs rfl ?_
        refine st_iload_n C 2 dX10_settle_48 rfl rfl ?_
        refine st_iald C dX10_settle_49 hM (by omega) (by omega) ?_
        refine st_callV (st := []) C dX10_settle_50 [vI s9, vI (mf s9)] (k_ownCountsOver (b := (brN n9)) (op := (op n9)) (bs := (bs n9)) (ed := (ed n9)) (co := (co n9)) (no := (no n9)) (s9 := s9) (v9 := (mf s9)) h_0 h_1 h_2 h_3 h_4 (by omega)) h_0 w_X10_160 rfl (by decide) (by decide) (by omega) (by omega) (Nat.le_of_ble_eq_true rfl) (ko_rn ?_)
        show T x 53 [(0, vR 0), (1, vI n9), (2, vI s9), (3, vI o9), (4, vR (brN n9))] [] (hput h (brN n9 + 3) (oI 304 (fput (co n9) s9 (mf s9)))) _ _
        refine st_goto (tgt := 62) C dX10_settle_53 (by decide) ?_
        refine st_aload C dX10_settle_62 rfl ?_
        refine st_aload_n C 0 dX10_settle_64 rfl rfl ?_
        refine st_getf C dX10_settle_65 fl_X10_9 (hput_o (by omega) hs) rfl ?_
        refine st_callV (st := []) C dX10_settle_68 [vR 1] (k_conflictCount (b := (brN n9)) (op := (op n9)) (bs := (bs n9)) (ed := (ed n9)) (co := (fput (co n9) s9 (mf s9))) (no := (no n9)) (mf := mf) (hput_o (by omega) h_0) (hput_o (by omega) h_1) (hput_o (by omega) h_2) hput_s (hput_o (by omega) h_4) (hput_o (by omega) hM)) (hput_o (by omega) h_0) w_X10_146 rfl (by decide) (by decide) (by omega) (by omega) (Nat.le_of_ble_eq_true rfl) (ko_rt ?_)
        show T x 71 [(0, vR 0), (1, vI n9), (2, vI s9), (3, vI o9), (4, vR (brN n9))] [vI (cnt (fun j => Cf (ed n9) (bs n9) (fput (co n9) s9 (mf s9)) j (mf j)) 304)] _ _ _
        exact st_ireturn C F dX10_settle_71 rfl (by first | exact ⟨by with_reducible rfl, by with_reducible rfl⟩ | (exfalso; omega) | exact absurd (by assumption) hQ | exact absurd hQ (by assumption)) (by omega) (by omega)
    · refine st_callV (st := []) C dX10_settle_23 [vI s9, vI (mf s9)] (k_isConflict_f (b := (brN n9)) (op := (op n9)) (bs := (bs n9)) (ed := (ed n9)) (co := (co n9)) (no := (no n9)) (s9 := s9) (v9 := (mf s9)) h_0 h_1 h_2 h_3 h_4 (by omega) b_23) h_0 w_X10_157 rfl (by decide) (by decide) (by omega) (by omega) (Nat.le_of_ble_eq_true rfl) (ko_rt ?_)
      show T x 26 [(0, vR 0), (1, vI n9), (2, vI s9), (3, vI o9), (4, vR (brN n9))] [vI 0] _ _ _
      refine st_if_ne (tgt := 37) C dX10_settle_26 (by decide) (fun c_26 => by omega) (fun c_26 => ?_)
      exact st_throw C F dX10_settle_29 dX10_settle_32 dX10_settle_33 dX10_settle_36 xw_X10_92 (by decide) (by first | exact ⟨rfl, rfl⟩ | (exfalso; omega) | exact absurd (by assumption) hQ | exact absurd hQ (by assumption)) (by omega) (by omega)
  · refine st_callS (st := []) C dX10_settle_8 [vI s9] (k_isSpot_f (v9 := s9)  b_8) w_X10_138 rfl (by decide) (by decide) (by omega) (by omega) (Nat.le_of_ble_eq_true rfl) (ko_rt ?_)
    show T x 11 [(0, vR 0), (1, vI n9), (2, vI s9), (3, vI o9), (4, vR (brN n9))] [vI 0] _ _ _
    refine st_callS (st := []) C dX10_settle_11 [vI 0] k_need_f w_X10_81 rfl (by decide) (by decide) (by omega) (by omega) (Nat.le_of_ble_eq_true rfl) (ko_th ?_)
    exact st_out C F (by first | exact ⟨rfl, rfl⟩ | (exfalso; omega) | exact absurd (by assumption) hQ | exact absurd hQ (by assumption)) (by omega) (by omega)
set_option maxRecDepth 20000 in
set_option maxHeartbeats 4000000 in
theorem s_settle_x3 {g : Gx} {h : HP} {rc dc : Int} {op : Int → Int} {bs ed co no : Int → Int → Int} {mf : Int → Int} {n9 : Int} {s9 o9 : Int} (hs : cS h rc dc) (hB : cB h op bs ed co no) (hM : cM h mf) (hO : 0 ≤ n9 ∧ n9 ≤ 3 ∧ op n9 = 1) (hq : 0 ≤ s9 ∧ s9 ≤ 303) (hQ : ¬ Cf (ed n9) (bs n9) (co n9) s9 (mf s9)) : Ct g yX10_settle (.code yX10_settle cX10_settle 5 (some .int)) 7 1 6 [vR 0, vI n9, vI s9, vI o9] h (Th "java/lang/UnsupportedOperationException" h) := by
  refine Ct.of (by decide) (Nat.le_of_ble_eq_true rfl) (fun x hg C F => ?_)
  subst hg
  obtain ⟨bf, hbf, hbr⟩ := id hB
  obtain ⟨hbn, h_0, h_1, h_2, h_3, h_4, hop⟩ := hbr n9 (by omega) (by omega)
  have hbi := brN_in (i := n9) (by omega)
  show T x 0 [(0, vR 0), (1, vI n9), (2, vI s9), (3, vI o9)] [] h 0 0
  refine st_aload_n C 0 dX10_settle_0 rfl rfl ?_
  refine st_iload_n C 1 dX10_settle_1 rfl rfl ?_
  refine st_callV (st := []) C dX10_settle_2 [vI n9] (k_openBranch_t (rc := rc) (dc := dc) (op := op) (bs := bs) (ed := ed) (co := co) (no := no) (n9 := n9) hs hB hO) hs w_X10_106 rfl (by decide) (by decide) (by omega) (by omega) (Nat.le_of_ble_eq_true rfl) (ko_rt ?_)
  show T x 5 [(0, vR 0), (1, vI n9), (2, vI s9), (3, vI o9)] [vR (brN n9)] _ _ _
  refine st_astore C dX10_settle_5 (by decide) rfl ?_
  show T x 7 [(0, vR 0), (1, vI n9), (2, vI s9), (3, vI o9), (4, vR (brN n9))] [] _ _ _
  refine st_iload_n C 2 dX10_settle_7 rfl rfl ?_
  have b_8 : 0 ≤ s9 ∧ s9 ≤ 303 := by omega
  refine st_callS (st := []) C dX10_settle_8 [vI s9] (k_isSpot_t (v9 := s9)  b_8) w_X10_138 rfl (by decide) (by decide) (by omega) (by omega) (Nat.le_of_ble_eq_true rfl) (ko_rt ?_)
  show T x 11 [(0, vR 0), (1, vI n9), (2, vI s9), (3, vI o9), (4, vR (brN n9))] [vI 1] _ _ _
  refine st_callS (st := []) C dX10_settle_11 [vI 1] k_need_t w_X10_81 rfl (by decide) (by decide) (by omega) (by omega) (Nat.le_of_ble_eq_true rfl) (ko_rn ?_)
  show T x 14 [(0, vR 0), (1, vI n9), (2, vI s9), (3, vI o9), (4, vR (brN n9))] [] _ _ _
  refine st_aload C dX10_settle_14 rfl ?_
  refine st_iload_n C 2 dX10_settle_16 rfl rfl ?_
  refine st_aload_n C 0 dX10_settle_17 rfl rfl ?_
  refine st_getf C dX10_settle_18 fl_X10_9 hs rfl ?_
  refine st_iload_n C 2 dX10_settle_21 rfl rfl ?_
  refine st_iald C dX10_settle_22 hM (by omega) (by omega) ?_
  by_cases b_23 : Cf (ed n9) (bs n9) (co n9) s9 (mf s9)
  · refine st_callV (st := []) C dX10_settle_23 [vI s9, vI (mf s9)] (k_isConflict_t (b := (brN n9)) (op := (op n9)) (bs := (bs n9)) (ed := (ed n9)) (co := (co n9)) (no := (no n9)) (s9 := s9) (v9 := (mf s9)) h_0 h_1 h_2 h_3 h_4 (by omega) b_23) h_0 w_X10_157 rfl (by decide) (by decide) (by omega) (by omega) (Nat.le_of_ble_eq_true rfl) (ko_rt ?_)
    show T x 26 [(0, vR 0), (1, vI n9), (2, vI s9), (3, vI o9), (4, vR (brN n9))] [vI 1] _ _ _
    refine st_if_ne (tgt := 37) C dX10_settle_26 (by decide) (fun c_26 => ?_) (fun c_26 => by omega)
    refine st_iload_n C 3 dX10_settle_37 rfl rfl ?_
    refine st_if_eq (tgt := 56) C dX10_settle_38 (by decide) (fun c_38 => ?_) (fun c_38 => ?_)
    · refine st_aload C dX10_settle_56 rfl ?_
      refine st_iload_n C 2 dX10_settle_58 rfl rfl ?_
      refine st_callV (st := []) C dX10_settle_59 [vI s9] (k_takeAway (b := (brN n9)) (op := (op n9)) (bs := (bs n9)) (ed := (ed n9)) (co := (co n9)) (no := (no n9)) (s9 := s9) h_0 h_1 h_2 h_3 h_4 (by omega)) h_0 w_X10_163 rfl (by decide) (by decide) (by omega) (by omega) (Nat.le_of_ble_eq_true rfl) (ko_rn ?_)
      show T x 62 [(0, vR 0), (1, vI n9), (2, vI s9), (3, vI o9), (4, vR (brN n9))] [] (hput (hput h (brN n9 + 2) (oI 304 (fput (ed n9) s9 (-1)))) (brN n9 + 3) (oI 304 (fput (co n9) s9 (-1)))) _ _
      refine st_aload C dX10_settle_62 rfl ?_
      refine st_aload_n C 0 dX10_settle_64 rfl rfl ?_
      refine st_getf C dX10_settle_65 fl_X10_9 (hput_o (by omega) (hput_o (by omega) hs)) rfl ?_
      refine st_callV (st := []) C dX10_settle_68 [vR 1] (k_conflictCount (b := (brN n9)) (op := (op n9)) (bs := (bs n9)) (ed := (fput (ed n9) s9 (-1))) (co := (fput (co n9) s9 (-1))) (no := (no n9)) (mf := mf) (hput_o (by omega) (hput_o (by omega) h_0)) (hput_o (by omega) (hput_o (by omega) h_1)) (hput_o (by omega) hput_s) hput_s (hput_o (by omega) (hput_o (by omega) h_4)) (hput_o (by omega) (hput_o (by omega) hM))) (hput_o (by omega) (hput_o (by omega) h_0)) w_X10_146 rfl (by decide) (by decide) (by omega) (by omega) (Nat.le_of_ble_eq_true rfl) (ko_rt ?_)
      show T x 71 [(0, vR 0), (1, vI n9), (2, vI s9), (3, vI o9), (4, vR (brN n9))] [vI (cnt (fun j => Cf (fput (ed n9) s9 (-1)) (bs n9) (fput (co n9) s9 (-1)) j (mf j)) 304)] _ _ _
      exact st_ireturn C F dX10_settle_71 rfl (by first | exact ⟨by with_reducible rfl, by with_reducible rfl⟩ | (exfalso; omega) | exact absurd (by assumption) hQ | exact absurd hQ (by assumption)) (by omega) (by omega)
    · refine st_aload C dX10_settle_41 rfl ?_
      refine st_iload_n C 2 dX10_settle_43 rfl rfl ?_
      refine st_aload_n C 0 dX10_settle_44 rfl rfl ?_
      refine st_getf C dX10_settle_45 fl_X10_9 hs rfl ?_
      refine st_iload_n C 2 dX10_settle_48 rfl rfl ?_
      refine st_iald C dX10_settle_49 hM (by omega) (by omega) ?_
      refine st_callV (st := []) C dX10_settle_50 [vI s9, vI (mf s9)] (k_ownCountsOver (b := (brN n9)) (op := (op n9)) (bs := (bs n9)) (ed := (ed n9)) (co := (co n9)) (no := (no n9)) (s9 := s9) (v9 := (mf s9)) h_0 h_1 h_2 h_3 h_4 (by omega)) h_0 w_X10_160 rfl (by decide) (by decide) (by omega) (by omega) (Nat.le_of_ble_eq_true rfl) (ko_rn ?_)
      show T x 53 [(0, vR 0), (1, vI n9), (2, vI s9), (3, vI o9), (4, vR (brN n9))] [] (hput h (brN n9 + 3) (oI 304 (fput (co n9) s9 (mf s9)))) _ _
      refine st_goto (tgt := 62) C dX10_settle_53 (by decide) ?_
      refine st_aload C dX10_settle_62 rfl ?_
      refine st_aload_n C 0 dX10_settle_64 rfl rfl ?_
      refine st_getf C dX10_settle_65 fl_X10_9 (hput_o (by omega) hs) rfl ?_
      refine st_callV (st := []) C dX10_settle_68 [vR 1] (k_conflictCount (b := (brN n9)) (op := (op n9)) (bs := (bs n9)) (ed := (ed n9)) (co := (fput (co n9) s9 (mf s9))) (no := (no n9)) (mf := mf) (hput_o (by omega) h_0) (hput_o (by omega) h_1) (hput_o (by omega) h_2) hput_s (hput_o (by omega) h_4) (hput_o (by omega) hM)) (hput_o (by omega) h_0) w_X10_146 rfl (by decide) (by decide) (by omega) (by omega) (Nat.le_of_ble_eq_true rfl) (ko_rt ?_)
      show T x 71 [(0, vR 0), (1, vI n9), (2, vI s9), (3, vI o9), (4, vR (brN n9))] [vI (cnt (fun j => Cf (ed n9) (bs n9) (fput (co n9) s9 (mf s9)) j (mf j)) 304)] _ _ _
      exact st_ireturn C F dX10_settle_71 rfl (by first | exact ⟨by with_reducible rfl, by with_reducible rfl⟩ | (exfalso; omega) | exact absurd (by assumption) hQ | exact absurd hQ (by assumption)) (by omega) (by omega)
  · refine st_callV (st := []) C dX10_settle_23 [vI s9, vI (mf s9)] (k_isConflict_f (b := (brN n9)) (op := (op n9)) (bs := (bs n9)) (ed := (ed n9)) (co := (co n9)) (no := (no n9)) (s9 := s9) (v9 := (mf s9)) h_0 h_1 h_2 h_3 h_4 (by omega) b_23) h_0 w_X10_157 rfl (by decide) (by decide) (by omega) (by omega) (Nat.le_of_ble_eq_true rfl) (ko_rt ?_)
    show T x 26 [(0, vR 0), (1, vI n9), (2, vI s9), (3, vI o9), (4, vR (brN n9))] [vI 0] _ _ _
    refine st_if_ne (tgt := 37) C dX10_settle_26 (by decide) (fun c_26 => by omega) (fun c_26 => ?_)
    exact st_throw C F dX10_settle_29 dX10_settle_32 dX10_settle_33 dX10_settle_36 xw_X10_92 (by decide) (by first | exact ⟨rfl, rfl⟩ | (exfalso; omega) | exact absurd (by assumption) hQ | exact absurd hQ (by assumption)) (by omega) (by omega)
set_option maxRecDepth 20000 in
set_option maxHeartbeats 4000000 in
theorem s_settle_o {g : Gx} {h : HP} {rc dc : Int} {op : Int → Int} {bs ed co no : Int → Int → Int} {mf : Int → Int} {n9 : Int} {s9 o9 : Int} (hs : cS h rc dc) (hB : cB h op bs ed co no) (hM : cM h mf) (hO : 0 ≤ n9 ∧ n9 ≤ 3 ∧ op n9 = 1) (hq : 0 ≤ s9 ∧ s9 ≤ 303) (hQ : Cf (ed n9) (bs n9) (co n9) s9 (mf s9)) (ho : o9 ≠ 0) : Ct g yX10_settle (.code yX10_settle cX10_settle 5 (some .int)) 7 1 6 [vR 0, vI n9, vI s9, vI o9] h (Rt (some (vI (cnt (fun j => Cf (ed n9) (bs n9) (fput (co n9) s9 (mf s9)) j (mf j)) 304))) (hput h (brN n9 + 3) (oI 304 (fput (co n9) s9 (mf s9))))) := by
  refine Ct.of (by decide) (Nat.le_of_ble_eq_true rfl) (fun x hg C F => ?_)
  subst hg
  obtain ⟨bf, hbf, hbr⟩ := id hB
  obtain ⟨hbn, h_0, h_1, h_2, h_3, h_4, hop⟩ := hbr n9 (by omega) (by omega)
  have hbi := brN_in (i := n9) (by omega)
  show T x 0 [(0, vR 0), (1, vI n9), (2, vI s9), (3, vI o9)] [] h 0 0
  refine st_aload_n C 0 dX10_settle_0 rfl rfl ?_
  refine st_iload_n C 1 dX10_settle_1 rfl rfl ?_
  refine st_callV (st := []) C dX10_settle_2 [vI n9] (k_openBranch_t (rc := rc) (dc := dc) (op := op) (bs := bs) (ed := ed) (co := co) (no := no) (n9 := n9) hs hB hO) hs w_X10_106 rfl (by decide) (by decide) (by omega) (by omega) (Nat.le_of_ble_eq_true rfl) (ko_rt ?_)
  show T x 5 [(0, vR 0), (1, vI n9), (2, vI s9), (3, vI o9)] [vR (brN n9)] _ _ _
  refine st_astore C dX10_settle_5 (by decide) rfl ?_
  show T x 7 [(0, vR 0), (1, vI n9), (2, vI s9), (3, vI o9), (4, vR (brN n9))] [] _ _ _
  refine st_iload_n C 2 dX10_settle_7 rfl rfl ?_
  have b_8 : 0 ≤ s9 ∧ s9 ≤ 303 := by omega
  refine st_callS (st := []) C dX10_settle_8 [vI s9] (k_isSpot_t (v9 := s9)  b_8) w_X10_138 rfl (by decide) (by decide) (by omega) (by omega) (Nat.le_of_ble_eq_true rfl) (ko_rt ?_)
  show T x 11 [(0, vR 0), (1, vI n9), (2, vI s9), (3, vI o9), (4, vR (brN n9))] [vI 1] _ _ _
  refine st_callS (st := []) C dX10_settle_11 [vI 1] k_need_t w_X10_81 rfl (by decide) (by decide) (by omega) (by omega) (Nat.le_of_ble_eq_true rfl) (ko_rn ?_)
  show T x 14 [(0, vR 0), (1, vI n9), (2, vI s9), (3, vI o9), (4, vR (brN n9))] [] _ _ _
  refine st_aload C dX10_settle_14 rfl ?_
  refine st_iload_n C 2 dX10_settle_16 rfl rfl ?_
  refine st_aload_n C 0 dX10_settle_17 rfl rfl ?_
  refine st_getf C dX10_settle_18 fl_X10_9 hs rfl ?_
  refine st_iload_n C 2 dX10_settle_21 rfl rfl ?_
  refine st_iald C dX10_settle_22 hM (by omega) (by omega) ?_
  by_cases b_23 : Cf (ed n9) (bs n9) (co n9) s9 (mf s9)
  · refine st_callV (st := []) C dX10_settle_23 [vI s9, vI (mf s9)] (k_isConflict_t (b := (brN n9)) (op := (op n9)) (bs := (bs n9)) (ed := (ed n9)) (co := (co n9)) (no := (no n9)) (s9 := s9) (v9 := (mf s9)) h_0 h_1 h_2 h_3 h_4 (by omega) b_23) h_0 w_X10_157 rfl (by decide) (by decide) (by omega) (by omega) (Nat.le_of_ble_eq_true rfl) (ko_rt ?_)
    show T x 26 [(0, vR 0), (1, vI n9), (2, vI s9), (3, vI o9), (4, vR (brN n9))] [vI 1] _ _ _
    refine st_if_ne (tgt := 37) C dX10_settle_26 (by decide) (fun c_26 => ?_) (fun c_26 => by omega)
    refine st_iload_n C 3 dX10_settle_37 rfl rfl ?_
    refine st_if_eq (tgt := 56) C dX10_settle_38 (by decide) (fun c_38 => ?_) (fun c_38 => ?_)
    · refine st_aload C dX10_settle_56 rfl ?_
      refine st_iload_n C 2 dX10_settle_58 rfl rfl ?_
      refine st_callV (st := []) C dX10_settle_59 [vI s9] (k_takeAway (b := (brN n9)) (op := (op n9)) (bs := (bs n9)) (ed := (ed n9)) (co := (co n9)) (no := (no n9)) (s9 := s9) h_0 h_1 h_2 h_3 h_4 (by omega)) h_0 w_X10_163 rfl (by decide) (by decide) (by omega) (by omega) (Nat.le_of_ble_eq_true rfl) (ko_rn ?_)
      show T x 62 [(0, vR 0), (1, vI n9), (2, vI s9), (3, vI o9), (4, vR (brN n9))] [] (hput (hput h (brN n9 + 2) (oI 304 (fput (ed n9) s9 (-1)))) (brN n9 + 3) (oI 304 (fput (co n9) s9 (-1)))) _ _
      refine st_aload C dX10_settle_62 rfl ?_
      refine st_aload_n C 0 dX10_settle_64 rfl rfl ?_
      refine st_getf C dX10_settle_65 fl_X10_9 (hput_o (by omega) (hput_o (by omega) hs)) rfl ?_
      refine st_callV (st := []) C dX10_settle_68 [vR 1] (k_conflictCount (b := (brN n9)) (op := (op n9)) (bs := (bs n9)) (ed := (fput (ed n9) s9 (-1))) (co := (fput (co n9) s9 (-1))) (no := (no n9)) (mf := mf) (hput_o (by omega) (hput_o (by omega) h_0)) (hput_o (by omega) (hput_o (by omega) h_1)) (hput_o (by omega) hput_s) hput_s (hput_o (by omega) (hput_o (by omega) h_4)) (hput_o (by omega) (hput_o (by omega) hM))) (hput_o (by omega) (hput_o (by omega) h_0)) w_X10_146 rfl (by decide) (by decide) (by omega) (by omega) (Nat.le_of_ble_eq_true rfl) (ko_rt ?_)
      show T x 71 [(0, vR 0), (1, vI n9), (2, vI s9), (3, vI o9), (4, vR (brN n9))] [vI (cnt (fun j => Cf (fput (ed n9) s9 (-1)) (bs n9) (fput (co n9) s9 (-1)) j (mf j)) 304)] _ _ _
      exact st_ireturn C F dX10_settle_71 rfl (by first | exact ⟨by with_reducible rfl, by with_reducible rfl⟩ | (exfalso; omega) | exact absurd (by assumption) hQ | exact absurd hQ (by assumption)) (by omega) (by omega)
    · refine st_aload C dX10_settle_41 rfl ?_
      refine st_iload_n C 2 dX10_settle_43 rfl rfl ?_
      refine st_aload_n C 0 dX10_settle_44 rfl rfl ?_
      refine st_getf C dX10_settle_45 fl_X10_9 hs rfl ?_
      refine st_iload_n C 2 dX10_settle_48 rfl rfl ?_
      refine st_iald C dX10_settle_49 hM (by omega) (by omega) ?_
      refine st_callV (st := []) C dX10_settle_50 [vI s9, vI (mf s9)] (k_ownCountsOver (b := (brN n9)) (op := (op n9)) (bs := (bs n9)) (ed := (ed n9)) (co := (co n9)) (no := (no n9)) (s9 := s9) (v9 := (mf s9)) h_0 h_1 h_2 h_3 h_4 (by omega)) h_0 w_X10_160 rfl (by decide) (by decide) (by omega) (by omega) (Nat.le_of_ble_eq_true rfl) (ko_rn ?_)
      show T x 53 [(0, vR 0), (1, vI n9), (2, vI s9), (3, vI o9), (4, vR (brN n9))] [] (hput h (brN n9 + 3) (oI 304 (fput (co n9) s9 (mf s9)))) _ _
      refine st_goto (tgt := 62) C dX10_settle_53 (by decide) ?_
      refine st_aload C dX10_settle_62 rfl ?_
      refine st_aload_n C 0 dX10_settle_64 rfl rfl ?_
      refine st_getf C dX10_settle_65 fl_X10_9 (hput_o (by omega) hs) rfl ?_
      refine st_callV (st := []) C dX10_settle_68 [vR 1] (k_conflictCount (b := (brN n9)) (op := (op n9)) (bs := (bs n9)) (ed := (ed n9)) (co := (fput (co n9) s9 (mf s9))) (no := (no n9)) (mf := mf) (hput_o (by omega) h_0) (hput_o (by omega) h_1) (hput_o (by omega) h_2) hput_s (hput_o (by omega) h_4) (hput_o (by omega) hM)) (hput_o (by omega) h_0) w_X10_146 rfl (by decide) (by decide) (by omega) (by omega) (Nat.le_of_ble_eq_true rfl) (ko_rt ?_)
      show T x 71 [(0, vR 0), (1, vI n9), (2, vI s9), (3, vI o9), (4, vR (brN n9))] [vI (cnt (fun j => Cf (ed n9) (bs n9) (fput (co n9) s9 (mf s9)) j (mf j)) 304)] _ _ _
      exact st_ireturn C F dX10_settle_71 rfl (by first | exact ⟨by with_reducible rfl, by with_reducible rfl⟩ | (exfalso; omega) | exact absurd (by assumption) hQ | exact absurd hQ (by assumption)) (by omega) (by omega)
  · refine st_callV (st := []) C dX10_settle_23 [vI s9, vI (mf s9)] (k_isConflict_f (b := (brN n9)) (op := (op n9)) (bs := (bs n9)) (ed := (ed n9)) (co := (co n9)) (no := (no n9)) (s9 := s9) (v9 := (mf s9)) h_0 h_1 h_2 h_3 h_4 (by omega) b_23) h_0 w_X10_157 rfl (by decide) (by decide) (by omega) (by omega) (Nat.le_of_ble_eq_true rfl) (ko_rt ?_)
    show T x 26 [(0, vR 0), (1, vI n9), (2, vI s9), (3, vI o9), (4, vR (brN n9))] [vI 0] _ _ _
    refine st_if_ne (tgt := 37) C dX10_settle_26 (by decide) (fun c_26 => by omega) (fun c_26 => ?_)
    exact st_throw C F dX10_settle_29 dX10_settle_32 dX10_settle_33 dX10_settle_36 xw_X10_92 (by decide) (by first | exact ⟨rfl, rfl⟩ | (exfalso; omega) | exact absurd (by assumption) hQ | exact absurd hQ (by assumption)) (by omega) (by omega)
set_option maxRecDepth 20000 in
set_option maxHeartbeats 4000000 in
theorem s_settle_b {g : Gx} {h : HP} {rc dc : Int} {op : Int → Int} {bs ed co no : Int → Int → Int} {mf : Int → Int} {n9 : Int} {s9 o9 : Int} (hs : cS h rc dc) (hB : cB h op bs ed co no) (hM : cM h mf) (hO : 0 ≤ n9 ∧ n9 ≤ 3 ∧ op n9 = 1) (hq : 0 ≤ s9 ∧ s9 ≤ 303) (hQ : Cf (ed n9) (bs n9) (co n9) s9 (mf s9)) (ho : o9 = 0) : Ct g yX10_settle (.code yX10_settle cX10_settle 5 (some .int)) 7 1 6 [vR 0, vI n9, vI s9, vI o9] h (Rt (some (vI (cnt (fun j => Cf (fput (ed n9) s9 (-1)) (bs n9) (fput (co n9) s9 (-1)) j (mf j)) 304))) (put2 h (brN n9) (fput (ed n9) s9 (-1)) (fput (co n9) s9 (-1)))) := by
  refine Ct.of (by decide) (Nat.le_of_ble_eq_true rfl) (fun x hg C F => ?_)
  subst hg
  obtain ⟨bf, hbf, hbr⟩ := id hB
  obtain ⟨hbn, h_0, h_1, h_2, h_3, h_4, hop⟩ := hbr n9 (by omega) (by omega)
  have hbi := brN_in (i := n9) (by omega)
  show T x 0 [(0, vR 0), (1, vI n9), (2, vI s9), (3, vI o9)] [] h 0 0
  refine st_aload_n C 0 dX10_settle_0 rfl rfl ?_
  refine st_iload_n C 1 dX10_settle_1 rfl rfl ?_
  refine st_callV (st := []) C dX10_settle_2 [vI n9] (k_openBranch_t (rc := rc) (dc := dc) (op := op) (bs := bs) (ed := ed) (co := co) (no := no) (n9 := n9) hs hB hO) hs w_X10_106 rfl (by decide) (by decide) (by omega) (by omega) (Nat.le_of_ble_eq_true rfl) (ko_rt ?_)
  show T x 5 [(0, vR 0), (1, vI n9), (2, vI s9), (3, vI o9)] [vR (brN n9)] _ _ _
  refine st_astore C dX10_settle_5 (by decide) rfl ?_
  show T x 7 [(0, vR 0), (1, vI n9), (2, vI s9), (3, vI o9), (4, vR (brN n9))] [] _ _ _
  refine st_iload_n C 2 dX10_settle_7 rfl rfl ?_
  have b_8 : 0 ≤ s9 ∧ s9 ≤ 303 := by omega
  refine st_callS (st := []) C dX10_settle_8 [vI s9] (k_isSpot_t (v9 := s9)  b_8) w_X10_138 rfl (by decide) (by decide) (by omega) (by omega) (Nat.le_of_ble_eq_true rfl) (ko_rt ?_)
  show T x 11 [(0, vR 0), (1, vI n9), (2, vI s9), (3, vI o9), (4, vR (brN n9))] [vI 1] _ _ _
  refine st_callS (st := []) C dX10_settle_11 [vI 1] k_need_t w_X10_81 rfl (by decide) (by decide) (by omega) (by omega) (Nat.le_of_ble_eq_true rfl) (ko_rn ?_)
  show T x 14 [(0, vR 0), (1, vI n9), (2, vI s9), (3, vI o9), (4, vR (brN n9))] [] _ _ _
  refine st_aload C dX10_settle_14 rfl ?_
  refine st_iload_n C 2 dX10_settle_16 rfl rfl ?_
  refine st_aload_n C 0 dX10_settle_17 rfl rfl ?_
  refine st_getf C dX10_settle_18 fl_X10_9 hs rfl ?_
  refine st_iload_n C 2 dX10_settle_21 rfl rfl ?_
  refine st_iald C dX10_settle_22 hM (by omega) (by omega) ?_
  by_cases b_23 : Cf (ed n9) (bs n9) (co n9) s9 (mf s9)
  · refine st_callV (st := []) C dX10_settle_23 [vI s9, vI (mf s9)] (k_isConflict_t (b := (brN n9)) (op := (op n9)) (bs := (bs n9)) (ed := (ed n9)) (co := (co n9)) (no := (no n9)) (s9 := s9) (v9 := (mf s9)) h_0 h_1 h_2 h_3 h_4 (by omega) b_23) h_0 w_X10_157 rfl (by decide) (by decide) (by omega) (by omega) (Nat.le_of_ble_eq_true rfl) (ko_rt ?_)
    show T x 26 [(0, vR 0), (1, vI n9), (2, vI s9), (3, vI o9), (4, vR (brN n9))] [vI 1] _ _ _
    refine st_if_ne (tgt := 37) C dX10_settle_26 (by decide) (fun c_26 => ?_) (fun c_26 => by omega)
    refine st_iload_n C 3 dX10_settle_37 rfl rfl ?_
    refine st_if_eq (tgt := 56) C dX10_settle_38 (by decide) (fun c_38 => ?_) (fun c_38 => by omega)
    refine st_aload C dX10_settle_56 rfl ?_
    refine st_iload_n C 2 dX10_settle_58 rfl rfl ?_
    refine st_callV (st := []) C dX10_settle_59 [vI s9] (k_takeAway (b := (brN n9)) (op := (op n9)) (bs := (bs n9)) (ed := (ed n9)) (co := (co n9)) (no := (no n9)) (s9 := s9) h_0 h_1 h_2 h_3 h_4 (by omega)) h_0 w_X10_163 rfl (by decide) (by decide) (by omega) (by omega) (Nat.le_of_ble_eq_true rfl) (ko_rn ?_)
    show T x 62 [(0, vR 0), (1, vI n9), (2, vI s9), (3, vI o9), (4, vR (brN n9))] [] (hput (hput h (brN n9 + 2) (oI 304 (fput (ed n9) s9 (-1)))) (brN n9 + 3) (oI 304 (fput (co n9) s9 (-1)))) _ _
    refine st_aload C dX10_settle_62 rfl ?_
    refine st_aload_n C 0 dX10_settle_64 rfl rfl ?_
    refine st_getf C dX10_settle_65 fl_X10_9 (hput_o (by omega) (hput_o (by omega) hs)) rfl ?_
    refine st_callV (st := []) C dX10_settle_68 [vR 1] (k_conflictCount (b := (brN n9)) (op := (op n9)) (bs := (bs n9)) (ed := (fput (ed n9) s9 (-1))) (co := (fput (co n9) s9 (-1))) (no := (no n9)) (mf := mf) (hput_o (by omega) (hput_o (by omega) h_0)) (hput_o (by omega) (hput_o (by omega) h_1)) (hput_o (by omega) hput_s) hput_s (hput_o (by omega) (hput_o (by omega) h_4)) (hput_o (by omega) (hput_o (by omega) hM))) (hput_o (by omega) (hput_o (by omega) h_0)) w_X10_146 rfl (by decide) (by decide) (by omega) (by omega) (Nat.le_of_ble_eq_true rfl) (ko_rt ?_)
    show T x 71 [(0, vR 0), (1, vI n9), (2, vI s9), (3, vI o9), (4, vR (brN n9))] [vI (cnt (fun j => Cf (fput (ed n9) s9 (-1)) (bs n9) (fput (co n9) s9 (-1)) j (mf j)) 304)] _ _ _
    exact st_ireturn C F dX10_settle_71 rfl (by first | exact ⟨by with_reducible rfl, rfl⟩ | (exfalso; omega) | exact absurd (by assumption) hQ | exact absurd hQ (by assumption)) (by omega) (by omega)
  · refine st_callV (st := []) C dX10_settle_23 [vI s9, vI (mf s9)] (k_isConflict_f (b := (brN n9)) (op := (op n9)) (bs := (bs n9)) (ed := (ed n9)) (co := (co n9)) (no := (no n9)) (s9 := s9) (v9 := (mf s9)) h_0 h_1 h_2 h_3 h_4 (by omega) b_23) h_0 w_X10_157 rfl (by decide) (by decide) (by omega) (by omega) (Nat.le_of_ble_eq_true rfl) (ko_rt ?_)
    show T x 26 [(0, vR 0), (1, vI n9), (2, vI s9), (3, vI o9), (4, vR (brN n9))] [vI 0] _ _ _
    refine st_if_ne (tgt := 37) C dX10_settle_26 (by decide) (fun c_26 => by omega) (fun c_26 => ?_)
    exact st_throw C F dX10_settle_29 dX10_settle_32 dX10_settle_33 dX10_settle_36 xw_X10_92 (by decide) (by first | exact ⟨rfl, rfl⟩ | (exfalso; omega) | exact absurd (by assumption) hQ | exact absurd hQ (by assumption)) (by omega) (by omega)
