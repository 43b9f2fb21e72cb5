/-! the reference's routes: rounds -/
def RI (J : Int → Int → Prop) (st r : Int) (f : Int → Int) : Prop := (∀ p, 0 ≤ p → p ≤ 63 → 0 ≤ f p ∧ f p ≤ 999 ∧ (f p = 999 ∨ Path J st (f p).toNat p)) ∧ ∀ p, 0 ≤ p → p ≤ 63 → ∀ n : Nat, (n : Int) ≤ r → Path J st n p → f p ≤ n
def RJ (J : Int → Int → Prop) (st r k : Int) (f : Int → Int) : Prop := RI J st r f ∧ ∀ j, 0 ≤ j → j < k → Path J st r.toNat (j / 4) → 0 ≤ mbes (j / 4) (j % 4) → J (j / 4) (mbes (j / 4) (j % 4)) → f (mbes (j / 4) (j % 4)) ≤ r + 1
theorem RI_0 {J : Int → Int → Prop} {st : Int} {f : Int → Int} (hf : ∀ p, 0 ≤ p → p ≤ 63 → f p = if p = st then 0 else 999) : RI J st 0 f := by
  refine ⟨fun p p1 p2 => ?_, fun p p1 p2 n hn hp => ?_⟩
  · have := hf p p1 p2
    by_cases e : p = st
    · rw [if_pos e] at this; rw [this]; exact ⟨by omega, by omega, Or.inr e⟩
    · rw [if_neg e] at this; rw [this]; exact ⟨by omega, by omega, Or.inl rfl⟩
  · have hn0 : n = 0 := by omega
    subst hn0
    have := hf p p1 p2
    rw [if_pos (show p = st from hp)] at this; omega
theorem RJ_0 {J : Int → Int → Prop} {st r : Int} {f : Int → Int} (h : RI J st r f) : RJ J st r 0 f := ⟨h, fun j h1 h2 => absurd h2 (by omega)⟩
theorem mb_adj {J : Int → Int → Prop} {p w : Int} (hw : 0 ≤ w ∧ w ≤ 3) (h : 0 ≤ mbes p w) (hJ : J p (mbes p w)) : Adj J p (mbes p w) := by
  obtain ⟨d, d1, d2, d3⟩ := mb_bes (p := p) hw
  exact ⟨d, d1, d2, d3, by omega, hJ⟩
theorem RJ_t {J : Int → Int → Prop} {st r k : Int} {f : Int → Int} (hr : 0 ≤ r) (hk : 0 ≤ k ∧ k < 256) (h : RJ J st r k f) (c1 : 0 ≤ mbes (k / 4) (k % 4)) (c2 : J (k / 4) (mbes (k / 4) (k % 4))) (c3 : f (k / 4) + 1 < f (mbes (k / 4) (k % 4))) : RJ J st r (k + 1) (fput f (mbes (k / 4) (k % 4)) (f (k / 4) + 1)) := by
  obtain ⟨⟨h1, h2⟩, h3⟩ := h
  have ha := h1 (k / 4) (by omega) (by omega)
  have hb := mbes_in (p := k / 4) (w := k % 4) (by omega)
  have hn := h1 (mbes (k / 4) (k % 4)) c1 (by omega)
  have low : ∀ q, fput f (mbes (k / 4) (k % 4)) (f (k / 4) + 1) q ≤ f q := fun q => by
    unfold fput; split
    · rename_i e; rw [e]; omega
    · exact Int.le_refl _
  refine ⟨⟨fun p p1 p2 => ?_, fun p p1 p2 n hn2 hp => Int.le_trans (low p) (h2 p p1 p2 n hn2 hp)⟩, fun j j1 j2 hp j3 j4 => ?_⟩
  · unfold fput; split
    · rename_i e
      refine ⟨by omega, by omega, Or.inr ?_⟩
      rcases ha.2.2 with z | z
      · omega
      · rw [show (f (k / 4) + 1).toNat = (f (k / 4)).toNat + 1 by omega, e]
        exact ⟨k / 4, z, mb_adj (by omega) c1 c2⟩
    · exact h1 p p1 p2
  · by_cases e : j = k
    · subst e
      have := h2 (j / 4) (by omega) (by omega) r.toNat
      rw [fput_s]
      have := this (by omega) hp
      omega
    · exact Int.le_trans (low _) (h3 j j1 (by omega) hp j3 j4)
theorem RJ_f {J : Int → Int → Prop} {st r k : Int} {f : Int → Int} (hr : 0 ≤ r) (hk : 0 ≤ k ∧ k < 256) (h : RJ J st r k f) (hc : 0 ≤ mbes (k / 4) (k % 4) → J (k / 4) (mbes (k / 4) (k % 4)) → f (mbes (k / 4) (k % 4)) ≤ f (k / 4) + 1) : RJ J st r (k + 1) f := by
  refine ⟨h.1, fun j j1 j2 hp j3 j4 => ?_⟩
  by_cases e : j = k
  · subst e
    have h1 := h.1.2 (j / 4) (by omega) (by omega) r.toNat (by omega) hp
    have h2 := hc j3 j4
    omega
  · exact h.2 j j1 (by omega) hp j3 j4
theorem RJ_e {J : Int → Int → Prop} {st r k : Int} {f : Int → Int} (hs : 0 ≤ st ∧ st ≤ 63) (hr : 0 ≤ r) (hk : k = 256) (h : RJ J st r k f) : RI J st (r + 1) f := by
  subst hk
  refine ⟨h.1.1, fun p p1 p2 n hn hp => ?_⟩
  by_cases e : (n : Int) ≤ r
  · exact h.1.2 p p1 p2 n e hp
  · have e2 : n = r.toNat + 1 := by omega
    subst e2
    obtain ⟨q, q1, d, d1, d2, d3, d4, d5⟩ := hp
    have hq := path_in hs _ _ q1
    obtain ⟨w, w1, w2, w3⟩ := bes_mb (p := q) (d := d) ⟨d1, d2⟩
    have e3 : (4 * q + w) / 4 = q := by omega
    have e4 : (4 * q + w) % 4 = w := by omega
    have := h.2 (4 * q + w) (by omega) (by omega)
    rw [e3, e4, w3, d3] at this
    have := this q1 (by omega) d5
    omega
theorem path_short {J : Int → Int → Prop} {st p : Int} (hs : 0 ≤ st ∧ st ≤ 63) (h : Reach J st p) : ∃ n : Nat, n ≤ 63 ∧ Path J st n p := by
  have key : ∀ n : Nat, ((n : Int) + 1 ≤ cnt (fun q => ∃ m : Nat, m ≤ n ∧ Path J st m q) 64) ∨ (∀ q, Reach J st q → ∃ m : Nat, m ≤ n ∧ Path J st m q) := by
    intro n
    induction n with
    | zero =>
      have := cnt_pos (P := fun q => ∃ m : Nat, m ≤ 0 ∧ Path J st m q) (n := 64) hs.1 (by omega) ⟨0, Nat.le_refl _, rfl⟩
      exact Or.inl (by omega)
    | succ n ih =>
      rcases ih with ih | ih
      · by_cases cl : ∀ a b, 0 ≤ a ∧ a ≤ 63 → (∃ m : Nat, m ≤ n ∧ Path J st m a) → Adj J a b → ∃ m : Nat, m ≤ n ∧ Path J st m b
        · refine Or.inr fun q hq => ?_
          obtain ⟨m, m1, m2⟩ := reach_ind (J := J) (R := fun q => ∃ m : Nat, m ≤ n ∧ Path J st m q) hs ⟨0, by omega, rfl⟩ cl q hq
          exact ⟨m, by omega, m2⟩
        · refine Or.inl ?_
          have ⟨a, b, ha, ⟨m, m1, m2⟩, hA, hb⟩ : ∃ a b, (0 ≤ a ∧ a ≤ 63) ∧ (∃ m : Nat, m ≤ n ∧ Path J st m a) ∧ Adj J a b ∧ ¬ ∃ m : Nat, m ≤ n ∧ Path J st m b := Classical.byContradiction fun hn => cl fun a b h1 h2 h3 => Classical.byContradiction fun h4 => hn ⟨a, b, h1, h2, h3, h4⟩
          have hpb : Path J st (m + 1) b := ⟨a, m2, hA⟩
          have hbi := path_in hs _ _ hpb
          by_cases q : (((n + 1 : Nat) : Int) + 1 ≤ cnt (fun q => ∃ m : Nat, m ≤ n + 1 ∧ Path J st m q) 64)
          · exact q
          · have := cnt_eqs (P := fun q => ∃ m : Nat, m ≤ n + 1 ∧ Path J st m q) (Q := fun q => ∃ m : Nat, m ≤ n ∧ Path J st m q) (n := 64) (fun i _ _ hi => by obtain ⟨m, m1, m2⟩ := hi; exact ⟨m, by omega, m2⟩) (by omega) b hbi.1 (by omega) ⟨m + 1, by omega, hpb⟩
            exact absurd this hb
      · exact Or.inr fun q hq => by obtain ⟨m, m1, m2⟩ := ih q hq; exact ⟨m, by omega, m2⟩
  have hp := reach_in hs h
  rcases key 63 with k | k
  · have h1 := (cnt_in (fun q => ∃ m : Nat, m ≤ 63 ∧ Path J st m q) (i := 64) (by omega)).2
    exact cnt_full (P := fun q => ∃ m : Nat, m ≤ 63 ∧ Path J st m q) (n := 64) (by omega) (by omega) p hp.1 (by omega)
  · exact k p h
theorem RI_no {J : Int → Int → Prop} {st r p : Int} {f : Int → Int} (h : RI J st r f) (hp : 0 ≤ p ∧ p ≤ 63) (hn : ¬ Reach J st p) : f p = 999 := by
  rcases (h.1 p hp.1 hp.2).2.2 with z | z
  · exact z
  · exact absurd ⟨_, z⟩ hn
theorem RI_at {J : Int → Int → Prop} {st r p : Int} {f : Int → Int} {d : Nat} (hs : 0 ≤ st ∧ st ≤ 63) (h : RI J st r f) (hr : 63 ≤ r) (hp : 0 ≤ p ∧ p ≤ 63) (hd : Path J st d p ∧ ∀ m, Path J st m p → d ≤ m) : f p = (d : Int) ∧ (d : Int) ≤ 63 := by
  obtain ⟨n, n1, n2⟩ := path_short hs ⟨d, hd.1⟩
  have h1 := hd.2 n n2
  have h2 := h.2 p hp.1 hp.2 d (by omega) hd.1
  have h3 := h.1 p hp.1 hp.2
  rcases h3.2.2 with z | z
  · omega
  · have := hd.2 _ z; omega
theorem cbE {P : Int → Prop} {c b i n : Int} (h : c = b + cnt P i) (hi : i = n) : c = b + cnt P n := by rw [h, hi]

set_option maxRecDepth 20000 in
set_option maxHeartbeats 4000000 in
theorem m_route_x1 {g : Gx} {h : HP} {mv mrc mmc mmk mdv mwl mwa mwp mth : Int} {mm : Int → Int} {f9 o9 v9 : Int} (hm : mO h mv mrc mmc mmk mdv mwl mwa mwp mth) (hmm : h 201 = some (oI 12464 mm)) (hv : 0 ≤ mv ∧ mv ≤ 40) (hQ : ¬ ((0 ≤ f9 ∧ f9 ≤ 63) ∧ (0 ≤ o9 ∧ o9 ≤ 63) ∧ 0 ≤ v9 ∧ v9 ≤ mv)) : Ct g yX11_route (.code yX11_route cX11_route 8 (some .int)) 4 0 0 [vR 200, vI f9, vI o9, vI v9] h (Rt (some (vI 0)) (hput h 200 (oO 10 [vR 201, vR 202, vR 203, vR 204, vR 205, vR 206, vR 207, vR 208, vR 209, vR 210, vR 211, vR 212, vR 213, vR 214, vR 215, vR 216, vR 217, vR 218, vI mv, vI mrc, vI mmc, vI mmk, vI mdv, vI mwl, vI mwa, vI mwp, vI 1]))) := by
  refine Ct.of (by decide) (Nat.le_of_ble_eq_true rfl) (fun x hg C F => ?_)
  subst hg
  show T x 0 [(0, vR 200), (1, vI f9), (2, vI o9), (3, vI v9)] [] h 0 0
  refine st_aload_n C 0 dX11_route_0 rfl rfl ?_
  refine st_iload_n C 1 dX11_route_1 rfl rfl ?_
  refine st_iconst C dX11_route_2 (by decide) ?_
  refine st_bipush C dX11_route_3 (by decide) (by decide) ?_
  by_cases b_5 : 0 ≤ f9 ∧ f9 ≤ 63
  · refine st_callS (st := [vR 200]) C dX11_route_5 [vI f9, vI 0, vI 63] (k_isIn_t (v9 := f9) (l9 := 0) (u9 := 63)  b_5) w_X11_75 rfl (by decide) (by decide) (by omega) (by omega) (Nat.le_of_ble_eq_true rfl) (ko_rt ?_)
    show T x 8 [(0, vR 200), (1, vI f9), (2, vI o9), (3, vI v9)] [vI 1, vR 200] _ _ _
    refine st_if_eq (tgt := 37) C dX11_route_8 (by decide) (fun c_8 => by omega) (fun c_8 => ?_)
    refine st_iload_n C 2 dX11_route_11 rfl rfl ?_
    refine st_iconst C dX11_route_12 (by decide) ?_
    refine st_bipush C dX11_route_13 (by decide) (by decide) ?_
    by_cases b_15 : 0 ≤ o9 ∧ o9 ≤ 63
    · refine st_callS (st := [vR 200]) C dX11_route_15 [vI o9, vI 0, vI 63] (k_isIn_t (v9 := o9) (l9 := 0) (u9 := 63)  b_15) w_X11_75 rfl (by decide) (by decide) (by omega) (by omega) (Nat.le_of_ble_eq_true rfl) (ko_rt ?_)
      show T x 18 [(0, vR 200), (1, vI f9), (2, vI o9), (3, vI v9)] [vI 1, vR 200] _ _ _
      refine st_if_eq (tgt := 37) C dX11_route_18 (by decide) (fun c_18 => by omega) (fun c_18 => ?_)
      refine st_iload_n C 3 dX11_route_21 rfl rfl ?_
      refine st_iconst C dX11_route_22 (by decide) ?_
      refine st_aload_n C 0 dX11_route_23 rfl rfl ?_
      refine st_getf C dX11_route_24 fl_X11_72 hm rfl ?_
      by_cases b_27 : 0 ≤ v9 ∧ v9 ≤ mv
      · refine st_callS (st := [vR 200]) C dX11_route_27 [vI v9, vI 0, vI mv] (k_isIn_t (v9 := v9) (l9 := 0) (u9 := mv)  b_27) w_X11_75 rfl (by decide) (by decide) (by omega) (by omega) (Nat.le_of_ble_eq_true rfl) (ko_rt ?_)
        show T x 30 [(0, vR 200), (1, vI f9), (2, vI o9), (3, vI v9)] [vI 1, vR 200] _ _ _
        refine st_if_eq (tgt := 37) C dX11_route_30 (by decide) (fun c_30 => by omega) (fun c_30 => ?_)
        refine st_iconst C dX11_route_33 (by decide) ?_
        refine st_goto (tgt := 38) C dX11_route_34 (by decide) ?_
        refine st_iconst C dX11_route_38 (by decide) ?_
        exfalso; omega
      · refine st_callS (st := [vR 200]) C dX11_route_27 [vI v9, vI 0, vI mv] (k_isIn_f (v9 := v9) (l9 := 0) (u9 := mv)  b_27) w_X11_75 rfl (by decide) (by decide) (by omega) (by omega) (Nat.le_of_ble_eq_true rfl) (ko_rt ?_)
        show T x 30 [(0, vR 200), (1, vI f9), (2, vI o9), (3, vI v9)] [vI 0, vR 200] _ _ _
        refine st_if_eq (tgt := 37) C dX11_route_30 (by decide) (fun c_30 => ?_) (fun c_30 => by omega)
        refine st_iconst C dX11_route_37 (by decide) ?_
        refine st_iconst C dX11_route_38 (by decide) ?_
        refine st_callV (st := []) C dX11_route_39 [vI 0, vI 1] (k_no_f (p9 := 1) hm) hm w_X11_112 rfl (by decide) (by decide) (by omega) (by omega) (Nat.le_of_ble_eq_true rfl) (ko_rt ?_)
        show T x 42 [(0, vR 200), (1, vI f9), (2, vI o9), (3, vI v9)] [vI 1] (hput h 200 (oO 10 [vR 201, vR 202, vR 203, vR 204, vR 205, vR 206, vR 207, vR 208, vR 209, vR 210, vR 211, vR 212, vR 213, vR 214, vR 215, vR 216, vR 217, vR 218, vI mv, vI mrc, vI mmc, vI mmk, vI mdv, vI mwl, vI mwa, vI mwp, vI 1])) _ _
        refine st_if_eq (tgt := 47) C dX11_route_42 (by decide) (fun c_42 => by omega) (fun c_42 => ?_)
        refine st_iconst C dX11_route_45 (by decide) ?_
        exact st_ireturn C F dX11_route_46 rfl (by first | (exfalso; omega) | exact ⟨by with_reducible rfl, by with_reducible rfl⟩) (by omega) (by omega)
    · refine st_callS (st := [vR 200]) C dX11_route_15 [vI o9, vI 0, vI 63] (k_isIn_f (v9 := o9) (l9 := 0) (u9 := 63)  b_15) w_X11_75 rfl (by decide) (by decide) (by omega) (by omega) (Nat.le_of_ble_eq_true rfl) (ko_rt ?_)
      show T x 18 [(0, vR 200), (1, vI f9), (2, vI o9), (3, vI v9)] [vI 0, vR 200] _ _ _
      refine st_if_eq (tgt := 37) C dX11_route_18 (by decide) (fun c_18 => ?_) (fun c_18 => by omega)
      refine st_iconst C dX11_route_37 (by decide) ?_
      refine st_iconst C dX11_route_38 (by decide) ?_
      refine st_callV (st := []) C dX11_route_39 [vI 0, vI 1] (k_no_f (p9 := 1) hm) hm w_X11_112 rfl (by decide) (by decide) (by omega) (by omega) (Nat.le_of_ble_eq_true rfl) (ko_rt ?_)
      show T x 42 [(0, vR 200), (1, vI f9), (2, vI o9), (3, vI v9)] [vI 1] (hput h 200 (oO 10 [vR 201, vR 202, vR 203, vR 204, vR 205, vR 206, vR 207, vR 208, vR 209, vR 210, vR 211, vR 212, vR 213, vR 214, vR 215, vR 216, vR 217, vR 218, vI mv, vI mrc, vI mmc, vI mmk, vI mdv, vI mwl, vI mwa, vI mwp, vI 1])) _ _
      refine st_if_eq (tgt := 47) C dX11_route_42 (by decide) (fun c_42 => by omega) (fun c_42 => ?_)
      refine st_iconst C dX11_route_45 (by decide) ?_
      exact st_ireturn C F dX11_route_46 rfl (by first | (exfalso; omega) | exact ⟨by with_reducible rfl, by with_reducible rfl⟩) (by omega) (by omega)
  · refine st_callS (st := [vR 200]) C dX11_route_5 [vI f9, vI 0, vI 63] (k_isIn_f (v9 := f9) (l9 := 0) (u9 := 63)  b_5) w_X11_75 rfl (by decide) (by decide) (by omega) (by omega) (Nat.le_of_ble_eq_true rfl) (ko_rt ?_)
    show T x 8 [(0, vR 200), (1, vI f9), (2, vI o9), (3, vI v9)] [vI 0, vR 200] _ _ _
    refine st_if_eq (tgt := 37) C dX11_route_8 (by decide) (fun c_8 => ?_) (fun c_8 => by omega)
    refine st_iconst C dX11_route_37 (by decide) ?_
    refine st_iconst C dX11_route_38 (by decide) ?_
    refine st_callV (st := []) C dX11_route_39 [vI 0, vI 1] (k_no_f (p9 := 1) hm) hm w_X11_112 rfl (by decide) (by decide) (by omega) (by omega) (Nat.le_of_ble_eq_true rfl) (ko_rt ?_)
    show T x 42 [(0, vR 200), (1, vI f9), (2, vI o9), (3, vI v9)] [vI 1] (hput h 200 (oO 10 [vR 201, vR 202, vR 203, vR 204, vR 205, vR 206, vR 207, vR 208, vR 209, vR 210, vR 211, vR 212, vR 213, vR 214, vR 215, vR 216, vR 217, vR 218, vI mv, vI mrc, vI mmc, vI mmk, vI mdv, vI mwl, vI mwa, vI mwp, vI 1])) _ _
    refine st_if_eq (tgt := 47) C dX11_route_42 (by decide) (fun c_42 => by omega) (fun c_42 => ?_)
    refine st_iconst C dX11_route_45 (by decide) ?_
    exact st_ireturn C F dX11_route_46 rfl (by first | (exfalso; omega) | exact ⟨by with_reducible rfl, by with_reducible rfl⟩) (by omega) (by omega)
set_option maxRecDepth 20000 in
set_option maxHeartbeats 4000000 in
theorem m_route_x2 {g : Gx} {h : HP} {mv mrc mmc mmk mdv mwl mwa mwp mth : Int} {mm : Int → Int} {fr : Int → Int} {f9 o9 v9 : Int} (hm : mO h mv mrc mmc mmk mdv mwl mwa mwp mth) (hmm : h 201 = some (oI 12464 mm)) (h217 : h 217 = some (oI 64 fr)) (hv : 0 ≤ mv ∧ mv ≤ 40) (hQ : (0 ≤ f9 ∧ f9 ≤ 63) ∧ (0 ≤ o9 ∧ o9 ≤ 63) ∧ 0 ≤ v9 ∧ v9 ≤ mv) (hd : ¬ Reach (fun a b => RoadB (fun s => mm (304 * v9 + s)) a b) f9 o9) : Ct g yX11_route (.code yX11_route cX11_route 8 (some .int)) 4 0 0 [vR 200, vI f9, vI o9, vI v9] h ((fun r h' => r = .inl (some (vI 0)) ∧ ∃ f5 : Int → Int, h' = (hput (hput (hput h 200 (oO 10 [vR 201, vR 202, vR 203, vR 204, vR 205, vR 206, vR 207, vR 208, vR 209, vR 210, vR 211, vR 212, vR 213, vR 214, vR 215, vR 216, vR 217, vR 218, vI mv, vI mrc, vI mmc, vI mmk, vI mdv, vI mwl, vI mwa, vI mwp, vI 0])) 217 (oI 64 f5)) 200 (oO 10 [vR 201, vR 202, vR 203, vR 204, vR 205, vR 206, vR 207, vR 208, vR 209, vR 210, vR 211, vR 212, vR 213, vR 214, vR 215, vR 216, vR 217, vR 218, vI mv, vI mrc, vI mmc, vI mmk, vI mdv, vI mwl, vI mwa, vI mwp, vI 2])))) := by
  refine Ct.of (by decide) (Nat.le_of_ble_eq_true rfl) (fun x hg C F => ?_)
  subst hg
  show T x 0 [(0, vR 200), (1, vI f9), (2, vI o9), (3, vI v9)] [] h 0 0
  refine st_aload_n C 0 dX11_route_0 rfl rfl ?_
  refine st_iload_n C 1 dX11_route_1 rfl rfl ?_
  refine st_iconst C dX11_route_2 (by decide) ?_
  refine st_bipush C dX11_route_3 (by decide) (by decide) ?_
  have b_5 : 0 ≤ f9 ∧ f9 ≤ 63 := by omega
  refine st_callS (st := [vR 200]) C dX11_route_5 [vI f9, vI 0, vI 63] (k_isIn_t (v9 := f9) (l9 := 0) (u9 := 63)  b_5) w_X11_75 rfl (by decide) (by decide) (by omega) (by omega) (Nat.le_of_ble_eq_true rfl) (ko_rt ?_)
  show T x 8 [(0, vR 200), (1, vI f9), (2, vI o9), (3, vI v9)] [vI 1, vR 200] _ _ _
  refine st_if_eq (tgt := 37) C dX11_route_8 (by decide) (fun c_8 => by omega) (fun c_8 => ?_)
  refine st_iload_n C 2 dX11_route_11 rfl rfl ?_
  refine st_iconst C dX11_route_12 (by decide) ?_
  refine st_bipush C dX11_route_13 (by decide) (by decide) ?_
  have b_15 : 0 ≤ o9 ∧ o9 ≤ 63 := by omega
  refine st_callS (st := [vR 200]) C dX11_route_15 [vI o9, vI 0, vI 63] (k_isIn_t (v9 := o9) (l9 := 0) (u9 := 63)  b_15) w_X11_75 rfl (by decide) (by decide) (by omega) (by omega) (Nat.le_of_ble_eq_true rfl) (ko_rt ?_)
  show T x 18 [(0, vR 200), (1, vI f9), (2, vI o9), (3, vI v9)] [vI 1, vR 200] _ _ _
  refine st_if_eq (tgt := 37) C dX11_route_18 (by decide) (fun c_18 => by omega) (fun c_18 => ?_)
  refine st_iload_n C 3 dX11_route_21 rfl rfl ?_
  refine st_iconst C dX11_route_22 (by decide) ?_
  refine st_aload_n C 0 dX11_route_23 rfl rfl ?_
  refine st_getf C dX11_route_24 fl_X11_72 hm rfl ?_
  have b_27 : 0 ≤ v9 ∧ v9 ≤ mv := by omega
  refine st_callS (st := [vR 200]) C dX11_route_27 [vI v9, vI 0, vI mv] (k_isIn_t (v9 := v9) (l9 := 0) (u9 := mv)  b_27) w_X11_75 rfl (by decide) (by decide) (by omega) (by omega) (Nat.le_of_ble_eq_true rfl) (ko_rt ?_)
  show T x 30 [(0, vR 200), (1, vI f9), (2, vI o9), (3, vI v9)] [vI 1, vR 200] _ _ _
  refine st_if_eq (tgt := 37) C dX11_route_30 (by decide) (fun c_30 => by omega) (fun c_30 => ?_)
  refine st_iconst C dX11_route_33 (by decide) ?_
  refine st_goto (tgt := 38) C dX11_route_34 (by decide) ?_
  refine st_iconst C dX11_route_38 (by decide) ?_
  refine st_callV (st := []) C dX11_route_39 [vI 1, vI 1] (k_no_t (p9 := 1) hm) hm w_X11_112 rfl (by decide) (by decide) (by omega) (by omega) (Nat.le_of_ble_eq_true rfl) (ko_rt ?_)
  show T x 42 [(0, vR 200), (1, vI f9), (2, vI o9), (3, vI v9)] [vI 0] (hput h 200 (oO 10 [vR 201, vR 202, vR 203, vR 204, vR 205, vR 206, vR 207, vR 208, vR 209, vR 210, vR 211, vR 212, vR 213, vR 214, vR 215, vR 216, vR 217, vR 218, vI mv, vI mrc, vI mmc, vI mmk, vI mdv, vI mwl, vI mwa, vI mwp, vI 0])) _ _
  refine st_if_eq (tgt := 47) C dX11_route_42 (by decide) (fun c_42 => ?_) (fun c_42 => by omega)
  refine st_iconst C dX11_route_47 (by decide) ?_
  refine st_istore C dX11_route_48 (by decide) rfl ?_
  show T x 50 [(0, vR 200), (1, vI f9), (2, vI o9), (3, vI v9), (4, vI 0)] [] _ _ _
  have loop_50 : ∀ (n_50 : Nat) (i : Int) (h1 : HP), (0 ≤ i) → (i ≤ 64) → (h1 = hput (hput h 200 (oO 10 [vR 201, vR 202, vR 203, vR 204, vR 205, vR 206, vR 207, vR 208, vR 209, vR 210, vR 211, vR 212, vR 213, vR 214, vR 215, vR 216, vR 217, vR 218, vI mv, vI mrc, vI mmc, vI mmk, vI mdv, vI mwl, vI mwa, vI mwp, vI 0])) 217 (oI 64 (fmix (fun p => if p = f9 then 0 else 999) fr i))) → (64 - i).toNat < n_50 → T x 50 [(0, vR 200), (1, vI f9), (2, vI o9), (3, vI v9), (4, vI i)] [] h1 0 0 := by
    intro n_50
    induction n_50 with
    | zero => intro i h1 g1 g2 hh hm_50; exact absurd hm_50 (Nat.not_lt_zero _)
    | succ n_50 ih_50 =>
      intro i h1 g1 g2 hh hm_50
      refine st_iload C dX11_route_50 rfl ?_
      refine st_bipush C dX11_route_52 (by decide) (by decide) ?_
      refine st_icmp_ge (tgt := 83) C dX11_route_54 (by decide) (fun c_54 => ?_) (fun c_54 => ?_)
      · refine st_iconst C dX11_route_83 (by decide) ?_
        refine st_istore C dX11_route_84 (by decide) rfl ?_
        show T x 86 [(0, vR 200), (1, vI f9), (2, vI o9), (3, vI v9), (4, vI 0)] [] _ _ _
        have loop_86 : ∀ (n_86 : Nat) (r1 : Int) (f1 : Int → Int) (h2 : HP), (0 ≤ r1) → (r1 ≤ 64) → (RI (fun a b => RoadB (fun s => mm (304 * v9 + s)) a b) f9 r1 f1) → (h2 = hput (hput h 200 (oO 10 [vR 201, vR 202, vR 203, vR 204, vR 205, vR 206, vR 207, vR 208, vR 209, vR 210, vR 211, vR 212, vR 213, vR 214, vR 215, vR 216, vR 217, vR 218, vI mv, vI mrc, vI mmc, vI mmk, vI mdv, vI mwl, vI mwa, vI mwp, vI 0])) 217 (oI 64 f1)) → (64 - r1).toNat < n_86 → T x 86 [(0, vR 200), (1, vI f9), (2, vI o9), (3, vI v9), (4, vI r1)] [] h2 0 0 := by
          intro n_86
          induction n_86 with
          | zero => intro r1 f1 h2 g3 g4 g5 hh2 hm_86; exact absurd hm_86 (Nat.not_lt_zero _)
          | succ n_86 ih_86 =>
            intro r1 f1 h2 g3 g4 g5 hh2 hm_86
            have y9 := g5.1 o9 (by omega) (by omega)
            refine st_iload C dX11_route_86 rfl ?_
            refine st_bipush C dX11_route_88 (by decide) (by decide) ?_
            refine st_icmp_ge (tgt := 211) C dX11_route_90 (by decide) (fun c_90 => ?_) (fun c_90 => ?_)
            · refine st_aload_n C 0 dX11_route_211 rfl rfl ?_
              refine st_aload_n C 0 dX11_route_212 rfl rfl ?_
              refine st_getf C dX11_route_213 fl_X11_59 (by rw [hh2]; exact hput_o (by decide) hput_s) rfl ?_
              refine st_iload_n C 2 dX11_route_216 rfl rfl ?_
              refine st_iald C dX11_route_217 (by rw [hh2]; exact hput_s) (by omega) (by omega) ?_
              refine st_sipush C dX11_route_218 (by decide) (by decide) ?_
              refine st_icmp_ge (tgt := 228) C dX11_route_221 (by decide) (fun c_221 => ?_) (fun c_221 => ?_)
              · refine st_iconst C dX11_route_228 (by decide) ?_
                refine st_iconst C dX11_route_229 (by decide) ?_
                refine st_callV (st := []) C dX11_route_230 [vI 0, vI 2] (k_no_f (p9 := 2) (by rw [hh2]; exact hput_o (by decide) hput_s)) (by rw [hh2]; exact hput_o (by decide) hput_s) w_X11_112 rfl (by decide) (by decide) (by omega) (by omega) (Nat.le_of_ble_eq_true rfl) (ko_rt ?_)
                show T x 233 [(0, vR 200), (1, vI f9), (2, vI o9), (3, vI v9), (4, vI r1)] [vI 1] (hput h2 200 (oO 10 [vR 201, vR 202, vR 203, vR 204, vR 205, vR 206, vR 207, vR 208, vR 209, vR 210, vR 211, vR 212, vR 213, vR 214, vR 215, vR 216, vR 217, vR 218, vI mv, vI mrc, vI mmc, vI mmk, vI mdv, vI mwl, vI mwa, vI mwp, vI 2])) _ _
                refine st_if_eq (tgt := 240) C dX11_route_233 (by decide) (fun c_233 => by omega) (fun c_233 => ?_)
                refine st_iconst C dX11_route_236 (by decide) ?_
                refine st_goto (tgt := 246) C dX11_route_237 (by decide) ?_
                exact st_ireturn C F dX11_route_246 rfl (by first | exact ⟨by with_reducible rfl, f1, by rw [hh2]⟩ | (exfalso; omega)) (by omega) (by omega)
              · refine st_iconst C dX11_route_224 (by decide) ?_
                refine st_goto (tgt := 229) C dX11_route_225 (by decide) ?_
                refine st_iconst C dX11_route_229 (by decide) ?_
                have e9 := RI_no g5 (by omega) hd; omega
            · refine st_iconst C dX11_route_93 (by decide) ?_
              refine st_istore C dX11_route_94 (by decide) rfl ?_
              show T x 96 [(0, vR 200), (1, vI f9), (2, vI o9), (3, vI v9), (4, vI r1), (5, vI 0)] [] _ _ _
              have loop_96 : ∀ (n_96 : Nat) (k1 : Int) (f2 : Int → Int) (h3 : HP), (0 ≤ k1) → (k1 ≤ 256) → (RJ (fun a b => RoadB (fun s => mm (304 * v9 + s)) a b) f9 r1 k1 f2) → (h3 = hput (hput h 200 (oO 10 [vR 201, vR 202, vR 203, vR 204, vR 205, vR 206, vR 207, vR 208, vR 209, vR 210, vR 211, vR 212, vR 213, vR 214, vR 215, vR 216, vR 217, vR 218, vI mv, vI mrc, vI mmc, vI mmk, vI mdv, vI mwl, vI mwa, vI mwp, vI 0])) 217 (oI 64 f2)) → (256 - k1).toNat < n_96 → T x 96 [(0, vR 200), (1, vI f9), (2, vI o9), (3, vI v9), (4, vI r1), (5, vI k1)] [] h3 0 0 := by
                intro n_96
                induction n_96 with
                | zero => intro k1 f2 h3 g6 g7 g8 hh3 hm_96; exact absurd hm_96 (Nat.not_lt_zero _)
                | succ n_96 ih_96 =>
                  intro k1 f2 h3 g6 g7 g8 hh3 hm_96
                  have fb := fun z9 : k1 < 256 => mbes_in (p := k1 / 4) (w := k1 % 4) (by omega)
                  have y1 := fun z9 : k1 < 256 => g8.1.1 (k1 / 4) (by omega) (by omega)
                  have y2 : k1 < 256 → 0 ≤ f2 (k1 / 4) ∧ f2 (k1 / 4) ≤ 999 := fun z9 => ⟨(y1 z9).1, (y1 z9).2.1⟩
                  have y3 : k1 < 256 → (mbes (k1 / 4) (k1 % 4) = -1 ∨ (0 ≤ mbes (k1 / 4) (k1 % 4) ∧ mbes (k1 / 4) (k1 % 4) ≤ 63)) := fb
                  refine st_iload C dX11_route_96 rfl ?_
                  refine st_sipush C dX11_route_98 (by decide) (by decide) ?_
                  refine st_icmp_ge (tgt := 205) C dX11_route_101 (by decide) (fun c_101 => ?_) (fun c_101 => ?_)
                  · refine st_iinc C dX11_route_205 rfl (by decide) rfl ⟨(by omega), (by omega)⟩ ?_
                    show T x 208 [(0, vR 200), (1, vI f9), (2, vI o9), (3, vI v9), (4, vI (r1 + 1)), (5, vI k1)] [] _ _ _
                    refine st_goto (tgt := 86) C dX11_route_208 (by decide) ?_
                    refine st_sub [0, 1, 2, 3, 4] rfl ?_
                    exact ih_86 (r1 + 1) f2 h3 (by omega) (by omega) (RJ_e (by omega) g3 (by omega) g8) (hh3) (by omega)
                  · refine st_iload C dX11_route_104 rfl ?_
                    refine st_iconst C dX11_route_106 (by decide) ?_
                    refine st_idiv C dX11_route_107 (by omega) (by omega) ?_
                    refine st_iload C dX11_route_108 rfl ?_
                    refine st_iconst C dX11_route_110 (by decide) ?_
                    refine st_irem C dX11_route_111 (by omega) (by omega) ?_
                    refine st_callS (st := []) C dX11_route_112 [vI (k1 / 4), vI (k1 % 4)] (k_mbes (p := (k1 / 4)) (w := (k1 % 4)) (by omega) (by omega)) w_X11_79 rfl (by decide) (by decide) (by omega) (by omega) (Nat.le_of_ble_eq_true rfl) (ko_rt ?_)
                    show T x 115 [(0, vR 200), (1, vI f9), (2, vI o9), (3, vI v9), (4, vI r1), (5, vI k1)] [vI (mbes (k1 / 4) (k1 % 4))] _ _ _
                    refine st_istore C dX11_route_115 (by decide) rfl ?_
                    show T x 117 [(0, vR 200), (1, vI f9), (2, vI o9), (3, vI v9), (4, vI r1), (5, vI k1), (6, vI (mbes (k1 / 4) (k1 % 4)))] [] _ _ _
                    refine st_iload C dX11_route_117 rfl ?_
                    refine st_if_lt (tgt := 152) C dX11_route_119 (by decide) (fun c_119 => ?_) (fun c_119 => ?_)
                    · refine st_iconst C dX11_route_152 (by decide) ?_
                      refine st_istore C dX11_route_153 (by decide) rfl ?_
                      show T x 155 [(0, vR 200), (1, vI f9), (2, vI o9), (3, vI v9), (4, vI r1), (5, vI k1), (6, vI (mbes (k1 / 4) (k1 % 4))), (7, vI 0)] [] _ _ _
                      refine st_iload C dX11_route_155 rfl ?_
                      refine st_if_eq (tgt := 199) C dX11_route_157 (by decide) (fun c_157 => ?_) (fun c_157 => by omega)
                      refine st_iinc C dX11_route_199 rfl (by decide) rfl ⟨(by omega), (by omega)⟩ ?_
                      show T x 202 [(0, vR 200), (1, vI f9), (2, vI o9), (3, vI v9), (4, vI r1), (5, vI (k1 + 1)), (6, vI (mbes (k1 / 4) (k1 % 4))), (7, vI 0)] [] _ _ _
                      refine st_goto (tgt := 96) C dX11_route_202 (by decide) ?_
                      refine st_sub [0, 1, 2, 3, 4, 5] rfl ?_
                      exact ih_96 (k1 + 1) f2 h3 (by omega) (by omega) (by first | exact RJ_f g3 (by omega) g8 (fun z1 z2 => by first | omega | exact absurd (show mm (304 * v9 + mroad (k1 / 4) (k1 % 4)) = 1 from (road_w (f := (fun s => mm (304 * v9 + s))) (p := k1 / 4) (w := k1 % 4) (by omega) (by omega) z1).mpr z2) (by assumption)) | exact RJ_t g3 (by omega) g8 (by omega) ((road_w (f := (fun s => mm (304 * v9 + s))) (p := k1 / 4) (w := k1 % 4) (by omega) (by omega) (by omega)).mp (by show mm (304 * v9 + mroad (k1 / 4) (k1 % 4)) = 1; assumption)) (by assumption)) (by first | exact hh3 | rw [hh3, hput_hput]) (by omega)
                    · refine st_aload_n C 0 dX11_route_122 rfl rfl ?_
                      refine st_getf C dX11_route_123 fl_X11_7 (by rw [hh3]; exact hput_o (by decide) hput_s) rfl ?_
                      refine st_sipush C dX11_route_126 (by decide) (by decide) ?_
                      refine st_iload_n C 3 dX11_route_129 rfl rfl ?_
                      refine st_imul C dX11_route_130 ⟨(by omega), (by omega)⟩ ?_
                      refine st_iload C dX11_route_131 rfl ?_
                      refine st_iconst C dX11_route_133 (by decide) ?_
                      refine st_idiv C dX11_route_134 (by omega) (by omega) ?_
                      refine st_iload C dX11_route_135 rfl ?_
                      refine st_iconst C dX11_route_137 (by decide) ?_
                      refine st_irem C dX11_route_138 (by omega) (by omega) ?_
                      have hmr := mroad_in (p := (k1 / 4)) (w := (k1 % 4)) (by omega) (by omega) (by omega)
                      refine st_callS (st := [vI (304 * v9), vR 201]) C dX11_route_139 [vI (k1 / 4), vI (k1 % 4)] (k_mroad (p := (k1 / 4)) (w := (k1 % 4)) (by omega) (by omega) (by omega)) w_X11_83 rfl (by decide) (by decide) (by omega) (by omega) (Nat.le_of_ble_eq_true rfl) (ko_rt ?_)
                      show T x 142 [(0, vR 200), (1, vI f9), (2, vI o9), (3, vI v9), (4, vI r1), (5, vI k1), (6, vI (mbes (k1 / 4) (k1 % 4)))] [vI (mroad (k1 / 4) (k1 % 4)), vI (304 * v9), vR 201] _ _ _
                      refine st_iadd C dX11_route_142 ⟨(by omega), (by omega)⟩ ?_
                      refine st_iald C dX11_route_143 (by rw [hh3]; exact hput_o (by decide) (hput_o (by decide) hmm)) (by omega) (by omega) ?_
                      refine st_iconst C dX11_route_144 (by decide) ?_
                      refine st_icmp_ne (tgt := 152) C dX11_route_145 (by decide) (fun c_145 => ?_) (fun c_145 => ?_)
                      · refine st_iconst C dX11_route_152 (by decide) ?_
                        refine st_istore C dX11_route_153 (by decide) rfl ?_
                        show T x 155 [(0, vR 200), (1, vI f9), (2, vI o9), (3, vI v9), (4, vI r1), (5, vI k1), (6, vI (mbes (k1 / 4) (k1 % 4))), (7, vI 0)] [] _ _ _
                        refine st_iload C dX11_route_155 rfl ?_
                        refine st_if_eq (tgt := 199) C dX11_route_157 (by decide) (fun c_157 => ?_) (fun c_157 => by omega)
                        refine st_iinc C dX11_route_199 rfl (by decide) rfl ⟨(by omega), (by omega)⟩ ?_
                        show T x 202 [(0, vR 200), (1, vI f9), (2, vI o9), (3, vI v9), (4, vI r1), (5, vI (k1 + 1)), (6, vI (mbes (k1 / 4) (k1 % 4))), (7, vI 0)] [] _ _ _
                        refine st_goto (tgt := 96) C dX11_route_202 (by decide) ?_
                        refine st_sub [0, 1, 2, 3, 4, 5] rfl ?_
                        exact ih_96 (k1 + 1) f2 h3 (by omega) (by omega) (by first | exact RJ_f g3 (by omega) g8 (fun z1 z2 => by first | omega | exact absurd (show mm (304 * v9 + mroad (k1 / 4) (k1 % 4)) = 1 from (road_w (f := (fun s => mm (304 * v9 + s))) (p := k1 / 4) (w := k1 % 4) (by omega) (by omega) z1).mpr z2) (by assumption)) | exact RJ_t g3 (by omega) g8 (by omega) ((road_w (f := (fun s => mm (304 * v9 + s))) (p := k1 / 4) (w := k1 % 4) (by omega) (by omega) (by omega)).mp (by show mm (304 * v9 + mroad (k1 / 4) (k1 % 4)) = 1; assumption)) (by assumption)) (by first | exact hh3 | rw [hh3, hput_hput]) (by omega)
                      · refine st_iconst C dX11_route_148 (by decide) ?_
                        refine st_goto (tgt := 153) C dX11_route_149 (by decide) ?_
                        refine st_istore C dX11_route_153 (by decide) rfl ?_
                        show T x 155 [(0, vR 200), (1, vI f9), (2, vI o9), (3, vI v9), (4, vI r1), (5, vI k1), (6, vI (mbes (k1 / 4) (k1 % 4))), (7, vI 1)] [] _ _ _
                        refine st_iload C dX11_route_155 rfl ?_
                        refine st_if_eq (tgt := 199) C dX11_route_157 (by decide) (fun c_157 => by omega) (fun c_157 => ?_)
                        refine st_aload_n C 0 dX11_route_160 rfl rfl ?_
                        refine st_getf C dX11_route_161 fl_X11_59 (by rw [hh3]; exact hput_o (by decide) hput_s) rfl ?_
                        refine st_iload C dX11_route_164 rfl ?_
                        refine st_iconst C dX11_route_166 (by decide) ?_
                        refine st_idiv C dX11_route_167 (by omega) (by omega) ?_
                        refine st_iald C dX11_route_168 (by rw [hh3]; exact hput_s) (by omega) (by omega) ?_
                        refine st_iconst C dX11_route_169 (by decide) ?_
                        refine st_iadd C dX11_route_170 ⟨(by omega), (by omega)⟩ ?_
                        refine st_aload_n C 0 dX11_route_171 rfl rfl ?_
                        refine st_getf C dX11_route_172 fl_X11_59 (by rw [hh3]; exact hput_o (by decide) hput_s) rfl ?_
                        refine st_iload C dX11_route_175 rfl ?_
                        refine st_iald C dX11_route_177 (by rw [hh3]; exact hput_s) (by omega) (by omega) ?_
                        refine st_icmp_ge (tgt := 199) C dX11_route_178 (by decide) (fun c_178 => ?_) (fun c_178 => ?_)
                        · refine st_iinc C dX11_route_199 rfl (by decide) rfl ⟨(by omega), (by omega)⟩ ?_
                          show T x 202 [(0, vR 200), (1, vI f9), (2, vI o9), (3, vI v9), (4, vI r1), (5, vI (k1 + 1)), (6, vI (mbes (k1 / 4) (k1 % 4))), (7, vI 1)] [] _ _ _
                          refine st_goto (tgt := 96) C dX11_route_202 (by decide) ?_
                          refine st_sub [0, 1, 2, 3, 4, 5] rfl ?_
                          exact ih_96 (k1 + 1) f2 h3 (by omega) (by omega) (by first | exact RJ_f g3 (by omega) g8 (fun z1 z2 => by first | omega | exact absurd (show mm (304 * v9 + mroad (k1 / 4) (k1 % 4)) = 1 from (road_w (f := (fun s => mm (304 * v9 + s))) (p := k1 / 4) (w := k1 % 4) (by omega) (by omega) z1).mpr z2) (by assumption)) | exact RJ_t g3 (by omega) g8 (by omega) ((road_w (f := (fun s => mm (304 * v9 + s))) (p := k1 / 4) (w := k1 % 4) (by omega) (by omega) (by omega)).mp (by show mm (304 * v9 + mroad (k1 / 4) (k1 % 4)) = 1; assumption)) (by assumption)) (by first | exact hh3 | rw [hh3, hput_hput]) (by omega)
                        · refine st_aload_n C 0 dX11_route_181 rfl rfl ?_
                          refine st_getf C dX11_route_182 fl_X11_59 (by rw [hh3]; exact hput_o (by decide) hput_s) rfl ?_
                          refine st_iload C dX11_route_185 rfl ?_
                          refine st_aload_n C 0 dX11_route_187 rfl rfl ?_
                          refine st_getf C dX11_route_188 fl_X11_59 (by rw [hh3]; exact hput_o (by decide) hput_s) rfl ?_
                          refine st_iload C dX11_route_191 rfl ?_
                          refine st_iconst C dX11_route_193 (by decide) ?_
                          refine st_idiv C dX11_route_194 (by omega) (by omega) ?_
                          refine st_iald C dX11_route_195 (by rw [hh3]; exact hput_s) (by omega) (by omega) ?_
                          refine st_iconst C dX11_route_196 (by decide) ?_
                          refine st_iadd C dX11_route_197 ⟨(by omega), (by omega)⟩ ?_
                          refine st_iast C dX11_route_198 (by rw [hh3]; exact hput_s) (by omega) (by omega) ?_
                          refine st_iinc C dX11_route_199 rfl (by decide) rfl ⟨(by omega), (by omega)⟩ ?_
                          show T x 202 [(0, vR 200), (1, vI f9), (2, vI o9), (3, vI v9), (4, vI r1), (5, vI (k1 + 1)), (6, vI (mbes (k1 / 4) (k1 % 4))), (7, vI 1)] [] _ _ _
                          refine st_goto (tgt := 96) C dX11_route_202 (by decide) ?_
                          refine st_sub [0, 1, 2, 3, 4, 5] rfl ?_
                          exact ih_96 (k1 + 1) (fput f2 (mbes (k1 / 4) (k1 % 4)) (f2 (k1 / 4) + 1)) (hput h3 217 (oI 64 (fput f2 (mbes (k1 / 4) (k1 % 4)) (f2 (k1 / 4) + 1)))) (by omega) (by omega) (by first | exact RJ_f g3 (by omega) g8 (fun z1 z2 => by first | omega | exact absurd (show mm (304 * v9 + mroad (k1 / 4) (k1 % 4)) = 1 from (road_w (f := (fun s => mm (304 * v9 + s))) (p := k1 / 4) (w := k1 % 4) (by omega) (by omega) z1).mpr z2) (by assumption)) | exact RJ_t g3 (by omega) g8 (by omega) ((road_w (f := (fun s => mm (304 * v9 + s))) (p := k1 / 4) (w := k1 % 4) (by omega) (by omega) (by omega)).mp (by show mm (304 * v9 + mroad (k1 / 4) (k1 % 4)) = 1; assumption)) (by assumption)) (by first | exact hh3 | rw [hh3, hput_hput]) (by omega)
              exact loop_96 _ 0 f1 h2 (by omega) (by omega) (RJ_0 g5) (hh2) (Nat.lt_succ_self _)
        exact loop_86 _ 0 (fmix (fun p => if p = f9 then 0 else 999) fr i) h1 (by omega) (by omega) (RI_0 (fun p p1 p2 => fmix_in p1 (by omega))) (hh) (Nat.lt_succ_self _)
      · refine st_aload_n C 0 dX11_route_57 rfl rfl ?_
        refine st_getf C dX11_route_58 fl_X11_59 (by rw [hh]; exact hput_o (by decide) hput_s) rfl ?_
        refine st_iload C dX11_route_61 rfl ?_
        refine st_iload C dX11_route_63 rfl ?_
        refine st_iload_n C 1 dX11_route_65 rfl rfl ?_
        refine st_icmp_ne (tgt := 73) C dX11_route_66 (by decide) (fun c_66 => ?_) (fun c_66 => ?_)
        · refine st_sipush C dX11_route_73 (by decide) (by decide) ?_
          refine st_iast C dX11_route_76 (by rw [hh]; exact hput_s) (by omega) (by omega) ?_
          refine st_iinc C dX11_route_77 rfl (by decide) rfl ⟨(by omega), (by omega)⟩ ?_
          show T x 80 [(0, vR 200), (1, vI f9), (2, vI o9), (3, vI v9), (4, vI (i + 1))] [] _ _ _
          refine st_goto (tgt := 50) C dX11_route_80 (by decide) ?_
          exact ih_50 (i + 1) (hput h1 217 (oI 64 (fput (fmix (fun p => if p = f9 then 0 else 999) fr i) i 999))) (by omega) (by omega) (by rw [hh, hput_hput]; refine congrArg (fun z => hput (hput h 200 (oO 10 [vR 201, vR 202, vR 203, vR 204, vR 205, vR 206, vR 207, vR 208, vR 209, vR 210, vR 211, vR 212, vR 213, vR 214, vR 215, vR 216, vR 217, vR 218, vI mv, vI mrc, vI mmc, vI mmk, vI mdv, vI mwl, vI mwa, vI mwp, vI 0])) 217 (oI 64 z)) (fmix_s g1 ?_); first | exact (if_pos (by assumption)).symm | exact (if_neg (by assumption)).symm) (by omega)
        · refine st_iconst C dX11_route_69 (by decide) ?_
          refine st_goto (tgt := 76) C dX11_route_70 (by decide) ?_
          refine st_iast C dX11_route_76 (by rw [hh]; exact hput_s) (by omega) (by omega) ?_
          refine st_iinc C dX11_route_77 rfl (by decide) rfl ⟨(by omega), (by omega)⟩ ?_
          show T x 80 [(0, vR 200), (1, vI f9), (2, vI o9), (3, vI v9), (4, vI (i + 1))] [] _ _ _
          refine st_goto (tgt := 50) C dX11_route_80 (by decide) ?_
          exact ih_50 (i + 1) (hput h1 217 (oI 64 (fput (fmix (fun p => if p = f9 then 0 else 999) fr i) i 0))) (by omega) (by omega) (by rw [hh, hput_hput]; refine congrArg (fun z => hput (hput h 200 (oO 10 [vR 201, vR 202, vR 203, vR 204, vR 205, vR 206, vR 207, vR 208, vR 209, vR 210, vR 211, vR 212, vR 213, vR 214, vR 215, vR 216, vR 217, vR 218, vI mv, vI mrc, vI mmc, vI mmk, vI mdv, vI mwl, vI mwa, vI mwp, vI 0])) 217 (oI 64 z)) (fmix_s g1 ?_); first | exact (if_pos (by assumption)).symm | exact (if_neg (by assumption)).symm) (by omega)
  exact loop_50 _ 0 (hput h 200 (oO 10 [vR 201, vR 202, vR 203, vR 204, vR 205, vR 206, vR 207, vR 208, vR 209, vR 210, vR 211, vR 212, vR 213, vR 214, vR 215, vR 216, vR 217, vR 218, vI mv, vI mrc, vI mmc, vI mmk, vI mdv, vI mwl, vI mwa, vI mwp, vI 0])) (by omega) (by omega) (by rw [fmix_0]; exact (hput_self (hput_o (by decide) h217)).symm) (Nat.lt_succ_self _)
set_option maxRecDepth 20000 in
set_option maxHeartbeats 4000000 in
theorem m_route {g : Gx} {h : HP} {mv mrc mmc mmk mdv mwl mwa mwp mth : Int} {mm : Int → Int} {fr : Int → Int} {f9 o9 v9 : Int} {d9 : Nat} (hm : mO h mv mrc mmc mmk mdv mwl mwa mwp mth) (hmm : h 201 = some (oI 12464 mm)) (h217 : h 217 = some (oI 64 fr)) (hv : 0 ≤ mv ∧ mv ≤ 40) (hQ : (0 ≤ f9 ∧ f9 ≤ 63) ∧ (0 ≤ o9 ∧ o9 ≤ 63) ∧ 0 ≤ v9 ∧ v9 ≤ mv) (hd : Path (fun a b => RoadB (fun s => mm (304 * v9 + s)) a b) f9 d9 o9 ∧ ∀ m, Path (fun a b => RoadB (fun s => mm (304 * v9 + s)) a b) f9 m o9 → d9 ≤ m) : Ct g yX11_route (.code yX11_route cX11_route 8 (some .int)) 4 0 0 [vR 200, vI f9, vI o9, vI v9] h ((fun r h' => r = .inl (some (vI (d9 : Int))) ∧ ∃ f5 : Int → Int, h' = (hput (hput (hput h 200 (oO 10 [vR 201, vR 202, vR 203, vR 204, vR 205, vR 206, vR 207, vR 208, vR 209, vR 210, vR 211, vR 212, vR 213, vR 214, vR 215, vR 216, vR 217, vR 218, vI mv, vI mrc, vI mmc, vI mmk, vI mdv, vI mwl, vI mwa, vI mwp, vI 0])) 217 (oI 64 f5)) 200 (oO 10 [vR 201, vR 202, vR 203, vR 204, vR 205, vR 206, vR 207, vR 208, vR 209, vR 210, vR 211, vR 212, vR 213, vR 214, vR 215, vR 216, vR 217, vR 218, vI mv, vI mrc, vI mmc, vI mmk, vI mdv, vI mwl, vI mwa, vI mwp, vI 0])))) := by
  refine Ct.of (by decide) (Nat.le_of_ble_eq_true rfl) (fun x hg C F => ?_)
  subst hg
  show T x 0 [(0, vR 200), (1, vI f9), (2, vI o9), (3, vI v9)] [] h 0 0
  refine st_aload_n C 0 dX11_route_0 rfl rfl ?_
  refine st_iload_n C 1 dX11_route_1 rfl rfl ?_
  refine st_iconst C dX11_route_2 (by decide) ?_
  refine st_bipush C dX11_route_3 (by decide) (by decide) ?_
  have b_5 : 0 ≤ f9 ∧ f9 ≤ 63 := by omega
  refine st_callS (st := [vR 200]) C dX11_route_5 [vI f9, vI 0, vI 63] (k_isIn_t (v9 := f9) (l9 := 0) (u9 := 63)  b_5) w_X11_75 rfl (by decide) (by decide) (by omega) (by omega) (Nat.le_of_ble_eq_true rfl) (ko_rt ?_)
  show T x 8 [(0, vR 200), (1, vI f9), (2, vI o9), (3, vI v9)] [vI 1, vR 200] _ _ _
  refine st_if_eq (tgt := 37) C dX11_route_8 (by decide) (fun c_8 => by omega) (fun c_8 => ?_)
  refine st_iload_n C 2 dX11_route_11 rfl rfl ?_
  refine st_iconst C dX11_route_12 (by decide) ?_
  refine st_bipush C dX11_route_13 (by decide) (by decide) ?_
  have b_15 : 0 ≤ o9 ∧ o9 ≤ 63 := by omega
  refine st_callS (st := [vR 200]) C dX11_route_15 [vI o9, vI 0, vI 63] (k_isIn_t (v9 := o9) (l9 := 0) (u9 := 63)  b_15) w_X11_75 rfl (by decide) (by decide) (by omega) (by omega) (Nat.le_of_ble_eq_true rfl) (ko_rt ?_)
  show T x 18 [(0, vR 200), (1, vI f9), (2, vI o9), (3, vI v9)] [vI 1, vR 200] _ _ _
  refine st_if_eq (tgt := 37) C dX11_route_18 (by decide) (fun c_18 => by omega) (fun c_18 => ?_)
  refine st_iload_n C 3 dX11_route_21 rfl rfl ?_
  refine st_iconst C dX11_route_22 (by decide) ?_
  refine st_aload_n C 0 dX11_route_23 rfl rfl ?_
  refine st_getf C dX11_route_24 fl_X11_72 hm rfl ?_
  have b_27 : 0 ≤ v9 ∧ v9 ≤ mv := by omega
  refine st_callS (st := [vR 200]) C dX11_route_27 [vI v9, vI 0, vI mv] (k_isIn_t (v9 := v9) (l9 := 0) (u9 := mv)  b_27) w_X11_75 rfl (by decide) (by decide) (by omega) (by omega) (Nat.le_of_ble_eq_true rfl) (ko_rt ?_)
  show T x 30 [(0, vR 200), (1, vI f9), (2, vI o9), (3, vI v9)] [vI 1, vR 200] _ _ _
  refine st_if_eq (tgt := 37) C dX11_route_30 (by decide) (fun c_30 => by omega) (fun c_30 => ?_)
  refine st_iconst C dX11_route_33 (by decide) ?_
  refine st_goto (tgt := 38) C dX11_route_34 (by decide) ?_
  refine st_iconst C dX11_route_38 (by decide) ?_
  refine st_callV (st := []) C dX11_route_39 [vI 1, vI 1] (k_no_t (p9 := 1) hm) hm w_X11_112 rfl (by decide) (by decide) (by omega) (by omega) (Nat.le_of_ble_eq_true rfl) (ko_rt ?_)
  show T x 42 [(0, vR 200), (1, vI f9), (2, vI o9), (3, vI v9)] [vI 0] (hput h 200 (oO 10 [vR 201, vR 202, vR 203, vR 204, vR 205, vR 206, vR 207, vR 208, vR 209, vR 210, vR 211, vR 212, vR 213, vR 214, vR 215, vR 216, vR 217, vR 218, vI mv, vI mrc, vI mmc, vI mmk, vI mdv, vI mwl, vI mwa, vI mwp, vI 0])) _ _
  refine st_if_eq (tgt := 47) C dX11_route_42 (by decide) (fun c_42 => ?_) (fun c_42 => by omega)
  refine st_iconst C dX11_route_47 (by decide) ?_
  refine st_istore C dX11_route_48 (by decide) rfl ?_
  show T x 50 [(0, vR 200), (1, vI f9), (2, vI o9), (3, vI v9), (4, vI 0)] [] _ _ _
  have loop_50 : ∀ (n_50 : Nat) (i : Int) (h1 : HP), (0 ≤ i) → (i ≤ 64) → (h1 = hput (hput h 200 (oO 10 [vR 201, vR 202, vR 203, vR 204, vR 205, vR 206, vR 207, vR 208, vR 209, vR 210, vR 211, vR 212, vR 213, vR 214, vR 215, vR 216, vR 217, vR 218, vI mv, vI mrc, vI mmc, vI mmk, vI mdv, vI mwl, vI mwa, vI mwp, vI 0])) 217 (oI 64 (fmix (fun p => if p = f9 then 0 else 999) fr i))) → (64 - i).toNat < n_50 → T x 50 [(0, vR 200), (1, vI f9), (2, vI o9), (3, vI v9), (4, vI i)] [] h1 0 0 := by
    intro n_50
    induction n_50 with
    | zero => intro i h1 g1 g2 hh hm_50; exact absurd hm_50 (Nat.not_lt_zero _)
    | succ n_50 ih_50 =>
      intro i h1 g1 g2 hh hm_50
      refine st_iload C dX11_route_50 rfl ?_
      refine st_bipush C dX11_route_52 (by decide) (by decide) ?_
      refine st_icmp_ge (tgt := 83) C dX11_route_54 (by decide) (fun c_54 => ?_) (fun c_54 => ?_)
      · refine st_iconst C dX11_route_83 (by decide) ?_
        refine st_istore C dX11_route_84 (by decide) rfl ?_
        show T x 86 [(0, vR 200), (1, vI f9), (2, vI o9), (3, vI v9), (4, vI 0)] [] _ _ _
        have loop_86 : ∀ (n_86 : Nat) (r1 : Int) (f1 : Int → Int) (h2 : HP), (0 ≤ r1) → (r1 ≤ 64) → (RI (fun a b => RoadB (fun s => mm (304 * v9 + s)) a b) f9 r1 f1) → (h2 = hput (hput h 200 (oO 10 [vR 201, vR 202, vR 203, vR 204, vR 205, vR 206, vR 207, vR 208, vR 209, vR 210, vR 211, vR 212, vR 213, vR 214, vR 215, vR 216, vR 217, vR 218, vI mv, vI mrc, vI mmc, vI mmk, vI mdv, vI mwl, vI mwa, vI mwp, vI 0])) 217 (oI 64 f1)) → (64 - r1).toNat < n_86 → T x 86 [(0, vR 200), (1, vI f9), (2, vI o9), (3, vI v9), (4, vI r1)] [] h2 0 0 := by
          intro n_86
          induction n_86 with
          | zero => intro r1 f1 h2 g3 g4 g5 hh2 hm_86; exact absurd hm_86 (Nat.not_lt_zero _)
          | succ n_86 ih_86 =>
            intro r1 f1 h2 g3 g4 g5 hh2 hm_86
            have y9 := g5.1 o9 (by omega) (by omega)
            refine st_iload C dX11_route_86 rfl ?_
            refine st_bipush C dX11_route_88 (by decide) (by decide) ?_
            refine st_icmp_ge (tgt := 211) C dX11_route_90 (by decide) (fun c_90 => ?_) (fun c_90 => ?_)
            · refine st_aload_n C 0 dX11_route_211 rfl rfl ?_
              refine st_aload_n C 0 dX11_route_212 rfl rfl ?_
              refine st_getf C dX11_route_213 fl_X11_59 (by rw [hh2]; exact hput_o (by decide) hput_s) rfl ?_
              refine st_iload_n C 2 dX11_route_216 rfl rfl ?_
              refine st_iald C dX11_route_217 (by rw [hh2]; exact hput_s) (by omega) (by omega) ?_
              refine st_sipush C dX11_route_218 (by decide) (by decide) ?_
              refine st_icmp_ge (tgt := 228) C dX11_route_221 (by decide) (fun c_221 => ?_) (fun c_221 => ?_)
              · refine st_iconst C dX11_route_228 (by decide) ?_
                refine st_iconst C dX11_route_229 (by decide) ?_
                have e9 := RI_at (by omega) g5 (by omega) (by omega) hd; omega
              · refine st_iconst C dX11_route_224 (by decide) ?_
                refine st_goto (tgt := 229) C dX11_route_225 (by decide) ?_
                refine st_iconst C dX11_route_229 (by decide) ?_
                refine st_callV (st := []) C dX11_route_230 [vI 1, vI 2] (k_no_t (p9 := 2) (by rw [hh2]; exact hput_o (by decide) hput_s)) (by rw [hh2]; exact hput_o (by decide) hput_s) w_X11_112 rfl (by decide) (by decide) (by omega) (by omega) (Nat.le_of_ble_eq_true rfl) (ko_rt ?_)
                show T x 233 [(0, vR 200), (1, vI f9), (2, vI o9), (3, vI v9), (4, vI r1)] [vI 0] (hput h2 200 (oO 10 [vR 201, vR 202, vR 203, vR 204, vR 205, vR 206, vR 207, vR 208, vR 209, vR 210, vR 211, vR 212, vR 213, vR 214, vR 215, vR 216, vR 217, vR 218, vI mv, vI mrc, vI mmc, vI mmk, vI mdv, vI mwl, vI mwa, vI mwp, vI 0])) _ _
                refine st_if_eq (tgt := 240) C dX11_route_233 (by decide) (fun c_233 => ?_) (fun c_233 => by omega)
                refine st_aload_n C 0 dX11_route_240 rfl rfl ?_
                refine st_getf C dX11_route_241 fl_X11_59 hput_s rfl ?_
                refine st_iload_n C 2 dX11_route_244 rfl rfl ?_
                refine st_iald C dX11_route_245 (hput_o (by omega) (by rw [hh2]; exact hput_s)) (by omega) (by omega) ?_
                exact st_ireturn C F dX11_route_246 rfl (by first | (exact ⟨by rw [(RI_at (by omega) g5 (by omega) (by omega) hd).1], f1, by rw [hh2]⟩) | (exfalso; omega)) (by omega) (by omega)
            · refine st_iconst C dX11_route_93 (by decide) ?_
              refine st_istore C dX11_route_94 (by decide) rfl ?_
              show T x 96 [(0, vR 200), (1, vI f9), (2, vI o9), (3, vI v9), (4, vI r1), (5, vI 0)] [] _ _ _
              have loop_96 : ∀ (n_96 : Nat) (k1 : Int) (f2 : Int → Int) (h3 : HP), (0 ≤ k1) → (k1 ≤ 256) → (RJ (fun a b => RoadB (fun s => mm (304 * v9 + s)) a b) f9 r1 k1 f2) → (h3 = hput (hput h 200 (oO 10 [vR 201, vR 202, vR 203, vR 204, vR 205, vR 206, vR 207, vR 208, vR 209, vR 210, vR 211, vR 212, vR 213, vR 214, vR 215, vR 216, vR 217, vR 218, vI mv, vI mrc, vI mmc, vI mmk, vI mdv, vI mwl, vI mwa, vI mwp, vI 0])) 217 (oI 64 f2)) → (256 - k1).toNat < n_96 → T x 96 [(0, vR 200), (1, vI f9), (2, vI o9), (3, vI v9), (4, vI r1), (5, vI k1)] [] h3 0 0 := by
                intro n_96
                induction n_96 with
                | zero => intro k1 f2 h3 g6 g7 g8 hh3 hm_96; exact absurd hm_96 (Nat.not_lt_zero _)
                | succ n_96 ih_96 =>
                  intro k1 f2 h3 g6 g7 g8 hh3 hm_96
                  have fb := fun z9 : k1 < 256 => mbes_in (p := k1 / 4) (w := k1 % 4) (by omega)
                  have y1 := fun z9 : k1 < 256 => g8.1.1 (k1 / 4) (by omega) (by omega)
                  have y2 : k1 < 256 → 0 ≤ f2 (k1 / 4) ∧ f2 (k1 / 4) ≤ 999 := fun z9 => ⟨(y1 z9).1, (y1 z9).2.1⟩
                  have y3 : k1 < 256 → (mbes (k1 / 4) (k1 % 4) = -1 ∨ (0 ≤ mbes (k1 / 4) (k1 % 4) ∧ mbes (k1 / 4) (k1 % 4) ≤ 63)) := fb
                  refine st_iload C dX11_route_96 rfl ?_
                  refine st_sipush C dX11_route_98 (by decide) (by decide) ?_
                  refine st_icmp_ge (tgt := 205) C dX11_route_101 (by decide) (fun c_101 => ?_) (fun c_101 => ?_)
                  · refine st_iinc C dX11_route_205 rfl (by decide) rfl ⟨(by omega), (by omega)⟩ ?_
                    show T x 208 [(0, vR 200), (1, vI f9), (2, vI o9), (3, vI v9), (4, vI (r1 + 1)), (5, vI k1)] [] _ _ _
                    refine st_goto (tgt := 86) C dX11_route_208 (by decide) ?_
                    refine st_sub [0, 1, 2, 3, 4] rfl ?_
                    exact ih_86 (r1 + 1) f2 h3 (by omega) (by omega) (RJ_e (by omega) g3 (by omega) g8) (hh3) (by omega)
                  · refine st_iload C dX11_route_104 rfl ?_
                    refine st_iconst C dX11_route_106 (by decide) ?_
                    refine st_idiv C dX11_route_107 (by omega) (by omega) ?_
                    refine st_iload C dX11_route_108 rfl ?_
                    refine st_iconst C dX11_route_110 (by decide) ?_
                    refine st_irem C dX11_route_111 (by omega) (by omega) ?_
                    refine st_callS (st := []) C dX11_route_112 [vI (k1 / 4), vI (k1 % 4)] (k_mbes (p := (k1 / 4)) (w := (k1 % 4)) (by omega) (by omega)) w_X11_79 rfl (by decide) (by decide) (by omega) (by omega) (Nat.le_of_ble_eq_true rfl) (ko_rt ?_)
                    show T x 115 [(0, vR 200), (1, vI f9), (2, vI o9), (3, vI v9), (4, vI r1), (5, vI k1)] [vI (mbes (k1 / 4) (k1 % 4))] _ _ _
                    refine st_istore C dX11_route_115 (by decide) rfl ?_
                    show T x 117 [(0, vR 200), (1, vI f9), (2, vI o9), (3, vI v9), (4, vI r1), (5, vI k1), (6, vI (mbes (k1 / 4) (k1 % 4)))] [] _ _ _
                    refine st_iload C dX11_route_117 rfl ?_
                    refine st_if_lt (tgt := 152) C dX11_route_119 (by decide) (fun c_119 => ?_) (fun c_119 => ?_)
                    · refine st_iconst C dX11_route_152 (by decide) ?_
                      refine st_istore C dX11_route_153 (by decide) rfl ?_
                      show T x 155 [(0, vR 200), (1, vI f9), (2, vI o9), (3, vI v9), (4, vI r1), (5, vI k1), (6, vI (mbes (k1 / 4) (k1 % 4))), (7, vI 0)] [] _ _ _
                      refine st_iload C dX11_route_155 rfl ?_
                      refine st_if_eq (tgt := 199) C dX11_route_157 (by decide) (fun c_157 => ?_) (fun c_157 => by omega)
                      refine st_iinc C dX11_route_199 rfl (by decide) rfl ⟨(by omega), (by omega)⟩ ?_
                      show T x 202 [(0, vR 200), (1, vI f9), (2, vI o9), (3, vI v9), (4, vI r1), (5, vI (k1 + 1)), (6, vI (mbes (k1 / 4) (k1 % 4))), (7, vI 0)] [] _ _ _
                      refine st_goto (tgt := 96) C dX11_route_202 (by decide) ?_
                      refine st_sub [0, 1, 2, 3, 4, 5] rfl ?_
                      exact ih_96 (k1 + 1) f2 h3 (by omega) (by omega) (by first | exact RJ_f g3 (by omega) g8 (fun z1 z2 => by first | omega | exact absurd (show mm (304 * v9 + mroad (k1 / 4) (k1 % 4)) = 1 from (road_w (f := (fun s => mm (304 * v9 + s))) (p := k1 / 4) (w := k1 % 4) (by omega) (by omega) z1).mpr z2) (by assumption)) | exact RJ_t g3 (by omega) g8 (by omega) ((road_w (f := (fun s => mm (304 * v9 + s))) (p := k1 / 4) (w := k1 % 4) (by omega) (by omega) (by omega)).mp (by show mm (304 * v9 + mroad (k1 / 4) (k1 % 4)) = 1; assumption)) (by assumption)) (by first | exact hh3 | rw [hh3, hput_hput]) (by omega)
                    · refine st_aload_n C 0 dX11_route_122 rfl rfl ?_
                      refine st_getf C dX11_route_123 fl_X11_7 (by rw [hh3]; exact hput_o (by decide) hput_s) rfl ?_
                      refine st_sipush C dX11_route_126 (by decide) (by decide) ?_
                      refine st_iload_n C 3 dX11_route_129 rfl rfl ?_
                      refine st_imul C dX11_route_130 ⟨(by omega), (by omega)⟩ ?_
                      refine st_iload C dX11_route_131 rfl ?_
                      refine st_iconst C dX11_route_133 (by decide) ?_
                      refine st_idiv C dX11_route_134 (by omega) (by omega) ?_
                      refine st_iload C dX11_route_135 rfl ?_
                      refine st_iconst C dX11_route_137 (by decide) ?_
                      refine st_irem C dX11_route_138 (by omega) (by omega) ?_
                      have hmr := mroad_in (p := (k1 / 4)) (w := (k1 % 4)) (by omega) (by omega) (by omega)
                      refine st_callS (st := [vI (304 * v9), vR 201]) C dX11_route_139 [vI (k1 / 4), vI (k1 % 4)] (k_mroad (p := (k1 / 4)) (w := (k1 % 4)) (by omega) (by omega) (by omega)) w_X11_83 rfl (by decide) (by decide) (by omega) (by omega) (Nat.le_of_ble_eq_true rfl) (ko_rt ?_)
                      show T x 142 [(0, vR 200), (1, vI f9), (2, vI o9), (3, vI v9), (4, vI r1), (5, vI k1), (6, vI (mbes (k1 / 4) (k1 % 4)))] [vI (mroad (k1 / 4) (k1 % 4)), vI (304 * v9), vR 201] _ _ _
                      refine st_iadd C dX11_route_142 ⟨(by omega), (by omega)⟩ ?_
                      refine st_iald C dX11_route_143 (by rw [hh3]; exact hput_o (by decide) (hput_o (by decide) hmm)) (by omega) (by omega) ?_
                      refine st_iconst C dX11_route_144 (by decide) ?_
                      refine st_icmp_ne (tgt := 152) C dX11_route_145 (by decide) (fun c_145 => ?_) (fun c_145 => ?_)
                      · refine st_iconst C dX11_route_152 (by decide) ?_
                        refine st_istore C dX11_route_153 (by decide) rfl ?_
                        show T x 155 [(0, vR 200), (1, vI f9), (2, vI o9), (3, vI v9), (4, vI r1), (5, vI k1), (6, vI (mbes (k1 / 4) (k1 % 4))), (7, vI 0)] [] _ _ _
                        refine st_iload C dX11_route_155 rfl ?_
                        refine st_if_eq (tgt := 199) C dX11_route_157 (by decide) (fun c_157 => ?_) (fun c_157 => by omega)
                        refine st_iinc C dX11_route_199 rfl (by decide) rfl ⟨(by omega), (by omega)⟩ ?_
                        show T x 202 [(0, vR 200), (1, vI f9), (2, vI o9), (3, vI v9), (4, vI r1), (5, vI (k1 + 1)), (6, vI (mbes (k1 / 4) (k1 % 4))), (7, vI 0)] [] _ _ _
                        refine st_goto (tgt := 96) C dX11_route_202 (by decide) ?_
                        refine st_sub [0, 1, 2, 3, 4, 5] rfl ?_
                        exact ih_96 (k1 + 1) f2 h3 (by omega) (by omega) (by first | exact RJ_f g3 (by omega) g8 (fun z1 z2 => by first | omega | exact absurd (show mm (304 * v9 + mroad (k1 / 4) (k1 % 4)) = 1 from (road_w (f := (fun s => mm (304 * v9 + s))) (p := k1 / 4) (w := k1 % 4) (by omega) (by omega) z1).mpr z2) (by assumption)) | exact RJ_t g3 (by omega) g8 (by omega) ((road_w (f := (fun s => mm (304 * v9 + s))) (p := k1 / 4) (w := k1 % 4) (by omega) (by omega) (by omega)).mp (by show mm (304 * v9 + mroad (k1 / 4) (k1 % 4)) = 1; assumption)) (by assumption)) (by first | exact hh3 | rw [hh3, hput_hput]) (by omega)
                      · refine st_iconst C dX11_route_148 (by decide) ?_
                        refine st_goto (tgt := 153) C dX11_route_149 (by decide) ?_
                        refine st_istore C dX11_route_153 (by decide) rfl ?_
                        show T x 155 [(0, vR 200), (1, vI f9), (2, vI o9), (3, vI v9), (4, vI r1), (5, vI k1), (6, vI (mbes (k1 / 4) (k1 % 4))), (7, vI 1)] [] _ _ _
                        refine st_iload C dX11_route_155 rfl ?_
                        refine st_if_eq (tgt := 199) C dX11_route_157 (by decide) (fun c_157 => by omega) (fun c_157 => ?_)
                        refine st_aload_n C 0 dX11_route_160 rfl rfl ?_
                        refine st_getf C dX11_route_161 fl_X11_59 (by rw [hh3]; exact hput_o (by decide) hput_s) rfl ?_
                        refine st_iload C dX11_route_164 rfl ?_
                        refine st_iconst C dX11_route_166 (by decide) ?_
                        refine st_idiv C dX11_route_167 (by omega) (by omega) ?_
                        refine st_iald C dX11_route_168 (by rw [hh3]; exact hput_s) (by omega) (by omega) ?_
                        refine st_iconst C dX11_route_169 (by decide) ?_
                        refine st_iadd C dX11_route_170 ⟨(by omega), (by omega)⟩ ?_
                        refine st_aload_n C 0 dX11_route_171 rfl rfl ?_
                        refine st_getf C dX11_route_172 fl_X11_59 (by rw [hh3]; exact hput_o (by decide) hput_s) rfl ?_
                        refine st_iload C dX11_route_175 rfl ?_
                        refine st_iald C dX11_route_177 (by rw [hh3]; exact hput_s) (by omega) (by omega) ?_
                        refine st_icmp_ge (tgt := 199) C dX11_route_178 (by decide) (fun c_178 => ?_) (fun c_178 => ?_)
                        · refine st_iinc C dX11_route_199 rfl (by decide) rfl ⟨(by omega), (by omega)⟩ ?_
                          show T x 202 [(0, vR 200), (1, vI f9), (2, vI o9), (3, vI v9), (4, vI r1), (5, vI (k1 + 1)), (6, vI (mbes (k1 / 4) (k1 % 4))), (7, vI 1)] [] _ _ _
                          refine st_goto (tgt := 96) C dX11_route_202 (by decide) ?_
                          refine st_sub [0, 1, 2, 3, 4, 5] rfl ?_
                          exact ih_96 (k1 + 1) f2 h3 (by omega) (by omega) (by first | exact RJ_f g3 (by omega) g8 (fun z1 z2 => by first | omega | exact absurd (show mm (304 * v9 + mroad (k1 / 4) (k1 % 4)) = 1 from (road_w (f := (fun s => mm (304 * v9 + s))) (p := k1 / 4) (w := k1 % 4) (by omega) (by omega) z1).mpr z2) (by assumption)) | exact RJ_t g3 (by omega) g8 (by omega) ((road_w (f := (fun s => mm (304 * v9 + s))) (p := k1 / 4) (w := k1 % 4) (by omega) (by omega) (by omega)).mp (by show mm (304 * v9 + mroad (k1 / 4) (k1 % 4)) = 1; assumption)) (by assumption)) (by first | exact hh3 | rw [hh3, hput_hput]) (by omega)
                        · refine st_aload_n C 0 dX11_route_181 rfl rfl ?_
                          refine st_getf C dX11_route_182 fl_X11_59 (by rw [hh3]; exact hput_o (by decide) hput_s) rfl ?_
                          refine st_iload C dX11_route_185 rfl ?_
                          refine st_aload_n C 0 dX11_route_187 rfl rfl ?_
                          refine st_getf C dX11_route_188 fl_X11_59 (by rw [hh3]; exact hput_o (by decide) hput_s) rfl ?_
                          refine st_iload C dX11_route_191 rfl ?_
                          refine st_iconst C dX11_route_193 (by decide) ?_
                          refine st_idiv C dX11_route_194 (by omega) (by omega) ?_
                          refine st_iald C dX11_route_195 (by rw [hh3]; exact hput_s) (by omega) (by omega) ?_
                          refine st_iconst C dX11_route_196 (by decide) ?_
                          refine st_iadd C dX11_route_197 ⟨(by omega), (by omega)⟩ ?_
                          refine st_iast C dX11_route_198 (by rw [hh3]; exact hput_s) (by omega) (by omega) ?_
                          refine st_iinc C dX11_route_199 rfl (by decide) rfl ⟨(by omega), (by omega)⟩ ?_
                          show T x 202 [(0, vR 200), (1, vI f9), (2, vI o9), (3, vI v9), (4, vI r1), (5, vI (k1 + 1)), (6, vI (mbes (k1 / 4) (k1 % 4))), (7, vI 1)] [] _ _ _
                          refine st_goto (tgt := 96) C dX11_route_202 (by decide) ?_
                          refine st_sub [0, 1, 2, 3, 4, 5] rfl ?_
                          exact ih_96 (k1 + 1) (fput f2 (mbes (k1 / 4) (k1 % 4)) (f2 (k1 / 4) + 1)) (hput h3 217 (oI 64 (fput f2 (mbes (k1 / 4) (k1 % 4)) (f2 (k1 / 4) + 1)))) (by omega) (by omega) (by first | exact RJ_f g3 (by omega) g8 (fun z1 z2 => by first | omega | exact absurd (show mm (304 * v9 + mroad (k1 / 4) (k1 % 4)) = 1 from (road_w (f := (fun s => mm (304 * v9 + s))) (p := k1 / 4) (w := k1 % 4) (by omega) (by omega) z1).mpr z2) (by assumption)) | exact RJ_t g3 (by omega) g8 (by omega) ((road_w (f := (fun s => mm (304 * v9 + s))) (p := k1 / 4) (w := k1 % 4) (by omega) (by omega) (by omega)).mp (by show mm (304 * v9 + mroad (k1 / 4) (k1 % 4)) = 1; assumption)) (by assumption)) (by first | exact hh3 | rw [hh3, hput_hput]) (by omega)
              exact loop_96 _ 0 f1 h2 (by omega) (by omega) (RJ_0 g5) (hh2) (Nat.lt_succ_self _)
        exact loop_86 _ 0 (fmix (fun p => if p = f9 then 0 else 999) fr i) h1 (by omega) (by omega) (RI_0 (fun p p1 p2 => fmix_in p1 (by omega))) (hh) (Nat.lt_succ_self _)
      · refine st_aload_n C 0 dX11_route_57 rfl rfl ?_
        refine st_getf C dX11_route_58 fl_X11_59 (by rw [hh]; exact hput_o (by decide) hput_s) rfl ?_
        refine st_iload C dX11_route_61 rfl ?_
        refine st_iload C dX11_route_63 rfl ?_
        refine st_iload_n C 1 dX11_route_65 rfl rfl ?_
        refine st_icmp_ne (tgt := 73) C dX11_route_66 (by decide) (fun c_66 => ?_) (fun c_66 => ?_)
        · refine st_sipush C dX11_route_73 (by decide) (by decide) ?_
          refine st_iast C dX11_route_76 (by rw [hh]; exact hput_s) (by omega) (by omega) ?_
          refine st_iinc C dX11_route_77 rfl (by decide) rfl ⟨(by omega), (by omega)⟩ ?_
          show T x 80 [(0, vR 200), (1, vI f9), (2, vI o9), (3, vI v9), (4, vI (i + 1))] [] _ _ _
          refine st_goto (tgt := 50) C dX11_route_80 (by decide) ?_
          exact ih_50 (i + 1) (hput h1 217 (oI 64 (fput (fmix (fun p => if p = f9 then 0 else 999) fr i) i 999))) (by omega) (by omega) (by rw [hh, hput_hput]; refine congrArg (fun z => hput (hput h 200 (oO 10 [vR 201, vR 202, vR 203, vR 204, vR 205, vR 206, vR 207, vR 208, vR 209, vR 210, vR 211, vR 212, vR 213, vR 214, vR 215, vR 216, vR 217, vR 218, vI mv, vI mrc, vI mmc, vI mmk, vI mdv, vI mwl, vI mwa, vI mwp, vI 0])) 217 (oI 64 z)) (fmix_s g1 ?_); first | exact (if_pos (by assumption)).symm | exact (if_neg (by assumption)).symm) (by omega)
        · refine st_iconst C dX11_route_69 (by decide) ?_
          refine st_goto (tgt := 76) C dX11_route_70 (by decide) ?_
          refine st_iast C dX11_route_76 (by rw [hh]; exact hput_s) (by omega) (by omega) ?_
          refine st_iinc C dX11_route_77 rfl (by decide) rfl ⟨(by omega), (by omega)⟩ ?_
          show T x 80 [(0, vR 200), (1, vI f9), (2, vI o9), (3, vI v9), (4, vI (i + 1))] [] _ _ _
          refine st_goto (tgt := 50) C dX11_route_80 (by decide) ?_
          exact ih_50 (i + 1) (hput h1 217 (oI 64 (fput (fmix (fun p => if p = f9 then 0 else 999) fr i) i 0))) (by omega) (by omega) (by rw [hh, hput_hput]; refine congrArg (fun z => hput (hput h 200 (oO 10 [vR 201, vR 202, vR 203, vR 204, vR 205, vR 206, vR 207, vR 208, vR 209, vR 210, vR 211, vR 212, vR 213, vR 214, vR 215, vR 216, vR 217, vR 218, vI mv, vI mrc, vI mmc, vI mmk, vI mdv, vI mwl, vI mwa, vI mwp, vI 0])) 217 (oI 64 z)) (fmix_s g1 ?_); first | exact (if_pos (by assumption)).symm | exact (if_neg (by assumption)).symm) (by omega)
  exact loop_50 _ 0 (hput h 200 (oO 10 [vR 201, vR 202, vR 203, vR 204, vR 205, vR 206, vR 207, vR 208, vR 209, vR 210, vR 211, vR 212, vR 213, vR 214, vR 215, vR 216, vR 217, vR 218, vI mv, vI mrc, vI mmc, vI mmk, vI mdv, vI mwl, vI mwa, vI mwp, vI 0])) (by omega) (by omega) (by rw [fmix_0]; exact (hput_self (hput_o (by decide) h217)).symm) (Nat.lt_succ_self _)
set_option maxRecDepth 20000 in
set_option maxHeartbeats 4000000 in
theorem m_tile_x1 {g : Gx} {h : HP} {mv mrc mmc mmk mdv mwl mwa mwp mth : Int} {k9 l x9 y9 : Int} (hm : mO h mv mrc mmc mmk mdv mwl mwa mwp mth) (hQ : ¬ TileOk k9 l x9 y9) : Ct g yX11_tile (.code yX11_tile cX11_tile 6 (some .int)) 4 0 0 [vR 200, vI k9, vI l, vI x9, vI y9] h (Rt (some (vI 0)) (hput h 200 (oO 10 [vR 201, vR 202, vR 203, vR 204, vR 205, vR 206, vR 207, vR 208, vR 209, vR 210, vR 211, vR 212, vR 213, vR 214, vR 215, vR 216, vR 217, vR 218, vI mv, vI mrc, vI mmc, vI mmk, vI mdv, vI mwl, vI mwa, vI mwp, vI 1]))) := by
  refine Ct.of (by decide) (Nat.le_of_ble_eq_true rfl) (fun x hg C F => ?_)
  subst hg
  show T x 0 [(0, vR 200), (1, vI k9), (2, vI l), (3, vI x9), (4, vI y9)] [] h 0 0
  refine st_aload_n C 0 dX11_tile_0 rfl rfl ?_
  refine st_iload_n C 1 dX11_tile_1 rfl rfl ?_
  refine st_iload_n C 2 dX11_tile_2 rfl rfl ?_
  refine st_iload_n C 3 dX11_tile_3 rfl rfl ?_
  refine st_iload C dX11_tile_4 rfl ?_
  refine st_callV (st := []) C dX11_tile_6 [vI k9, vI l, vI x9, vI y9] (k_noTile_f hm hQ) hm w_X11_177 rfl (by decide) (by decide) (by omega) (by omega) (Nat.le_of_ble_eq_true rfl) (ko_rt ?_)
  show T x 9 [(0, vR 200), (1, vI k9), (2, vI l), (3, vI x9), (4, vI y9)] [vI 1] (hput h 200 (oO 10 [vR 201, vR 202, vR 203, vR 204, vR 205, vR 206, vR 207, vR 208, vR 209, vR 210, vR 211, vR 212, vR 213, vR 214, vR 215, vR 216, vR 217, vR 218, vI mv, vI mrc, vI mmc, vI mmk, vI mdv, vI mwl, vI mwa, vI mwp, vI 1])) _ _
  refine st_if_eq (tgt := 14) C dX11_tile_9 (by decide) (fun c_9 => by omega) (fun c_9 => ?_)
  refine st_iconst C dX11_tile_12 (by decide) ?_
  exact st_ireturn C F dX11_tile_13 rfl (by first | exact ⟨by with_reducible rfl, by with_reducible rfl⟩ | (exfalso; omega)) (by omega) (by omega)
set_option maxRecDepth 20000 in
set_option maxHeartbeats 4000000 in
theorem m_isKept_x1 {g : Gx} {h : HP} {mv mrc mmc mmk mdv mwl mwa mwp mth : Int} {k9 l x9 y9 : Int} (hm : mO h mv mrc mmc mmk mdv mwl mwa mwp mth) (hQ : ¬ TileOk k9 l x9 y9) : Ct g yX11_isKept (.code yX11_isKept cX11_isKept 5 (some .boolean)) 4 0 0 [vR 200, vI k9, vI l, vI x9, vI y9] h (Rt (some (vI 0)) (hput h 200 (oO 10 [vR 201, vR 202, vR 203, vR 204, vR 205, vR 206, vR 207, vR 208, vR 209, vR 210, vR 211, vR 212, vR 213, vR 214, vR 215, vR 216, vR 217, vR 218, vI mv, vI mrc, vI mmc, vI mmk, vI mdv, vI mwl, vI mwa, vI mwp, vI 1]))) := by
  refine Ct.of (by decide) (Nat.le_of_ble_eq_true rfl) (fun x hg C F => ?_)
  subst hg
  show T x 0 [(0, vR 200), (1, vI k9), (2, vI l), (3, vI x9), (4, vI y9)] [] h 0 0
  refine st_aload_n C 0 dX11_isKept_0 rfl rfl ?_
  refine st_iload_n C 1 dX11_isKept_1 rfl rfl ?_
  refine st_iload_n C 2 dX11_isKept_2 rfl rfl ?_
  refine st_iload_n C 3 dX11_isKept_3 rfl rfl ?_
  refine st_iload C dX11_isKept_4 rfl ?_
  refine st_callV (st := []) C dX11_isKept_6 [vI k9, vI l, vI x9, vI y9] (k_noTile_f hm hQ) hm w_X11_177 rfl (by decide) (by decide) (by omega) (by omega) (Nat.le_of_ble_eq_true rfl) (ko_rt ?_)
  show T x 9 [(0, vR 200), (1, vI k9), (2, vI l), (3, vI x9), (4, vI y9)] [vI 1] (hput h 200 (oO 10 [vR 201, vR 202, vR 203, vR 204, vR 205, vR 206, vR 207, vR 208, vR 209, vR 210, vR 211, vR 212, vR 213, vR 214, vR 215, vR 216, vR 217, vR 218, vI mv, vI mrc, vI mmc, vI mmk, vI mdv, vI mwl, vI mwa, vI mwp, vI 1])) _ _
  refine st_if_ne (tgt := 45) C dX11_isKept_9 (by decide) (fun c_9 => ?_) (fun c_9 => by omega)
  refine st_iconst C dX11_isKept_45 (by decide) ?_
  exact st_zreturn C F dX11_isKept_46 rfl (by omega) (by first | exact ⟨by with_reducible rfl, by with_reducible rfl⟩ | (exfalso; omega)) (by omega) (by omega)
set_option maxRecDepth 20000 in
set_option maxHeartbeats 4000000 in
theorem m_tile0_f {g : Gx} {h : HP} {mv mrc mmc mmk mdv mwl mwa mwp mth : Int} {ml : Int → Int} {l x9 y9 : Int} (hm : mO h mv mrc mmc mmk mdv mwl mwa mwp mth) (h212 : h 212 = some (oI 768 ml)) (hQ : TileOk 1 l x9 y9) (hl : 0 ≤ l ∧ l ≤ 2) (hx : 0 ≤ x9 ∧ x9 ≤ 7) (hy : 0 ≤ y9 ∧ y9 ≤ 7) (hk : 0 ≤ ml (0 + (64 * l) + (8 * y9) + x9)) : Ct g yX11_tile (.code yX11_tile cX11_tile 6 (some .int)) 4 0 0 [vR 200, vI 1, vI l, vI x9, vI y9] h (Rt (some (vI (ml (0 + (64 * l) + (8 * y9) + x9)))) (hput h 200 (oO 10 [vR 201, vR 202, vR 203, vR 204, vR 205, vR 206, vR 207, vR 208, vR 209, vR 210, vR 211, vR 212, vR 213, vR 214, vR 215, vR 216, vR 217, vR 218, vI mv, vI mrc, vI mmc, vI mmk, vI mdv, vI mwl, vI mwa, vI mwp, vI 0]))) := by
  refine Ct.of (by decide) (Nat.le_of_ble_eq_true rfl) (fun x hg C F => ?_)
  subst hg
  show T x 0 [(0, vR 200), (1, vI 1), (2, vI l), (3, vI x9), (4, vI y9)] [] h 0 0
  refine st_aload_n C 0 dX11_tile_0 rfl rfl ?_
  refine st_iload_n C 1 dX11_tile_1 rfl rfl ?_
  refine st_iload_n C 2 dX11_tile_2 rfl rfl ?_
  refine st_iload_n C 3 dX11_tile_3 rfl rfl ?_
  refine st_iload C dX11_tile_4 rfl ?_
  refine st_callV (st := []) C dX11_tile_6 [vI 1, vI l, vI x9, vI y9] (k_noTile1_t hm hQ) hm w_X11_177 rfl (by decide) (by decide) (by omega) (by omega) (Nat.le_of_ble_eq_true rfl) (ko_rt ?_)
  show T x 9 [(0, vR 200), (1, vI 1), (2, vI l), (3, vI x9), (4, vI y9)] [vI 0] (hput h 200 (oO 10 [vR 201, vR 202, vR 203, vR 204, vR 205, vR 206, vR 207, vR 208, vR 209, vR 210, vR 211, vR 212, vR 213, vR 214, vR 215, vR 216, vR 217, vR 218, vI mv, vI mrc, vI mmc, vI mmk, vI mdv, vI mwl, vI mwa, vI mwp, vI 0])) _ _
  refine st_if_eq (tgt := 14) C dX11_tile_9 (by decide) (fun c_9 => ?_) (fun c_9 => by omega)
  refine st_sipush C dX11_tile_14 (by decide) (by decide) ?_
  refine st_iload_n C 1 dX11_tile_17 rfl rfl ?_
  refine st_callS (st := [vI 192]) C dX11_tile_18 [vI 1] k_depth1 w_X11_174 rfl (by decide) (by decide) (by omega) (by omega) (Nat.le_of_ble_eq_true rfl) (ko_rt ?_)
  show T x 21 [(0, vR 200), (1, vI 1), (2, vI l), (3, vI x9), (4, vI y9)] [vI 0, vI 192] _ _ _
  refine st_imul C dX11_tile_21 ⟨(by omega), (by omega)⟩ ?_
  refine st_bipush C dX11_tile_22 (by decide) (by decide) ?_
  refine st_iload_n C 2 dX11_tile_24 rfl rfl ?_
  refine st_imul C dX11_tile_25 ⟨(by omega), (by omega)⟩ ?_
  refine st_iadd C dX11_tile_26 ⟨(by omega), (by omega)⟩ ?_
  refine st_bipush C dX11_tile_27 (by decide) (by decide) ?_
  refine st_iload C dX11_tile_29 rfl ?_
  refine st_imul C dX11_tile_31 ⟨(by omega), (by omega)⟩ ?_
  refine st_iadd C dX11_tile_32 ⟨(by omega), (by omega)⟩ ?_
  refine st_iload_n C 3 dX11_tile_33 rfl rfl ?_
  refine st_iadd C dX11_tile_34 ⟨(by omega), (by omega)⟩ ?_
  refine st_istore C dX11_tile_35 (by decide) rfl ?_
  show T x 37 [(0, vR 200), (1, vI 1), (2, vI l), (3, vI x9), (4, vI y9), (5, vI (0 + (64 * l) + (8 * y9) + x9))] [] _ _ _
  refine st_aload_n C 0 dX11_tile_37 rfl rfl ?_
  refine st_getf C dX11_tile_38 fl_X11_44 hput_s rfl ?_
  refine st_iload C dX11_tile_41 rfl ?_
  refine st_iald C dX11_tile_43 (hput_o (by omega) h212) (by omega) (by omega) ?_
  refine st_if_ge (tgt := 77) C dX11_tile_44 (by decide) (fun c_44 => ?_) (fun c_44 => by omega)
  refine st_aload_n C 0 dX11_tile_77 rfl rfl ?_
  refine st_getf C dX11_tile_78 fl_X11_44 hput_s rfl ?_
  refine st_iload C dX11_tile_81 rfl ?_
  refine st_iald C dX11_tile_83 (hput_o (by omega) h212) (by omega) (by omega) ?_
  exact st_ireturn C F dX11_tile_84 rfl (by first | exact ⟨by with_reducible rfl, by with_reducible rfl⟩ | (exfalso; omega)) (by omega) (by omega)
set_option maxRecDepth 20000 in
set_option maxHeartbeats 4000000 in
theorem m_tile0_t {g : Gx} {h : HP} {mv mrc mmc mmk mdv mwl mwa mwp mth : Int} {mm : Int → Int} {ml : Int → Int} {fc : Int → Int} {l x9 y9 : Int} (hm : mO h mv mrc mmc mmk mdv mwl mwa mwp mth) (hmm : h 201 = some (oI 12464 mm)) (h212 : h 212 = some (oI 768 ml)) (h218 : h 218 = some (oI 10 fc)) (hv : 0 ≤ mv ∧ mv ≤ 40) (hQ : TileOk 1 l x9 y9) (hl : 0 ≤ l ∧ l ≤ 2) (hx : 0 ≤ x9 ∧ x9 ≤ 7) (hy : 0 ≤ y9 ∧ y9 ≤ 7) (hk : ml (0 + (64 * l) + (8 * y9) + x9) < 0) (hmk : 0 ≤ mmk ∧ mmk ≤ 1000000) (hwa : ∀ j, 304 * mv ≤ j → j ≤ 304 * mv + 191 → 0 ≤ mm j ∧ mm j ≤ 9) : Ct g yX11_tile (.code yX11_tile cX11_tile 6 (some .int)) 4 0 0 [vR 200, vI 1, vI l, vI x9, vI y9] h ((fun r h' => r = .inl (some (vI ((mcb (fun a => cnt (fun k => mm (304 * mv + (64 * l + 8 * ((y9 * 1) + k / 1) + (x9 * 1) + k % 1)) = a) 1) 10).1))) ∧ ∃ f5 : Int → Int, h' = (hput (hput (hput (hput h 200 (oO 10 [vR 201, vR 202, vR 203, vR 204, vR 205, vR 206, vR 207, vR 208, vR 209, vR 210, vR 211, vR 212, vR 213, vR 214, vR 215, vR 216, vR 217, vR 218, vI mv, vI mrc, vI mmc, vI mmk, vI mdv, vI mwl, vI mwa, vI mwp, vI 0])) 218 (oI 10 f5)) 212 (oI 768 (fput ml (0 + (64 * l) + (8 * y9) + x9) (mcb (fun a => cnt (fun k => mm (304 * mv + (64 * l + 8 * ((y9 * 1) + k / 1) + (x9 * 1) + k % 1)) = a) 1) 10).1))) 200 (oO 10 [vR 201, vR 202, vR 203, vR 204, vR 205, vR 206, vR 207, vR 208, vR 209, vR 210, vR 211, vR 212, vR 213, vR 214, vR 215, vR 216, vR 217, vR 218, vI mv, vI mrc, vI mmc, vI (mmk + 1), vI mdv, vI mwl, vI mwa, vI mwp, vI 0])))) := by
  refine Ct.of (by decide) (Nat.le_of_ble_eq_true rfl) (fun x hg C F => ?_)
  subst hg
  show T x 0 [(0, vR 200), (1, vI 1), (2, vI l), (3, vI x9), (4, vI y9)] [] h 0 0
  refine st_aload_n C 0 dX11_tile_0 rfl rfl ?_
  refine st_iload_n C 1 dX11_tile_1 rfl rfl ?_
  refine st_iload_n C 2 dX11_tile_2 rfl rfl ?_
  refine st_iload_n C 3 dX11_tile_3 rfl rfl ?_
  refine st_iload C dX11_tile_4 rfl ?_
  refine st_callV (st := []) C dX11_tile_6 [vI 1, vI l, vI x9, vI y9] (k_noTile1_t hm hQ) hm w_X11_177 rfl (by decide) (by decide) (by omega) (by omega) (Nat.le_of_ble_eq_true rfl) (ko_rt ?_)
  show T x 9 [(0, vR 200), (1, vI 1), (2, vI l), (3, vI x9), (4, vI y9)] [vI 0] (hput h 200 (oO 10 [vR 201, vR 202, vR 203, vR 204, vR 205, vR 206, vR 207, vR 208, vR 209, vR 210, vR 211, vR 212, vR 213, vR 214, vR 215, vR 216, vR 217, vR 218, vI mv, vI mrc, vI mmc, vI mmk, vI mdv, vI mwl, vI mwa, vI mwp, vI 0])) _ _
  refine st_if_eq (tgt := 14) C dX11_tile_9 (by decide) (fun c_9 => ?_) (fun c_9 => by omega)
  refine st_sipush C dX11_tile_14 (by decide) (by decide) ?_
  refine st_iload_n C 1 dX11_tile_17 rfl rfl ?_
  refine st_callS (st := [vI 192]) C dX11_tile_18 [vI 1] k_depth1 w_X11_174 rfl (by decide) (by decide) (by omega) (by omega) (Nat.le_of_ble_eq_true rfl) (ko_rt ?_)
  show T x 21 [(0, vR 200), (1, vI 1), (2, vI l), (3, vI x9), (4, vI y9)] [vI 0, vI 192] _ _ _
  refine st_imul C dX11_tile_21 ⟨(by omega), (by omega)⟩ ?_
  refine st_bipush C dX11_tile_22 (by decide) (by decide) ?_
  refine st_iload_n C 2 dX11_tile_24 rfl rfl ?_
  refine st_imul C dX11_tile_25 ⟨(by omega), (by omega)⟩ ?_
  refine st_iadd C dX11_tile_26 ⟨(by omega), (by omega)⟩ ?_
  refine st_bipush C dX11_tile_27 (by decide) (by decide) ?_
  refine st_iload C dX11_tile_29 rfl ?_
  refine st_imul C dX11_tile_31 ⟨(by omega), (by omega)⟩ ?_
  refine st_iadd C dX11_tile_32 ⟨(by omega), (by omega)⟩ ?_
  refine st_iload_n C 3 dX11_tile_33 rfl rfl ?_
  refine st_iadd C dX11_tile_34 ⟨(by omega), (by omega)⟩ ?_
  refine st_istore C dX11_tile_35 (by decide) rfl ?_
  show T x 37 [(0, vR 200), (1, vI 1), (2, vI l), (3, vI x9), (4, vI y9), (5, vI (0 + (64 * l) + (8 * y9) + x9))] [] _ _ _
  refine st_aload_n C 0 dX11_tile_37 rfl rfl ?_
  refine st_getf C dX11_tile_38 fl_X11_44 hput_s rfl ?_
  refine st_iload C dX11_tile_41 rfl ?_
  refine st_iald C dX11_tile_43 (hput_o (by omega) h212) (by omega) (by omega) ?_
  refine st_if_ge (tgt := 77) C dX11_tile_44 (by decide) (fun c_44 => by omega) (fun c_44 => ?_)
  refine st_aload_n C 0 dX11_tile_47 rfl rfl ?_
  refine st_getf C dX11_tile_48 fl_X11_44 hput_s rfl ?_
  refine st_iload C dX11_tile_51 rfl ?_
  refine st_aload_n C 0 dX11_tile_53 rfl rfl ?_
  refine st_iload_n C 1 dX11_tile_54 rfl rfl ?_
  refine st_iload_n C 2 dX11_tile_55 rfl rfl ?_
  refine st_iload_n C 3 dX11_tile_56 rfl rfl ?_
  refine st_iload_n C 1 dX11_tile_57 rfl rfl ?_
  refine st_imul C dX11_tile_58 ⟨(by omega), (by omega)⟩ ?_
  refine st_iload C dX11_tile_59 rfl ?_
  refine st_iload_n C 1 dX11_tile_61 rfl rfl ?_
  refine st_imul C dX11_tile_62 ⟨(by omega), (by omega)⟩ ?_
  refine st_callV (st := [vI (0 + (64 * l) + (8 * y9) + x9), vR 212]) C dX11_tile_63 [vI 1, vI l, vI (x9 * 1), vI (y9 * 1)] (k_most1 (f0 := fc) (l := l) (a9 := (x9 * 1)) (t9 := (y9 * 1)) hput_s (hput_o (by omega) hmm) hv (hput_o (by omega) h218) (by omega) (by omega) (by omega) hwa) hput_s w_X11_180 rfl (by decide) (by decide) (by omega) (by omega) (Nat.le_of_ble_eq_true rfl) (ko_rc (fun f5 => ?_))
  show T x 66 [(0, vR 200), (1, vI 1), (2, vI l), (3, vI x9), (4, vI y9), (5, vI (0 + (64 * l) + (8 * y9) + x9))] [vI ((mcb (fun a => cnt (fun k => mm (304 * mv + (64 * l + 8 * ((y9 * 1) + k / 1) + (x9 * 1) + k % 1)) = a) 1) 10).1), vI (0 + (64 * l) + (8 * y9) + x9), vR 212] _ _ _
  refine st_iast C dX11_tile_66 (hput_o (by decide) (hput_o (by omega) h212)) (by omega) (by omega) ?_
  refine st_aload_n C 0 dX11_tile_67 rfl rfl ?_
  refine st_dup C dX11_tile_68 rfl ?_
  refine st_getf C dX11_tile_69 fl_X11_184 (hput_o (by omega) (hput_o (by decide) hput_s)) rfl ?_
  refine st_iconst C dX11_tile_72 (by decide) ?_
  refine st_iadd C dX11_tile_73 ⟨(by omega), (by omega)⟩ ?_
  refine st_putf C dX11_tile_74 fp_X11_184 (fun q => by cases q) (hput_o (by omega) (hput_o (by decide) hput_s)) (Nat.le_of_ble_eq_true rfl) fit_int ?_
  show T x 77 [(0, vR 200), (1, vI 1), (2, vI l), (3, vI x9), (4, vI y9), (5, vI (0 + (64 * l) + (8 * y9) + x9))] [] (hput (hput (hput (hput h 200 (oO 10 [vR 201, vR 202, vR 203, vR 204, vR 205, vR 206, vR 207, vR 208, vR 209, vR 210, vR 211, vR 212, vR 213, vR 214, vR 215, vR 216, vR 217, vR 218, vI mv, vI mrc, vI mmc, vI mmk, vI mdv, vI mwl, vI mwa, vI mwp, vI 0])) 218 (oI 10 f5)) 212 (oI 768 (fput ml (0 + (64 * l) + (8 * y9) + x9) ((mcb (fun a => cnt (fun k => mm (304 * mv + (64 * l + 8 * ((y9 * 1) + k / 1) + (x9 * 1) + k % 1)) = a) 1) 10).1)))) 200 (oO 10 [vR 201, vR 202, vR 203, vR 204, vR 205, vR 206, vR 207, vR 208, vR 209, vR 210, vR 211, vR 212, vR 213, vR 214, vR 215, vR 216, vR 217, vR 218, vI mv, vI mrc, vI mmc, vI (mmk + 1), vI mdv, vI mwl, vI mwa, vI mwp, vI 0])) _ _
  refine st_aload_n C 0 dX11_tile_77 rfl rfl ?_
  refine st_getf C dX11_tile_78 fl_X11_44 hput_s rfl ?_
  refine st_iload C dX11_tile_81 rfl ?_
  refine st_iald C dX11_tile_83 (hput_o (by omega) hput_s) (by omega) (by omega) ?_
  exact st_ireturn C F dX11_tile_84 rfl (by rw [fput_s]; exact ⟨by with_reducible rfl, f5, by with_reducible rfl⟩) (by omega) (by omega)
set_option maxRecDepth 20000 in
set_option maxHeartbeats 4000000 in
theorem m_isKept0_t {g : Gx} {h : HP} {mv mrc mmc mmk mdv mwl mwa mwp mth : Int} {ml : Int → Int} {l x9 y9 : Int} (hm : mO h mv mrc mmc mmk mdv mwl mwa mwp mth) (h212 : h 212 = some (oI 768 ml)) (hQ : TileOk 1 l x9 y9) (hl : 0 ≤ l ∧ l ≤ 2) (hx : 0 ≤ x9 ∧ x9 ≤ 7) (hy : 0 ≤ y9 ∧ y9 ≤ 7) (hk : 0 ≤ ml (0 + (64 * l) + (8 * y9) + x9)) : Ct g yX11_isKept (.code yX11_isKept cX11_isKept 5 (some .boolean)) 4 0 0 [vR 200, vI 1, vI l, vI x9, vI y9] h (Rt (some (vI 1)) (hput h 200 (oO 10 [vR 201, vR 202, vR 203, vR 204, vR 205, vR 206, vR 207, vR 208, vR 209, vR 210, vR 211, vR 212, vR 213, vR 214, vR 215, vR 216, vR 217, vR 218, vI mv, vI mrc, vI mmc, vI mmk, vI mdv, vI mwl, vI mwa, vI mwp, vI 0]))) := by
  refine Ct.of (by decide) (Nat.le_of_ble_eq_true rfl) (fun x hg C F => ?_)
  subst hg
  show T x 0 [(0, vR 200), (1, vI 1), (2, vI l), (3, vI x9), (4, vI y9)] [] h 0 0
  refine st_aload_n C 0 dX11_isKept_0 rfl rfl ?_
  refine st_iload_n C 1 dX11_isKept_1 rfl rfl ?_
  refine st_iload_n C 2 dX11_isKept_2 rfl rfl ?_
  refine st_iload_n C 3 dX11_isKept_3 rfl rfl ?_
  refine st_iload C dX11_isKept_4 rfl ?_
  refine st_callV (st := []) C dX11_isKept_6 [vI 1, vI l, vI x9, vI y9] (k_noTile1_t hm hQ) hm w_X11_177 rfl (by decide) (by decide) (by omega) (by omega) (Nat.le_of_ble_eq_true rfl) (ko_rt ?_)
  show T x 9 [(0, vR 200), (1, vI 1), (2, vI l), (3, vI x9), (4, vI y9)] [vI 0] (hput h 200 (oO 10 [vR 201, vR 202, vR 203, vR 204, vR 205, vR 206, vR 207, vR 208, vR 209, vR 210, vR 211, vR 212, vR 213, vR 214, vR 215, vR 216, vR 217, vR 218, vI mv, vI mrc, vI mmc, vI mmk, vI mdv, vI mwl, vI mwa, vI mwp, vI 0])) _ _
  refine st_if_ne (tgt := 45) C dX11_isKept_9 (by decide) (fun c_9 => by omega) (fun c_9 => ?_)
  refine st_aload_n C 0 dX11_isKept_12 rfl rfl ?_
  refine st_getf C dX11_isKept_13 fl_X11_44 hput_s rfl ?_
  refine st_sipush C dX11_isKept_16 (by decide) (by decide) ?_
  refine st_iload_n C 1 dX11_isKept_19 rfl rfl ?_
  refine st_callS (st := [vI 192, vR 212]) C dX11_isKept_20 [vI 1] k_depth1 w_X11_174 rfl (by decide) (by decide) (by omega) (by omega) (Nat.le_of_ble_eq_true rfl) (ko_rt ?_)
  show T x 23 [(0, vR 200), (1, vI 1), (2, vI l), (3, vI x9), (4, vI y9)] [vI 0, vI 192, vR 212] _ _ _
  refine st_imul C dX11_isKept_23 ⟨(by omega), (by omega)⟩ ?_
  refine st_bipush C dX11_isKept_24 (by decide) (by decide) ?_
  refine st_iload_n C 2 dX11_isKept_26 rfl rfl ?_
  refine st_imul C dX11_isKept_27 ⟨(by omega), (by omega)⟩ ?_
  refine st_iadd C dX11_isKept_28 ⟨(by omega), (by omega)⟩ ?_
  refine st_bipush C dX11_isKept_29 (by decide) (by decide) ?_
  refine st_iload C dX11_isKept_31 rfl ?_
  refine st_imul C dX11_isKept_33 ⟨(by omega), (by omega)⟩ ?_
  refine st_iadd C dX11_isKept_34 ⟨(by omega), (by omega)⟩ ?_
  refine st_iload_n C 3 dX11_isKept_35 rfl rfl ?_
  refine st_iadd C dX11_isKept_36 ⟨(by omega), (by omega)⟩ ?_
  refine st_iald C dX11_isKept_37 (hput_o (by omega) h212) (by omega) (by omega) ?_
  show T x 38 [(0, vR 200), (1, vI 1), (2, vI l), (3, vI x9), (4, vI y9)] [vI (ml (0 + (64 * l) + (8 * y9) + x9))] _ _ _
  refine st_if_lt (tgt := 45) C dX11_isKept_38 (by decide) (fun c_38 => by omega) (fun c_38 => ?_)
  refine st_iconst C dX11_isKept_41 (by decide) ?_
  refine st_goto (tgt := 46) C dX11_isKept_42 (by decide) ?_
  exact st_zreturn C F dX11_isKept_46 rfl (by omega) (by first | exact ⟨by with_reducible rfl, by with_reducible rfl⟩ | (exfalso; omega)) (by omega) (by omega)
set_option maxRecDepth 20000 in
set_option maxHeartbeats 4000000 in
theorem m_isKept0_f {g : Gx} {h : HP} {mv mrc mmc mmk mdv mwl mwa mwp mth : Int} {ml : Int → Int} {l x9 y9 : Int} (hm : mO h mv mrc mmc mmk mdv mwl mwa mwp mth) (h212 : h 212 = some (oI 768 ml)) (hQ : TileOk 1 l x9 y9) (hl : 0 ≤ l ∧ l ≤ 2) (hx : 0 ≤ x9 ∧ x9 ≤ 7) (hy : 0 ≤ y9 ∧ y9 ≤ 7) (hk : ml (0 + (64 * l) + (8 * y9) + x9) < 0) : Ct g yX11_isKept (.code yX11_isKept cX11_isKept 5 (some .boolean)) 4 0 0 [vR 200, vI 1, vI l, vI x9, vI y9] h (Rt (some (vI 0)) (hput h 200 (oO 10 [vR 201, vR 202, vR 203, vR 204, vR 205, vR 206, vR 207, vR 208, vR 209, vR 210, vR 211, vR 212, vR 213, vR 214, vR 215, vR 216, vR 217, vR 218, vI mv, vI mrc, vI mmc, vI mmk, vI mdv, vI mwl, vI mwa, vI mwp, vI 0]))) := by
  refine Ct.of (by decide) (Nat.le_of_ble_eq_true rfl) (fun x hg C F => ?_)
  subst hg
  show T x 0 [(0, vR 200), (1, vI 1), (2, vI l), (3, vI x9), (4, vI y9)] [] h 0 0
  refine st_aload_n C 0 dX11_isKept_0 rfl rfl ?_
  refine st_iload_n C 1 dX11_isKept_1 rfl rfl ?_
  refine st_iload_n C 2 dX11_isKept_2 rfl rfl ?_
  refine st_iload_n C 3 dX11_isKept_3 rfl rfl ?_
  refine st_iload C dX11_isKept_4 rfl ?_
  refine st_callV (st := []) C dX11_isKept_6 [vI 1, vI l, vI x9, vI y9] (k_noTile1_t hm hQ) hm w_X11_177 rfl (by decide) (by decide) (by omega) (by omega) (Nat.le_of_ble_eq_true rfl) (ko_rt ?_)
  show T x 9 [(0, vR 200), (1, vI 1), (2, vI l), (3, vI x9), (4, vI y9)] [vI 0] (hput h 200 (oO 10 [vR 201, vR 202, vR 203, vR 204, vR 205, vR 206, vR 207, vR 208, vR 209, vR 210, vR 211, vR 212, vR 213, vR 214, vR 215, vR 216, vR 217, vR 218, vI mv, vI mrc, vI mmc, vI mmk, vI mdv, vI mwl, vI mwa, vI mwp, vI 0])) _ _
  refine st_if_ne (tgt := 45) C dX11_isKept_9 (by decide) (fun c_9 => by omega) (fun c_9 => ?_)
  refine st_aload_n C 0 dX11_isKept_12 rfl rfl ?_
  refine st_getf C dX11_isKept_13 fl_X11_44 hput_s rfl ?_
  refine st_sipush C dX11_isKept_16 (by decide) (by decide) ?_
  refine st_iload_n C 1 dX11_isKept_19 rfl rfl ?_
  refine st_callS (st := [vI 192, vR 212]) C dX11_isKept_20 [vI 1] k_depth1 w_X11_174 rfl (by decide) (by decide) (by omega) (by omega) (Nat.le_of_ble_eq_true rfl) (ko_rt ?_)
  show T x 23 [(0, vR 200), (1, vI 1), (2, vI l), (3, vI x9), (4, vI y9)] [vI 0, vI 192, vR 212] _ _ _
  refine st_imul C dX11_isKept_23 ⟨(by omega), (by omega)⟩ ?_
  refine st_bipush C dX11_isKept_24 (by decide) (by decide) ?_
  refine st_iload_n C 2 dX11_isKept_26 rfl rfl ?_
  refine st_imul C dX11_isKept_27 ⟨(by omega), (by omega)⟩ ?_
  refine st_iadd C dX11_isKept_28 ⟨(by omega), (by omega)⟩ ?_
  refine st_bipush C dX11_isKept_29 (by decide) (by decide) ?_
  refine st_iload C dX11_isKept_31 rfl ?_
  refine st_imul C dX11_isKept_33 ⟨(by omega), (by omega)⟩ ?_
  refine st_iadd C dX11_isKept_34 ⟨(by omega), (by omega)⟩ ?_
  refine st_iload_n C 3 dX11_isKept_35 rfl rfl ?_
  refine st_iadd C dX11_isKept_36 ⟨(by omega), (by omega)⟩ ?_
  refine st_iald C dX11_isKept_37 (hput_o (by omega) h212) (by omega) (by omega) ?_
  show T x 38 [(0, vR 200), (1, vI 1), (2, vI l), (3, vI x9), (4, vI y9)] [vI (ml (0 + (64 * l) + (8 * y9) + x9))] _ _ _
  refine st_if_lt (tgt := 45) C dX11_isKept_38 (by decide) (fun c_38 => ?_) (fun c_38 => by omega)
  refine st_iconst C dX11_isKept_45 (by decide) ?_
  exact st_zreturn C F dX11_isKept_46 rfl (by omega) (by first | exact ⟨by with_reducible rfl, by with_reducible rfl⟩ | (exfalso; omega)) (by omega) (by omega)
set_option maxRecDepth 20000 in
set_option maxHeartbeats 4000000 in
theorem m_tile1_f {g : Gx} {h : HP} {mv mrc mmc mmk mdv mwl mwa mwp mth : Int} {ml : Int → Int} {l x9 y9 : Int} (hm : mO h mv mrc mmc mmk mdv mwl mwa mwp mth) (h212 : h 212 = some (oI 768 ml)) (hQ : TileOk 2 l x9 y9) (hl : 0 ≤ l ∧ l ≤ 2) (hx : 0 ≤ x9 ∧ x9 ≤ 3) (hy : 0 ≤ y9 ∧ y9 ≤ 3) (hk : 0 ≤ ml (192 + (64 * l) + (8 * y9) + x9)) : Ct g yX11_tile (.code yX11_tile cX11_tile 6 (some .int)) 4 0 0 [vR 200, vI 2, vI l, vI x9, vI y9] h (Rt (some (vI (ml (192 + (64 * l) + (8 * y9) + x9)))) (hput h 200 (oO 10 [vR 201, vR 202, vR 203, vR 204, vR 205, vR 206, vR 207, vR 208, vR 209, vR 210, vR 211, vR 212, vR 213, vR 214, vR 215, vR 216, vR 217, vR 218, vI mv, vI mrc, vI mmc, vI mmk, vI mdv, vI mwl, vI mwa, vI mwp, vI 0]))) := by
  refine Ct.of (by decide) (Nat.le_of_ble_eq_true rfl) (fun x hg C F => ?_)
  subst hg
  show T x 0 [(0, vR 200), (1, vI 2), (2, vI l), (3, vI x9), (4, vI y9)] [] h 0 0
  refine st_aload_n C 0 dX11_tile_0 rfl rfl ?_
  refine st_iload_n C 1 dX11_tile_1 rfl rfl ?_
  refine st_iload_n C 2 dX11_tile_2 rfl rfl ?_
  refine st_iload_n C 3 dX11_tile_3 rfl rfl ?_
  refine st_iload C dX11_tile_4 rfl ?_
  refine st_callV (st := []) C dX11_tile_6 [vI 2, vI l, vI x9, vI y9] (k_noTile2_t hm hQ) hm w_X11_177 rfl (by decide) (by decide) (by omega) (by omega) (Nat.le_of_ble_eq_true rfl) (ko_rt ?_)
  show T x 9 [(0, vR 200), (1, vI 2), (2, vI l), (3, vI x9), (4, vI y9)] [vI 0] (hput h 200 (oO 10 [vR 201, vR 202, vR 203, vR 204, vR 205, vR 206, vR 207, vR 208, vR 209, vR 210, vR 211, vR 212, vR 213, vR 214, vR 215, vR 216, vR 217, vR 218, vI mv, vI mrc, vI mmc, vI mmk, vI mdv, vI mwl, vI mwa, vI mwp, vI 0])) _ _
  refine st_if_eq (tgt := 14) C dX11_tile_9 (by decide) (fun c_9 => ?_) (fun c_9 => by omega)
  refine st_sipush C dX11_tile_14 (by decide) (by decide) ?_
  refine st_iload_n C 1 dX11_tile_17 rfl rfl ?_
  refine st_callS (st := [vI 192]) C dX11_tile_18 [vI 2] k_depth2 w_X11_174 rfl (by decide) (by decide) (by omega) (by omega) (Nat.le_of_ble_eq_true rfl) (ko_rt ?_)
  show T x 21 [(0, vR 200), (1, vI 2), (2, vI l), (3, vI x9), (4, vI y9)] [vI 1, vI 192] _ _ _
  refine st_imul C dX11_tile_21 ⟨(by omega), (by omega)⟩ ?_
  refine st_bipush C dX11_tile_22 (by decide) (by decide) ?_
  refine st_iload_n C 2 dX11_tile_24 rfl rfl ?_
  refine st_imul C dX11_tile_25 ⟨(by omega), (by omega)⟩ ?_
  refine st_iadd C dX11_tile_26 ⟨(by omega), (by omega)⟩ ?_
  refine st_bipush C dX11_tile_27 (by decide) (by decide) ?_
  refine st_iload C dX11_tile_29 rfl ?_
  refine st_imul C dX11_tile_31 ⟨(by omega), (by omega)⟩ ?_
  refine st_iadd C dX11_tile_32 ⟨(by omega), (by omega)⟩ ?_
  refine st_iload_n C 3 dX11_tile_33 rfl rfl ?_
  refine st_iadd C dX11_tile_34 ⟨(by omega), (by omega)⟩ ?_
  refine st_istore C dX11_tile_35 (by decide) rfl ?_
  show T x 37 [(0, vR 200), (1, vI 2), (2, vI l), (3, vI x9), (4, vI y9), (5, vI (192 + (64 * l) + (8 * y9) + x9))] [] _ _ _
  refine st_aload_n C 0 dX11_tile_37 rfl rfl ?_
  refine st_getf C dX11_tile_38 fl_X11_44 hput_s rfl ?_
  refine st_iload C dX11_tile_41 rfl ?_
  refine st_iald C dX11_tile_43 (hput_o (by omega) h212) (by omega) (by omega) ?_
  refine st_if_ge (tgt := 77) C dX11_tile_44 (by decide) (fun c_44 => ?_) (fun c_44 => by omega)
  refine st_aload_n C 0 dX11_tile_77 rfl rfl ?_
  refine st_getf C dX11_tile_78 fl_X11_44 hput_s rfl ?_
  refine st_iload C dX11_tile_81 rfl ?_
  refine st_iald C dX11_tile_83 (hput_o (by omega) h212) (by omega) (by omega) ?_
  exact st_ireturn C F dX11_tile_84 rfl (by first | exact ⟨by with_reducible rfl, by with_reducible rfl⟩ | (exfalso; omega)) (by omega) (by omega)
set_option maxRecDepth 20000 in
set_option maxHeartbeats 4000000 in
theorem m_tile1_t {g : Gx} {h : HP} {mv mrc mmc mmk mdv mwl mwa mwp mth : Int} {mm : Int → Int} {ml : Int → Int} {fc : Int → Int} {l x9 y9 : Int} (hm : mO h mv mrc mmc mmk mdv mwl mwa mwp mth) (hmm : h 201 = some (oI 12464 mm)) (h212 : h 212 = some (oI 768 ml)) (h218 : h 218 = some (oI 10 fc)) (hv : 0 ≤ mv ∧ mv ≤ 40) (hQ : TileOk 2 l x9 y9) (hl : 0 ≤ l ∧ l ≤ 2) (hx : 0 ≤ x9 ∧ x9 ≤ 3) (hy : 0 ≤ y9 ∧ y9 ≤ 3) (hk : ml (192 + (64 * l) + (8 * y9) + x9) < 0) (hmk : 0 ≤ mmk ∧ mmk ≤ 1000000) (hwa : ∀ j, 304 * mv ≤ j → j ≤ 304 * mv + 191 → 0 ≤ mm j ∧ mm j ≤ 9) : Ct g yX11_tile (.code yX11_tile cX11_tile 6 (some .int)) 4 0 0 [vR 200, vI 2, vI l, vI x9, vI y9] h ((fun r h' => r = .inl (some (vI ((mcb (fun a => cnt (fun k => mm (304 * mv + (64 * l + 8 * ((y9 * 2) + k / 2) + (x9 * 2) + k % 2)) = a) 4) 10).1))) ∧ ∃ f5 : Int → Int, h' = (hput (hput (hput (hput h 200 (oO 10 [vR 201, vR 202, vR 203, vR 204, vR 205, vR 206, vR 207, vR 208, vR 209, vR 210, vR 211, vR 212, vR 213, vR 214, vR 215, vR 216, vR 217, vR 218, vI mv, vI mrc, vI mmc, vI mmk, vI mdv, vI mwl, vI mwa, vI mwp, vI 0])) 218 (oI 10 f5)) 212 (oI 768 (fput ml (192 + (64 * l) + (8 * y9) + x9) (mcb (fun a => cnt (fun k => mm (304 * mv + (64 * l + 8 * ((y9 * 2) + k / 2) + (x9 * 2) + k % 2)) = a) 4) 10).1))) 200 (oO 10 [vR 201, vR 202, vR 203, vR 204, vR 205, vR 206, vR 207, vR 208, vR 209, vR 210, vR 211, vR 212, vR 213, vR 214, vR 215, vR 216, vR 217, vR 218, vI mv, vI mrc, vI mmc, vI (mmk + 1), vI mdv, vI mwl, vI mwa, vI mwp, vI 0])))) := by
  refine Ct.of (by decide) (Nat.le_of_ble_eq_true rfl) (fun x hg C F => ?_)
  subst hg
  show T x 0 [(0, vR 200), (1, vI 2), (2, vI l), (3, vI x9), (4, vI y9)] [] h 0 0
  refine st_aload_n C 0 dX11_tile_0 rfl rfl ?_
  refine st_iload_n C 1 dX11_tile_1 rfl rfl ?_
  refine st_iload_n C 2 dX11_tile_2 rfl rfl ?_
  refine st_iload_n C 3 dX11_tile_3 rfl rfl ?_
  refine st_iload C dX11_tile_4 rfl ?_
  refine st_callV (st := []) C dX11_tile_6 [vI 2, vI l, vI x9, vI y9] (k_noTile2_t hm hQ) hm w_X11_177 rfl (by decide) (by decide) (by omega) (by omega) (Nat.le_of_ble_eq_true rfl) (ko_rt ?_)
  show T x 9 [(0, vR 200), (1, vI 2), (2, vI l), (3, vI x9), (4, vI y9)] [vI 0] (hput h 200 (oO 10 [vR 201, vR 202, vR 203, vR 204, vR 205, vR 206, vR 207, vR 208, vR 209, vR 210, vR 211, vR 212, vR 213, vR 214, vR 215, vR 216, vR 217, vR 218, vI mv, vI mrc, vI mmc, vI mmk, vI mdv, vI mwl, vI mwa, vI mwp, vI 0])) _ _
  refine st_if_eq (tgt := 14) C dX11_tile_9 (by decide) (fun c_9 => ?_) (fun c_9 => by omega)
  refine st_sipush C dX11_tile_14 (by decide) (by decide) ?_
  refine st_iload_n C 1 dX11_tile_17 rfl rfl ?_
  refine st_callS (st := [vI 192]) C dX11_tile_18 [vI 2] k_depth2 w_X11_174 rfl (by decide) (by decide) (by omega) (by omega) (Nat.le_of_ble_eq_true rfl) (ko_rt ?_)
  show T x 21 [(0, vR 200), (1, vI 2), (2, vI l), (3, vI x9), (4, vI y9)] [vI 1, vI 192] _ _ _
  refine st_imul C dX11_tile_21 ⟨(by omega), (by omega)⟩ ?_
  refine st_bipush C dX11_tile_22 (by decide) (by decide) ?_
  refine st_iload_n C 2 dX11_tile_24 rfl rfl ?_
  refine st_imul C dX11_tile_25 ⟨(by omega), (by omega)⟩ ?_
  refine st_iadd C dX11_tile_26 ⟨(by omega), (by omega)⟩ ?_
  refine st_bipush C dX11_tile_27 (by decide) (by decide) ?_
  refine st_iload C dX11_tile_29 rfl ?_
  refine st_imul C dX11_tile_31 ⟨(by omega), (by omega)⟩ ?_
  refine st_iadd C dX11_tile_32 ⟨(by omega), (by omega)⟩ ?_
  refine st_iload_n C 3 dX11_tile_33 rfl rfl ?_
  refine st_iadd C dX11_tile_34 ⟨(by omega), (by omega)⟩ ?_
  refine st_istore C dX11_tile_35 (by decide) rfl ?_
  show T x 37 [(0, vR 200), (1, vI 2), (2, vI l), (3, vI x9), (4, vI y9), (5, vI (192 + (64 * l) + (8 * y9) + x9))] [] _ _ _
  refine st_aload_n C 0 dX11_tile_37 rfl rfl ?_
  refine st_getf C dX11_tile_38 fl_X11_44 hput_s rfl ?_
  refine st_iload C dX11_tile_41 rfl ?_
  refine st_iald C dX11_tile_43 (hput_o (by omega) h212) (by omega) (by omega) ?_
  refine st_if_ge (tgt := 77) C dX11_tile_44 (by decide) (fun c_44 => by omega) (fun c_44 => ?_)
  refine st_aload_n C 0 dX11_tile_47 rfl rfl ?_
  refine st_getf C dX11_tile_48 fl_X11_44 hput_s rfl ?_
  refine st_iload C dX11_tile_51 rfl ?_
  refine st_aload_n C 0 dX11_tile_53 rfl rfl ?_
  refine st_iload_n C 1 dX11_tile_54 rfl rfl ?_
  refine st_iload_n C 2 dX11_tile_55 rfl rfl ?_
  refine st_iload_n C 3 dX11_tile_56 rfl rfl ?_
  refine st_iload_n C 1 dX11_tile_57 rfl rfl ?_
  refine st_imul C dX11_tile_58 ⟨(by omega), (by omega)⟩ ?_
  refine st_iload C dX11_tile_59 rfl ?_
  refine st_iload_n C 1 dX11_tile_61 rfl rfl ?_
  refine st_imul C dX11_tile_62 ⟨(by omega), (by omega)⟩ ?_
  refine st_callV (st := [vI (192 + (64 * l) + (8 * y9) + x9), vR 212]) C dX11_tile_63 [vI 2, vI l, vI (x9 * 2), vI (y9 * 2)] (k_most2 (f0 := fc) (l := l) (a9 := (x9 * 2)) (t9 := (y9 * 2)) hput_s (hput_o (by omega) hmm) hv (hput_o (by omega) h218) (by omega) (by omega) (by omega) hwa) hput_s w_X11_180 rfl (by decide) (by decide) (by omega) (by omega) (Nat.le_of_ble_eq_true rfl) (ko_rc (fun f5 => ?_))
  show T x 66 [(0, vR 200), (1, vI 2), (2, vI l), (3, vI x9), (4, vI y9), (5, vI (192 + (64 * l) + (8 * y9) + x9))] [vI ((mcb (fun a => cnt (fun k => mm (304 * mv + (64 * l + 8 * ((y9 * 2) + k / 2) + (x9 * 2) + k % 2)) = a) 4) 10).1), vI (192 + (64 * l) + (8 * y9) + x9), vR 212] _ _ _
  refine st_iast C dX11_tile_66 (hput_o (by decide) (hput_o (by omega) h212)) (by omega) (by omega) ?_
  refine st_aload_n C 0 dX11_tile_67 rfl rfl ?_
  refine st_dup C dX11_tile_68 rfl ?_
  refine st_getf C dX11_tile_69 fl_X11_184 (hput_o (by omega) (hput_o (by decide) hput_s)) rfl ?_
  refine st_iconst C dX11_tile_72 (by decide) ?_
  refine st_iadd C dX11_tile_73 ⟨(by omega), (by omega)⟩ ?_
  refine st_putf C dX11_tile_74 fp_X11_184 (fun q => by cases q) (hput_o (by omega) (hput_o (by decide) hput_s)) (Nat.le_of_ble_eq_true rfl) fit_int ?_
  show T x 77 [(0, vR 200), (1, vI 2), (2, vI l), (3, vI x9), (4, vI y9), (5, vI (192 + (64 * l) + (8 * y9) + x9))] [] (hput (hput (hput (hput h 200 (oO 10 [vR 201, vR 202, vR 203, vR 204, vR 205, vR 206, vR 207, vR 208, vR 209, vR 210, vR 211, vR 212, vR 213, vR 214, vR 215, vR 216, vR 217, vR 218, vI mv, vI mrc, vI mmc, vI mmk, vI mdv, vI mwl, vI mwa, vI mwp, vI 0])) 218 (oI 10 f5)) 212 (oI 768 (fput ml (192 + (64 * l) + (8 * y9) + x9) ((mcb (fun a => cnt (fun k => mm (304 * mv + (64 * l + 8 * ((y9 * 2) + k / 2) + (x9 * 2) + k % 2)) = a) 4) 10).1)))) 200 (oO 10 [vR 201, vR 202, vR 203, vR 204, vR 205, vR 206, vR 207, vR 208, vR 209, vR 210, vR 211, vR 212, vR 213, vR 214, vR 215, vR 216, vR 217, vR 218, vI mv, vI mrc, vI mmc, vI (mmk + 1), vI mdv, vI mwl, vI mwa, vI mwp, vI 0])) _ _
  refine st_aload_n C 0 dX11_tile_77 rfl rfl ?_
  refine st_getf C dX11_tile_78 fl_X11_44 hput_s rfl ?_
  refine st_iload C dX11_tile_81 rfl ?_
  refine st_iald C dX11_tile_83 (hput_o (by omega) hput_s) (by omega) (by omega) ?_
  exact st_ireturn C F dX11_tile_84 rfl (by rw [fput_s]; exact ⟨by with_reducible rfl, f5, by with_reducible rfl⟩) (by omega) (by omega)
set_option maxRecDepth 20000 in
set_option maxHeartbeats 4000000 in
theorem m_isKept1_t {g : Gx} {h : HP} {mv mrc mmc mmk mdv mwl mwa mwp mth : Int} {ml : Int → Int} {l x9 y9 : Int} (hm : mO h mv mrc mmc mmk mdv mwl mwa mwp mth) (h212 : h 212 = some (oI 768 ml)) (hQ : TileOk 2 l x9 y9) (hl : 0 ≤ l ∧ l ≤ 2) (hx : 0 ≤ x9 ∧ x9 ≤ 3) (hy : 0 ≤ y9 ∧ y9 ≤ 3) (hk : 0 ≤ ml (192 + (64 * l) + (8 * y9) + x9)) : Ct g yX11_isKept (.code yX11_isKept cX11_isKept 5 (some .boolean)) 4 0 0 [vR 200, vI 2, vI l, vI x9, vI y9] h (Rt (some (vI 1)) (hput h 200 (oO 10 [vR 201, vR 202, vR 203, vR 204, vR 205, vR 206, vR 207, vR 208, vR 209, vR 210, vR 211, vR 212, vR 213, vR 214, vR 215, vR 216, vR 217, vR 218, vI mv, vI mrc, vI mmc, vI mmk, vI mdv, vI mwl, vI mwa, vI mwp, vI 0]))) := by
  refine Ct.of (by decide) (Nat.le_of_ble_eq_true rfl) (fun x hg C F => ?_)
  subst hg
  show T x 0 [(0, vR 200), (1, vI 2), (2, vI l), (3, vI x9), (4, vI y9)] [] h 0 0
  refine st_aload_n C 0 dX11_isKept_0 rfl rfl ?_
  refine st_iload_n C 1 dX11_isKept_1 rfl rfl ?_
  refine st_iload_n C 2 dX11_isKept_2 rfl rfl ?_
  refine st_iload_n C 3 dX11_isKept_3 rfl rfl ?_
  refine st_iload C dX11_isKept_4 rfl ?_
  refine st_callV (st := []) C dX11_isKept_6 [vI 2, vI l, vI x9, vI y9] (k_noTile2_t hm hQ) hm w_X11_177 rfl (by decide) (by decide) (by omega) (by omega) (Nat.le_of_ble_eq_true rfl) (ko_rt ?_)
  show T x 9 [(0, vR 200), (1, vI 2), (2, vI l), (3, vI x9), (4, vI y9)] [vI 0] (hput h 200 (oO 10 [vR 201, vR 202, vR 203, vR 204, vR 205, vR 206, vR 207, vR 208, vR 209, vR 210, vR 211, vR 212, vR 213, vR 214, vR 215, vR 216, vR 217, vR 218, vI mv, vI mrc, vI mmc, vI mmk, vI mdv, vI mwl, vI mwa, vI mwp, vI 0])) _ _
  refine st_if_ne (tgt := 45) C dX11_isKept_9 (by decide) (fun c_9 => by omega) (fun c_9 => ?_)
  refine st_aload_n C 0 dX11_isKept_12 rfl rfl ?_
  refine st_getf C dX11_isKept_13 fl_X11_44 hput_s rfl ?_
  refine st_sipush C dX11_isKept_16 (by decide) (by decide) ?_
  refine st_iload_n C 1 dX11_isKept_19 rfl rfl ?_
  refine st_callS (st := [vI 192, vR 212]) C dX11_isKept_20 [vI 2] k_depth2 w_X11_174 rfl (by decide) (by decide) (by omega) (by omega) (Nat.le_of_ble_eq_true rfl) (ko_rt ?_)
  show T x 23 [(0, vR 200), (1, vI 2), (2, vI l), (3, vI x9), (4, vI y9)] [vI 1, vI 192, vR 212] _ _ _
  refine st_imul C dX11_isKept_23 ⟨(by omega), (by omega)⟩ ?_
  refine st_bipush C dX11_isKept_24 (by decide) (by decide) ?_
  refine st_iload_n C 2 dX11_isKept_26 rfl rfl ?_
  refine st_imul C dX11_isKept_27 ⟨(by omega), (by omega)⟩ ?_
  refine st_iadd C dX11_isKept_28 ⟨(by omega), (by omega)⟩ ?_
  refine st_bipush C dX11_isKept_29 (by decide) (by decide) ?_
  refine st_iload C dX11_isKept_31 rfl ?_
  refine st_imul C dX11_isKept_33 ⟨(by omega), (by omega)⟩ ?_
  refine st_iadd C dX11_isKept_34 ⟨(by omega), (by omega)⟩ ?_
  refine st_iload_n C 3 dX11_isKept_35 rfl rfl ?_
  refine st_iadd C dX11_isKept_36 ⟨(by omega), (by omega)⟩ ?_
  refine st_iald C dX11_isKept_37 (hput_o (by omega) h212) (by omega) (by omega) ?_
  show T x 38 [(0, vR 200), (1, vI 2), (2, vI l), (3, vI x9), (4, vI y9)] [vI (ml (192 + (64 * l) + (8 * y9) + x9))] _ _ _
  refine st_if_lt (tgt := 45) C dX11_isKept_38 (by decide) (fun c_38 => by omega) (fun c_38 => ?_)
  refine st_iconst C dX11_isKept_41 (by decide) ?_
  refine st_goto (tgt := 46) C dX11_isKept_42 (by decide) ?_
  exact st_zreturn C F dX11_isKept_46 rfl (by omega) (by first | exact ⟨by with_reducible rfl, by with_reducible rfl⟩ | (exfalso; omega)) (by omega) (by omega)
set_option maxRecDepth 20000 in
set_option maxHeartbeats 4000000 in
theorem m_isKept1_f {g : Gx} {h : HP} {mv mrc mmc mmk mdv mwl mwa mwp mth : Int} {ml : Int → Int} {l x9 y9 : Int} (hm : mO h mv mrc mmc mmk mdv mwl mwa mwp mth) (h212 : h 212 = some (oI 768 ml)) (hQ : TileOk 2 l x9 y9) (hl : 0 ≤ l ∧ l ≤ 2) (hx : 0 ≤ x9 ∧ x9 ≤ 3) (hy : 0 ≤ y9 ∧ y9 ≤ 3) (hk : ml (192 + (64 * l) + (8 * y9) + x9) < 0) : Ct g yX11_isKept (.code yX11_isKept cX11_isKept 5 (some .boolean)) 4 0 0 [vR 200, vI 2, vI l, vI x9, vI y9] h (Rt (some (vI 0)) (hput h 200 (oO 10 [vR 201, vR 202, vR 203, vR 204, vR 205, vR 206, vR 207, vR 208, vR 209, vR 210, vR 211, vR 212, vR 213, vR 214, vR 215, vR 216, vR 217, vR 218, vI mv, vI mrc, vI mmc, vI mmk, vI mdv, vI mwl, vI mwa, vI mwp, vI 0]))) := by
  refine Ct.of (by decide) (Nat.le_of_ble_eq_true rfl) (fun x hg C F => ?_)
  subst hg
  show T x 0 [(0, vR 200), (1, vI 2), (2, vI l), (3, vI x9), (4, vI y9)] [] h 0 0
  refine st_aload_n C 0 dX11_isKept_0 rfl rfl ?_
  refine st_iload_n C 1 dX11_isKept_1 rfl rfl ?_
  refine st_iload_n C 2 dX11_isKept_2 rfl rfl ?_
  refine st_iload_n C 3 dX11_isKept_3 rfl rfl ?_
  refine st_iload C dX11_isKept_4 rfl ?_
  refine st_callV (st := []) C dX11_isKept_6 [vI 2, vI l, vI x9, vI y9] (k_noTile2_t hm hQ) hm w_X11_177 rfl (by decide) (by decide) (by omega) (by omega) (Nat.le_of_ble_eq_true rfl) (ko_rt ?_)
  show T x 9 [(0, vR 200), (1, vI 2), (2, vI l), (3, vI x9), (4, vI y9)] [vI 0] (hput h 200 (oO 10 [vR 201, vR 202, vR 203, vR 204, vR 205, vR 206, vR 207, vR 208, vR 209, vR 210, vR 211, vR 212, vR 213, vR 214, vR 215, vR 216, vR 217, vR 218, vI mv, vI mrc, vI mmc, vI mmk, vI mdv, vI mwl, vI mwa, vI mwp, vI 0])) _ _
  refine st_if_ne (tgt := 45) C dX11_isKept_9 (by decide) (fun c_9 => by omega) (fun c_9 => ?_)
  refine st_aload_n C 0 dX11_isKept_12 rfl rfl ?_
  refine st_getf C dX11_isKept_13 fl_X11_44 hput_s rfl ?_
  refine st_sipush C dX11_isKept_16 (by decide) (by decide) ?_
  refine st_iload_n C 1 dX11_isKept_19 rfl rfl ?_
  refine st_callS (st := [vI 192, vR 212]) C dX11_isKept_20 [vI 2] k_depth2 w_X11_174 rfl (by decide) (by decide) (by omega) (by omega) (Nat.le_of_ble_eq_true rfl) (ko_rt ?_)
  show T x 23 [(0, vR 200), (1, vI 2), (2, vI l), (3, vI x9), (4, vI y9)] [vI 1, vI 192, vR 212] _ _ _
  refine st_imul C dX11_isKept_23 ⟨(by omega), (by omega)⟩ ?_
  refine st_bipush C dX11_isKept_24 (by decide) (by decide) ?_
  refine st_iload_n C 2 dX11_isKept_26 rfl rfl ?_
  refine st_imul C dX11_isKept_27 ⟨(by omega), (by omega)⟩ ?_
  refine st_iadd C dX11_isKept_28 ⟨(by omega), (by omega)⟩ ?_
  refine st_bipush C dX11_isKept_29 (by decide) (by decide) ?_
  refine st_iload C dX11_isKept_31 rfl ?_
  refine st_imul C dX11_isKept_33 ⟨(by omega), (by omega)⟩ ?_
  refine st_iadd C dX11_isKept_34 ⟨(by omega), (by omega)⟩ ?_
  refine st_iload_n C 3 dX11_isKept_35 rfl rfl ?_
  refine st_iadd C dX11_isKept_36 ⟨(by omega), (by omega)⟩ ?_
  refine st_iald C dX11_isKept_37 (hput_o (by omega) h212) (by omega) (by omega) ?_
  show T x 38 [(0, vR 200), (1, vI 2), (2, vI l), (3, vI x9), (4, vI y9)] [vI (ml (192 + (64 * l) + (8 * y9) + x9))] _ _ _
  refine st_if_lt (tgt := 45) C dX11_isKept_38 (by decide) (fun c_38 => ?_) (fun c_38 => by omega)
  refine st_iconst C dX11_isKept_45 (by decide) ?_
  exact st_zreturn C F dX11_isKept_46 rfl (by omega) (by first | exact ⟨by with_reducible rfl, by with_reducible rfl⟩ | (exfalso; omega)) (by omega) (by omega)
set_option maxRecDepth 20000 in
set_option maxHeartbeats 4000000 in
theorem m_tile2_f {g : Gx} {h : HP} {mv mrc mmc mmk mdv mwl mwa mwp mth : Int} {ml : Int → Int} {l x9 y9 : Int} (hm : mO h mv mrc mmc mmk mdv mwl mwa mwp mth) (h212 : h 212 = some (oI 768 ml)) (hQ : TileOk 4 l x9 y9) (hl : 0 ≤ l ∧ l ≤ 2) (hx : 0 ≤ x9 ∧ x9 ≤ 1) (hy : 0 ≤ y9 ∧ y9 ≤ 1) (hk : 0 ≤ ml (384 + (64 * l) + (8 * y9) + x9)) : Ct g yX11_tile (.code yX11_tile cX11_tile 6 (some .int)) 4 0 0 [vR 200, vI 4, vI l, vI x9, vI y9] h (Rt (some (vI (ml (384 + (64 * l) + (8 * y9) + x9)))) (hput h 200 (oO 10 [vR 201, vR 202, vR 203, vR 204, vR 205, vR 206, vR 207, vR 208, vR 209, vR 210, vR 211, vR 212, vR 213, vR 214, vR 215, vR 216, vR 217, vR 218, vI mv, vI mrc, vI mmc, vI mmk, vI mdv, vI mwl, vI mwa, vI mwp, vI 0]))) := by
  refine Ct.of (by decide) (Nat.le_of_ble_eq_true rfl) (fun x hg C F => ?_)
  subst hg
  show T x 0 [(0, vR 200), (1, vI 4), (2, vI l), (3, vI x9), (4, vI y9)] [] h 0 0
  refine st_aload_n C 0 dX11_tile_0 rfl rfl ?_
  refine st_iload_n C 1 dX11_tile_1 rfl rfl ?_
  refine st_iload_n C 2 dX11_tile_2 rfl rfl ?_
  refine st_iload_n C 3 dX11_tile_3 rfl rfl ?_
  refine st_iload C dX11_tile_4 rfl ?_
  refine st_callV (st := []) C dX11_tile_6 [vI 4, vI l, vI x9, vI y9] (k_noTile4_t hm hQ) hm w_X11_177 rfl (by decide) (by decide) (by omega) (by omega) (Nat.le_of_ble_eq_true rfl) (ko_rt ?_)
  show T x 9 [(0, vR 200), (1, vI 4), (2, vI l), (3, vI x9), (4, vI y9)] [vI 0] (hput h 200 (oO 10 [vR 201, vR 202, vR 203, vR 204, vR 205, vR 206, vR 207, vR 208, vR 209, vR 210, vR 211, vR 212, vR 213, vR 214, vR 215, vR 216, vR 217, vR 218, vI mv, vI mrc, vI mmc, vI mmk, vI mdv, vI mwl, vI mwa, vI mwp, vI 0])) _ _
  refine st_if_eq (tgt := 14) C dX11_tile_9 (by decide) (fun c_9 => ?_) (fun c_9 => by omega)
  refine st_sipush C dX11_tile_14 (by decide) (by decide) ?_
  refine st_iload_n C 1 dX11_tile_17 rfl rfl ?_
  refine st_callS (st := [vI 192]) C dX11_tile_18 [vI 4] k_depth4 w_X11_174 rfl (by decide) (by decide) (by omega) (by omega) (Nat.le_of_ble_eq_true rfl) (ko_rt ?_)
  show T x 21 [(0, vR 200), (1, vI 4), (2, vI l), (3, vI x9), (4, vI y9)] [vI 2, vI 192] _ _ _
  refine st_imul C dX11_tile_21 ⟨(by omega), (by omega)⟩ ?_
  refine st_bipush C dX11_tile_22 (by decide) (by decide) ?_
  refine st_iload_n C 2 dX11_tile_24 rfl rfl ?_
  refine st_imul C dX11_tile_25 ⟨(by omega), (by omega)⟩ ?_
  refine st_iadd C dX11_tile_26 ⟨(by omega), (by omega)⟩ ?_
  refine st_bipush C dX11_tile_27 (by decide) (by decide) ?_
  refine st_iload C dX11_tile_29 rfl ?_
  refine st_imul C dX11_tile_31 ⟨(by omega), (by omega)⟩ ?_
  refine st_iadd C dX11_tile_32 ⟨(by omega), (by omega)⟩ ?_
  refine st_iload_n C 3 dX11_tile_33 rfl rfl ?_
  refine st_iadd C dX11_tile_34 ⟨(by omega), (by omega)⟩ ?_
  refine st_istore C dX11_tile_35 (by decide) rfl ?_
  show T x 37 [(0, vR 200), (1, vI 4), (2, vI l), (3, vI x9), (4, vI y9), (5, vI (384 + (64 * l) + (8 * y9) + x9))] [] _ _ _
  refine st_aload_n C 0 dX11_tile_37 rfl rfl ?_
  refine st_getf C dX11_tile_38 fl_X11_44 hput_s rfl ?_
  refine st_iload C dX11_tile_41 rfl ?_
  refine st_iald C dX11_tile_43 (hput_o (by omega) h212) (by omega) (by omega) ?_
  refine st_if_ge (tgt := 77) C dX11_tile_44 (by decide) (fun c_44 => ?_) (fun c_44 => by omega)
  refine st_aload_n C 0 dX11_tile_77 rfl rfl ?_
  refine st_getf C dX11_tile_78 fl_X11_44 hput_s rfl ?_
  refine st_iload C dX11_tile_81 rfl ?_
  refine st_iald C dX11_tile_83 (hput_o (by omega) h212) (by omega) (by omega) ?_
  exact st_ireturn C F dX11_tile_84 rfl (by first | exact ⟨by with_reducible rfl, by with_reducible rfl⟩ | (exfalso; omega)) (by omega) (by omega)
set_option maxRecDepth 20000 in
set_option maxHeartbeats 4000000 in
theorem m_tile2_t {g : Gx} {h : HP} {mv mrc mmc mmk mdv mwl mwa mwp mth : Int} {mm : Int → Int} {ml : Int → Int} {fc : Int → Int} {l x9 y9 : Int} (hm : mO h mv mrc mmc mmk mdv mwl mwa mwp mth) (hmm : h 201 = some (oI 12464 mm)) (h212 : h 212 = some (oI 768 ml)) (h218 : h 218 = some (oI 10 fc)) (hv : 0 ≤ mv ∧ mv ≤ 40) (hQ : TileOk 4 l x9 y9) (hl : 0 ≤ l ∧ l ≤ 2) (hx : 0 ≤ x9 ∧ x9 ≤ 1) (hy : 0 ≤ y9 ∧ y9 ≤ 1) (hk : ml (384 + (64 * l) + (8 * y9) + x9) < 0) (hmk : 0 ≤ mmk ∧ mmk ≤ 1000000) (hwa : ∀ j, 304 * mv ≤ j → j ≤ 304 * mv + 191 → 0 ≤ mm j ∧ mm j ≤ 9) : Ct g yX11_tile (.code yX11_tile cX11_tile 6 (some .int)) 4 0 0 [vR 200, vI 4, vI l, vI x9, vI y9] h ((fun r h' => r = .inl (some (vI ((mcb (fun a => cnt (fun k => mm (304 * mv + (64 * l + 8 * ((y9 * 4) + k / 4) + (x9 * 4) + k % 4)) = a) 16) 10).1))) ∧ ∃ f5 : Int → Int, h' = (hput (hput (hput (hput h 200 (oO 10 [vR 201, vR 202, vR 203, vR 204, vR 205, vR 206, vR 207, vR 208, vR 209, vR 210, vR 211, vR 212, vR 213, vR 214, vR 215, vR 216, vR 217, vR 218, vI mv, vI mrc, vI mmc, vI mmk, vI mdv, vI mwl, vI mwa, vI mwp, vI 0])) 218 (oI 10 f5)) 212 (oI 768 (fput ml (384 + (64 * l) + (8 * y9) + x9) (mcb (fun a => cnt (fun k => mm (304 * mv + (64 * l + 8 * ((y9 * 4) + k / 4) + (x9 * 4) + k % 4)) = a) 16) 10).1))) 200 (oO 10 [vR 201, vR 202, vR 203, vR 204, vR 205, vR 206, vR 207, vR 208, vR 209, vR 210, vR 211, vR 212, vR 213, vR 214, vR 215, vR 216, vR 217, vR 218, vI mv, vI mrc, vI mmc, vI (mmk + 1), vI mdv, vI mwl, vI mwa, vI mwp, vI 0])))) := by
  refine Ct.of (by decide) (Nat.le_of_ble_eq_true rfl) (fun x hg C F => ?_)
  subst hg
  show T x 0 [(0, vR 200), (1, vI 4), (2, vI l), (3, vI x9), (4, vI y9)] [] h 0 0
  refine st_aload_n C 0 dX11_tile_0 rfl rfl ?_
  refine st_iload_n C 1 dX11_tile_1 rfl rfl ?_
  refine st_iload_n C 2 dX11_tile_2 rfl rfl ?_
  refine st_iload_n C 3 dX11_tile_3 rfl rfl ?_
  refine st_iload C dX11_tile_4 rfl ?_
  refine st_callV (st := []) C dX11_tile_6 [vI 4, vI l, vI x9, vI y9] (k_noTile4_t hm hQ) hm w_X11_177 rfl (by decide) (by decide) (by omega) (by omega) (Nat.le_of_ble_eq_true rfl) (ko_rt ?_)
  show T x 9 [(0, vR 200), (1, vI 4), (2, vI l), (3, vI x9), (4, vI y9)] [vI 0] (hput h 200 (oO 10 [vR 201, vR 202, vR 203, vR 204, vR 205, vR 206, vR 207, vR 208, vR 209, vR 210, vR 211, vR 212, vR 213, vR 214, vR 215, vR 216, vR 217, vR 218, vI mv, vI mrc, vI mmc, vI mmk, vI mdv, vI mwl, vI mwa, vI mwp, vI 0])) _ _
  refine st_if_eq (tgt := 14) C dX11_tile_9 (by decide) (fun c_9 => ?_) (fun c_9 => by omega)
  refine st_sipush C dX11_tile_14 (by decide) (by decide) ?_
  refine st_iload_n C 1 dX11_tile_17 rfl rfl ?_
  refine st_callS (st := [vI 192]) C dX11_tile_18 [vI 4] k_depth4 w_X11_174 rfl (by decide) (by decide) (by omega) (by omega) (Nat.le_of_ble_eq_true rfl) (ko_rt ?_)
  show T x 21 [(0, vR 200), (1, vI 4), (2, vI l), (3, vI x9), (4, vI y9)] [vI 2, vI 192] _ _ _
  refine st_imul C dX11_tile_21 ⟨(by omega), (by omega)⟩ ?_
  refine st_bipush C dX11_tile_22 (by decide) (by decide) ?_
  refine st_iload_n C 2 dX11_tile_24 rfl rfl ?_
  refine st_imul C dX11_tile_25 ⟨(by omega), (by omega)⟩ ?_
  refine st_iadd C dX11_tile_26 ⟨(by omega), (by omega)⟩ ?_
  refine st_bipush C dX11_tile_27 (by decide) (by decide) ?_
  refine st_iload C dX11_tile_29 rfl ?_
  refine st_imul C dX11_tile_31 ⟨(by omega), (by omega)⟩ ?_
  refine st_iadd C dX11_tile_32 ⟨(by omega), (by omega)⟩ ?_
  refine st_iload_n C 3 dX11_tile_33 rfl rfl ?_
  refine st_iadd C dX11_tile_34 ⟨(by omega), (by omega)⟩ ?_
  refine st_istore C dX11_tile_35 (by decide) rfl ?_
  show T x 37 [(0, vR 200), (1, vI 4), (2, vI l), (3, vI x9), (4, vI y9), (5, vI (384 + (64 * l) + (8 * y9) + x9))] [] _ _ _
  refine st_aload_n C 0 dX11_tile_37 rfl rfl ?_
  refine st_getf C dX11_tile_38 fl_X11_44 hput_s rfl ?_
  refine st_iload C dX11_tile_41 rfl ?_
  refine st_iald C dX11_tile_43 (hput_o (by omega) h212) (by omega) (by omega) ?_
  refine st_if_ge (tgt := 77) C dX11_tile_44 (by decide) (fun c_44 => by omega) (fun c_44 => ?_)
  refine st_aload_n C 0 dX11_tile_47 rfl rfl ?_
  refine st_getf C dX11_tile_48 fl_X11_44 hput_s rfl ?_
  refine st_iload C dX11_tile_51 rfl ?_
  refine st_aload_n C 0 dX11_tile_53 rfl rfl ?_
  refine st_iload_n C 1 dX11_tile_54 rfl rfl ?_
  refine st_iload_n C 2 dX11_tile_55 rfl rfl ?_
  refine st_iload_n C 3 dX11_tile_56 rfl rfl ?_
  refine st_iload_n C 1 dX11_tile_57 rfl rfl ?_
  refine st_imul C dX11_tile_58 ⟨(by omega), (by omega)⟩ ?_
  refine st_iload C dX11_tile_59 rfl ?_
  refine st_iload_n C 1 dX11_tile_61 rfl rfl ?_
  refine st_imul C dX11_tile_62 ⟨(by omega), (by omega)⟩ ?_
  refine st_callV (st := [vI (384 + (64 * l) + (8 * y9) + x9), vR 212]) C dX11_tile_63 [vI 4, vI l, vI (x9 * 4), vI (y9 * 4)] (k_most4 (f0 := fc) (l := l) (a9 := (x9 * 4)) (t9 := (y9 * 4)) hput_s (hput_o (by omega) hmm) hv (hput_o (by omega) h218) (by omega) (by omega) (by omega) hwa) hput_s w_X11_180 rfl (by decide) (by decide) (by omega) (by omega) (Nat.le_of_ble_eq_true rfl) (ko_rc (fun f5 => ?_))
  show T x 66 [(0, vR 200), (1, vI 4), (2, vI l), (3, vI x9), (4, vI y9), (5, vI (384 + (64 * l) + (8 * y9) + x9))] [vI ((mcb (fun a => cnt (fun k => mm (304 * mv + (64 * l + 8 * ((y9 * 4) + k / 4) + (x9 * 4) + k % 4)) = a) 16) 10).1), vI (384 + (64 * l) + (8 * y9) + x9), vR 212] _ _ _
  refine st_iast C dX11_tile_66 (hput_o (by decide) (hput_o (by omega) h212)) (by omega) (by omega) ?_
  refine st_aload_n C 0 dX11_tile_67 rfl rfl ?_
  refine st_dup C dX11_tile_68 rfl ?_
  refine st_getf C dX11_tile_69 fl_X11_184 (hput_o (by omega) (hput_o (by decide) hput_s)) rfl ?_
  refine st_iconst C dX11_tile_72 (by decide) ?_
  refine st_iadd C dX11_tile_73 ⟨(by omega), (by omega)⟩ ?_
  refine st_putf C dX11_tile_74 fp_X11_184 (fun q => by cases q) (hput_o (by omega) (hput_o (by decide) hput_s)) (Nat.le_of_ble_eq_true rfl) fit_int ?_
  show T x 77 [(0, vR 200), (1, vI 4), (2, vI l), (3, vI x9), (4, vI y9), (5, vI (384 + (64 * l) + (8 * y9) + x9))] [] (hput (hput (hput (hput h 200 (oO 10 [vR 201, vR 202, vR 203, vR 204, vR 205, vR 206, vR 207, vR 208, vR 209, vR 210, vR 211, vR 212, vR 213, vR 214, vR 215, vR 216, vR 217, vR 218, vI mv, vI mrc, vI mmc, vI mmk, vI mdv, vI mwl, vI mwa, vI mwp, vI 0])) 218 (oI 10 f5)) 212 (oI 768 (fput ml (384 + (64 * l) + (8 * y9) + x9) ((mcb (fun a => cnt (fun k => mm (304 * mv + (64 * l + 8 * ((y9 * 4) + k / 4) + (x9 * 4) + k % 4)) = a) 16) 10).1)))) 200 (oO 10 [vR 201, vR 202, vR 203, vR 204, vR 205, vR 206, vR 207, vR 208, vR 209, vR 210, vR 211, vR 212, vR 213, vR 214, vR 215, vR 216, vR 217, vR 218, vI mv, vI mrc, vI mmc, vI (mmk + 1), vI mdv, vI mwl, vI mwa, vI mwp, vI 0])) _ _
  refine st_aload_n C 0 dX11_tile_77 rfl rfl ?_
  refine st_getf C dX11_tile_78 fl_X11_44 hput_s rfl ?_
  refine st_iload C dX11_tile_81 rfl ?_
  refine st_iald C dX11_tile_83 (hput_o (by omega) hput_s) (by omega) (by omega) ?_
  exact st_ireturn C F dX11_tile_84 rfl (by rw [fput_s]; exact ⟨by with_reducible rfl, f5, by with_reducible rfl⟩) (by omega) (by omega)
set_option maxRecDepth 20000 in
set_option maxHeartbeats 4000000 in
theorem m_isKept2_t {g : Gx} {h : HP} {mv mrc mmc mmk mdv mwl mwa mwp mth : Int} {ml : Int → Int} {l x9 y9 : Int} (hm : mO h mv mrc mmc mmk mdv mwl mwa mwp mth) (h212 : h 212 = some (oI 768 ml)) (hQ : TileOk 4 l x9 y9) (hl : 0 ≤ l ∧ l ≤ 2) (hx : 0 ≤ x9 ∧ x9 ≤ 1) (hy : 0 ≤ y9 ∧ y9 ≤ 1) (hk : 0 ≤ ml (384 + (64 * l) + (8 * y9) + x9)) : Ct g yX11_isKept (.code yX11_isKept cX11_isKept 5 (some .boolean)) 4 0 0 [vR 200, vI 4, vI l, vI x9, vI y9] h (Rt (some (vI 1)) (hput h 200 (oO 10 [vR 201, vR 202, vR 203, vR 204, vR 205, vR 206, vR 207, vR 208, vR 209, vR 210, vR 211, vR 212, vR 213, vR 214, vR 215, vR 216, vR 217, vR 218, vI mv, vI mrc, vI mmc, vI mmk, vI mdv, vI mwl, vI mwa, vI mwp, vI 0]))) := by
  refine Ct.of (by decide) (Nat.le_of_ble_eq_true rfl) (fun x hg C F => ?_)
  subst hg
  show T x 0 [(0, vR 200), (1, vI 4), (2, vI l), (3, vI x9), (4, vI y9)] [] h 0 0
  refine st_aload_n C 0 dX11_isKept_0 rfl rfl ?_
  refine st_iload_n C 1 dX11_isKept_1 rfl rfl ?_
  refine st_iload_n C 2 dX11_isKept_2 rfl rfl ?_
  refine st_iload_n C 3 dX11_isKept_3 rfl rfl ?_
  refine st_iload C dX11_isKept_4 rfl ?_
  refine st_callV (st := []) C dX11_isKept_6 [vI 4, vI l, vI x9, vI y9] (k_noTile4_t hm hQ) hm w_X11_177 rfl (by decide) (by decide) (by omega) (by omega) (Nat.le_of_ble_eq_true rfl) (ko_rt ?_)
  show T x 9 [(0, vR 200), (1, vI 4), (2, vI l), (3, vI x9), (4, vI y9)] [vI 0] (hput h 200 (oO 10 [vR 201, vR 202, vR 203, vR 204, vR 205, vR 206, vR 207, vR 208, vR 209, vR 210, vR 211, vR 212, vR 213, vR 214, vR 215, vR 216, vR 217, vR 218, vI mv, vI mrc, vI mmc, vI mmk, vI mdv, vI mwl, vI mwa, vI mwp, vI 0])) _ _
  refine st_if_ne (tgt := 45) C dX11_isKept_9 (by decide) (fun c_9 => by omega) (fun c_9 => ?_)
  refine st_aload_n C 0 dX11_isKept_12 rfl rfl ?_
  refine st_getf C dX11_isKept_13 fl_X11_44 hput_s rfl ?_
  refine st_sipush C dX11_isKept_16 (by decide) (by decide) ?_
  refine st_iload_n C 1 dX11_isKept_19 rfl rfl ?_
  refine st_callS (st := [vI 192, vR 212]) C dX11_isKept_20 [vI 4] k_depth4 w_X11_174 rfl (by decide) (by decide) (by omega) (by omega) (Nat.le_of_ble_eq_true rfl) (ko_rt ?_)
  show T x 23 [(0, vR 200), (1, vI 4), (2, vI l), (3, vI x9), (4, vI y9)] [vI 2, vI 192, vR 212] _ _ _
  refine st_imul C dX11_isKept_23 ⟨(by omega), (by omega)⟩ ?_
  refine st_bipush C dX11_isKept_24 (by decide) (by decide) ?_
  refine st_iload_n C 2 dX11_isKept_26 rfl rfl ?_
  refine st_imul C dX11_isKept_27 ⟨(by omega), (by omega)⟩ ?_
  refine st_iadd C dX11_isKept_28 ⟨(by omega), (by omega)⟩ ?_
  refine st_bipush C dX11_isKept_29 (by decide) (by decide) ?_
  refine st_iload C dX11_isKept_31 rfl ?_
  refine st_imul C dX11_isKept_33 ⟨(by omega), (by omega)⟩ ?_
  refine st_iadd C dX11_isKept_34 ⟨(by omega), (by omega)⟩ ?_
  refine st_iload_n C 3 dX11_isKept_35 rfl rfl ?_
  refine st_iadd C dX11_isKept_36 ⟨(by omega), (by omega)⟩ ?_
  refine st_iald C dX11_isKept_37 (hput_o (by omega) h212) (by omega) (by omega) ?_
  show T x 38 [(0, vR 200), (1, vI 4), (2, vI l), (3, vI x9), (4, vI y9)] [vI (ml (384 + (64 * l) + (8 * y9) + x9))] _ _ _
  refine st_if_lt (tgt := 45) C dX11_isKept_38 (by decide) (fun c_38 => by omega) (fun c_38 => ?_)
  refine st_iconst C dX11_isKept_41 (by decide) ?_
  refine st_goto (tgt := 46) C dX11_isKept_42 (by decide) ?_
  exact st_zreturn C F dX11_isKept_46 rfl (by omega) (by first | exact ⟨by with_reducible rfl, by with_reducible rfl⟩ | (exfalso; omega)) (by omega) (by omega)
set_option maxRecDepth 20000 in
set_option maxHeartbeats 4000000 in
theorem m_isKept2_f {g : Gx} {h : HP} {mv mrc mmc mmk mdv mwl mwa mwp mth : Int} {ml : Int → Int} {l x9 y9 : Int} (hm : mO h mv mrc mmc mmk mdv mwl mwa mwp mth) (h212 : h 212 = some (oI 768 ml)) (hQ : TileOk 4 l x9 y9) (hl : 0 ≤ l ∧ l ≤ 2) (hx : 0 ≤ x9 ∧ x9 ≤ 1) (hy : 0 ≤ y9 ∧ y9 ≤ 1) (hk : ml (384 + (64 * l) + (8 * y9) + x9) < 0) : Ct g yX11_isKept (.code yX11_isKept cX11_isKept 5 (some .boolean)) 4 0 0 [vR 200, vI 4, vI l, vI x9, vI y9] h (Rt (some (vI 0)) (hput h 200 (oO 10 [vR 201, vR 202, vR 203, vR 204, vR 205, vR 206, vR 207, vR 208, vR 209, vR 210, vR 211, vR 212, vR 213, vR 214, vR 215, vR 216, vR 217, vR 218, vI mv, vI mrc, vI mmc, vI mmk, vI mdv, vI mwl, vI mwa, vI mwp, vI 0]))) := by
  refine Ct.of (by decide) (Nat.le_of_ble_eq_true rfl) (fun x hg C F => ?_)
  subst hg
  show T x 0 [(0, vR 200), (1, vI 4), (2, vI l), (3, vI x9), (4, vI y9)] [] h 0 0
  refine st_aload_n C 0 dX11_isKept_0 rfl rfl ?_
  refine st_iload_n C 1 dX11_isKept_1 rfl rfl ?_
  refine st_iload_n C 2 dX11_isKept_2 rfl rfl ?_
  refine st_iload_n C 3 dX11_isKept_3 rfl rfl ?_
  refine st_iload C dX11_isKept_4 rfl ?_
  refine st_callV (st := []) C dX11_isKept_6 [vI 4, vI l, vI x9, vI y9] (k_noTile4_t hm hQ) hm w_X11_177 rfl (by decide) (by decide) (by omega) (by omega) (Nat.le_of_ble_eq_true rfl) (ko_rt ?_)
  show T x 9 [(0, vR 200), (1, vI 4), (2, vI l), (3, vI x9), (4, vI y9)] [vI 0] (hput h 200 (oO 10 [vR 201, vR 202, vR 203, vR 204, vR 205, vR 206, vR 207, vR 208, vR 209, vR 210, vR 211, vR 212, vR 213, vR 214, vR 215, vR 216, vR 217, vR 218, vI mv, vI mrc, vI mmc, vI mmk, vI mdv, vI mwl, vI mwa, vI mwp, vI 0])) _ _
  refine st_if_ne (tgt := 45) C dX11_isKept_9 (by decide) (fun c_9 => by omega) (fun c_9 => ?_)
  refine st_aload_n C 0 dX11_isKept_12 rfl rfl ?_
  refine st_getf C dX11_isKept_13 fl_X11_44 hput_s rfl ?_
  refine st_sipush C dX11_isKept_16 (by decide) (by decide) ?_
  refine st_iload_n C 1 dX11_isKept_19 rfl rfl ?_
  refine st_callS (st := [vI 192, vR 212]) C dX11_isKept_20 [vI 4] k_depth4 w_X11_174 rfl (by decide) (by decide) (by omega) (by omega) (Nat.le_of_ble_eq_true rfl) (ko_rt ?_)
  show T x 23 [(0, vR 200), (1, vI 4), (2, vI l), (3, vI x9), (4, vI y9)] [vI 2, vI 192, vR 212] _ _ _
  refine st_imul C dX11_isKept_23 ⟨(by omega), (by omega)⟩ ?_
  refine st_bipush C dX11_isKept_24 (by decide) (by decide) ?_
  refine st_iload_n C 2 dX11_isKept_26 rfl rfl ?_
  refine st_imul C dX11_isKept_27 ⟨(by omega), (by omega)⟩ ?_
  refine st_iadd C dX11_isKept_28 ⟨(by omega), (by omega)⟩ ?_
  refine st_bipush C dX11_isKept_29 (by decide) (by decide) ?_
  refine st_iload C dX11_isKept_31 rfl ?_
  refine st_imul C dX11_isKept_33 ⟨(by omega), (by omega)⟩ ?_
  refine st_iadd C dX11_isKept_34 ⟨(by omega), (by omega)⟩ ?_
  refine st_iload_n C 3 dX11_isKept_35 rfl rfl ?_
  refine st_iadd C dX11_isKept_36 ⟨(by omega), (by omega)⟩ ?_
  refine st_iald C dX11_isKept_37 (hput_o (by omega) h212) (by omega) (by omega) ?_
  show T x 38 [(0, vR 200), (1, vI 4), (2, vI l), (3, vI x9), (4, vI y9)] [vI (ml (384 + (64 * l) + (8 * y9) + x9))] _ _ _
  refine st_if_lt (tgt := 45) C dX11_isKept_38 (by decide) (fun c_38 => ?_) (fun c_38 => by omega)
  refine st_iconst C dX11_isKept_45 (by decide) ?_
  exact st_zreturn C F dX11_isKept_46 rfl (by omega) (by first | exact ⟨by with_reducible rfl, by with_reducible rfl⟩ | (exfalso; omega)) (by omega) (by omega)
set_option maxRecDepth 20000 in
set_option maxHeartbeats 4000000 in
theorem m_tile3_f {g : Gx} {h : HP} {mv mrc mmc mmk mdv mwl mwa mwp mth : Int} {ml : Int → Int} {l x9 y9 : Int} (hm : mO h mv mrc mmc mmk mdv mwl mwa mwp mth) (h212 : h 212 = some (oI 768 ml)) (hQ : TileOk 8 l x9 y9) (hl : 0 ≤ l ∧ l ≤ 2) (hx : 0 ≤ x9 ∧ x9 ≤ 0) (hy : 0 ≤ y9 ∧ y9 ≤ 0) (hk : 0 ≤ ml (576 + (64 * l) + (8 * y9) + x9)) : Ct g yX11_tile (.code yX11_tile cX11_tile 6 (some .int)) 4 0 0 [vR 200, vI 8, vI l, vI x9, vI y9] h (Rt (some (vI (ml (576 + (64 * l) + (8 * y9) + x9)))) (hput h 200 (oO 10 [vR 201, vR 202, vR 203, vR 204, vR 205, vR 206, vR 207, vR 208, vR 209, vR 210, vR 211, vR 212, vR 213, vR 214, vR 215, vR 216, vR 217, vR 218, vI mv, vI mrc, vI mmc, vI mmk, vI mdv, vI mwl, vI mwa, vI mwp, vI 0]))) := by
  refine Ct.of (by decide) (Nat.le_of_ble_eq_true rfl) (fun x hg C F => ?_)
  subst hg
  show T x 0 [(0, vR 200), (1, vI 8), (2, vI l), (3, vI x9), (4, vI y9)] [] h 0 0
  refine st_aload_n C 0 dX11_tile_0 rfl rfl ?_
  refine st_iload_n C 1 dX11_tile_1 rfl rfl ?_
  refine st_iload_n C 2 dX11_tile_2 rfl rfl ?_
  refine st_iload_n C 3 dX11_tile_3 rfl rfl ?_
  refine st_iload C dX11_tile_4 rfl ?_
  refine st_callV (st := []) C dX11_tile_6 [vI 8, vI l, vI x9, vI y9] (k_noTile8_t hm hQ) hm w_X11_177 rfl (by decide) (by decide) (by omega) (by omega) (Nat.le_of_ble_eq_true rfl) (ko_rt ?_)
  show T x 9 [(0, vR 200), (1, vI 8), (2, vI l), (3, vI x9), (4, vI y9)] [vI 0] (hput h 200 (oO 10 [vR 201, vR 202, vR 203, vR 204, vR 205, vR 206, vR 207, vR 208, vR 209, vR 210, vR 211, vR 212, vR 213, vR 214, vR 215, vR 216, vR 217, vR 218, vI mv, vI mrc, vI mmc, vI mmk, vI mdv, vI mwl, vI mwa, vI mwp, vI 0])) _ _
  refine st_if_eq (tgt := 14) C dX11_tile_9 (by decide) (fun c_9 => ?_) (fun c_9 => by omega)
  refine st_sipush C dX11_tile_14 (by decide) (by decide) ?_
  refine st_iload_n C 1 dX11_tile_17 rfl rfl ?_
  refine st_callS (st := [vI 192]) C dX11_tile_18 [vI 8] k_depth8 w_X11_174 rfl (by decide) (by decide) (by omega) (by omega) (Nat.le_of_ble_eq_true rfl) (ko_rt ?_)
  show T x 21 [(0, vR 200), (1, vI 8), (2, vI l), (3, vI x9), (4, vI y9)] [vI 3, vI 192] _ _ _
  refine st_imul C dX11_tile_21 ⟨(by omega), (by omega)⟩ ?_
  refine st_bipush C dX11_tile_22 (by decide) (by decide) ?_
  refine st_iload_n C 2 dX11_tile_24 rfl rfl ?_
  refine st_imul C dX11_tile_25 ⟨(by omega), (by omega)⟩ ?_
  refine st_iadd C dX11_tile_26 ⟨(by omega), (by omega)⟩ ?_
  refine st_bipush C dX11_tile_27 (by decide) (by decide) ?_
  refine st_iload C dX11_tile_29 rfl ?_
  refine st_imul C dX11_tile_31 ⟨(by omega), (by omega)⟩ ?_
  refine st_iadd C dX11_tile_32 ⟨(by omega), (by omega)⟩ ?_
  refine st_iload_n C 3 dX11_tile_33 rfl rfl ?_
  refine st_iadd C dX11_tile_34 ⟨(by omega), (by omega)⟩ ?_
  refine st_istore C dX11_tile_35 (by decide) rfl ?_
  show T x 37 [(0, vR 200), (1, vI 8), (2, vI l), (3, vI x9), (4, vI y9), (5, vI (576 + (64 * l) + (8 * y9) + x9))] [] _ _ _
  refine st_aload_n C 0 dX11_tile_37 rfl rfl ?_
  refine st_getf C dX11_tile_38 fl_X11_44 hput_s rfl ?_
  refine st_iload C dX11_tile_41 rfl ?_
  refine st_iald C dX11_tile_43 (hput_o (by omega) h212) (by omega) (by omega) ?_
  refine st_if_ge (tgt := 77) C dX11_tile_44 (by decide) (fun c_44 => ?_) (fun c_44 => by omega)
  refine st_aload_n C 0 dX11_tile_77 rfl rfl ?_
  refine st_getf C dX11_tile_78 fl_X11_44 hput_s rfl ?_
  refine st_iload C dX11_tile_81 rfl ?_
  refine st_iald C dX11_tile_83 (hput_o (by omega) h212) (by omega) (by omega) ?_
  exact st_ireturn C F dX11_tile_84 rfl (by first | exact ⟨by with_reducible rfl, by with_reducible rfl⟩ | (exfalso; omega)) (by omega) (by omega)
set_option maxRecDepth 20000 in
set_option maxHeartbeats 4000000 in
theorem m_tile3_t {g : Gx} {h : HP} {mv mrc mmc mmk mdv mwl mwa mwp mth : Int} {mm : Int → Int} {ml : Int → Int} {fc : Int → Int} {l x9 y9 : Int} (hm : mO h mv mrc mmc mmk mdv mwl mwa mwp mth) (hmm : h 201 = some (oI 12464 mm)) (h212 : h 212 = some (oI 768 ml)) (h218 : h 218 = some (oI 10 fc)) (hv : 0 ≤ mv ∧ mv ≤ 40) (hQ : TileOk 8 l x9 y9) (hl : 0 ≤ l ∧ l ≤ 2) (hx : 0 ≤ x9 ∧ x9 ≤ 0) (hy : 0 ≤ y9 ∧ y9 ≤ 0) (hk : ml (576 + (64 * l) + (8 * y9) + x9) < 0) (hmk : 0 ≤ mmk ∧ mmk ≤ 1000000) (hwa : ∀ j, 304 * mv ≤ j → j ≤ 304 * mv + 191 → 0 ≤ mm j ∧ mm j ≤ 9) : Ct g yX11_tile (.code yX11_tile cX11_tile 6 (some .int)) 4 0 0 [vR 200, vI 8, vI l, vI x9, vI y9] h ((fun r h' => r = .inl (some (vI ((mcb (fun a => cnt (fun k => mm (304 * mv + (64 * l + 8 * ((y9 * 8) + k / 8) + (x9 * 8) + k % 8)) = a) 64) 10).1))) ∧ ∃ f5 : Int → Int, h' = (hput (hput (hput (hput h 200 (oO 10 [vR 201, vR 202, vR 203, vR 204, vR 205, vR 206, vR 207, vR 208, vR 209, vR 210, vR 211, vR 212, vR 213, vR 214, vR 215, vR 216, vR 217, vR 218, vI mv, vI mrc, vI mmc, vI mmk, vI mdv, vI mwl, vI mwa, vI mwp, vI 0])) 218 (oI 10 f5)) 212 (oI 768 (fput ml (576 + (64 * l) + (8 * y9) + x9) (mcb (fun a => cnt (fun k => mm (304 * mv + (64 * l + 8 * ((y9 * 8) + k / 8) + (x9 * 8) + k % 8)) = a) 64) 10).1))) 200 (oO 10 [vR 201, vR 202, vR 203, vR 204, vR 205, vR 206, vR 207, vR 208, vR 209, vR 210, vR 211, vR 212, vR 213, vR 214, vR 215, vR 216, vR 217, vR 218, vI mv, vI mrc, vI mmc, vI (mmk + 1), vI mdv, vI mwl, vI mwa, vI mwp, vI 0])))) := by
  refine Ct.of (by decide) (Nat.le_of_ble_eq_true rfl) (fun x hg C F => ?_)
  subst hg
  show T x 0 [(0, vR 200), (1, vI 8), (2, vI l), (3, vI x9), (4, vI y9)] [] h 0 0
  refine st_aload_n C 0 dX11_tile_0 rfl rfl ?_
  refine st_iload_n C 1 dX11_tile_1 rfl rfl ?_
  refine st_iload_n C 2 dX11_tile_2 rfl rfl ?_
  refine st_iload_n C 3 dX11_tile_3 rfl rfl ?_
  refine st_iload C dX11_tile_4 rfl ?_
  refine st_callV (st := []) C dX11_tile_6 [vI 8, vI l, vI x9, vI y9] (k_noTile8_t hm hQ) hm w_X11_177 rfl (by decide) (by decide) (by omega) (by omega) (Nat.le_of_ble_eq_true rfl) (ko_rt ?_)
  show T x 9 [(0, vR 200), (1, vI 8), (2, vI l), (3, vI x9), (4, vI y9)] [vI 0] (hput h 200 (oO 10 [vR 201, vR 202, vR 203, vR 204, vR 205, vR 206, vR 207, vR 208, vR 209, vR 210, vR 211, vR 212, vR 213, vR 214, vR 215, vR 216, vR 217, vR 218, vI mv, vI mrc, vI mmc, vI mmk, vI mdv, vI mwl, vI mwa, vI mwp, vI 0])) _ _
  refine st_if_eq (tgt := 14) C dX11_tile_9 (by decide) (fun c_9 => ?_) (fun c_9 => by omega)
  refine st_sipush C dX11_tile_14 (by decide) (by decide) ?_
  refine st_iload_n C 1 dX11_tile_17 rfl rfl ?_
  refine st_callS (st := [vI 192]) C dX11_tile_18 [vI 8] k_depth8 w_X11_174 rfl (by decide) (by decide) (by omega) (by omega) (Nat.le_of_ble_eq_true rfl) (ko_rt ?_)
  show T x 21 [(0, vR 200), (1, vI 8), (2, vI l), (3, vI x9), (4, vI y9)] [vI 3, vI 192] _ _ _
  refine st_imul C dX11_tile_21 ⟨(by omega), (by omega)⟩ ?_
  refine st_bipush C dX11_tile_22 (by decide) (by decide) ?_
  refine st_iload_n C 2 dX11_tile_24 rfl rfl ?_
  refine st_imul C dX11_tile_25 ⟨(by omega), (by omega)⟩ ?_
  refine st_iadd C dX11_tile_26 ⟨(by omega), (by omega)⟩ ?_
  refine st_bipush C dX11_tile_27 (by decide) (by decide) ?_
  refine st_iload C dX11_tile_29 rfl ?_
  refine st_imul C dX11_tile_31 ⟨(by omega), (by omega)⟩ ?_
  refine st_iadd C dX11_tile_32 ⟨(by omega), (by omega)⟩ ?_
  refine st_iload_n C 3 dX11_tile_33 rfl rfl ?_
  refine st_iadd C dX11_tile_34 ⟨(by omega), (by omega)⟩ ?_
  refine st_istore C dX11_tile_35 (by decide) rfl ?_
  show T x 37 [(0, vR 200), (1, vI 8), (2, vI l), (3, vI x9), (4, vI y9), (5, vI (576 + (64 * l) + (8 * y9) + x9))] [] _ _ _
  refine st_aload_n C 0 dX11_tile_37 rfl rfl ?_
  refine st_getf C dX11_tile_38 fl_X11_44 hput_s rfl ?_
  refine st_iload C dX11_tile_41 rfl ?_
  refine st_iald C dX11_tile_43 (hput_o (by omega) h212) (by omega) (by omega) ?_
  refine st_if_ge (tgt := 77) C dX11_tile_44 (by decide) (fun c_44 => by omega) (fun c_44 => ?_)
  refine st_aload_n C 0 dX11_tile_47 rfl rfl ?_
  refine st_getf C dX11_tile_48 fl_X11_44 hput_s rfl ?_
  refine st_iload C dX11_tile_51 rfl ?_
  refine st_aload_n C 0 dX11_tile_53 rfl rfl ?_
  refine st_iload_n C 1 dX11_tile_54 rfl rfl ?_
  refine st_iload_n C 2 dX11_tile_55 rfl rfl ?_
  refine st_iload_n C 3 dX11_tile_56 rfl rfl ?_
  refine st_iload_n C 1 dX11_tile_57 rfl rfl ?_
  refine st_imul C dX11_tile_58 ⟨(by omega), (by omega)⟩ ?_
  refine st_iload C dX11_tile_59 rfl ?_
  refine st_iload_n C 1 dX11_tile_61 rfl rfl ?_
  refine st_imul C dX11_tile_62 ⟨(by omega), (by omega)⟩ ?_
  refine st_callV (st := [vI (576 + (64 * l) + (8 * y9) + x9), vR 212]) C dX11_tile_63 [vI 8, vI l, vI (x9 * 8), vI (y9 * 8)] (k_most8 (f0 := fc) (l := l) (a9 := (x9 * 8)) (t9 := (y9 * 8)) hput_s (hput_o (by omega) hmm) hv (hput_o (by omega) h218) (by omega) (by omega) (by omega) hwa) hput_s w_X11_180 rfl (by decide) (by decide) (by omega) (by omega) (Nat.le_of_ble_eq_true rfl) (ko_rc (fun f5 => ?_))
  show T x 66 [(0, vR 200), (1, vI 8), (2, vI l), (3, vI x9), (4, vI y9), (5, vI (576 + (64 * l) + (8 * y9) + x9))] [vI ((mcb (fun a => cnt (fun k => mm (304 * mv + (64 * l + 8 * ((y9 * 8) + k / 8) + (x9 * 8) + k % 8)) = a) 64) 10).1), vI (576 + (64 * l) + (8 * y9) + x9), vR 212] _ _ _
  refine st_iast C dX11_tile_66 (hput_o (by decide) (hput_o (by omega) h212)) (by omega) (by omega) ?_
  refine st_aload_n C 0 dX11_tile_67 rfl rfl ?_
  refine st_dup C dX11_tile_68 rfl ?_
  refine st_getf C dX11_tile_69 fl_X11_184 (hput_o (by omega) (hput_o (by decide) hput_s)) rfl ?_
  refine st_iconst C dX11_tile_72 (by decide) ?_
  refine st_iadd C dX11_tile_73 ⟨(by omega), (by omega)⟩ ?_
  refine st_putf C dX11_tile_74 fp_X11_184 (fun q => by cases q) (hput_o (by omega) (hput_o (by decide) hput_s)) (Nat.le_of_ble_eq_true rfl) fit_int ?_
  show T x 77 [(0, vR 200), (1, vI 8), (2, vI l), (3, vI x9), (4, vI y9), (5, vI (576 + (64 * l) + (8 * y9) + x9))] [] (hput (hput (hput (hput h 200 (oO 10 [vR 201, vR 202, vR 203, vR 204, vR 205, vR 206, vR 207, vR 208, vR 209, vR 210, vR 211, vR 212, vR 213, vR 214, vR 215, vR 216, vR 217, vR 218, vI mv, vI mrc, vI mmc, vI mmk, vI mdv, vI mwl, vI mwa, vI mwp, vI 0])) 218 (oI 10 f5)) 212 (oI 768 (fput ml (576 + (64 * l) + (8 * y9) + x9) ((mcb (fun a => cnt (fun k => mm (304 * mv + (64 * l + 8 * ((y9 * 8) + k / 8) + (x9 * 8) + k % 8)) = a) 64) 10).1)))) 200 (oO 10 [vR 201, vR 202, vR 203, vR 204, vR 205, vR 206, vR 207, vR 208, vR 209, vR 210, vR 211, vR 212, vR 213, vR 214, vR 215, vR 216, vR 217, vR 218, vI mv, vI mrc, vI mmc, vI (mmk + 1), vI mdv, vI mwl, vI mwa, vI mwp, vI 0])) _ _
  refine st_aload_n C 0 dX11_tile_77 rfl rfl ?_
  refine st_getf C dX11_tile_78 fl_X11_44 hput_s rfl ?_
  refine st_iload C dX11_tile_81 rfl ?_
  refine st_iald C dX11_tile_83 (hput_o (by omega) hput_s) (by omega) (by omega) ?_
  exact st_ireturn C F dX11_tile_84 rfl (by rw [fput_s]; exact ⟨by with_reducible rfl, f5, by with_reducible rfl⟩) (by omega) (by omega)
set_option maxRecDepth 20000 in
set_option maxHeartbeats 4000000 in
theorem m_isKept3_t {g : Gx} {h : HP} {mv mrc mmc mmk mdv mwl mwa mwp mth : Int} {ml : Int → Int} {l x9 y9 : Int} (hm : mO h mv mrc mmc mmk mdv mwl mwa mwp mth) (h212 : h 212 = some (oI 768 ml)) (hQ : TileOk 8 l x9 y9) (hl : 0 ≤ l ∧ l ≤ 2) (hx : 0 ≤ x9 ∧ x9 ≤ 0) (hy : 0 ≤ y9 ∧ y9 ≤ 0) (hk : 0 ≤ ml (576 + (64 * l) + (8 * y9) + x9)) : Ct g yX11_isKept (.code yX11_isKept cX11_isKept 5 (some .boolean)) 4 0 0 [vR 200, vI 8, vI l, vI x9, vI y9] h (Rt (some (vI 1)) (hput h 200 (oO 10 [vR 201, vR 202, vR 203, vR 204, vR 205, vR 206, vR 207, vR 208, vR 209, vR 210, vR 211, vR 212, vR 213, vR 214, vR 215, vR 216, vR 217, vR 218, vI mv, vI mrc, vI mmc, vI mmk, vI mdv, vI mwl, vI mwa, vI mwp, vI 0]))) := by
  refine Ct.of (by decide) (Nat.le_of_ble_eq_true rfl) (fun x hg C F => ?_)
  subst hg
  show T x 0 [(0, vR 200), (1, vI 8), (2, vI l), (3, vI x9), (4, vI y9)] [] h 0 0
  refine st_aload_n C 0 dX11_isKept_0 rfl rfl ?_
  refine st_iload_n C 1 dX11_isKept_1 rfl rfl ?_
  refine st_iload_n C 2 dX11_isKept_2 rfl rfl ?_
  refine st_iload_n C 3 dX11_isKept_3 rfl rfl ?_
  refine st_iload C dX11_isKept_4 rfl ?_
  refine st_callV (st := []) C dX11_isKept_6 [vI 8, vI l, vI x9, vI y9] (k_noTile8_t hm hQ) hm w_X11_177 rfl (by decide) (by decide) (by omega) (by omega) (Nat.le_of_ble_eq_true rfl) (ko_rt ?_)
  show T x 9 [(0, vR 200), (1, vI 8), (2, vI l), (3, vI x9), (4, vI y9)] [vI 0] (hput h 200 (oO 10 [vR 201, vR 202, vR 203, vR 204, vR 205, vR 206, vR 207, vR 208, vR 209, vR 210, vR 211, vR 212, vR 213, vR 214, vR 215, vR 216, vR 217, vR 218, vI mv, vI mrc, vI mmc, vI mmk, vI mdv, vI mwl, vI mwa, vI mwp, vI 0])) _ _
  refine st_if_ne (tgt := 45) C dX11_isKept_9 (by decide) (fun c_9 => by omega) (fun c_9 => ?_)
  refine st_aload_n C 0 dX11_isKept_12 rfl rfl ?_
  refine st_getf C dX11_isKept_13 fl_X11_44 hput_s rfl ?_
  refine st_sipush C dX11_isKept_16 (by decide) (by decide) ?_
  refine st_iload_n C 1 dX11_isKept_19 rfl rfl ?_
  refine st_callS (st := [vI 192, vR 212]) C dX11_isKept_20 [vI 8] k_depth8 w_X11_174 rfl (by decide) (by decide) (by omega) (by omega) (Nat.le_of_ble_eq_true rfl) (ko_rt ?_)
  show T x 23 [(0, vR 200), (1, vI 8), (2, vI l), (3, vI x9), (4, vI y9)] [vI 3, vI 192, vR 212] _ _ _
  refine st_imul C dX11_isKept_23 ⟨(by omega), (by omega)⟩ ?_
  refine st_bipush C dX11_isKept_24 (by decide) (by decide) ?_
  refine st_iload_n C 2 dX11_isKept_26 rfl rfl ?_
  refine st_imul C dX11_isKept_27 ⟨(by omega), (by omega)⟩ ?_
  refine st_iadd C dX11_isKept_28 ⟨(by omega), (by omega)⟩ ?_
  refine st_bipush C dX11_isKept_29 (by decide) (by decide) ?_
  refine st_iload C dX11_isKept_31 rfl ?_
  refine st_imul C dX11_isKept_33 ⟨(by omega), (by omega)⟩ ?_
  refine st_iadd C dX11_isKept_34 ⟨(by omega), (by omega)⟩ ?_
  refine st_iload_n C 3 dX11_isKept_35 rfl rfl ?_
  refine st_iadd C dX11_isKept_36 ⟨(by omega), (by omega)⟩ ?_
  refine st_iald C dX11_isKept_37 (hput_o (by omega) h212) (by omega) (by omega) ?_
  show T x 38 [(0, vR 200), (1, vI 8), (2, vI l), (3, vI x9), (4, vI y9)] [vI (ml (576 + (64 * l) + (8 * y9) + x9))] _ _ _
  refine st_if_lt (tgt := 45) C dX11_isKept_38 (by decide) (fun c_38 => by omega) (fun c_38 => ?_)
  refine st_iconst C dX11_isKept_41 (by decide) ?_
  refine st_goto (tgt := 46) C dX11_isKept_42 (by decide) ?_
  exact st_zreturn C F dX11_isKept_46 rfl (by omega) (by first | exact ⟨by with_reducible rfl, by with_reducible rfl⟩ | (exfalso; omega)) (by omega) (by omega)
set_option maxRecDepth 20000 in
set_option maxHeartbeats 4000000 in
theorem m_isKept3_f {g : Gx} {h : HP} {mv mrc mmc mmk mdv mwl mwa mwp mth : Int} {ml : Int → Int} {l x9 y9 : Int} (hm : mO h mv mrc mmc mmk mdv mwl mwa mwp mth) (h212 : h 212 = some (oI 768 ml)) (hQ : TileOk 8 l x9 y9) (hl : 0 ≤ l ∧ l ≤ 2) (hx : 0 ≤ x9 ∧ x9 ≤ 0) (hy : 0 ≤ y9 ∧ y9 ≤ 0) (hk : ml (576 + (64 * l) + (8 * y9) + x9) < 0) : Ct g yX11_isKept (.code yX11_isKept cX11_isKept 5 (some .boolean)) 4 0 0 [vR 200, vI 8, vI l, vI x9, vI y9] h (Rt (some (vI 0)) (hput h 200 (oO 10 [vR 201, vR 202, vR 203, vR 204, vR 205, vR 206, vR 207, vR 208, vR 209, vR 210, vR 211, vR 212, vR 213, vR 214, vR 215, vR 216, vR 217, vR 218, vI mv, vI mrc, vI mmc, vI mmk, vI mdv, vI mwl, vI mwa, vI mwp, vI 0]))) := by
  refine Ct.of (by decide) (Nat.le_of_ble_eq_true rfl) (fun x hg C F => ?_)
  subst hg
  show T x 0 [(0, vR 200), (1, vI 8), (2, vI l), (3, vI x9), (4, vI y9)] [] h 0 0
  refine st_aload_n C 0 dX11_isKept_0 rfl rfl ?_
  refine st_iload_n C 1 dX11_isKept_1 rfl rfl ?_
  refine st_iload_n C 2 dX11_isKept_2 rfl rfl ?_
  refine st_iload_n C 3 dX11_isKept_3 rfl rfl ?_
  refine st_iload C dX11_isKept_4 rfl ?_
  refine st_callV (st := []) C dX11_isKept_6 [vI 8, vI l, vI x9, vI y9] (k_noTile8_t hm hQ) hm w_X11_177 rfl (by decide) (by decide) (by omega) (by omega) (Nat.le_of_ble_eq_true rfl) (ko_rt ?_)
  show T x 9 [(0, vR 200), (1, vI 8), (2, vI l), (3, vI x9), (4, vI y9)] [vI 0] (hput h 200 (oO 10 [vR 201, vR 202, vR 203, vR 204, vR 205, vR 206, vR 207, vR 208, vR 209, vR 210, vR 211, vR 212, vR 213, vR 214, vR 215, vR 216, vR 217, vR 218, vI mv, vI mrc, vI mmc, vI mmk, vI mdv, vI mwl, vI mwa, vI mwp, vI 0])) _ _
  refine st_if_ne (tgt := 45) C dX11_isKept_9 (by decide) (fun c_9 => by omega) (fun c_9 => ?_)
  refine st_aload_n C 0 dX11_isKept_12 rfl rfl ?_
  refine st_getf C dX11_isKept_13 fl_X11_44 hput_s rfl ?_
  refine st_sipush C dX11_isKept_16 (by decide) (by decide) ?_
  refine st_iload_n C 1 dX11_isKept_19 rfl rfl ?_
  refine st_callS (st := [vI 192, vR 212]) C dX11_isKept_20 [vI 8] k_depth8 w_X11_174 rfl (by decide) (by decide) (by omega) (by omega) (Nat.le_of_ble_eq_true rfl) (ko_rt ?_)
  show T x 23 [(0, vR 200), (1, vI 8), (2, vI l), (3, vI x9), (4, vI y9)] [vI 3, vI 192, vR 212] _ _ _
  refine st_imul C dX11_isKept_23 ⟨(by omega), (by omega)⟩ ?_
  refine st_bipush C dX11_isKept_24 (by decide) (by decide) ?_
  refine st_iload_n C 2 dX11_isKept_26 rfl rfl ?_
  refine st_imul C dX11_isKept_27 ⟨(by omega), (by omega)⟩ ?_
  refine st_iadd C dX11_isKept_28 ⟨(by omega), (by omega)⟩ ?_
  refine st_bipush C dX11_isKept_29 (by decide) (by decide) ?_
  refine st_iload C dX11_isKept_31 rfl ?_
  refine st_imul C dX11_isKept_33 ⟨(by omega), (by omega)⟩ ?_
  refine st_iadd C dX11_isKept_34 ⟨(by omega), (by omega)⟩ ?_
  refine st_iload_n C 3 dX11_isKept_35 rfl rfl ?_
  refine st_iadd C dX11_isKept_36 ⟨(by omega), (by omega)⟩ ?_
  refine st_iald C dX11_isKept_37 (hput_o (by omega) h212) (by omega) (by omega) ?_
  show T x 38 [(0, vR 200), (1, vI 8), (2, vI l), (3, vI x9), (4, vI y9)] [vI (ml (576 + (64 * l) + (8 * y9) + x9))] _ _ _
  refine st_if_lt (tgt := 45) C dX11_isKept_38 (by decide) (fun c_38 => ?_) (fun c_38 => by omega)
  refine st_iconst C dX11_isKept_45 (by decide) ?_
  exact st_zreturn C F dX11_isKept_46 rfl (by omega) (by first | exact ⟨by with_reducible rfl, by with_reducible rfl⟩ | (exfalso; omega)) (by omega) (by omega)
/-- a square of side s, n places, is of one area -/
def OneS (mm : Int → Int) (mv l s n c : Int) : Prop := ∀ k, 0 ≤ k → k < n → mm (304 * mv + (64 * l + c + 8 * (k / s) + k % s)) = mm (304 * mv + (64 * l + c))
def LfP1 (mm : Int → Int) (mv l c : Int) : Prop := c % 8 % 1 = 0 ∧ c / 8 % 1 = 0 ∧ OneS mm mv l 1 1 c ∧ ¬ OneS mm mv l 2 4 (8 * (c / 8 / 2 * 2) + c % 8 / 2 * 2)
def LfP2 (mm : Int → Int) (mv l c : Int) : Prop := c % 8 % 2 = 0 ∧ c / 8 % 2 = 0 ∧ OneS mm mv l 2 4 c ∧ ¬ OneS mm mv l 4 16 (8 * (c / 8 / 4 * 4) + c % 8 / 4 * 4)
def LfP4 (mm : Int → Int) (mv l c : Int) : Prop := c % 8 % 4 = 0 ∧ c / 8 % 4 = 0 ∧ OneS mm mv l 4 16 c ∧ ¬ OneS mm mv l 8 64 (8 * (c / 8 / 8 * 8) + c % 8 / 8 * 8)
def LfP8 (mm : Int → Int) (mv l c : Int) : Prop := c % 8 % 8 = 0 ∧ c / 8 % 8 = 0 ∧ OneS mm mv l 8 64 c
set_option maxRecDepth 20000 in
set_option maxHeartbeats 4000000 in
theorem m_leaves_x1 {g : Gx} {h : HP} {mv mrc mmc mmk mdv mwl mwa mwp mth : Int} {mm : Int → Int} {l : Int} (hm : mO h mv mrc mmc mmk mdv mwl mwa mwp mth) (hmm : h 201 = some (oI 12464 mm)) (hv : 0 ≤ mv ∧ mv ≤ 40) (hQ : ¬ (0 ≤ l ∧ l ≤ 2)) : Ct g yX11_leaves (.code yX11_leaves cX11_leaves 9 (some .int)) 3 0 0 [vR 200, vI l] h (Rt (some (vI 0)) (hput h 200 (oO 10 [vR 201, vR 202, vR 203, vR 204, vR 205, vR 206, vR 207, vR 208, vR 209, vR 210, vR 211, vR 212, vR 213, vR 214, vR 215, vR 216, vR 217, vR 218, vI mv, vI mrc, vI mmc, vI mmk, vI mdv, vI mwl, vI mwa, vI mwp, vI 1]))) := by
  refine Ct.of (by decide) (Nat.le_of_ble_eq_true rfl) (fun x hg C F => ?_)
  subst hg
  show T x 0 [(0, vR 200), (1, vI l)] [] h 0 0
  refine st_aload_n C 0 dX11_leaves_0 rfl rfl ?_
  refine st_iload_n C 1 dX11_leaves_1 rfl rfl ?_
  by_cases b_2 : 0 ≤ l ∧ l ≤ 2
  · refine st_callS (st := [vR 200]) C dX11_leaves_2 [vI l] (k_mLayer_t (v9 := l)  b_2) w_X11_108 rfl (by decide) (by decide) (by omega) (by omega) (Nat.le_of_ble_eq_true rfl) (ko_rt ?_)
    show T x 5 [(0, vR 200), (1, vI l)] [vI 1, vR 200] _ _ _
    refine st_iconst C dX11_leaves_5 (by decide) ?_
    exfalso; omega
  · refine st_callS (st := [vR 200]) C dX11_leaves_2 [vI l] (k_mLayer_f (v9 := l)  b_2) w_X11_108 rfl (by decide) (by decide) (by omega) (by omega) (Nat.le_of_ble_eq_true rfl) (ko_rt ?_)
    show T x 5 [(0, vR 200), (1, vI l)] [vI 0, vR 200] _ _ _
    refine st_iconst C dX11_leaves_5 (by decide) ?_
    refine st_callV (st := []) C dX11_leaves_6 [vI 0, vI 1] (k_no_f (p9 := 1) hm) hm w_X11_112 rfl (by decide) (by decide) (by omega) (by omega) (Nat.le_of_ble_eq_true rfl) (ko_rt ?_)
    show T x 9 [(0, vR 200), (1, vI l)] [vI 1] (hput h 200 (oO 10 [vR 201, vR 202, vR 203, vR 204, vR 205, vR 206, vR 207, vR 208, vR 209, vR 210, vR 211, vR 212, vR 213, vR 214, vR 215, vR 216, vR 217, vR 218, vI mv, vI mrc, vI mmc, vI mmk, vI mdv, vI mwl, vI mwa, vI mwp, vI 1])) _ _
    refine st_if_eq (tgt := 14) C dX11_leaves_9 (by decide) (fun c_9 => by omega) (fun c_9 => ?_)
    refine st_iconst C dX11_leaves_12 (by decide) ?_
    exact st_ireturn C F dX11_leaves_13 rfl (by first | (exfalso; omega) | exact ⟨by with_reducible rfl, by with_reducible rfl⟩) (by omega) (by omega)
set_option maxRecDepth 20000 in
set_option maxHeartbeats 4000000 in
theorem m_leaves {g : Gx} {h : HP} {mv mrc mmc mmk mdv mwl mwa mwp mth : Int} {mm : Int → Int} {l : Int} (hm : mO h mv mrc mmc mmk mdv mwl mwa mwp mth) (hmm : h 201 = some (oI 12464 mm)) (hv : 0 ≤ mv ∧ mv ≤ 40) (hQ : 0 ≤ l ∧ l ≤ 2) : Ct g yX11_leaves (.code yX11_leaves cX11_leaves 9 (some .int)) 3 0 0 [vR 200, vI l] h (Rt (some (vI (0 + cnt (LfP1 mm mv l) 64 + cnt (LfP2 mm mv l) 64 + cnt (LfP4 mm mv l) 64 + cnt (LfP8 mm mv l) 64))) (hput h 200 (oO 10 [vR 201, vR 202, vR 203, vR 204, vR 205, vR 206, vR 207, vR 208, vR 209, vR 210, vR 211, vR 212, vR 213, vR 214, vR 215, vR 216, vR 217, vR 218, vI mv, vI mrc, vI mmc, vI mmk, vI mdv, vI mwl, vI mwa, vI mwp, vI 0]))) := by
  refine Ct.of (by decide) (Nat.le_of_ble_eq_true rfl) (fun x hg C F => ?_)
  subst hg
  show T x 0 [(0, vR 200), (1, vI l)] [] h 0 0
  refine st_aload_n C 0 dX11_leaves_0 rfl rfl ?_
  refine st_iload_n C 1 dX11_leaves_1 rfl rfl ?_
  have b_2 : 0 ≤ l ∧ l ≤ 2 := by omega
  refine st_callS (st := [vR 200]) C dX11_leaves_2 [vI l] (k_mLayer_t (v9 := l)  b_2) w_X11_108 rfl (by decide) (by decide) (by omega) (by omega) (Nat.le_of_ble_eq_true rfl) (ko_rt ?_)
  show T x 5 [(0, vR 200), (1, vI l)] [vI 1, vR 200] _ _ _
  refine st_iconst C dX11_leaves_5 (by decide) ?_
  refine st_callV (st := []) C dX11_leaves_6 [vI 1, vI 1] (k_no_t (p9 := 1) hm) hm w_X11_112 rfl (by decide) (by decide) (by omega) (by omega) (Nat.le_of_ble_eq_true rfl) (ko_rt ?_)
  show T x 9 [(0, vR 200), (1, vI l)] [vI 0] (hput h 200 (oO 10 [vR 201, vR 202, vR 203, vR 204, vR 205, vR 206, vR 207, vR 208, vR 209, vR 210, vR 211, vR 212, vR 213, vR 214, vR 215, vR 216, vR 217, vR 218, vI mv, vI mrc, vI mmc, vI mmk, vI mdv, vI mwl, vI mwa, vI mwp, vI 0])) _ _
  refine st_if_eq (tgt := 14) C dX11_leaves_9 (by decide) (fun c_9 => ?_) (fun c_9 => by omega)
  refine st_iconst C dX11_leaves_14 (by decide) ?_
  refine st_istore_n C 2 dX11_leaves_15 rfl (by decide) rfl ?_
  show T x 16 [(0, vR 200), (1, vI l), (2, vI 0)] [] _ _ _
  refine st_iconst C dX11_leaves_16 (by decide) ?_
  refine st_istore_n C 3 dX11_leaves_17 rfl (by decide) rfl ?_
  show T x 18 [(0, vR 200), (1, vI l), (2, vI 0), (3, vI 0)] [] _ _ _
  refine st_iload_n C 3 dX11_leaves_18 rfl rfl ?_
  refine st_iconst C dX11_leaves_19 (by decide) ?_
  refine st_icmp_ge (tgt := 158) C dX11_leaves_20 (by decide) (fun c_20 => by omega) (fun c_20 => ?_)
  refine st_iload_n C 3 dX11_leaves_23 rfl rfl ?_
  refine st_callS (st := []) C dX11_leaves_24 [vI 0] (k_msz0) w_X11_156 rfl (by decide) (by decide) (by omega) (by omega) (Nat.le_of_ble_eq_true rfl) (ko_rt ?_)
  show T x 27 [(0, vR 200), (1, vI l), (2, vI 0), (3, vI 0)] [vI 1] _ _ _
  refine st_istore C dX11_leaves_27 (by decide) rfl ?_
  show T x 29 [(0, vR 200), (1, vI l), (2, vI 0), (3, vI 0), (4, vI 1)] [] _ _ _
  refine st_iconst C dX11_leaves_29 (by decide) ?_
  refine st_istore C dX11_leaves_30 (by decide) rfl ?_
  show T x 32 [(0, vR 200), (1, vI l), (2, vI 0), (3, vI 0), (4, vI 1), (5, vI 0)] [] _ _ _
  have loop_32 : ∀ (n_32 : Nat) (c0 : Int) (i0 : Int), (0 ≤ i0) → (i0 ≤ 64) → (0 ≤ c0 ∧ c0 ≤ 0 + i0) → (c0 = 0 + cnt (LfP1 mm mv l) i0) → (64 - i0).toNat < n_32 → T x 32 [(0, vR 200), (1, vI l), (2, vI c0), (3, vI 0), (4, vI 1), (5, vI i0)] [] (hput h 200 (oO 10 [vR 201, vR 202, vR 203, vR 204, vR 205, vR 206, vR 207, vR 208, vR 209, vR 210, vR 211, vR 212, vR 213, vR 214, vR 215, vR 216, vR 217, vR 218, vI mv, vI mrc, vI mmc, vI mmk, vI mdv, vI mwl, vI mwa, vI mwp, vI 0])) 0 0 := by
    intro n_32
    induction n_32 with
    | zero => intro c0 i0 g01 g02 g03 g04 hm_32; exact absurd hm_32 (Nat.not_lt_zero _)
    | succ n_32 ih_32 =>
      intro c0 i0 g01 g02 g03 g04 hm_32
      refine st_iload C dX11_leaves_32 rfl ?_
      refine st_bipush C dX11_leaves_34 (by decide) (by decide) ?_
      refine st_icmp_ge (tgt := 152) C dX11_leaves_36 (by decide) (fun c_36 => ?_) (fun c_36 => ?_)
      · refine st_iinc C dX11_leaves_152 rfl (by decide) rfl ⟨(by omega), (by omega)⟩ ?_
        show T x 155 [(0, vR 200), (1, vI l), (2, vI c0), (3, vI 1), (4, vI 1), (5, vI i0)] [] _ _ _
        refine st_goto (tgt := 18) C dX11_leaves_155 (by decide) ?_
        refine st_iload_n C 3 dX11_leaves_18 rfl rfl ?_
        refine st_iconst C dX11_leaves_19 (by decide) ?_
        refine st_icmp_ge (tgt := 158) C dX11_leaves_20 (by decide) (fun c_20 => by omega) (fun c_20 => ?_)
        refine st_iload_n C 3 dX11_leaves_23 rfl rfl ?_
        refine st_callS (st := []) C dX11_leaves_24 [vI 1] (k_msz1) w_X11_156 rfl (by decide) (by decide) (by omega) (by omega) (Nat.le_of_ble_eq_true rfl) (ko_rt ?_)
        show T x 27 [(0, vR 200), (1, vI l), (2, vI c0), (3, vI 1), (4, vI 1), (5, vI i0)] [vI 2] _ _ _
        refine st_istore C dX11_leaves_27 (by decide) rfl ?_
        show T x 29 [(0, vR 200), (1, vI l), (2, vI c0), (3, vI 1), (4, vI 2), (5, vI i0)] [] _ _ _
        refine st_iconst C dX11_leaves_29 (by decide) ?_
        refine st_istore C dX11_leaves_30 (by decide) rfl ?_
        show T x 32 [(0, vR 200), (1, vI l), (2, vI c0), (3, vI 1), (4, vI 2), (5, vI 0)] [] _ _ _
        have loop_32 : ∀ (n_32 : Nat) (c1 : Int) (i1 : Int), (0 ≤ i1) → (i1 ≤ 64) → (0 ≤ c1 ∧ c1 ≤ 64 + i1) → (c1 = 0 + cnt (LfP1 mm mv l) 64 + cnt (LfP2 mm mv l) i1) → (64 - i1).toNat < n_32 → T x 32 [(0, vR 200), (1, vI l), (2, vI c1), (3, vI 1), (4, vI 2), (5, vI i1)] [] (hput h 200 (oO 10 [vR 201, vR 202, vR 203, vR 204, vR 205, vR 206, vR 207, vR 208, vR 209, vR 210, vR 211, vR 212, vR 213, vR 214, vR 215, vR 216, vR 217, vR 218, vI mv, vI mrc, vI mmc, vI mmk, vI mdv, vI mwl, vI mwa, vI mwp, vI 0])) 0 0 := by
          intro n_32
          induction n_32 with
          | zero => intro c1 i1 g11 g12 g13 g14 hm_32; exact absurd hm_32 (Nat.not_lt_zero _)
          | succ n_32 ih_32 =>
            intro c1 i1 g11 g12 g13 g14 hm_32
            refine st_iload C dX11_leaves_32 rfl ?_
            refine st_bipush C dX11_leaves_34 (by decide) (by decide) ?_
            refine st_icmp_ge (tgt := 152) C dX11_leaves_36 (by decide) (fun c_36 => ?_) (fun c_36 => ?_)
            · refine st_iinc C dX11_leaves_152 rfl (by decide) rfl ⟨(by omega), (by omega)⟩ ?_
              show T x 155 [(0, vR 200), (1, vI l), (2, vI c1), (3, vI 2), (4, vI 2), (5, vI i1)] [] _ _ _
              refine st_goto (tgt := 18) C dX11_leaves_155 (by decide) ?_
              refine st_iload_n C 3 dX11_leaves_18 rfl rfl ?_
              refine st_iconst C dX11_leaves_19 (by decide) ?_
              refine st_icmp_ge (tgt := 158) C dX11_leaves_20 (by decide) (fun c_20 => by omega) (fun c_20 => ?_)
              refine st_iload_n C 3 dX11_leaves_23 rfl rfl ?_
              refine st_callS (st := []) C dX11_leaves_24 [vI 2] (k_msz2) w_X11_156 rfl (by decide) (by decide) (by omega) (by omega) (Nat.le_of_ble_eq_true rfl) (ko_rt ?_)
              show T x 27 [(0, vR 200), (1, vI l), (2, vI c1), (3, vI 2), (4, vI 2), (5, vI i1)] [vI 4] _ _ _
              refine st_istore C dX11_leaves_27 (by decide) rfl ?_
              show T x 29 [(0, vR 200), (1, vI l), (2, vI c1), (3, vI 2), (4, vI 4), (5, vI i1)] [] _ _ _
              refine st_iconst C dX11_leaves_29 (by decide) ?_
              refine st_istore C dX11_leaves_30 (by decide) rfl ?_
              show T x 32 [(0, vR 200), (1, vI l), (2, vI c1), (3, vI 2), (4, vI 4), (5, vI 0)] [] _ _ _
              have loop_32 : ∀ (n_32 : Nat) (c2 : Int) (i2 : Int), (0 ≤ i2) → (i2 ≤ 64) → (0 ≤ c2 ∧ c2 ≤ 128 + i2) → (c2 = 0 + cnt (LfP1 mm mv l) 64 + cnt (LfP2 mm mv l) 64 + cnt (LfP4 mm mv l) i2) → (64 - i2).toNat < n_32 → T x 32 [(0, vR 200), (1, vI l), (2, vI c2), (3, vI 2), (4, vI 4), (5, vI i2)] [] (hput h 200 (oO 10 [vR 201, vR 202, vR 203, vR 204, vR 205, vR 206, vR 207, vR 208, vR 209, vR 210, vR 211, vR 212, vR 213, vR 214, vR 215, vR 216, vR 217, vR 218, vI mv, vI mrc, vI mmc, vI mmk, vI mdv, vI mwl, vI mwa, vI mwp, vI 0])) 0 0 := by
                intro n_32
                induction n_32 with
                | zero => intro c2 i2 g21 g22 g23 g24 hm_32; exact absurd hm_32 (Nat.not_lt_zero _)
                | succ n_32 ih_32 =>
                  intro c2 i2 g21 g22 g23 g24 hm_32
                  refine st_iload C dX11_leaves_32 rfl ?_
                  refine st_bipush C dX11_leaves_34 (by decide) (by decide) ?_
                  refine st_icmp_ge (tgt := 152) C dX11_leaves_36 (by decide) (fun c_36 => ?_) (fun c_36 => ?_)
                  · refine st_iinc C dX11_leaves_152 rfl (by decide) rfl ⟨(by omega), (by omega)⟩ ?_
                    show T x 155 [(0, vR 200), (1, vI l), (2, vI c2), (3, vI 3), (4, vI 4), (5, vI i2)] [] _ _ _
                    refine st_goto (tgt := 18) C dX11_leaves_155 (by decide) ?_
                    refine st_iload_n C 3 dX11_leaves_18 rfl rfl ?_
                    refine st_iconst C dX11_leaves_19 (by decide) ?_
                    refine st_icmp_ge (tgt := 158) C dX11_leaves_20 (by decide) (fun c_20 => by omega) (fun c_20 => ?_)
                    refine st_iload_n C 3 dX11_leaves_23 rfl rfl ?_
                    refine st_callS (st := []) C dX11_leaves_24 [vI 3] (k_msz3) w_X11_156 rfl (by decide) (by decide) (by omega) (by omega) (Nat.le_of_ble_eq_true rfl) (ko_rt ?_)
                    show T x 27 [(0, vR 200), (1, vI l), (2, vI c2), (3, vI 3), (4, vI 4), (5, vI i2)] [vI 8] _ _ _
                    refine st_istore C dX11_leaves_27 (by decide) rfl ?_
                    show T x 29 [(0, vR 200), (1, vI l), (2, vI c2), (3, vI 3), (4, vI 8), (5, vI i2)] [] _ _ _
                    refine st_iconst C dX11_leaves_29 (by decide) ?_
                    refine st_istore C dX11_leaves_30 (by decide) rfl ?_
                    show T x 32 [(0, vR 200), (1, vI l), (2, vI c2), (3, vI 3), (4, vI 8), (5, vI 0)] [] _ _ _
                    have loop_32 : ∀ (n_32 : Nat) (c3 : Int) (i3 : Int), (0 ≤ i3) → (i3 ≤ 64) → (0 ≤ c3 ∧ c3 ≤ 192 + i3) → (c3 = 0 + cnt (LfP1 mm mv l) 64 + cnt (LfP2 mm mv l) 64 + cnt (LfP4 mm mv l) 64 + cnt (LfP8 mm mv l) i3) → (64 - i3).toNat < n_32 → T x 32 [(0, vR 200), (1, vI l), (2, vI c3), (3, vI 3), (4, vI 8), (5, vI i3)] [] (hput h 200 (oO 10 [vR 201, vR 202, vR 203, vR 204, vR 205, vR 206, vR 207, vR 208, vR 209, vR 210, vR 211, vR 212, vR 213, vR 214, vR 215, vR 216, vR 217, vR 218, vI mv, vI mrc, vI mmc, vI mmk, vI mdv, vI mwl, vI mwa, vI mwp, vI 0])) 0 0 := by
                      intro n_32
                      induction n_32 with
                      | zero => intro c3 i3 g31 g32 g33 g34 hm_32; exact absurd hm_32 (Nat.not_lt_zero _)
                      | succ n_32 ih_32 =>
                        intro c3 i3 g31 g32 g33 g34 hm_32
                        refine st_iload C dX11_leaves_32 rfl ?_
                        refine st_bipush C dX11_leaves_34 (by decide) (by decide) ?_
                        refine st_icmp_ge (tgt := 152) C dX11_leaves_36 (by decide) (fun c_36 => ?_) (fun c_36 => ?_)
                        · refine st_iinc C dX11_leaves_152 rfl (by decide) rfl ⟨(by omega), (by omega)⟩ ?_
                          show T x 155 [(0, vR 200), (1, vI l), (2, vI c3), (3, vI 4), (4, vI 8), (5, vI i3)] [] _ _ _
                          refine st_goto (tgt := 18) C dX11_leaves_155 (by decide) ?_
                          refine st_iload_n C 3 dX11_leaves_18 rfl rfl ?_
                          refine st_iconst C dX11_leaves_19 (by decide) ?_
                          refine st_icmp_ge (tgt := 158) C dX11_leaves_20 (by decide) (fun c_20 => ?_) (fun c_20 => by omega)
                          refine st_iload_n C 2 dX11_leaves_158 rfl rfl ?_
                          exact st_ireturn C F dX11_leaves_159 rfl (rt_i (cbE g34 (by omega)) rfl) (by omega) (by omega)
                        · refine st_iload C dX11_leaves_39 rfl ?_
                          refine st_bipush C dX11_leaves_41 (by decide) (by decide) ?_
                          refine st_irem C dX11_leaves_43 (by omega) (by omega) ?_
                          refine st_iload C dX11_leaves_44 rfl ?_
                          refine st_irem C dX11_leaves_46 (by omega) (by omega) ?_
                          refine st_if_ne (tgt := 77) C dX11_leaves_47 (by decide) (fun c_47 => ?_) (fun c_47 => ?_)
                          · refine st_iconst C dX11_leaves_77 (by decide) ?_
                            refine st_istore C dX11_leaves_78 (by decide) rfl ?_
                            show T x 80 [(0, vR 200), (1, vI l), (2, vI c3), (3, vI 3), (4, vI 8), (5, vI i3), (6, vI 0)] [] _ _ _
                            refine st_iconst C dX11_leaves_80 (by decide) ?_
                            refine st_iload C dX11_leaves_81 rfl ?_
                            refine st_imul C dX11_leaves_83 ⟨(by omega), (by omega)⟩ ?_
                            refine st_istore C dX11_leaves_84 (by decide) rfl ?_
                            show T x 86 [(0, vR 200), (1, vI l), (2, vI c3), (3, vI 3), (4, vI 8), (5, vI i3), (6, vI 0), (7, vI 16)] [] _ _ _
                            refine st_bipush C dX11_leaves_86 (by decide) (by decide) ?_
                            refine st_iload C dX11_leaves_88 rfl ?_
                            refine st_bipush C dX11_leaves_90 (by decide) (by decide) ?_
                            refine st_idiv C dX11_leaves_92 (by omega) (by omega) ?_
                            refine st_iload C dX11_leaves_93 rfl ?_
                            refine st_idiv C dX11_leaves_95 (by omega) (by omega) ?_
                            refine st_iload C dX11_leaves_96 rfl ?_
                            refine st_imul C dX11_leaves_98 ⟨(by omega), (by omega)⟩ ?_
                            refine st_imul C dX11_leaves_99 ⟨(by omega), (by omega)⟩ ?_
                            refine st_iload C dX11_leaves_100 rfl ?_
                            refine st_bipush C dX11_leaves_102 (by decide) (by decide) ?_
                            refine st_irem C dX11_leaves_104 (by omega) (by omega) ?_
                            refine st_iload C dX11_leaves_105 rfl ?_
                            refine st_idiv C dX11_leaves_107 (by omega) (by omega) ?_
                            refine st_iload C dX11_leaves_108 rfl ?_
                            refine st_imul C dX11_leaves_110 ⟨(by omega), (by omega)⟩ ?_
                            refine st_iadd C dX11_leaves_111 ⟨(by omega), (by omega)⟩ ?_
                            refine st_istore C dX11_leaves_112 (by decide) rfl ?_
                            show T x 114 [(0, vR 200), (1, vI l), (2, vI c3), (3, vI 3), (4, vI 8), (5, vI i3), (6, vI 0), (7, vI 16), (8, vI (8 * (((i3 / 8) / 16) * 16) + (((i3 % 8) / 16) * 16)))] [] _ _ _
                            refine st_iload_n C 2 dX11_leaves_114 rfl rfl ?_
                            refine st_iload C dX11_leaves_115 rfl ?_
                            refine st_if_eq (tgt := 143) C dX11_leaves_117 (by decide) (fun c_117 => ?_) (fun c_117 => by omega)
                            refine st_iconst C dX11_leaves_143 (by decide) ?_
                            refine st_iadd C dX11_leaves_144 ⟨(by omega), (by omega)⟩ ?_
                            refine st_istore_n C 2 dX11_leaves_145 rfl (by decide) rfl ?_
                            show T x 146 [(0, vR 200), (1, vI l), (2, vI (c3 + 0)), (3, vI 3), (4, vI 8), (5, vI i3), (6, vI 0), (7, vI 16), (8, vI (8 * (((i3 / 8) / 16) * 16) + (((i3 % 8) / 16) * 16)))] [] _ _ _
                            refine st_iinc C dX11_leaves_146 rfl (by decide) rfl ⟨(by omega), (by omega)⟩ ?_
                            show T x 149 [(0, vR 200), (1, vI l), (2, vI (c3 + 0)), (3, vI 3), (4, vI 8), (5, vI (i3 + 1)), (6, vI 0), (7, vI 16), (8, vI (8 * (((i3 / 8) / 16) * 16) + (((i3 % 8) / 16) * 16)))] [] _ _ _
                            refine st_goto (tgt := 32) C dX11_leaves_149 (by decide) ?_
                            refine st_sub [0, 1, 2, 3, 4, 5] rfl ?_
                            exact ih_32 (c3 + 0) (i3 + 1) (by omega) (by omega) (by omega) (by first | exact cntb_t g31 ⟨by assumption, by assumption, by assumption⟩ g34 | exact (Int.add_zero _).trans (cntb_f g31 (fun z => by first | exact absurd z.1 (by assumption) | exact absurd z.2.1 (by assumption) | exact absurd z.2.2 (by assumption)) g34)) (by omega)
                          · refine st_iload C dX11_leaves_50 rfl ?_
                            refine st_bipush C dX11_leaves_52 (by decide) (by decide) ?_
                            refine st_idiv C dX11_leaves_54 (by omega) (by omega) ?_
                            refine st_iload C dX11_leaves_55 rfl ?_
                            refine st_irem C dX11_leaves_57 (by omega) (by omega) ?_
                            refine st_if_ne (tgt := 77) C dX11_leaves_58 (by decide) (fun c_58 => ?_) (fun c_58 => ?_)
                            · refine st_iconst C dX11_leaves_77 (by decide) ?_
                              refine st_istore C dX11_leaves_78 (by decide) rfl ?_
                              show T x 80 [(0, vR 200), (1, vI l), (2, vI c3), (3, vI 3), (4, vI 8), (5, vI i3), (6, vI 0)] [] _ _ _
                              refine st_iconst C dX11_leaves_80 (by decide) ?_
                              refine st_iload C dX11_leaves_81 rfl ?_
                              refine st_imul C dX11_leaves_83 ⟨(by omega), (by omega)⟩ ?_
                              refine st_istore C dX11_leaves_84 (by decide) rfl ?_
                              show T x 86 [(0, vR 200), (1, vI l), (2, vI c3), (3, vI 3), (4, vI 8), (5, vI i3), (6, vI 0), (7, vI 16)] [] _ _ _
                              refine st_bipush C dX11_leaves_86 (by decide) (by decide) ?_
                              refine st_iload C dX11_leaves_88 rfl ?_
                              refine st_bipush C dX11_leaves_90 (by decide) (by decide) ?_
                              refine st_idiv C dX11_leaves_92 (by omega) (by omega) ?_
                              refine st_iload C dX11_leaves_93 rfl ?_
                              refine st_idiv C dX11_leaves_95 (by omega) (by omega) ?_
                              refine st_iload C dX11_leaves_96 rfl ?_
                              refine st_imul C dX11_leaves_98 ⟨(by omega), (by omega)⟩ ?_
                              refine st_imul C dX11_leaves_99 ⟨(by omega), (by omega)⟩ ?_
                              refine st_iload C dX11_leaves_100 rfl ?_
                              refine st_bipush C dX11_leaves_102 (by decide) (by decide) ?_
                              refine st_irem C dX11_leaves_104 (by omega) (by omega) ?_
                              refine st_iload C dX11_leaves_105 rfl ?_
                              refine st_idiv C dX11_leaves_107 (by omega) (by omega) ?_
                              refine st_iload C dX11_leaves_108 rfl ?_
                              refine st_imul C dX11_leaves_110 ⟨(by omega), (by omega)⟩ ?_
                              refine st_iadd C dX11_leaves_111 ⟨(by omega), (by omega)⟩ ?_
                              refine st_istore C dX11_leaves_112 (by decide) rfl ?_
                              show T x 114 [(0, vR 200), (1, vI l), (2, vI c3), (3, vI 3), (4, vI 8), (5, vI i3), (6, vI 0), (7, vI 16), (8, vI (8 * (((i3 / 8) / 16) * 16) + (((i3 % 8) / 16) * 16)))] [] _ _ _
                              refine st_iload_n C 2 dX11_leaves_114 rfl rfl ?_
                              refine st_iload C dX11_leaves_115 rfl ?_
                              refine st_if_eq (tgt := 143) C dX11_leaves_117 (by decide) (fun c_117 => ?_) (fun c_117 => by omega)
                              refine st_iconst C dX11_leaves_143 (by decide) ?_
                              refine st_iadd C dX11_leaves_144 ⟨(by omega), (by omega)⟩ ?_
                              refine st_istore_n C 2 dX11_leaves_145 rfl (by decide) rfl ?_
                              show T x 146 [(0, vR 200), (1, vI l), (2, vI (c3 + 0)), (3, vI 3), (4, vI 8), (5, vI i3), (6, vI 0), (7, vI 16), (8, vI (8 * (((i3 / 8) / 16) * 16) + (((i3 % 8) / 16) * 16)))] [] _ _ _
                              refine st_iinc C dX11_leaves_146 rfl (by decide) rfl ⟨(by omega), (by omega)⟩ ?_
                              show T x 149 [(0, vR 200), (1, vI l), (2, vI (c3 + 0)), (3, vI 3), (4, vI 8), (5, vI (i3 + 1)), (6, vI 0), (7, vI 16), (8, vI (8 * (((i3 / 8) / 16) * 16) + (((i3 % 8) / 16) * 16)))] [] _ _ _
                              refine st_goto (tgt := 32) C dX11_leaves_149 (by decide) ?_
                              refine st_sub [0, 1, 2, 3, 4, 5] rfl ?_
                              exact ih_32 (c3 + 0) (i3 + 1) (by omega) (by omega) (by omega) (by first | exact cntb_t g31 ⟨by assumption, by assumption, by assumption⟩ g34 | exact (Int.add_zero _).trans (cntb_f g31 (fun z => by first | exact absurd z.1 (by assumption) | exact absurd z.2.1 (by assumption) | exact absurd z.2.2 (by assumption)) g34)) (by omega)
                            · refine st_aload_n C 0 dX11_leaves_61 rfl rfl ?_
                              refine st_iload_n C 1 dX11_leaves_62 rfl rfl ?_
                              refine st_iload C dX11_leaves_63 rfl ?_
                              refine st_iload C dX11_leaves_65 rfl ?_
                              by_cases b_67 : OneS mm mv l 8 64 i3
                              · refine st_callV (st := []) C dX11_leaves_67 [vI l, vI 8, vI i3] (k_isOne8_t (l := l) (p9 := i3) hput_s (hput_o (by omega) hmm) hv (by omega) (by omega) b_67) hput_s w_X11_187 rfl (by decide) (by decide) (by omega) (by omega) (Nat.le_of_ble_eq_true rfl) (ko_rt ?_)
                                show T x 70 [(0, vR 200), (1, vI l), (2, vI c3), (3, vI 3), (4, vI 8), (5, vI i3)] [vI 1] _ _ _
                                refine st_if_eq (tgt := 77) C dX11_leaves_70 (by decide) (fun c_70 => by omega) (fun c_70 => ?_)
                                refine st_iconst C dX11_leaves_73 (by decide) ?_
                                refine st_goto (tgt := 78) C dX11_leaves_74 (by decide) ?_
                                refine st_istore C dX11_leaves_78 (by decide) rfl ?_
                                show T x 80 [(0, vR 200), (1, vI l), (2, vI c3), (3, vI 3), (4, vI 8), (5, vI i3), (6, vI 1)] [] _ _ _
                                refine st_iconst C dX11_leaves_80 (by decide) ?_
                                refine st_iload C dX11_leaves_81 rfl ?_
                                refine st_imul C dX11_leaves_83 ⟨(by omega), (by omega)⟩ ?_
                                refine st_istore C dX11_leaves_84 (by decide) rfl ?_
                                show T x 86 [(0, vR 200), (1, vI l), (2, vI c3), (3, vI 3), (4, vI 8), (5, vI i3), (6, vI 1), (7, vI 16)] [] _ _ _
                                refine st_bipush C dX11_leaves_86 (by decide) (by decide) ?_
                                refine st_iload C dX11_leaves_88 rfl ?_
                                refine st_bipush C dX11_leaves_90 (by decide) (by decide) ?_
                                refine st_idiv C dX11_leaves_92 (by omega) (by omega) ?_
                                refine st_iload C dX11_leaves_93 rfl ?_
                                refine st_idiv C dX11_leaves_95 (by omega) (by omega) ?_
                                refine st_iload C dX11_leaves_96 rfl ?_
                                refine st_imul C dX11_leaves_98 ⟨(by omega), (by omega)⟩ ?_
                                refine st_imul C dX11_leaves_99 ⟨(by omega), (by omega)⟩ ?_
                                refine st_iload C dX11_leaves_100 rfl ?_
                                refine st_bipush C dX11_leaves_102 (by decide) (by decide) ?_
                                refine st_irem C dX11_leaves_104 (by omega) (by omega) ?_
                                refine st_iload C dX11_leaves_105 rfl ?_
                                refine st_idiv C dX11_leaves_107 (by omega) (by omega) ?_
                                refine st_iload C dX11_leaves_108 rfl ?_
                                refine st_imul C dX11_leaves_110 ⟨(by omega), (by omega)⟩ ?_
                                refine st_iadd C dX11_leaves_111 ⟨(by omega), (by omega)⟩ ?_
                                refine st_istore C dX11_leaves_112 (by decide) rfl ?_
                                show T x 114 [(0, vR 200), (1, vI l), (2, vI c3), (3, vI 3), (4, vI 8), (5, vI i3), (6, vI 1), (7, vI 16), (8, vI (8 * (((i3 / 8) / 16) * 16) + (((i3 % 8) / 16) * 16)))] [] _ _ _
                                refine st_iload_n C 2 dX11_leaves_114 rfl rfl ?_
                                refine st_iload C dX11_leaves_115 rfl ?_
                                refine st_if_eq (tgt := 143) C dX11_leaves_117 (by decide) (fun c_117 => by omega) (fun c_117 => ?_)
                                refine st_iload C dX11_leaves_120 rfl ?_
                                refine st_bipush C dX11_leaves_122 (by decide) (by decide) ?_
                                refine st_icmp_eq (tgt := 139) C dX11_leaves_124 (by decide) (fun c_124 => ?_) (fun c_124 => by omega)
                                refine st_iconst C dX11_leaves_139 (by decide) ?_
                                refine st_goto (tgt := 144) C dX11_leaves_140 (by decide) ?_
                                refine st_iadd C dX11_leaves_144 ⟨(by omega), (by omega)⟩ ?_
                                refine st_istore_n C 2 dX11_leaves_145 rfl (by decide) rfl ?_
                                show T x 146 [(0, vR 200), (1, vI l), (2, vI (c3 + 1)), (3, vI 3), (4, vI 8), (5, vI i3), (6, vI 1), (7, vI 16), (8, vI (8 * (((i3 / 8) / 16) * 16) + (((i3 % 8) / 16) * 16)))] [] _ _ _
                                refine st_iinc C dX11_leaves_146 rfl (by decide) rfl ⟨(by omega), (by omega)⟩ ?_
                                show T x 149 [(0, vR 200), (1, vI l), (2, vI (c3 + 1)), (3, vI 3), (4, vI 8), (5, vI (i3 + 1)), (6, vI 1), (7, vI 16), (8, vI (8 * (((i3 / 8) / 16) * 16) + (((i3 % 8) / 16) * 16)))] [] _ _ _
                                refine st_goto (tgt := 32) C dX11_leaves_149 (by decide) ?_
                                refine st_sub [0, 1, 2, 3, 4, 5] rfl ?_
                                exact ih_32 (c3 + 1) (i3 + 1) (by omega) (by omega) (by omega) (by first | exact cntb_t g31 ⟨by assumption, by assumption, by assumption⟩ g34 | exact (Int.add_zero _).trans (cntb_f g31 (fun z => by first | exact absurd z.1 (by assumption) | exact absurd z.2.1 (by assumption) | exact absurd z.2.2 (by assumption)) g34)) (by omega)
                              · refine st_callV (st := []) C dX11_leaves_67 [vI l, vI 8, vI i3] (k_isOne8_f (l := l) (p9 := i3) hput_s (hput_o (by omega) hmm) hv (by omega) (by omega) b_67) hput_s w_X11_187 rfl (by decide) (by decide) (by omega) (by omega) (Nat.le_of_ble_eq_true rfl) (ko_rt ?_)
                                show T x 70 [(0, vR 200), (1, vI l), (2, vI c3), (3, vI 3), (4, vI 8), (5, vI i3)] [vI 0] _ _ _
                                refine st_if_eq (tgt := 77) C dX11_leaves_70 (by decide) (fun c_70 => ?_) (fun c_70 => by omega)
                                refine st_iconst C dX11_leaves_77 (by decide) ?_
                                refine st_istore C dX11_leaves_78 (by decide) rfl ?_
                                show T x 80 [(0, vR 200), (1, vI l), (2, vI c3), (3, vI 3), (4, vI 8), (5, vI i3), (6, vI 0)] [] _ _ _
                                refine st_iconst C dX11_leaves_80 (by decide) ?_
                                refine st_iload C dX11_leaves_81 rfl ?_
                                refine st_imul C dX11_leaves_83 ⟨(by omega), (by omega)⟩ ?_
                                refine st_istore C dX11_leaves_84 (by decide) rfl ?_
                                show T x 86 [(0, vR 200), (1, vI l), (2, vI c3), (3, vI 3), (4, vI 8), (5, vI i3), (6, vI 0), (7, vI 16)] [] _ _ _
                                refine st_bipush C dX11_leaves_86 (by decide) (by decide) ?_
                                refine st_iload C dX11_leaves_88 rfl ?_
                                refine st_bipush C dX11_leaves_90 (by decide) (by decide) ?_
                                refine st_idiv C dX11_leaves_92 (by omega) (by omega) ?_
                                refine st_iload C dX11_leaves_93 rfl ?_
                                refine st_idiv C dX11_leaves_95 (by omega) (by omega) ?_
                                refine st_iload C dX11_leaves_96 rfl ?_
                                refine st_imul C dX11_leaves_98 ⟨(by omega), (by omega)⟩ ?_
                                refine st_imul C dX11_leaves_99 ⟨(by omega), (by omega)⟩ ?_
                                refine st_iload C dX11_leaves_100 rfl ?_
                                refine st_bipush C dX11_leaves_102 (by decide) (by decide) ?_
                                refine st_irem C dX11_leaves_104 (by omega) (by omega) ?_
                                refine st_iload C dX11_leaves_105 rfl ?_
                                refine st_idiv C dX11_leaves_107 (by omega) (by omega) ?_
                                refine st_iload C dX11_leaves_108 rfl ?_
                                refine st_imul C dX11_leaves_110 ⟨(by omega), (by omega)⟩ ?_
                                refine st_iadd C dX11_leaves_111 ⟨(by omega), (by omega)⟩ ?_
                                refine st_istore C dX11_leaves_112 (by decide) rfl ?_
                                show T x 114 [(0, vR 200), (1, vI l), (2, vI c3), (3, vI 3), (4, vI 8), (5, vI i3), (6, vI 0), (7, vI 16), (8, vI (8 * (((i3 / 8) / 16) * 16) + (((i3 % 8) / 16) * 16)))] [] _ _ _
                                refine st_iload_n C 2 dX11_leaves_114 rfl rfl ?_
                                refine st_iload C dX11_leaves_115 rfl ?_
                                refine st_if_eq (tgt := 143) C dX11_leaves_117 (by decide) (fun c_117 => ?_) (fun c_117 => by omega)
                                refine st_iconst C dX11_leaves_143 (by decide) ?_
                                refine st_iadd C dX11_leaves_144 ⟨(by omega), (by omega)⟩ ?_
                                refine st_istore_n C 2 dX11_leaves_145 rfl (by decide) rfl ?_
                                show T x 146 [(0, vR 200), (1, vI l), (2, vI (c3 + 0)), (3, vI 3), (4, vI 8), (5, vI i3), (6, vI 0), (7, vI 16), (8, vI (8 * (((i3 / 8) / 16) * 16) + (((i3 % 8) / 16) * 16)))] [] _ _ _
                                refine st_iinc C dX11_leaves_146 rfl (by decide) rfl ⟨(by omega), (by omega)⟩ ?_
                                show T x 149 [(0, vR 200), (1, vI l), (2, vI (c3 + 0)), (3, vI 3), (4, vI 8), (5, vI (i3 + 1)), (6, vI 0), (7, vI 16), (8, vI (8 * (((i3 / 8) / 16) * 16) + (((i3 % 8) / 16) * 16)))] [] _ _ _
                                refine st_goto (tgt := 32) C dX11_leaves_149 (by decide) ?_
                                refine st_sub [0, 1, 2, 3, 4, 5] rfl ?_
                                exact ih_32 (c3 + 0) (i3 + 1) (by omega) (by omega) (by omega) (by first | exact cntb_t g31 ⟨by assumption, by assumption, by assumption⟩ g34 | exact (Int.add_zero _).trans (cntb_f g31 (fun z => by first | exact absurd z.1 (by assumption) | exact absurd z.2.1 (by assumption) | exact absurd z.2.2 (by assumption)) g34)) (by omega)
                    exact loop_32 _ c2 0 (by omega) (by omega) (by omega) (cb_0 (cbE g24 (by omega))) (Nat.lt_succ_self _)
                  · refine st_iload C dX11_leaves_39 rfl ?_
                    refine st_bipush C dX11_leaves_41 (by decide) (by decide) ?_
                    refine st_irem C dX11_leaves_43 (by omega) (by omega) ?_
                    refine st_iload C dX11_leaves_44 rfl ?_
                    refine st_irem C dX11_leaves_46 (by omega) (by omega) ?_
                    refine st_if_ne (tgt := 77) C dX11_leaves_47 (by decide) (fun c_47 => ?_) (fun c_47 => ?_)
                    · refine st_iconst C dX11_leaves_77 (by decide) ?_
                      refine st_istore C dX11_leaves_78 (by decide) rfl ?_
                      show T x 80 [(0, vR 200), (1, vI l), (2, vI c2), (3, vI 2), (4, vI 4), (5, vI i2), (6, vI 0)] [] _ _ _
                      refine st_iconst C dX11_leaves_80 (by decide) ?_
                      refine st_iload C dX11_leaves_81 rfl ?_
                      refine st_imul C dX11_leaves_83 ⟨(by omega), (by omega)⟩ ?_
                      refine st_istore C dX11_leaves_84 (by decide) rfl ?_
                      show T x 86 [(0, vR 200), (1, vI l), (2, vI c2), (3, vI 2), (4, vI 4), (5, vI i2), (6, vI 0), (7, vI 8)] [] _ _ _
                      refine st_bipush C dX11_leaves_86 (by decide) (by decide) ?_
                      refine st_iload C dX11_leaves_88 rfl ?_
                      refine st_bipush C dX11_leaves_90 (by decide) (by decide) ?_
                      refine st_idiv C dX11_leaves_92 (by omega) (by omega) ?_
                      refine st_iload C dX11_leaves_93 rfl ?_
                      refine st_idiv C dX11_leaves_95 (by omega) (by omega) ?_
                      refine st_iload C dX11_leaves_96 rfl ?_
                      refine st_imul C dX11_leaves_98 ⟨(by omega), (by omega)⟩ ?_
                      refine st_imul C dX11_leaves_99 ⟨(by omega), (by omega)⟩ ?_
                      refine st_iload C dX11_leaves_100 rfl ?_
                      refine st_bipush C dX11_leaves_102 (by decide) (by decide) ?_
                      refine st_irem C dX11_leaves_104 (by omega) (by omega) ?_
                      refine st_iload C dX11_leaves_105 rfl ?_
                      refine st_idiv C dX11_leaves_107 (by omega) (by omega) ?_
                      refine st_iload C dX11_leaves_108 rfl ?_
                      refine st_imul C dX11_leaves_110 ⟨(by omega), (by omega)⟩ ?_
                      refine st_iadd C dX11_leaves_111 ⟨(by omega), (by omega)⟩ ?_
                      refine st_istore C dX11_leaves_112 (by decide) rfl ?_
                      show T x 114 [(0, vR 200), (1, vI l), (2, vI c2), (3, vI 2), (4, vI 4), (5, vI i2), (6, vI 0), (7, vI 8), (8, vI (8 * (((i2 / 8) / 8) * 8) + (((i2 % 8) / 8) * 8)))] [] _ _ _
                      refine st_iload_n C 2 dX11_leaves_114 rfl rfl ?_
                      refine st_iload C dX11_leaves_115 rfl ?_
                      refine st_if_eq (tgt := 143) C dX11_leaves_117 (by decide) (fun c_117 => ?_) (fun c_117 => by omega)
                      refine st_iconst C dX11_leaves_143 (by decide) ?_
                      refine st_iadd C dX11_leaves_144 ⟨(by omega), (by omega)⟩ ?_
                      refine st_istore_n C 2 dX11_leaves_145 rfl (by decide) rfl ?_
                      show T x 146 [(0, vR 200), (1, vI l), (2, vI (c2 + 0)), (3, vI 2), (4, vI 4), (5, vI i2), (6, vI 0), (7, vI 8), (8, vI (8 * (((i2 / 8) / 8) * 8) + (((i2 % 8) / 8) * 8)))] [] _ _ _
                      refine st_iinc C dX11_leaves_146 rfl (by decide) rfl ⟨(by omega), (by omega)⟩ ?_
                      show T x 149 [(0, vR 200), (1, vI l), (2, vI (c2 + 0)), (3, vI 2), (4, vI 4), (5, vI (i2 + 1)), (6, vI 0), (7, vI 8), (8, vI (8 * (((i2 / 8) / 8) * 8) + (((i2 % 8) / 8) * 8)))] [] _ _ _
                      refine st_goto (tgt := 32) C dX11_leaves_149 (by decide) ?_
                      refine st_sub [0, 1, 2, 3, 4, 5] rfl ?_
                      exact ih_32 (c2 + 0) (i2 + 1) (by omega) (by omega) (by omega) (by first | exact cntb_t g21 ⟨by assumption, by assumption, by assumption, by assumption⟩ g24 | exact (Int.add_zero _).trans (cntb_f g21 (fun z => by first | exact absurd z.1 (by assumption) | exact absurd z.2.1 (by assumption) | exact absurd z.2.2.1 (by assumption) | exact absurd (by assumption) z.2.2.2) g24)) (by omega)
                    · refine st_iload C dX11_leaves_50 rfl ?_
                      refine st_bipush C dX11_leaves_52 (by decide) (by decide) ?_
                      refine st_idiv C dX11_leaves_54 (by omega) (by omega) ?_
                      refine st_iload C dX11_leaves_55 rfl ?_
                      refine st_irem C dX11_leaves_57 (by omega) (by omega) ?_
                      refine st_if_ne (tgt := 77) C dX11_leaves_58 (by decide) (fun c_58 => ?_) (fun c_58 => ?_)
                      · refine st_iconst C dX11_leaves_77 (by decide) ?_
                        refine st_istore C dX11_leaves_78 (by decide) rfl ?_
                        show T x 80 [(0, vR 200), (1, vI l), (2, vI c2), (3, vI 2), (4, vI 4), (5, vI i2), (6, vI 0)] [] _ _ _
                        refine st_iconst C dX11_leaves_80 (by decide) ?_
                        refine st_iload C dX11_leaves_81 rfl ?_
                        refine st_imul C dX11_leaves_83 ⟨(by omega), (by omega)⟩ ?_
                        refine st_istore C dX11_leaves_84 (by decide) rfl ?_
                        show T x 86 [(0, vR 200), (1, vI l), (2, vI c2), (3, vI 2), (4, vI 4), (5, vI i2), (6, vI 0), (7, vI 8)] [] _ _ _
                        refine st_bipush C dX11_leaves_86 (by decide) (by decide) ?_
                        refine st_iload C dX11_leaves_88 rfl ?_
                        refine st_bipush C dX11_leaves_90 (by decide) (by decide) ?_
                        refine st_idiv C dX11_leaves_92 (by omega) (by omega) ?_
                        refine st_iload C dX11_leaves_93 rfl ?_
                        refine st_idiv C dX11_leaves_95 (by omega) (by omega) ?_
                        refine st_iload C dX11_leaves_96 rfl ?_
                        refine st_imul C dX11_leaves_98 ⟨(by omega), (by omega)⟩ ?_
                        refine st_imul C dX11_leaves_99 ⟨(by omega), (by omega)⟩ ?_
                        refine st_iload C dX11_leaves_100 rfl ?_
                        refine st_bipush C dX11_leaves_102 (by decide) (by decide) ?_
                        refine st_irem C dX11_leaves_104 (by omega) (by omega) ?_
                        refine st_iload C dX11_leaves_105 rfl ?_
                        refine st_idiv C dX11_leaves_107 (by omega) (by omega) ?_
                        refine st_iload C dX11_leaves_108 rfl ?_
                        refine st_imul C dX11_leaves_110 ⟨(by omega), (by omega)⟩ ?_
                        refine st_iadd C dX11_leaves_111 ⟨(by omega), (by omega)⟩ ?_
                        refine st_istore C dX11_leaves_112 (by decide) rfl ?_
                        show T x 114 [(0, vR 200), (1, vI l), (2, vI c2), (3, vI 2), (4, vI 4), (5, vI i2), (6, vI 0), (7, vI 8), (8, vI (8 * (((i2 / 8) / 8) * 8) + (((i2 % 8) / 8) * 8)))] [] _ _ _
                        refine st_iload_n C 2 dX11_leaves_114 rfl rfl ?_
                        refine st_iload C dX11_leaves_115 rfl ?_
                        refine st_if_eq (tgt := 143) C dX11_leaves_117 (by decide) (fun c_117 => ?_) (fun c_117 => by omega)
                        refine st_iconst C dX11_leaves_143 (by decide) ?_
                        refine st_iadd C dX11_leaves_144 ⟨(by omega), (by omega)⟩ ?_
                        refine st_istore_n C 2 dX11_leaves_145 rfl (by decide) rfl ?_
                        show T x 146 [(0, vR 200), (1, vI l), (2, vI (c2 + 0)), (3, vI 2), (4, vI 4), (5, vI i2), (6, vI 0), (7, vI 8), (8, vI (8 * (((i2 / 8) / 8) * 8) + (((i2 % 8) / 8) * 8)))] [] _ _ _
                        refine st_iinc C dX11_leaves_146 rfl (by decide) rfl ⟨(by omega), (by omega)⟩ ?_
                        show T x 149 [(0, vR 200), (1, vI l), (2, vI (c2 + 0)), (3, vI 2), (4, vI 4), (5, vI (i2 + 1)), (6, vI 0), (7, vI 8), (8, vI (8 * (((i2 / 8) / 8) * 8) + (((i2 % 8) / 8) * 8)))] [] _ _ _
                        refine st_goto (tgt := 32) C dX11_leaves_149 (by decide) ?_
                        refine st_sub [0, 1, 2, 3, 4, 5] rfl ?_
                        exact ih_32 (c2 + 0) (i2 + 1) (by omega) (by omega) (by omega) (by first | exact cntb_t g21 ⟨by assumption, by assumption, by assumption, by assumption⟩ g24 | exact (Int.add_zero _).trans (cntb_f g21 (fun z => by first | exact absurd z.1 (by assumption) | exact absurd z.2.1 (by assumption) | exact absurd z.2.2.1 (by assumption) | exact absurd (by assumption) z.2.2.2) g24)) (by omega)
                      · refine st_aload_n C 0 dX11_leaves_61 rfl rfl ?_
                        refine st_iload_n C 1 dX11_leaves_62 rfl rfl ?_
                        refine st_iload C dX11_leaves_63 rfl ?_
                        refine st_iload C dX11_leaves_65 rfl ?_
                        by_cases b_67 : OneS mm mv l 4 16 i2
                        · refine st_callV (st := []) C dX11_leaves_67 [vI l, vI 4, vI i2] (k_isOne4_t (l := l) (p9 := i2) hput_s (hput_o (by omega) hmm) hv (by omega) (by omega) b_67) hput_s w_X11_187 rfl (by decide) (by decide) (by omega) (by omega) (Nat.le_of_ble_eq_true rfl) (ko_rt ?_)
                          show T x 70 [(0, vR 200), (1, vI l), (2, vI c2), (3, vI 2), (4, vI 4), (5, vI i2)] [vI 1] _ _ _
                          refine st_if_eq (tgt := 77) C dX11_leaves_70 (by decide) (fun c_70 => by omega) (fun c_70 => ?_)
                          refine st_iconst C dX11_leaves_73 (by decide) ?_
                          refine st_goto (tgt := 78) C dX11_leaves_74 (by decide) ?_
                          refine st_istore C dX11_leaves_78 (by decide) rfl ?_
                          show T x 80 [(0, vR 200), (1, vI l), (2, vI c2), (3, vI 2), (4, vI 4), (5, vI i2), (6, vI 1)] [] _ _ _
                          refine st_iconst C dX11_leaves_80 (by decide) ?_
                          refine st_iload C dX11_leaves_81 rfl ?_
                          refine st_imul C dX11_leaves_83 ⟨(by omega), (by omega)⟩ ?_
                          refine st_istore C dX11_leaves_84 (by decide) rfl ?_
                          show T x 86 [(0, vR 200), (1, vI l), (2, vI c2), (3, vI 2), (4, vI 4), (5, vI i2), (6, vI 1), (7, vI 8)] [] _ _ _
                          refine st_bipush C dX11_leaves_86 (by decide) (by decide) ?_
                          refine st_iload C dX11_leaves_88 rfl ?_
                          refine st_bipush C dX11_leaves_90 (by decide) (by decide) ?_
                          refine st_idiv C dX11_leaves_92 (by omega) (by omega) ?_
                          refine st_iload C dX11_leaves_93 rfl ?_
                          refine st_idiv C dX11_leaves_95 (by omega) (by omega) ?_
                          refine st_iload C dX11_leaves_96 rfl ?_
                          refine st_imul C dX11_leaves_98 ⟨(by omega), (by omega)⟩ ?_
                          refine st_imul C dX11_leaves_99 ⟨(by omega), (by omega)⟩ ?_
                          refine st_iload C dX11_leaves_100 rfl ?_
                          refine st_bipush C dX11_leaves_102 (by decide) (by decide) ?_
                          refine st_irem C dX11_leaves_104 (by omega) (by omega) ?_
                          refine st_iload C dX11_leaves_105 rfl ?_
                          refine st_idiv C dX11_leaves_107 (by omega) (by omega) ?_
                          refine st_iload C dX11_leaves_108 rfl ?_
                          refine st_imul C dX11_leaves_110 ⟨(by omega), (by omega)⟩ ?_
                          refine st_iadd C dX11_leaves_111 ⟨(by omega), (by omega)⟩ ?_
                          refine st_istore C dX11_leaves_112 (by decide) rfl ?_
                          show T x 114 [(0, vR 200), (1, vI l), (2, vI c2), (3, vI 2), (4, vI 4), (5, vI i2), (6, vI 1), (7, vI 8), (8, vI (8 * (((i2 / 8) / 8) * 8) + (((i2 % 8) / 8) * 8)))] [] _ _ _
                          refine st_iload_n C 2 dX11_leaves_114 rfl rfl ?_
                          refine st_iload C dX11_leaves_115 rfl ?_
                          refine st_if_eq (tgt := 143) C dX11_leaves_117 (by decide) (fun c_117 => by omega) (fun c_117 => ?_)
                          refine st_iload C dX11_leaves_120 rfl ?_
                          refine st_bipush C dX11_leaves_122 (by decide) (by decide) ?_
                          refine st_icmp_eq (tgt := 139) C dX11_leaves_124 (by decide) (fun c_124 => by omega) (fun c_124 => ?_)
                          refine st_aload_n C 0 dX11_leaves_127 rfl rfl ?_
                          refine st_iload_n C 1 dX11_leaves_128 rfl rfl ?_
                          refine st_iload C dX11_leaves_129 rfl ?_
                          refine st_iload C dX11_leaves_131 rfl ?_
                          by_cases b_133 : OneS mm mv l 8 64 (8 * (((i2 / 8) / 8) * 8) + (((i2 % 8) / 8) * 8))
                          · refine st_callV (st := [vI c2]) C dX11_leaves_133 [vI l, vI 8, vI (8 * (((i2 / 8) / 8) * 8) + (((i2 % 8) / 8) * 8))] (k_isOne8_t (l := l) (p9 := (8 * (((i2 / 8) / 8) * 8) + (((i2 % 8) / 8) * 8))) hput_s (hput_o (by omega) hmm) hv (by omega) (by omega) b_133) hput_s w_X11_187 rfl (by decide) (by decide) (by omega) (by omega) (Nat.le_of_ble_eq_true rfl) (ko_rt ?_)
                            show T x 136 [(0, vR 200), (1, vI l), (2, vI c2), (3, vI 2), (4, vI 4), (5, vI i2), (6, vI 1), (7, vI 8), (8, vI (8 * (((i2 / 8) / 8) * 8) + (((i2 % 8) / 8) * 8)))] [vI 1, vI c2] _ _ _
                            refine st_if_ne (tgt := 143) C dX11_leaves_136 (by decide) (fun c_136 => ?_) (fun c_136 => by omega)
                            refine st_iconst C dX11_leaves_143 (by decide) ?_
                            refine st_iadd C dX11_leaves_144 ⟨(by omega), (by omega)⟩ ?_
                            refine st_istore_n C 2 dX11_leaves_145 rfl (by decide) rfl ?_
                            show T x 146 [(0, vR 200), (1, vI l), (2, vI (c2 + 0)), (3, vI 2), (4, vI 4), (5, vI i2), (6, vI 1), (7, vI 8), (8, vI (8 * (((i2 / 8) / 8) * 8) + (((i2 % 8) / 8) * 8)))] [] _ _ _
                            refine st_iinc C dX11_leaves_146 rfl (by decide) rfl ⟨(by omega), (by omega)⟩ ?_
                            show T x 149 [(0, vR 200), (1, vI l), (2, vI (c2 + 0)), (3, vI 2), (4, vI 4), (5, vI (i2 + 1)), (6, vI 1), (7, vI 8), (8, vI (8 * (((i2 / 8) / 8) * 8) + (((i2 % 8) / 8) * 8)))] [] _ _ _
                            refine st_goto (tgt := 32) C dX11_leaves_149 (by decide) ?_
                            refine st_sub [0, 1, 2, 3, 4, 5] rfl ?_
                            exact ih_32 (c2 + 0) (i2 + 1) (by omega) (by omega) (by omega) (by first | exact cntb_t g21 ⟨by assumption, by assumption, by assumption, by assumption⟩ g24 | exact (Int.add_zero _).trans (cntb_f g21 (fun z => by first | exact absurd z.1 (by assumption) | exact absurd z.2.1 (by assumption) | exact absurd z.2.2.1 (by assumption) | exact absurd (by assumption) z.2.2.2) g24)) (by omega)
                          · refine st_callV (st := [vI c2]) C dX11_leaves_133 [vI l, vI 8, vI (8 * (((i2 / 8) / 8) * 8) + (((i2 % 8) / 8) * 8))] (k_isOne8_f (l := l) (p9 := (8 * (((i2 / 8) / 8) * 8) + (((i2 % 8) / 8) * 8))) hput_s (hput_o (by omega) hmm) hv (by omega) (by omega) b_133) hput_s w_X11_187 rfl (by decide) (by decide) (by omega) (by omega) (Nat.le_of_ble_eq_true rfl) (ko_rt ?_)
                            show T x 136 [(0, vR 200), (1, vI l), (2, vI c2), (3, vI 2), (4, vI 4), (5, vI i2), (6, vI 1), (7, vI 8), (8, vI (8 * (((i2 / 8) / 8) * 8) + (((i2 % 8) / 8) * 8)))] [vI 0, vI c2] _ _ _
                            refine st_if_ne (tgt := 143) C dX11_leaves_136 (by decide) (fun c_136 => by omega) (fun c_136 => ?_)
                            refine st_iconst C dX11_leaves_139 (by decide) ?_
                            refine st_goto (tgt := 144) C dX11_leaves_140 (by decide) ?_
                            refine st_iadd C dX11_leaves_144 ⟨(by omega), (by omega)⟩ ?_
                            refine st_istore_n C 2 dX11_leaves_145 rfl (by decide) rfl ?_
                            show T x 146 [(0, vR 200), (1, vI l), (2, vI (c2 + 1)), (3, vI 2), (4, vI 4), (5, vI i2), (6, vI 1), (7, vI 8), (8, vI (8 * (((i2 / 8) / 8) * 8) + (((i2 % 8) / 8) * 8)))] [] _ _ _
                            refine st_iinc C dX11_leaves_146 rfl (by decide) rfl ⟨(by omega), (by omega)⟩ ?_
                            show T x 149 [(0, vR 200), (1, vI l), (2, vI (c2 + 1)), (3, vI 2), (4, vI 4), (5, vI (i2 + 1)), (6, vI 1), (7, vI 8), (8, vI (8 * (((i2 / 8) / 8) * 8) + (((i2 % 8) / 8) * 8)))] [] _ _ _
                            refine st_goto (tgt := 32) C dX11_leaves_149 (by decide) ?_
                            refine st_sub [0, 1, 2, 3, 4, 5] rfl ?_
                            exact ih_32 (c2 + 1) (i2 + 1) (by omega) (by omega) (by omega) (by first | exact cntb_t g21 ⟨by assumption, by assumption, by assumption, by assumption⟩ g24 | exact (Int.add_zero _).trans (cntb_f g21 (fun z => by first | exact absurd z.1 (by assumption) | exact absurd z.2.1 (by assumption) | exact absurd z.2.2.1 (by assumption) | exact absurd (by assumption) z.2.2.2) g24)) (by omega)
                        · refine st_callV (st := []) C dX11_leaves_67 [vI l, vI 4, vI i2] (k_isOne4_f (l := l) (p9 := i2) hput_s (hput_o (by omega) hmm) hv (by omega) (by omega) b_67) hput_s w_X11_187 rfl (by decide) (by decide) (by omega) (by omega) (Nat.le_of_ble_eq_true rfl) (ko_rt ?_)
                          show T x 70 [(0, vR 200), (1, vI l), (2, vI c2), (3, vI 2), (4, vI 4), (5, vI i2)] [vI 0] _ _ _
                          refine st_if_eq (tgt := 77) C dX11_leaves_70 (by decide) (fun c_70 => ?_) (fun c_70 => by omega)
                          refine st_iconst C dX11_leaves_77 (by decide) ?_
                          refine st_istore C dX11_leaves_78 (by decide) rfl ?_
                          show T x 80 [(0, vR 200), (1, vI l), (2, vI c2), (3, vI 2), (4, vI 4), (5, vI i2), (6, vI 0)] [] _ _ _
                          refine st_iconst C dX11_leaves_80 (by decide) ?_
                          refine st_iload C dX11_leaves_81 rfl ?_
                          refine st_imul C dX11_leaves_83 ⟨(by omega), (by omega)⟩ ?_
                          refine st_istore C dX11_leaves_84 (by decide) rfl ?_
                          show T x 86 [(0, vR 200), (1, vI l), (2, vI c2), (3, vI 2), (4, vI 4), (5, vI i2), (6, vI 0), (7, vI 8)] [] _ _ _
                          refine st_bipush C dX11_leaves_86 (by decide) (by decide) ?_
                          refine st_iload C dX11_leaves_88 rfl ?_
                          refine st_bipush C dX11_leaves_90 (by decide) (by decide) ?_
                          refine st_idiv C dX11_leaves_92 (by omega) (by omega) ?_
                          refine st_iload C dX11_leaves_93 rfl ?_
                          refine st_idiv C dX11_leaves_95 (by omega) (by omega) ?_
                          refine st_iload C dX11_leaves_96 rfl ?_
                          refine st_imul C dX11_leaves_98 ⟨(by omega), (by omega)⟩ ?_
                          refine st_imul C dX11_leaves_99 ⟨(by omega), (by omega)⟩ ?_
                          refine st_iload C dX11_leaves_100 rfl ?_
                          refine st_bipush C dX11_leaves_102 (by decide) (by decide) ?_
                          refine st_irem C dX11_leaves_104 (by omega) (by omega) ?_
                          refine st_iload C dX11_leaves_105 rfl ?_
                          refine st_idiv C dX11_leaves_107 (by omega) (by omega) ?_
                          refine st_iload C dX11_leaves_108 rfl ?_
                          refine st_imul C dX11_leaves_110 ⟨(by omega), (by omega)⟩ ?_
                          refine st_iadd C dX11_leaves_111 ⟨(by omega), (by omega)⟩ ?_
                          refine st_istore C dX11_leaves_112 (by decide) rfl ?_
                          show T x 114 [(0, vR 200), (1, vI l), (2, vI c2), (3, vI 2), (4, vI 4), (5, vI i2), (6, vI 0), (7, vI 8), (8, vI (8 * (((i2 / 8) / 8) * 8) + (((i2 % 8) / 8) * 8)))] [] _ _ _
                          refine st_iload_n C 2 dX11_leaves_114 rfl rfl ?_
                          refine st_iload C dX11_leaves_115 rfl ?_
                          refine st_if_eq (tgt := 143) C dX11_leaves_117 (by decide) (fun c_117 => ?_) (fun c_117 => by omega)
                          refine st_iconst C dX11_leaves_143 (by decide) ?_
                          refine st_iadd C dX11_leaves_144 ⟨(by omega), (by omega)⟩ ?_
                          refine st_istore_n C 2 dX11_leaves_145 rfl (by decide) rfl ?_
                          show T x 146 [(0, vR 200), (1, vI l), (2, vI (c2 + 0)), (3, vI 2), (4, vI 4), (5, vI i2), (6, vI 0), (7, vI 8), (8, vI (8 * (((i2 / 8) / 8) * 8) + (((i2 % 8) / 8) * 8)))] [] _ _ _
                          refine st_iinc C dX11_leaves_146 rfl (by decide) rfl ⟨(by omega), (by omega)⟩ ?_
                          show T x 149 [(0, vR 200), (1, vI l), (2, vI (c2 + 0)), (3, vI 2), (4, vI 4), (5, vI (i2 + 1)), (6, vI 0), (7, vI 8), (8, vI (8 * (((i2 / 8) / 8) * 8) + (((i2 % 8) / 8) * 8)))] [] _ _ _
                          refine st_goto (tgt := 32) C dX11_leaves_149 (by decide) ?_
                          refine st_sub [0, 1, 2, 3, 4, 5] rfl ?_
                          exact ih_32 (c2 + 0) (i2 + 1) (by omega) (by omega) (by omega) (by first | exact cntb_t g21 ⟨by assumption, by assumption, by assumption, by assumption⟩ g24 | exact (Int.add_zero _).trans (cntb_f g21 (fun z => by first | exact absurd z.1 (by assumption) | exact absurd z.2.1 (by assumption) | exact absurd z.2.2.1 (by assumption) | exact absurd (by assumption) z.2.2.2) g24)) (by omega)
              exact loop_32 _ c1 0 (by omega) (by omega) (by omega) (cb_0 (cbE g14 (by omega))) (Nat.lt_succ_self _)
            · refine st_iload C dX11_leaves_39 rfl ?_
              refine st_bipush C dX11_leaves_41 (by decide) (by decide) ?_
              refine st_irem C dX11_leaves_43 (by omega) (by omega) ?_
              refine st_iload C dX11_leaves_44 rfl ?_
              refine st_irem C dX11_leaves_46 (by omega) (by omega) ?_
              refine st_if_ne (tgt := 77) C dX11_leaves_47 (by decide) (fun c_47 => ?_) (fun c_47 => ?_)
              · refine st_iconst C dX11_leaves_77 (by decide) ?_
                refine st_istore C dX11_leaves_78 (by decide) rfl ?_
                show T x 80 [(0, vR 200), (1, vI l), (2, vI c1), (3, vI 1), (4, vI 2), (5, vI i1), (6, vI 0)] [] _ _ _
                refine st_iconst C dX11_leaves_80 (by decide) ?_
                refine st_iload C dX11_leaves_81 rfl ?_
                refine st_imul C dX11_leaves_83 ⟨(by omega), (by omega)⟩ ?_
                refine st_istore C dX11_leaves_84 (by decide) rfl ?_
                show T x 86 [(0, vR 200), (1, vI l), (2, vI c1), (3, vI 1), (4, vI 2), (5, vI i1), (6, vI 0), (7, vI 4)] [] _ _ _
                refine st_bipush C dX11_leaves_86 (by decide) (by decide) ?_
                refine st_iload C dX11_leaves_88 rfl ?_
                refine st_bipush C dX11_leaves_90 (by decide) (by decide) ?_
                refine st_idiv C dX11_leaves_92 (by omega) (by omega) ?_
                refine st_iload C dX11_leaves_93 rfl ?_
                refine st_idiv C dX11_leaves_95 (by omega) (by omega) ?_
                refine st_iload C dX11_leaves_96 rfl ?_
                refine st_imul C dX11_leaves_98 ⟨(by omega), (by omega)⟩ ?_
                refine st_imul C dX11_leaves_99 ⟨(by omega), (by omega)⟩ ?_
                refine st_iload C dX11_leaves_100 rfl ?_
                refine st_bipush C dX11_leaves_102 (by decide) (by decide) ?_
                refine st_irem C dX11_leaves_104 (by omega) (by omega) ?_
                refine st_iload C dX11_leaves_105 rfl ?_
                refine st_idiv C dX11_leaves_107 (by omega) (by omega) ?_
                refine st_iload C dX11_leaves_108 rfl ?_
                refine st_imul C dX11_leaves_110 ⟨(by omega), (by omega)⟩ ?_
                refine st_iadd C dX11_leaves_111 ⟨(by omega), (by omega)⟩ ?_
                refine st_istore C dX11_leaves_112 (by decide) rfl ?_
                show T x 114 [(0, vR 200), (1, vI l), (2, vI c1), (3, vI 1), (4, vI 2), (5, vI i1), (6, vI 0), (7, vI 4), (8, vI (8 * (((i1 / 8) / 4) * 4) + (((i1 % 8) / 4) * 4)))] [] _ _ _
                refine st_iload_n C 2 dX11_leaves_114 rfl rfl ?_
                refine st_iload C dX11_leaves_115 rfl ?_
                refine st_if_eq (tgt := 143) C dX11_leaves_117 (by decide) (fun c_117 => ?_) (fun c_117 => by omega)
                refine st_iconst C dX11_leaves_143 (by decide) ?_
                refine st_iadd C dX11_leaves_144 ⟨(by omega), (by omega)⟩ ?_
                refine st_istore_n C 2 dX11_leaves_145 rfl (by decide) rfl ?_
                show T x 146 [(0, vR 200), (1, vI l), (2, vI (c1 + 0)), (3, vI 1), (4, vI 2), (5, vI i1), (6, vI 0), (7, vI 4), (8, vI (8 * (((i1 / 8) / 4) * 4) + (((i1 % 8) / 4) * 4)))] [] _ _ _
                refine st_iinc C dX11_leaves_146 rfl (by decide) rfl ⟨(by omega), (by omega)⟩ ?_
                show T x 149 [(0, vR 200), (1, vI l), (2, vI (c1 + 0)), (3, vI 1), (4, vI 2), (5, vI (i1 + 1)), (6, vI 0), (7, vI 4), (8, vI (8 * (((i1 / 8) / 4) * 4) + (((i1 % 8) / 4) * 4)))] [] _ _ _
                refine st_goto (tgt := 32) C dX11_leaves_149 (by decide) ?_
                refine st_sub [0, 1, 2, 3, 4, 5] rfl ?_
                exact ih_32 (c1 + 0) (i1 + 1) (by omega) (by omega) (by omega) (by first | exact cntb_t g11 ⟨by assumption, by assumption, by assumption, by assumption⟩ g14 | exact (Int.add_zero _).trans (cntb_f g11 (fun z => by first | exact absurd z.1 (by assumption) | exact absurd z.2.1 (by assumption) | exact absurd z.2.2.1 (by assumption) | exact absurd (by assumption) z.2.2.2) g14)) (by omega)
              · refine st_iload C dX11_leaves_50 rfl ?_
                refine st_bipush C dX11_leaves_52 (by decide) (by decide) ?_
                refine st_idiv C dX11_leaves_54 (by omega) (by omega) ?_
                refine st_iload C dX11_leaves_55 rfl ?_
                refine st_irem C dX11_leaves_57 (by omega) (by omega) ?_
                refine st_if_ne (tgt := 77) C dX11_leaves_58 (by decide) (fun c_58 => ?_) (fun c_58 => ?_)
                · refine st_iconst C dX11_leaves_77 (by decide) ?_
                  refine st_istore C dX11_leaves_78 (by decide) rfl ?_
                  show T x 80 [(0, vR 200), (1, vI l), (2, vI c1), (3, vI 1), (4, vI 2), (5, vI i1), (6, vI 0)] [] _ _ _
                  refine st_iconst C dX11_leaves_80 (by decide) ?_
                  refine st_iload C dX11_leaves_81 rfl ?_
                  refine st_imul C dX11_leaves_83 ⟨(by omega), (by omega)⟩ ?_
                  refine st_istore C dX11_leaves_84 (by decide) rfl ?_
                  show T x 86 [(0, vR 200), (1, vI l), (2, vI c1), (3, vI 1), (4, vI 2), (5, vI i1), (6, vI 0), (7, vI 4)] [] _ _ _
                  refine st_bipush C dX11_leaves_86 (by decide) (by decide) ?_
                  refine st_iload C dX11_leaves_88 rfl ?_
                  refine st_bipush C dX11_leaves_90 (by decide) (by decide) ?_
                  refine st_idiv C dX11_leaves_92 (by omega) (by omega) ?_
                  refine st_iload C dX11_leaves_93 rfl ?_
                  refine st_idiv C dX11_leaves_95 (by omega) (by omega) ?_
                  refine st_iload C dX11_leaves_96 rfl ?_
                  refine st_imul C dX11_leaves_98 ⟨(by omega), (by omega)⟩ ?_
                  refine st_imul C dX11_leaves_99 ⟨(by omega), (by omega)⟩ ?_
                  refine st_iload C dX11_leaves_100 rfl ?_
                  refine st_bipush C dX11_leaves_102 (by decide) (by decide) ?_
                  refine st_irem C dX11_leaves_104 (by omega) (by omega) ?_
                  refine st_iload C dX11_leaves_105 rfl ?_
                  refine st_idiv C dX11_leaves_107 (by omega) (by omega) ?_
                  refine st_iload C dX11_leaves_108 rfl ?_
                  refine st_imul C dX11_leaves_110 ⟨(by omega), (by omega)⟩ ?_
                  refine st_iadd C dX11_leaves_111 ⟨(by omega), (by omega)⟩ ?_
                  refine st_istore C dX11_leaves_112 (by decide) rfl ?_
                  show T x 114 [(0, vR 200), (1, vI l), (2, vI c1), (3, vI 1), (4, vI 2), (5, vI i1), (6, vI 0), (7, vI 4), (8, vI (8 * (((i1 / 8) / 4) * 4) + (((i1 % 8) / 4) * 4)))] [] _ _ _
                  refine st_iload_n C 2 dX11_leaves_114 rfl rfl ?_
                  refine st_iload C dX11_leaves_115 rfl ?_
                  refine st_if_eq (tgt := 143) C dX11_leaves_117 (by decide) (fun c_117 => ?_) (fun c_117 => by omega)
                  refine st_iconst C dX11_leaves_143 (by decide) ?_
                  refine st_iadd C dX11_leaves_144 ⟨(by omega), (by omega)⟩ ?_
                  refine st_istore_n C 2 dX11_leaves_145 rfl (by decide) rfl ?_
                  show T x 146 [(0, vR 200), (1, vI l), (2, vI (c1 + 0)), (3, vI 1), (4, vI 2), (5, vI i1), (6, vI 0), (7, vI 4), (8, vI (8 * (((i1 / 8) / 4) * 4) + (((i1 % 8) / 4) * 4)))] [] _ _ _
                  refine st_iinc C dX11_leaves_146 rfl (by decide) rfl ⟨(by omega), (by omega)⟩ ?_
                  show T x 149 [(0, vR 200), (1, vI l), (2, vI (c1 + 0)), (3, vI 1), (4, vI 2), (5, vI (i1 + 1)), (6, vI 0), (7, vI 4), (8, vI (8 * (((i1 / 8) / 4) * 4) + (((i1 % 8) / 4) * 4)))] [] _ _ _
                  refine st_goto (tgt := 32) C dX11_leaves_149 (by decide) ?_
                  refine st_sub [0, 1, 2, 3, 4, 5] rfl ?_
                  exact ih_32 (c1 + 0) (i1 + 1) (by omega) (by omega) (by omega) (by first | exact cntb_t g11 ⟨by assumption, by assumption, by assumption, by assumption⟩ g14 | exact (Int.add_zero _).trans (cntb_f g11 (fun z => by first | exact absurd z.1 (by assumption) | exact absurd z.2.1 (by assumption) | exact absurd z.2.2.1 (by assumption) | exact absurd (by assumption) z.2.2.2) g14)) (by omega)
                · refine st_aload_n C 0 dX11_leaves_61 rfl rfl ?_
                  refine st_iload_n C 1 dX11_leaves_62 rfl rfl ?_
                  refine st_iload C dX11_leaves_63 rfl ?_
                  refine st_iload C dX11_leaves_65 rfl ?_
                  by_cases b_67 : OneS mm mv l 2 4 i1
                  · refine st_callV (st := []) C dX11_leaves_67 [vI l, vI 2, vI i1] (k_isOne2_t (l := l) (p9 := i1) hput_s (hput_o (by omega) hmm) hv (by omega) (by omega) b_67) hput_s w_X11_187 rfl (by decide) (by decide) (by omega) (by omega) (Nat.le_of_ble_eq_true rfl) (ko_rt ?_)
                    show T x 70 [(0, vR 200), (1, vI l), (2, vI c1), (3, vI 1), (4, vI 2), (5, vI i1)] [vI 1] _ _ _
                    refine st_if_eq (tgt := 77) C dX11_leaves_70 (by decide) (fun c_70 => by omega) (fun c_70 => ?_)
                    refine st_iconst C dX11_leaves_73 (by decide) ?_
                    refine st_goto (tgt := 78) C dX11_leaves_74 (by decide) ?_
                    refine st_istore C dX11_leaves_78 (by decide) rfl ?_
                    show T x 80 [(0, vR 200), (1, vI l), (2, vI c1), (3, vI 1), (4, vI 2), (5, vI i1), (6, vI 1)] [] _ _ _
                    refine st_iconst C dX11_leaves_80 (by decide) ?_
                    refine st_iload C dX11_leaves_81 rfl ?_
                    refine st_imul C dX11_leaves_83 ⟨(by omega), (by omega)⟩ ?_
                    refine st_istore C dX11_leaves_84 (by decide) rfl ?_
                    show T x 86 [(0, vR 200), (1, vI l), (2, vI c1), (3, vI 1), (4, vI 2), (5, vI i1), (6, vI 1), (7, vI 4)] [] _ _ _
                    refine st_bipush C dX11_leaves_86 (by decide) (by decide) ?_
                    refine st_iload C dX11_leaves_88 rfl ?_
                    refine st_bipush C dX11_leaves_90 (by decide) (by decide) ?_
                    refine st_idiv C dX11_leaves_92 (by omega) (by omega) ?_
                    refine st_iload C dX11_leaves_93 rfl ?_
                    refine st_idiv C dX11_leaves_95 (by omega) (by omega) ?_
                    refine st_iload C dX11_leaves_96 rfl ?_
                    refine st_imul C dX11_leaves_98 ⟨(by omega), (by omega)⟩ ?_
                    refine st_imul C dX11_leaves_99 ⟨(by omega), (by omega)⟩ ?_
                    refine st_iload C dX11_leaves_100 rfl ?_
                    refine st_bipush C dX11_leaves_102 (by decide) (by decide) ?_
                    refine st_irem C dX11_leaves_104 (by omega) (by omega) ?_
                    refine st_iload C dX11_leaves_105 rfl ?_
                    refine st_idiv C dX11_leaves_107 (by omega) (by omega) ?_
                    refine st_iload C dX11_leaves_108 rfl ?_
                    refine st_imul C dX11_leaves_110 ⟨(by omega), (by omega)⟩ ?_
                    refine st_iadd C dX11_leaves_111 ⟨(by omega), (by omega)⟩ ?_
                    refine st_istore C dX11_leaves_112 (by decide) rfl ?_
                    show T x 114 [(0, vR 200), (1, vI l), (2, vI c1), (3, vI 1), (4, vI 2), (5, vI i1), (6, vI 1), (7, vI 4), (8, vI (8 * (((i1 / 8) / 4) * 4) + (((i1 % 8) / 4) * 4)))] [] _ _ _
                    refine st_iload_n C 2 dX11_leaves_114 rfl rfl ?_
                    refine st_iload C dX11_leaves_115 rfl ?_
                    refine st_if_eq (tgt := 143) C dX11_leaves_117 (by decide) (fun c_117 => by omega) (fun c_117 => ?_)
                    refine st_iload C dX11_leaves_120 rfl ?_
                    refine st_bipush C dX11_leaves_122 (by decide) (by decide) ?_
                    refine st_icmp_eq (tgt := 139) C dX11_leaves_124 (by decide) (fun c_124 => by omega) (fun c_124 => ?_)
                    refine st_aload_n C 0 dX11_leaves_127 rfl rfl ?_
                    refine st_iload_n C 1 dX11_leaves_128 rfl rfl ?_
                    refine st_iload C dX11_leaves_129 rfl ?_
                    refine st_iload C dX11_leaves_131 rfl ?_
                    by_cases b_133 : OneS mm mv l 4 16 (8 * (((i1 / 8) / 4) * 4) + (((i1 % 8) / 4) * 4))
                    · refine st_callV (st := [vI c1]) C dX11_leaves_133 [vI l, vI 4, vI (8 * (((i1 / 8) / 4) * 4) + (((i1 % 8) / 4) * 4))] (k_isOne4_t (l := l) (p9 := (8 * (((i1 / 8) / 4) * 4) + (((i1 % 8) / 4) * 4))) hput_s (hput_o (by omega) hmm) hv (by omega) (by omega) b_133) hput_s w_X11_187 rfl (by decide) (by decide) (by omega) (by omega) (Nat.le_of_ble_eq_true rfl) (ko_rt ?_)
                      show T x 136 [(0, vR 200), (1, vI l), (2, vI c1), (3, vI 1), (4, vI 2), (5, vI i1), (6, vI 1), (7, vI 4), (8, vI (8 * (((i1 / 8) / 4) * 4) + (((i1 % 8) / 4) * 4)))] [vI 1, vI c1] _ _ _
                      refine st_if_ne (tgt := 143) C dX11_leaves_136 (by decide) (fun c_136 => ?_) (fun c_136 => by omega)
                      refine st_iconst C dX11_leaves_143 (by decide) ?_
                      refine st_iadd C dX11_leaves_144 ⟨(by omega), (by omega)⟩ ?_
                      refine st_istore_n C 2 dX11_leaves_145 rfl (by decide) rfl ?_
                      show T x 146 [(0, vR 200), (1, vI l), (2, vI (c1 + 0)), (3, vI 1), (4, vI 2), (5, vI i1), (6, vI 1), (7, vI 4), (8, vI (8 * (((i1 / 8) / 4) * 4) + (((i1 % 8) / 4) * 4)))] [] _ _ _
                      refine st_iinc C dX11_leaves_146 rfl (by decide) rfl ⟨(by omega), (by omega)⟩ ?_
                      show T x 149 [(0, vR 200), (1, vI l), (2, vI (c1 + 0)), (3, vI 1), (4, vI 2), (5, vI (i1 + 1)), (6, vI 1), (7, vI 4), (8, vI (8 * (((i1 / 8) / 4) * 4) + (((i1 % 8) / 4) * 4)))] [] _ _ _
                      refine st_goto (tgt := 32) C dX11_leaves_149 (by decide) ?_
                      refine st_sub [0, 1, 2, 3, 4, 5] rfl ?_
                      exact ih_32 (c1 + 0) (i1 + 1) (by omega) (by omega) (by omega) (by first | exact cntb_t g11 ⟨by assumption, by assumption, by assumption, by assumption⟩ g14 | exact (Int.add_zero _).trans (cntb_f g11 (fun z => by first | exact absurd z.1 (by assumption) | exact absurd z.2.1 (by assumption) | exact absurd z.2.2.1 (by assumption) | exact absurd (by assumption) z.2.2.2) g14)) (by omega)
                    · refine st_callV (st := [vI c1]) C dX11_leaves_133 [vI l, vI 4, vI (8 * (((i1 / 8) / 4) * 4) + (((i1 % 8) / 4) * 4))] (k_isOne4_f (l := l) (p9 := (8 * (((i1 / 8) / 4) * 4) + (((i1 % 8) / 4) * 4))) hput_s (hput_o (by omega) hmm) hv (by omega) (by omega) b_133) hput_s w_X11_187 rfl (by decide) (by decide) (by omega) (by omega) (Nat.le_of_ble_eq_true rfl) (ko_rt ?_)
                      show T x 136 [(0, vR 200), (1, vI l), (2, vI c1), (3, vI 1), (4, vI 2), (5, vI i1), (6, vI 1), (7, vI 4), (8, vI (8 * (((i1 / 8) / 4) * 4) + (((i1 % 8) / 4) * 4)))] [vI 0, vI c1] _ _ _
                      refine st_if_ne (tgt := 143) C dX11_leaves_136 (by decide) (fun c_136 => by omega) (fun c_136 => ?_)
                      refine st_iconst C dX11_leaves_139 (by decide) ?_
                      refine st_goto (tgt := 144) C dX11_leaves_140 (by decide) ?_
                      refine st_iadd C dX11_leaves_144 ⟨(by omega), (by omega)⟩ ?_
                      refine st_istore_n C 2 dX11_leaves_145 rfl (by decide) rfl ?_
                      show T x 146 [(0, vR 200), (1, vI l), (2, vI (c1 + 1)), (3, vI 1), (4, vI 2), (5, vI i1), (6, vI 1), (7, vI 4), (8, vI (8 * (((i1 / 8) / 4) * 4) + (((i1 % 8) / 4) * 4)))] [] _ _ _
                      refine st_iinc C dX11_leaves_146 rfl (by decide) rfl ⟨(by omega), (by omega)⟩ ?_
                      show T x 149 [(0, vR 200), (1, vI l), (2, vI (c1 + 1)), (3, vI 1), (4, vI 2), (5, vI (i1 + 1)), (6, vI 1), (7, vI 4), (8, vI (8 * (((i1 / 8) / 4) * 4) + (((i1 % 8) / 4) * 4)))] [] _ _ _
                      refine st_goto (tgt := 32) C dX11_leaves_149 (by decide) ?_
                      refine st_sub [0, 1, 2, 3, 4, 5] rfl ?_
                      exact ih_32 (c1 + 1) (i1 + 1) (by omega) (by omega) (by omega) (by first | exact cntb_t g11 ⟨by assumption, by assumption, by assumption, by assumption⟩ g14 | exact (Int.add_zero _).trans (cntb_f g11 (fun z => by first | exact absurd z.1 (by assumption) | exact absurd z.2.1 (by assumption) | exact absurd z.2.2.1 (by assumption) | exact absurd (by assumption) z.2.2.2) g14)) (by omega)
                  · refine st_callV (st := []) C dX11_leaves_67 [vI l, vI 2, vI i1] (k_isOne2_f (l := l) (p9 := i1) hput_s (hput_o (by omega) hmm) hv (by omega) (by omega) b_67) hput_s w_X11_187 rfl (by decide) (by decide) (by omega) (by omega) (Nat.le_of_ble_eq_true rfl) (ko_rt ?_)
                    show T x 70 [(0, vR 200), (1, vI l), (2, vI c1), (3, vI 1), (4, vI 2), (5, vI i1)] [vI 0] _ _ _
                    refine st_if_eq (tgt := 77) C dX11_leaves_70 (by decide) (fun c_70 => ?_) (fun c_70 => by omega)
                    refine st_iconst C dX11_leaves_77 (by decide) ?_
                    refine st_istore C dX11_leaves_78 (by decide) rfl ?_
                    show T x 80 [(0, vR 200), (1, vI l), (2, vI c1), (3, vI 1), (4, vI 2), (5, vI i1), (6, vI 0)] [] _ _ _
                    refine st_iconst C dX11_leaves_80 (by decide) ?_
                    refine st_iload C dX11_leaves_81 rfl ?_
                    refine st_imul C dX11_leaves_83 ⟨(by omega), (by omega)⟩ ?_
                    refine st_istore C dX11_leaves_84 (by decide) rfl ?_
                    show T x 86 [(0, vR 200), (1, vI l), (2, vI c1), (3, vI 1), (4, vI 2), (5, vI i1), (6, vI 0), (7, vI 4)] [] _ _ _
                    refine st_bipush C dX11_leaves_86 (by decide) (by decide) ?_
                    refine st_iload C dX11_leaves_88 rfl ?_
                    refine st_bipush C dX11_leaves_90 (by decide) (by decide) ?_
                    refine st_idiv C dX11_leaves_92 (by omega) (by omega) ?_
                    refine st_iload C dX11_leaves_93 rfl ?_
                    refine st_idiv C dX11_leaves_95 (by omega) (by omega) ?_
                    refine st_iload C dX11_leaves_96 rfl ?_
                    refine st_imul C dX11_leaves_98 ⟨(by omega), (by omega)⟩ ?_
                    refine st_imul C dX11_leaves_99 ⟨(by omega), (by omega)⟩ ?_
                    refine st_iload C dX11_leaves_100 rfl ?_
                    refine st_bipush C dX11_leaves_102 (by decide) (by decide) ?_
                    refine st_irem C dX11_leaves_104 (by omega) (by omega) ?_
                    refine st_iload C dX11_leaves_105 rfl ?_
                    refine st_idiv C dX11_leaves_107 (by omega) (by omega) ?_
                    refine st_iload C dX11_leaves_108 rfl ?_
                    refine st_imul C dX11_leaves_110 ⟨(by omega), (by omega)⟩ ?_
                    refine st_iadd C dX11_leaves_111 ⟨(by omega), (by omega)⟩ ?_
                    refine st_istore C dX11_leaves_112 (by decide) rfl ?_
                    show T x 114 [(0, vR 200), (1, vI l), (2, vI c1), (3, vI 1), (4, vI 2), (5, vI i1), (6, vI 0), (7, vI 4), (8, vI (8 * (((i1 / 8) / 4) * 4) + (((i1 % 8) / 4) * 4)))] [] _ _ _
                    refine st_iload_n C 2 dX11_leaves_114 rfl rfl ?_
                    refine st_iload C dX11_leaves_115 rfl ?_
                    refine st_if_eq (tgt := 143) C dX11_leaves_117 (by decide) (fun c_117 => ?_) (fun c_117 => by omega)
                    refine st_iconst C dX11_leaves_143 (by decide) ?_
                    refine st_iadd C dX11_leaves_144 ⟨(by omega), (by omega)⟩ ?_
                    refine st_istore_n C 2 dX11_leaves_145 rfl (by decide) rfl ?_
                    show T x 146 [(0, vR 200), (1, vI l), (2, vI (c1 + 0)), (3, vI 1), (4, vI 2), (5, vI i1), (6, vI 0), (7, vI 4), (8, vI (8 * (((i1 / 8) / 4) * 4) + (((i1 % 8) / 4) * 4)))] [] _ _ _
                    refine st_iinc C dX11_leaves_146 rfl (by decide) rfl ⟨(by omega), (by omega)⟩ ?_
                    show T x 149 [(0, vR 200), (1, vI l), (2, vI (c1 + 0)), (3, vI 1), (4, vI 2), (5, vI (i1 + 1)), (6, vI 0), (7, vI 4), (8, vI (8 * (((i1 / 8) / 4) * 4) + (((i1 % 8) / 4) * 4)))] [] _ _ _
                    refine st_goto (tgt := 32) C dX11_leaves_149 (by decide) ?_
                    refine st_sub [0, 1, 2, 3, 4, 5] rfl ?_
                    exact ih_32 (c1 + 0) (i1 + 1) (by omega) (by omega) (by omega) (by first | exact cntb_t g11 ⟨by assumption, by assumption, by assumption, by assumption⟩ g14 | exact (Int.add_zero _).trans (cntb_f g11 (fun z => by first | exact absurd z.1 (by assumption) | exact absurd z.2.1 (by assumption) | exact absurd z.2.2.1 (by assumption) | exact absurd (by assumption) z.2.2.2) g14)) (by omega)
        exact loop_32 _ c0 0 (by omega) (by omega) (by omega) (cb_0 (cbE g04 (by omega))) (Nat.lt_succ_self _)
      · refine st_iload C dX11_leaves_39 rfl ?_
        refine st_bipush C dX11_leaves_41 (by decide) (by decide) ?_
        refine st_irem C dX11_leaves_43 (by omega) (by omega) ?_
        refine st_iload C dX11_leaves_44 rfl ?_
        refine st_irem C dX11_leaves_46 (by omega) (by omega) ?_
        refine st_if_ne (tgt := 77) C dX11_leaves_47 (by decide) (fun c_47 => by omega) (fun c_47 => ?_)
        refine st_iload C dX11_leaves_50 rfl ?_
        refine st_bipush C dX11_leaves_52 (by decide) (by decide) ?_
        refine st_idiv C dX11_leaves_54 (by omega) (by omega) ?_
        refine st_iload C dX11_leaves_55 rfl ?_
        refine st_irem C dX11_leaves_57 (by omega) (by omega) ?_
        refine st_if_ne (tgt := 77) C dX11_leaves_58 (by decide) (fun c_58 => by omega) (fun c_58 => ?_)
        refine st_aload_n C 0 dX11_leaves_61 rfl rfl ?_
        refine st_iload_n C 1 dX11_leaves_62 rfl rfl ?_
        refine st_iload C dX11_leaves_63 rfl ?_
        refine st_iload C dX11_leaves_65 rfl ?_
        by_cases b_67 : OneS mm mv l 1 1 i0
        · refine st_callV (st := []) C dX11_leaves_67 [vI l, vI 1, vI i0] (k_isOne1_t (l := l) (p9 := i0) hput_s (hput_o (by omega) hmm) hv (by omega) (by omega) b_67) hput_s w_X11_187 rfl (by decide) (by decide) (by omega) (by omega) (Nat.le_of_ble_eq_true rfl) (ko_rt ?_)
          show T x 70 [(0, vR 200), (1, vI l), (2, vI c0), (3, vI 0), (4, vI 1), (5, vI i0)] [vI 1] _ _ _
          refine st_if_eq (tgt := 77) C dX11_leaves_70 (by decide) (fun c_70 => by omega) (fun c_70 => ?_)
          refine st_iconst C dX11_leaves_73 (by decide) ?_
          refine st_goto (tgt := 78) C dX11_leaves_74 (by decide) ?_
          refine st_istore C dX11_leaves_78 (by decide) rfl ?_
          show T x 80 [(0, vR 200), (1, vI l), (2, vI c0), (3, vI 0), (4, vI 1), (5, vI i0), (6, vI 1)] [] _ _ _
          refine st_iconst C dX11_leaves_80 (by decide) ?_
          refine st_iload C dX11_leaves_81 rfl ?_
          refine st_imul C dX11_leaves_83 ⟨(by omega), (by omega)⟩ ?_
          refine st_istore C dX11_leaves_84 (by decide) rfl ?_
          show T x 86 [(0, vR 200), (1, vI l), (2, vI c0), (3, vI 0), (4, vI 1), (5, vI i0), (6, vI 1), (7, vI 2)] [] _ _ _
          refine st_bipush C dX11_leaves_86 (by decide) (by decide) ?_
          refine st_iload C dX11_leaves_88 rfl ?_
          refine st_bipush C dX11_leaves_90 (by decide) (by decide) ?_
          refine st_idiv C dX11_leaves_92 (by omega) (by omega) ?_
          refine st_iload C dX11_leaves_93 rfl ?_
          refine st_idiv C dX11_leaves_95 (by omega) (by omega) ?_
          refine st_iload C dX11_leaves_96 rfl ?_
          refine st_imul C dX11_leaves_98 ⟨(by omega), (by omega)⟩ ?_
          refine st_imul C dX11_leaves_99 ⟨(by omega), (by omega)⟩ ?_
          refine st_iload C dX11_leaves_100 rfl ?_
          refine st_bipush C dX11_leaves_102 (by decide) (by decide) ?_
          refine st_irem C dX11_leaves_104 (by omega) (by omega) ?_
          refine st_iload C dX11_leaves_105 rfl ?_
          refine st_idiv C dX11_leaves_107 (by omega) (by omega) ?_
          refine st_iload C dX11_leaves_108 rfl ?_
          refine st_imul C dX11_leaves_110 ⟨(by omega), (by omega)⟩ ?_
          refine st_iadd C dX11_leaves_111 ⟨(by omega), (by omega)⟩ ?_
          refine st_istore C dX11_leaves_112 (by decide) rfl ?_
          show T x 114 [(0, vR 200), (1, vI l), (2, vI c0), (3, vI 0), (4, vI 1), (5, vI i0), (6, vI 1), (7, vI 2), (8, vI (8 * (((i0 / 8) / 2) * 2) + (((i0 % 8) / 2) * 2)))] [] _ _ _
          refine st_iload_n C 2 dX11_leaves_114 rfl rfl ?_
          refine st_iload C dX11_leaves_115 rfl ?_
          refine st_if_eq (tgt := 143) C dX11_leaves_117 (by decide) (fun c_117 => by omega) (fun c_117 => ?_)
          refine st_iload C dX11_leaves_120 rfl ?_
          refine st_bipush C dX11_leaves_122 (by decide) (by decide) ?_
          refine st_icmp_eq (tgt := 139) C dX11_leaves_124 (by decide) (fun c_124 => by omega) (fun c_124 => ?_)
          refine st_aload_n C 0 dX11_leaves_127 rfl rfl ?_
          refine st_iload_n C 1 dX11_leaves_128 rfl rfl ?_
          refine st_iload C dX11_leaves_129 rfl ?_
          refine st_iload C dX11_leaves_131 rfl ?_
          by_cases b_133 : OneS mm mv l 2 4 (8 * (((i0 / 8) / 2) * 2) + (((i0 % 8) / 2) * 2))
          · refine st_callV (st := [vI c0]) C dX11_leaves_133 [vI l, vI 2, vI (8 * (((i0 / 8) / 2) * 2) + (((i0 % 8) / 2) * 2))] (k_isOne2_t (l := l) (p9 := (8 * (((i0 / 8) / 2) * 2) + (((i0 % 8) / 2) * 2))) hput_s (hput_o (by omega) hmm) hv (by omega) (by omega) b_133) hput_s w_X11_187 rfl (by decide) (by decide) (by omega) (by omega) (Nat.le_of_ble_eq_true rfl) (ko_rt ?_)
            show T x 136 [(0, vR 200), (1, vI l), (2, vI c0), (3, vI 0), (4, vI 1), (5, vI i0), (6, vI 1), (7, vI 2), (8, vI (8 * (((i0 / 8) / 2) * 2) + (((i0 % 8) / 2) * 2)))] [vI 1, vI c0] _ _ _
            refine st_if_ne (tgt := 143) C dX11_leaves_136 (by decide) (fun c_136 => ?_) (fun c_136 => by omega)
            refine st_iconst C dX11_leaves_143 (by decide) ?_
            refine st_iadd C dX11_leaves_144 ⟨(by omega), (by omega)⟩ ?_
            refine st_istore_n C 2 dX11_leaves_145 rfl (by decide) rfl ?_
            show T x 146 [(0, vR 200), (1, vI l), (2, vI (c0 + 0)), (3, vI 0), (4, vI 1), (5, vI i0), (6, vI 1), (7, vI 2), (8, vI (8 * (((i0 / 8) / 2) * 2) + (((i0 % 8) / 2) * 2)))] [] _ _ _
            refine st_iinc C dX11_leaves_146 rfl (by decide) rfl ⟨(by omega), (by omega)⟩ ?_
            show T x 149 [(0, vR 200), (1, vI l), (2, vI (c0 + 0)), (3, vI 0), (4, vI 1), (5, vI (i0 + 1)), (6, vI 1), (7, vI 2), (8, vI (8 * (((i0 / 8) / 2) * 2) + (((i0 % 8) / 2) * 2)))] [] _ _ _
            refine st_goto (tgt := 32) C dX11_leaves_149 (by decide) ?_
            refine st_sub [0, 1, 2, 3, 4, 5] rfl ?_
            exact ih_32 (c0 + 0) (i0 + 1) (by omega) (by omega) (by omega) (by first | exact cntb_t g01 ⟨by assumption, by assumption, by assumption, by assumption⟩ g04 | exact (Int.add_zero _).trans (cntb_f g01 (fun z => by first | exact absurd z.1 (by assumption) | exact absurd z.2.1 (by assumption) | exact absurd z.2.2.1 (by assumption) | exact absurd (by assumption) z.2.2.2) g04)) (by omega)
          · refine st_callV (st := [vI c0]) C dX11_leaves_133 [vI l, vI 2, vI (8 * (((i0 / 8) / 2) * 2) + (((i0 % 8) / 2) * 2))] (k_isOne2_f (l := l) (p9 := (8 * (((i0 / 8) / 2) * 2) + (((i0 % 8) / 2) * 2))) hput_s (hput_o (by omega) hmm) hv (by omega) (by omega) b_133) hput_s w_X11_187 rfl (by decide) (by decide) (by omega) (by omega) (Nat.le_of_ble_eq_true rfl) (ko_rt ?_)
            show T x 136 [(0, vR 200), (1, vI l), (2, vI c0), (3, vI 0), (4, vI 1), (5, vI i0), (6, vI 1), (7, vI 2), (8, vI (8 * (((i0 / 8) / 2) * 2) + (((i0 % 8) / 2) * 2)))] [vI 0, vI c0] _ _ _
            refine st_if_ne (tgt := 143) C dX11_leaves_136 (by decide) (fun c_136 => by omega) (fun c_136 => ?_)
            refine st_iconst C dX11_leaves_139 (by decide) ?_
            refine st_goto (tgt := 144) C dX11_leaves_140 (by decide) ?_
            refine st_iadd C dX11_leaves_144 ⟨(by omega), (by omega)⟩ ?_
            refine st_istore_n C 2 dX11_leaves_145 rfl (by decide) rfl ?_
            show T x 146 [(0, vR 200), (1, vI l), (2, vI (c0 + 1)), (3, vI 0), (4, vI 1), (5, vI i0), (6, vI 1), (7, vI 2), (8, vI (8 * (((i0 / 8) / 2) * 2) + (((i0 % 8) / 2) * 2)))] [] _ _ _
            refine st_iinc C dX11_leaves_146 rfl (by decide) rfl ⟨(by omega), (by omega)⟩ ?_
            show T x 149 [(0, vR 200), (1, vI l), (2, vI (c0 + 1)), (3, vI 0), (4, vI 1), (5, vI (i0 + 1)), (6, vI 1), (7, vI 2), (8, vI (8 * (((i0 / 8) / 2) * 2) + (((i0 % 8) / 2) * 2)))] [] _ _ _
            refine st_goto (tgt := 32) C dX11_leaves_149 (by decide) ?_
            refine st_sub [0, 1, 2, 3, 4, 5] rfl ?_
            exact ih_32 (c0 + 1) (i0 + 1) (by omega) (by omega) (by omega) (by first | exact cntb_t g01 ⟨by assumption, by assumption, by assumption, by assumption⟩ g04 | exact (Int.add_zero _).trans (cntb_f g01 (fun z => by first | exact absurd z.1 (by assumption) | exact absurd z.2.1 (by assumption) | exact absurd z.2.2.1 (by assumption) | exact absurd (by assumption) z.2.2.2) g04)) (by omega)
        · refine st_callV (st := []) C dX11_leaves_67 [vI l, vI 1, vI i0] (k_isOne1_f (l := l) (p9 := i0) hput_s (hput_o (by omega) hmm) hv (by omega) (by omega) b_67) hput_s w_X11_187 rfl (by decide) (by decide) (by omega) (by omega) (Nat.le_of_ble_eq_true rfl) (ko_rt ?_)
          show T x 70 [(0, vR 200), (1, vI l), (2, vI c0), (3, vI 0), (4, vI 1), (5, vI i0)] [vI 0] _ _ _
          refine st_if_eq (tgt := 77) C dX11_leaves_70 (by decide) (fun c_70 => ?_) (fun c_70 => by omega)
          refine st_iconst C dX11_leaves_77 (by decide) ?_
          refine st_istore C dX11_leaves_78 (by decide) rfl ?_
          show T x 80 [(0, vR 200), (1, vI l), (2, vI c0), (3, vI 0), (4, vI 1), (5, vI i0), (6, vI 0)] [] _ _ _
          refine st_iconst C dX11_leaves_80 (by decide) ?_
          refine st_iload C dX11_leaves_81 rfl ?_
          refine st_imul C dX11_leaves_83 ⟨(by omega), (by omega)⟩ ?_
          refine st_istore C dX11_leaves_84 (by decide) rfl ?_
          show T x 86 [(0, vR 200), (1, vI l), (2, vI c0), (3, vI 0), (4, vI 1), (5, vI i0), (6, vI 0), (7, vI 2)] [] _ _ _
          refine st_bipush C dX11_leaves_86 (by decide) (by decide) ?_
          refine st_iload C dX11_leaves_88 rfl ?_
          refine st_bipush C dX11_leaves_90 (by decide) (by decide) ?_
          refine st_idiv C dX11_leaves_92 (by omega) (by omega) ?_
          refine st_iload C dX11_leaves_93 rfl ?_
          refine st_idiv C dX11_leaves_95 (by omega) (by omega) ?_
          refine st_iload C dX11_leaves_96 rfl ?_
          refine st_imul C dX11_leaves_98 ⟨(by omega), (by omega)⟩ ?_
          refine st_imul C dX11_leaves_99 ⟨(by omega), (by omega)⟩ ?_
          refine st_iload C dX11_leaves_100 rfl ?_
          refine st_bipush C dX11_leaves_102 (by decide) (by decide) ?_
          refine st_irem C dX11_leaves_104 (by omega) (by omega) ?_
          refine st_iload C dX11_leaves_105 rfl ?_
          refine st_idiv C dX11_leaves_107 (by omega) (by omega) ?_
          refine st_iload C dX11_leaves_108 rfl ?_
          refine st_imul C dX11_leaves_110 ⟨(by omega), (by omega)⟩ ?_
          refine st_iadd C dX11_leaves_111 ⟨(by omega), (by omega)⟩ ?_
          refine st_istore C dX11_leaves_112 (by decide) rfl ?_
          show T x 114 [(0, vR 200), (1, vI l), (2, vI c0), (3, vI 0), (4, vI 1), (5, vI i0), (6, vI 0), (7, vI 2), (8, vI (8 * (((i0 / 8) / 2) * 2) + (((i0 % 8) / 2) * 2)))] [] _ _ _
          refine st_iload_n C 2 dX11_leaves_114 rfl rfl ?_
          refine st_iload C dX11_leaves_115 rfl ?_
          refine st_if_eq (tgt := 143) C dX11_leaves_117 (by decide) (fun c_117 => ?_) (fun c_117 => by omega)
          refine st_iconst C dX11_leaves_143 (by decide) ?_
          refine st_iadd C dX11_leaves_144 ⟨(by omega), (by omega)⟩ ?_
          refine st_istore_n C 2 dX11_leaves_145 rfl (by decide) rfl ?_
          show T x 146 [(0, vR 200), (1, vI l), (2, vI (c0 + 0)), (3, vI 0), (4, vI 1), (5, vI i0), (6, vI 0), (7, vI 2), (8, vI (8 * (((i0 / 8) / 2) * 2) + (((i0 % 8) / 2) * 2)))] [] _ _ _
          refine st_iinc C dX11_leaves_146 rfl (by decide) rfl ⟨(by omega), (by omega)⟩ ?_
          show T x 149 [(0, vR 200), (1, vI l), (2, vI (c0 + 0)), (3, vI 0), (4, vI 1), (5, vI (i0 + 1)), (6, vI 0), (7, vI 2), (8, vI (8 * (((i0 / 8) / 2) * 2) + (((i0 % 8) / 2) * 2)))] [] _ _ _
          refine st_goto (tgt := 32) C dX11_leaves_149 (by decide) ?_
          refine st_sub [0, 1, 2, 3, 4, 5] rfl ?_
          exact ih_32 (c0 + 0) (i0 + 1) (by omega) (by omega) (by omega) (by first | exact cntb_t g01 ⟨by assumption, by assumption, by assumption, by assumption⟩ g04 | exact (Int.add_zero _).trans (cntb_f g01 (fun z => by first | exact absurd z.1 (by assumption) | exact absurd z.2.1 (by assumption) | exact absurd z.2.2.1 (by assumption) | exact absurd (by assumption) z.2.2.2) g04)) (by omega)
  exact loop_32 _ 0 0 (by omega) (by omega) (by omega) (cb_0 rfl) (Nat.lt_succ_self _)
set_option maxRecDepth 20000 in
set_option maxHeartbeats 4000000 in
theorem m_border_x1 {g : Gx} {h : HP} {mv mrc mmc mmk mdv mwl mwa mwp mth : Int} {mm : Int → Int} {l a9 b9 : Int} (hm : mO h mv mrc mmc mmk mdv mwl mwa mwp mth) (hmm : h 201 = some (oI 12464 mm)) (hv : 0 ≤ mv ∧ mv ≤ 40) (hQ : ¬ ((0 ≤ l ∧ l ≤ 2) ∧ (0 ≤ a9 ∧ a9 ≤ 9) ∧ (0 ≤ b9 ∧ b9 ≤ 9) ∧ a9 ≠ b9)) : Ct g yX11_border (.code yX11_border cX11_border 7 (some .int)) 3 0 0 [vR 200, vI l, vI a9, vI b9] h (Rt (some (vI 0)) (hput h 200 (oO 10 [vR 201, vR 202, vR 203, vR 204, vR 205, vR 206, vR 207, vR 208, vR 209, vR 210, vR 211, vR 212, vR 213, vR 214, vR 215, vR 216, vR 217, vR 218, vI mv, vI mrc, vI mmc, vI mmk, vI mdv, vI mwl, vI mwa, vI mwp, vI 1]))) := by
  refine Ct.of (by decide) (Nat.le_of_ble_eq_true rfl) (fun x hg C F => ?_)
  subst hg
  show T x 0 [(0, vR 200), (1, vI l), (2, vI a9), (3, vI b9)] [] h 0 0
  refine st_aload_n C 0 dX11_border_0 rfl rfl ?_
  refine st_iload_n C 1 dX11_border_1 rfl rfl ?_
  by_cases b_2 : 0 ≤ l ∧ l ≤ 2
  · refine st_callS (st := [vR 200]) C dX11_border_2 [vI l] (k_mLayer_t (v9 := l)  b_2) w_X11_108 rfl (by decide) (by decide) (by omega) (by omega) (Nat.le_of_ble_eq_true rfl) (ko_rt ?_)
    show T x 5 [(0, vR 200), (1, vI l), (2, vI a9), (3, vI b9)] [vI 1, vR 200] _ _ _
    refine st_if_eq (tgt := 37) C dX11_border_5 (by decide) (fun c_5 => by omega) (fun c_5 => ?_)
    refine st_iload_n C 2 dX11_border_8 rfl rfl ?_
    refine st_iconst C dX11_border_9 (by decide) ?_
    refine st_bipush C dX11_border_10 (by decide) (by decide) ?_
    by_cases b_12 : 0 ≤ a9 ∧ a9 ≤ 9
    · refine st_callS (st := [vR 200]) C dX11_border_12 [vI a9, vI 0, vI 9] (k_isIn_t (v9 := a9) (l9 := 0) (u9 := 9)  b_12) w_X11_75 rfl (by decide) (by decide) (by omega) (by omega) (Nat.le_of_ble_eq_true rfl) (ko_rt ?_)
      show T x 15 [(0, vR 200), (1, vI l), (2, vI a9), (3, vI b9)] [vI 1, vR 200] _ _ _
      refine st_if_eq (tgt := 37) C dX11_border_15 (by decide) (fun c_15 => by omega) (fun c_15 => ?_)
      refine st_iload_n C 3 dX11_border_18 rfl rfl ?_
      refine st_iconst C dX11_border_19 (by decide) ?_
      refine st_bipush C dX11_border_20 (by decide) (by decide) ?_
      by_cases b_22 : 0 ≤ b9 ∧ b9 ≤ 9
      · refine st_callS (st := [vR 200]) C dX11_border_22 [vI b9, vI 0, vI 9] (k_isIn_t (v9 := b9) (l9 := 0) (u9 := 9)  b_22) w_X11_75 rfl (by decide) (by decide) (by omega) (by omega) (Nat.le_of_ble_eq_true rfl) (ko_rt ?_)
        show T x 25 [(0, vR 200), (1, vI l), (2, vI a9), (3, vI b9)] [vI 1, vR 200] _ _ _
        refine st_if_eq (tgt := 37) C dX11_border_25 (by decide) (fun c_25 => by omega) (fun c_25 => ?_)
        refine st_iload_n C 2 dX11_border_28 rfl rfl ?_
        refine st_iload_n C 3 dX11_border_29 rfl rfl ?_
        refine st_icmp_eq (tgt := 37) C dX11_border_30 (by decide) (fun c_30 => ?_) (fun c_30 => ?_)
        · refine st_iconst C dX11_border_37 (by decide) ?_
          refine st_iconst C dX11_border_38 (by decide) ?_
          refine st_callV (st := []) C dX11_border_39 [vI 0, vI 1] (k_no_f (p9 := 1) hm) hm w_X11_112 rfl (by decide) (by decide) (by omega) (by omega) (Nat.le_of_ble_eq_true rfl) (ko_rt ?_)
          show T x 42 [(0, vR 200), (1, vI l), (2, vI a9), (3, vI b9)] [vI 1] (hput h 200 (oO 10 [vR 201, vR 202, vR 203, vR 204, vR 205, vR 206, vR 207, vR 208, vR 209, vR 210, vR 211, vR 212, vR 213, vR 214, vR 215, vR 216, vR 217, vR 218, vI mv, vI mrc, vI mmc, vI mmk, vI mdv, vI mwl, vI mwa, vI mwp, vI 1])) _ _
          refine st_if_eq (tgt := 47) C dX11_border_42 (by decide) (fun c_42 => by omega) (fun c_42 => ?_)
          refine st_iconst C dX11_border_45 (by decide) ?_
          exact st_ireturn C F dX11_border_46 rfl (by first | (exfalso; omega) | exact ⟨by with_reducible rfl, by with_reducible rfl⟩) (by omega) (by omega)
        · refine st_iconst C dX11_border_33 (by decide) ?_
          refine st_goto (tgt := 38) C dX11_border_34 (by decide) ?_
          refine st_iconst C dX11_border_38 (by decide) ?_
          exfalso; omega
      · refine st_callS (st := [vR 200]) C dX11_border_22 [vI b9, vI 0, vI 9] (k_isIn_f (v9 := b9) (l9 := 0) (u9 := 9)  b_22) w_X11_75 rfl (by decide) (by decide) (by omega) (by omega) (Nat.le_of_ble_eq_true rfl) (ko_rt ?_)
        show T x 25 [(0, vR 200), (1, vI l), (2, vI a9), (3, vI b9)] [vI 0, vR 200] _ _ _
        refine st_if_eq (tgt := 37) C dX11_border_25 (by decide) (fun c_25 => ?_) (fun c_25 => by omega)
        refine st_iconst C dX11_border_37 (by decide) ?_
        refine st_iconst C dX11_border_38 (by decide) ?_
        refine st_callV (st := []) C dX11_border_39 [vI 0, vI 1] (k_no_f (p9 := 1) hm) hm w_X11_112 rfl (by decide) (by decide) (by omega) (by omega) (Nat.le_of_ble_eq_true rfl) (ko_rt ?_)
        show T x 42 [(0, vR 200), (1, vI l), (2, vI a9), (3, vI b9)] [vI 1] (hput h 200 (oO 10 [vR 201, vR 202, vR 203, vR 204, vR 205, vR 206, vR 207, vR 208, vR 209, vR 210, vR 211, vR 212, vR 213, vR 214, vR 215, vR 216, vR 217, vR 218, vI mv, vI mrc, vI mmc, vI mmk, vI mdv, vI mwl, vI mwa, vI mwp, vI 1])) _ _
        refine st_if_eq (tgt := 47) C dX11_border_42 (by decide) (fun c_42 => by omega) (fun c_42 => ?_)
        refine st_iconst C dX11_border_45 (by decide) ?_
        exact st_ireturn C F dX11_border_46 rfl (by first | (exfalso; omega) | exact ⟨by with_reducible rfl, by with_reducible rfl⟩) (by omega) (by omega)
    · refine st_callS (st := [vR 200]) C dX11_border_12 [vI a9, vI 0, vI 9] (k_isIn_f (v9 := a9) (l9 := 0) (u9 := 9)  b_12) w_X11_75 rfl (by decide) (by decide) (by omega) (by omega) (Nat.le_of_ble_eq_true rfl) (ko_rt ?_)
      show T x 15 [(0, vR 200), (1, vI l), (2, vI a9), (3, vI b9)] [vI 0, vR 200] _ _ _
      refine st_if_eq (tgt := 37) C dX11_border_15 (by decide) (fun c_15 => ?_) (fun c_15 => by omega)
      refine st_iconst C dX11_border_37 (by decide) ?_
      refine st_iconst C dX11_border_38 (by decide) ?_
      refine st_callV (st := []) C dX11_border_39 [vI 0, vI 1] (k_no_f (p9 := 1) hm) hm w_X11_112 rfl (by decide) (by decide) (by omega) (by omega) (Nat.le_of_ble_eq_true rfl) (ko_rt ?_)
      show T x 42 [(0, vR 200), (1, vI l), (2, vI a9), (3, vI b9)] [vI 1] (hput h 200 (oO 10 [vR 201, vR 202, vR 203, vR 204, vR 205, vR 206, vR 207, vR 208, vR 209, vR 210, vR 211, vR 212, vR 213, vR 214, vR 215, vR 216, vR 217, vR 218, vI mv, vI mrc, vI mmc, vI mmk, vI mdv, vI mwl, vI mwa, vI mwp, vI 1])) _ _
      refine st_if_eq (tgt := 47) C dX11_border_42 (by decide) (fun c_42 => by omega) (fun c_42 => ?_)
      refine st_iconst C dX11_border_45 (by decide) ?_
      exact st_ireturn C F dX11_border_46 rfl (by first | (exfalso; omega) | exact ⟨by with_reducible rfl, by with_reducible rfl⟩) (by omega) (by omega)
  · refine st_callS (st := [vR 200]) C dX11_border_2 [vI l] (k_mLayer_f (v9 := l)  b_2) w_X11_108 rfl (by decide) (by decide) (by omega) (by omega) (Nat.le_of_ble_eq_true rfl) (ko_rt ?_)
    show T x 5 [(0, vR 200), (1, vI l), (2, vI a9), (3, vI b9)] [vI 0, vR 200] _ _ _
    refine st_if_eq (tgt := 37) C dX11_border_5 (by decide) (fun c_5 => ?_) (fun c_5 => by omega)
    refine st_iconst C dX11_border_37 (by decide) ?_
    refine st_iconst C dX11_border_38 (by decide) ?_
    refine st_callV (st := []) C dX11_border_39 [vI 0, vI 1] (k_no_f (p9 := 1) hm) hm w_X11_112 rfl (by decide) (by decide) (by omega) (by omega) (Nat.le_of_ble_eq_true rfl) (ko_rt ?_)
    show T x 42 [(0, vR 200), (1, vI l), (2, vI a9), (3, vI b9)] [vI 1] (hput h 200 (oO 10 [vR 201, vR 202, vR 203, vR 204, vR 205, vR 206, vR 207, vR 208, vR 209, vR 210, vR 211, vR 212, vR 213, vR 214, vR 215, vR 216, vR 217, vR 218, vI mv, vI mrc, vI mmc, vI mmk, vI mdv, vI mwl, vI mwa, vI mwp, vI 1])) _ _
    refine st_if_eq (tgt := 47) C dX11_border_42 (by decide) (fun c_42 => by omega) (fun c_42 => ?_)
    refine st_iconst C dX11_border_45 (by decide) ?_
    exact st_ireturn C F dX11_border_46 rfl (by first | (exfalso; omega) | exact ⟨by with_reducible rfl, by with_reducible rfl⟩) (by omega) (by omega)
set_option maxRecDepth 20000 in
set_option maxHeartbeats 4000000 in
theorem m_border {g : Gx} {h : HP} {mv mrc mmc mmk mdv mwl mwa mwp mth : Int} {mm : Int → Int} {l a9 b9 : Int} (hm : mO h mv mrc mmc mmk mdv mwl mwa mwp mth) (hmm : h 201 = some (oI 12464 mm)) (hv : 0 ≤ mv ∧ mv ≤ 40) (hQ : (0 ≤ l ∧ l ≤ 2) ∧ (0 ≤ a9 ∧ a9 ≤ 9) ∧ (0 ≤ b9 ∧ b9 ≤ 9) ∧ a9 ≠ b9) : Ct g yX11_border (.code yX11_border cX11_border 7 (some .int)) 3 0 0 [vR 200, vI l, vI a9, vI b9] h (Rt (some (vI (cnt (fun k => 0 ≤ mbes (k / 4) (k % 4) ∧ mm (304 * mv + (64 * l + k / 4)) = a9 ∧ mm (304 * mv + (64 * l + mbes (k / 4) (k % 4))) = b9) 256))) (hput h 200 (oO 10 [vR 201, vR 202, vR 203, vR 204, vR 205, vR 206, vR 207, vR 208, vR 209, vR 210, vR 211, vR 212, vR 213, vR 214, vR 215, vR 216, vR 217, vR 218, vI mv, vI mrc, vI mmc, vI mmk, vI mdv, vI mwl, vI mwa, vI mwp, vI 0]))) := by
  refine Ct.of (by decide) (Nat.le_of_ble_eq_true rfl) (fun x hg C F => ?_)
  subst hg
  show T x 0 [(0, vR 200), (1, vI l), (2, vI a9), (3, vI b9)] [] h 0 0
  refine st_aload_n C 0 dX11_border_0 rfl rfl ?_
  refine st_iload_n C 1 dX11_border_1 rfl rfl ?_
  have b_2 : 0 ≤ l ∧ l ≤ 2 := by omega
  refine st_callS (st := [vR 200]) C dX11_border_2 [vI l] (k_mLayer_t (v9 := l)  b_2) w_X11_108 rfl (by decide) (by decide) (by omega) (by omega) (Nat.le_of_ble_eq_true rfl) (ko_rt ?_)
  show T x 5 [(0, vR 200), (1, vI l), (2, vI a9), (3, vI b9)] [vI 1, vR 200] _ _ _
  refine st_if_eq (tgt := 37) C dX11_border_5 (by decide) (fun c_5 => by omega) (fun c_5 => ?_)
  refine st_iload_n C 2 dX11_border_8 rfl rfl ?_
  refine st_iconst C dX11_border_9 (by decide) ?_
  refine st_bipush C dX11_border_10 (by decide) (by decide) ?_
  have b_12 : 0 ≤ a9 ∧ a9 ≤ 9 := by omega
  refine st_callS (st := [vR 200]) C dX11_border_12 [vI a9, vI 0, vI 9] (k_isIn_t (v9 := a9) (l9 := 0) (u9 := 9)  b_12) w_X11_75 rfl (by decide) (by decide) (by omega) (by omega) (Nat.le_of_ble_eq_true rfl) (ko_rt ?_)
  show T x 15 [(0, vR 200), (1, vI l), (2, vI a9), (3, vI b9)] [vI 1, vR 200] _ _ _
  refine st_if_eq (tgt := 37) C dX11_border_15 (by decide) (fun c_15 => by omega) (fun c_15 => ?_)
  refine st_iload_n C 3 dX11_border_18 rfl rfl ?_
  refine st_iconst C dX11_border_19 (by decide) ?_
  refine st_bipush C dX11_border_20 (by decide) (by decide) ?_
  have b_22 : 0 ≤ b9 ∧ b9 ≤ 9 := by omega
  refine st_callS (st := [vR 200]) C dX11_border_22 [vI b9, vI 0, vI 9] (k_isIn_t (v9 := b9) (l9 := 0) (u9 := 9)  b_22) w_X11_75 rfl (by decide) (by decide) (by omega) (by omega) (Nat.le_of_ble_eq_true rfl) (ko_rt ?_)
  show T x 25 [(0, vR 200), (1, vI l), (2, vI a9), (3, vI b9)] [vI 1, vR 200] _ _ _
  refine st_if_eq (tgt := 37) C dX11_border_25 (by decide) (fun c_25 => by omega) (fun c_25 => ?_)
  refine st_iload_n C 2 dX11_border_28 rfl rfl ?_
  refine st_iload_n C 3 dX11_border_29 rfl rfl ?_
  refine st_icmp_eq (tgt := 37) C dX11_border_30 (by decide) (fun c_30 => ?_) (fun c_30 => ?_)
  · refine st_iconst C dX11_border_37 (by decide) ?_
    refine st_iconst C dX11_border_38 (by decide) ?_
    exfalso; omega
  · refine st_iconst C dX11_border_33 (by decide) ?_
    refine st_goto (tgt := 38) C dX11_border_34 (by decide) ?_
    refine st_iconst C dX11_border_38 (by decide) ?_
    refine st_callV (st := []) C dX11_border_39 [vI 1, vI 1] (k_no_t (p9 := 1) hm) hm w_X11_112 rfl (by decide) (by decide) (by omega) (by omega) (Nat.le_of_ble_eq_true rfl) (ko_rt ?_)
    show T x 42 [(0, vR 200), (1, vI l), (2, vI a9), (3, vI b9)] [vI 0] (hput h 200 (oO 10 [vR 201, vR 202, vR 203, vR 204, vR 205, vR 206, vR 207, vR 208, vR 209, vR 210, vR 211, vR 212, vR 213, vR 214, vR 215, vR 216, vR 217, vR 218, vI mv, vI mrc, vI mmc, vI mmk, vI mdv, vI mwl, vI mwa, vI mwp, vI 0])) _ _
    refine st_if_eq (tgt := 47) C dX11_border_42 (by decide) (fun c_42 => ?_) (fun c_42 => by omega)
    refine st_iconst C dX11_border_47 (by decide) ?_
    refine st_istore C dX11_border_48 (by decide) rfl ?_
    show T x 50 [(0, vR 200), (1, vI l), (2, vI a9), (3, vI b9), (4, vI 0)] [] _ _ _
    refine st_iconst C dX11_border_50 (by decide) ?_
    refine st_istore C dX11_border_51 (by decide) rfl ?_
    show T x 53 [(0, vR 200), (1, vI l), (2, vI a9), (3, vI b9), (4, vI 0), (5, vI 0)] [] _ _ _
    have loop_53 : ∀ (n_53 : Nat) (c1 : Int) (i : Int), (0 ≤ i) → (i ≤ 256) → (0 ≤ c1 ∧ c1 ≤ i) → (c1 = cnt (fun k => 0 ≤ mbes (k / 4) (k % 4) ∧ mm (304 * mv + (64 * l + k / 4)) = a9 ∧ mm (304 * mv + (64 * l + mbes (k / 4) (k % 4))) = b9) i) → (256 - i).toNat < n_53 → T x 53 [(0, vR 200), (1, vI l), (2, vI a9), (3, vI b9), (4, vI c1), (5, vI i)] [] (hput h 200 (oO 10 [vR 201, vR 202, vR 203, vR 204, vR 205, vR 206, vR 207, vR 208, vR 209, vR 210, vR 211, vR 212, vR 213, vR 214, vR 215, vR 216, vR 217, vR 218, vI mv, vI mrc, vI mmc, vI mmk, vI mdv, vI mwl, vI mwa, vI mwp, vI 0])) 0 0 := by
      intro n_53
      induction n_53 with
      | zero => intro c1 i g1 g2 g3 g4 hm_53; exact absurd hm_53 (Nat.not_lt_zero _)
      | succ n_53 ih_53 =>
        intro c1 i g1 g2 g3 g4 hm_53
        have fb := fun z9 : i < 256 => mbes_in (p := i / 4) (w := i % 4) (by omega)
        refine st_iload C dX11_border_53 rfl ?_
        refine st_sipush C dX11_border_55 (by decide) (by decide) ?_
        refine st_icmp_ge (tgt := 127) C dX11_border_58 (by decide) (fun c_58 => ?_) (fun c_58 => ?_)
        · refine st_iload C dX11_border_127 rfl ?_
          exact st_ireturn C F dX11_border_129 rfl (rt_i (cntE g4 (by omega)) rfl) (by omega) (by omega)
        · refine st_iload C dX11_border_61 rfl ?_
          refine st_iconst C dX11_border_63 (by decide) ?_
          refine st_idiv C dX11_border_64 (by omega) (by omega) ?_
          refine st_iload C dX11_border_65 rfl ?_
          refine st_iconst C dX11_border_67 (by decide) ?_
          refine st_irem C dX11_border_68 (by omega) (by omega) ?_
          refine st_callS (st := []) C dX11_border_69 [vI (i / 4), vI (i % 4)] (k_mbes (p := (i / 4)) (w := (i % 4)) (by omega) (by omega)) w_X11_79 rfl (by decide) (by decide) (by omega) (by omega) (Nat.le_of_ble_eq_true rfl) (ko_rt ?_)
          show T x 72 [(0, vR 200), (1, vI l), (2, vI a9), (3, vI b9), (4, vI c1), (5, vI i)] [vI (mbes (i / 4) (i % 4))] _ _ _
          refine st_istore C dX11_border_72 (by decide) rfl ?_
          show T x 74 [(0, vR 200), (1, vI l), (2, vI a9), (3, vI b9), (4, vI c1), (5, vI i), (6, vI (mbes (i / 4) (i % 4)))] [] _ _ _
          refine st_iload C dX11_border_74 rfl ?_
          refine st_iload C dX11_border_76 rfl ?_
          refine st_if_lt (tgt := 117) C dX11_border_78 (by decide) (fun c_78 => ?_) (fun c_78 => ?_)
          · refine st_iconst C dX11_border_117 (by decide) ?_
            refine st_iadd C dX11_border_118 ⟨(by omega), (by omega)⟩ ?_
            refine st_istore C dX11_border_119 (by decide) rfl ?_
            show T x 121 [(0, vR 200), (1, vI l), (2, vI a9), (3, vI b9), (4, vI (c1 + 0)), (5, vI i), (6, vI (mbes (i / 4) (i % 4)))] [] _ _ _
            refine st_iinc C dX11_border_121 rfl (by decide) rfl ⟨(by omega), (by omega)⟩ ?_
            show T x 124 [(0, vR 200), (1, vI l), (2, vI a9), (3, vI b9), (4, vI (c1 + 0)), (5, vI (i + 1)), (6, vI (mbes (i / 4) (i % 4)))] [] _ _ _
            refine st_goto (tgt := 53) C dX11_border_124 (by decide) ?_
            refine st_sub [0, 1, 2, 3, 4, 5] rfl ?_
            exact ih_53 (c1 + 0) (i + 1) (by omega) (by omega) (by omega) (by first | exact cnt_t g1 ⟨by assumption, by assumption, by assumption⟩ g4 | exact (Int.add_zero _).trans (cnt_f g1 (fun z => by first | exact absurd z.1 (by omega) | exact absurd z.2.1 (by assumption) | exact absurd z.2.2 (by assumption)) g4)) (by omega)
          · refine st_aload_n C 0 dX11_border_81 rfl rfl ?_
            refine st_bipush C dX11_border_82 (by decide) (by decide) ?_
            refine st_iload_n C 1 dX11_border_84 rfl rfl ?_
            refine st_imul C dX11_border_85 ⟨(by omega), (by omega)⟩ ?_
            refine st_iload C dX11_border_86 rfl ?_
            refine st_iconst C dX11_border_88 (by decide) ?_
            refine st_idiv C dX11_border_89 (by omega) (by omega) ?_
            refine st_iadd C dX11_border_90 ⟨(by omega), (by omega)⟩ ?_
            refine st_callV (st := [vI c1]) C dX11_border_91 [vI (64 * l + (i / 4))] (k_now (mm := mm) (s9 := (64 * l + (i / 4))) hput_s (hput_o (by omega) hmm) hv (by omega)) hput_s w_X11_105 rfl (by decide) (by decide) (by omega) (by omega) (Nat.le_of_ble_eq_true rfl) (ko_rt ?_)
            show T x 94 [(0, vR 200), (1, vI l), (2, vI a9), (3, vI b9), (4, vI c1), (5, vI i), (6, vI (mbes (i / 4) (i % 4)))] [vI (mm (304 * mv + (64 * l + (i / 4)))), vI c1] _ _ _
            refine st_iload_n C 2 dX11_border_94 rfl rfl ?_
            refine st_icmp_ne (tgt := 117) C dX11_border_95 (by decide) (fun c_95 => ?_) (fun c_95 => ?_)
            · refine st_iconst C dX11_border_117 (by decide) ?_
              refine st_iadd C dX11_border_118 ⟨(by omega), (by omega)⟩ ?_
              refine st_istore C dX11_border_119 (by decide) rfl ?_
              show T x 121 [(0, vR 200), (1, vI l), (2, vI a9), (3, vI b9), (4, vI (c1 + 0)), (5, vI i), (6, vI (mbes (i / 4) (i % 4)))] [] _ _ _
              refine st_iinc C dX11_border_121 rfl (by decide) rfl ⟨(by omega), (by omega)⟩ ?_
              show T x 124 [(0, vR 200), (1, vI l), (2, vI a9), (3, vI b9), (4, vI (c1 + 0)), (5, vI (i + 1)), (6, vI (mbes (i / 4) (i % 4)))] [] _ _ _
              refine st_goto (tgt := 53) C dX11_border_124 (by decide) ?_
              refine st_sub [0, 1, 2, 3, 4, 5] rfl ?_
              exact ih_53 (c1 + 0) (i + 1) (by omega) (by omega) (by omega) (by first | exact cnt_t g1 ⟨by assumption, by assumption, by assumption⟩ g4 | exact (Int.add_zero _).trans (cnt_f g1 (fun z => by first | exact absurd z.1 (by omega) | exact absurd z.2.1 (by assumption) | exact absurd z.2.2 (by assumption)) g4)) (by omega)
            · refine st_aload_n C 0 dX11_border_98 rfl rfl ?_
              refine st_bipush C dX11_border_99 (by decide) (by decide) ?_
              refine st_iload_n C 1 dX11_border_101 rfl rfl ?_
              refine st_imul C dX11_border_102 ⟨(by omega), (by omega)⟩ ?_
              refine st_iload C dX11_border_103 rfl ?_
              refine st_iadd C dX11_border_105 ⟨(by omega), (by omega)⟩ ?_
              refine st_callV (st := [vI c1]) C dX11_border_106 [vI (64 * l + (mbes (i / 4) (i % 4)))] (k_now (mm := mm) (s9 := (64 * l + (mbes (i / 4) (i % 4)))) hput_s (hput_o (by omega) hmm) hv (by omega)) hput_s w_X11_105 rfl (by decide) (by decide) (by omega) (by omega) (Nat.le_of_ble_eq_true rfl) (ko_rt ?_)
              show T x 109 [(0, vR 200), (1, vI l), (2, vI a9), (3, vI b9), (4, vI c1), (5, vI i), (6, vI (mbes (i / 4) (i % 4)))] [vI (mm (304 * mv + (64 * l + (mbes (i / 4) (i % 4))))), vI c1] _ _ _
              refine st_iload_n C 3 dX11_border_109 rfl rfl ?_
              refine st_icmp_ne (tgt := 117) C dX11_border_110 (by decide) (fun c_110 => ?_) (fun c_110 => ?_)
              · refine st_iconst C dX11_border_117 (by decide) ?_
                refine st_iadd C dX11_border_118 ⟨(by omega), (by omega)⟩ ?_
                refine st_istore C dX11_border_119 (by decide) rfl ?_
                show T x 121 [(0, vR 200), (1, vI l), (2, vI a9), (3, vI b9), (4, vI (c1 + 0)), (5, vI i), (6, vI (mbes (i / 4) (i % 4)))] [] _ _ _
                refine st_iinc C dX11_border_121 rfl (by decide) rfl ⟨(by omega), (by omega)⟩ ?_
                show T x 124 [(0, vR 200), (1, vI l), (2, vI a9), (3, vI b9), (4, vI (c1 + 0)), (5, vI (i + 1)), (6, vI (mbes (i / 4) (i % 4)))] [] _ _ _
                refine st_goto (tgt := 53) C dX11_border_124 (by decide) ?_
                refine st_sub [0, 1, 2, 3, 4, 5] rfl ?_
                exact ih_53 (c1 + 0) (i + 1) (by omega) (by omega) (by omega) (by first | exact cnt_t g1 ⟨by assumption, by assumption, by assumption⟩ g4 | exact (Int.add_zero _).trans (cnt_f g1 (fun z => by first | exact absurd z.1 (by omega) | exact absurd z.2.1 (by assumption) | exact absurd z.2.2 (by assumption)) g4)) (by omega)
              · refine st_iconst C dX11_border_113 (by decide) ?_
                refine st_goto (tgt := 118) C dX11_border_114 (by decide) ?_
                refine st_iadd C dX11_border_118 ⟨(by omega), (by omega)⟩ ?_
                refine st_istore C dX11_border_119 (by decide) rfl ?_
                show T x 121 [(0, vR 200), (1, vI l), (2, vI a9), (3, vI b9), (4, vI (c1 + 1)), (5, vI i), (6, vI (mbes (i / 4) (i % 4)))] [] _ _ _
                refine st_iinc C dX11_border_121 rfl (by decide) rfl ⟨(by omega), (by omega)⟩ ?_
                show T x 124 [(0, vR 200), (1, vI l), (2, vI a9), (3, vI b9), (4, vI (c1 + 1)), (5, vI (i + 1)), (6, vI (mbes (i / 4) (i % 4)))] [] _ _ _
                refine st_goto (tgt := 53) C dX11_border_124 (by decide) ?_
                refine st_sub [0, 1, 2, 3, 4, 5] rfl ?_
                exact ih_53 (c1 + 1) (i + 1) (by omega) (by omega) (by omega) (by first | exact cnt_t g1 ⟨by assumption, by assumption, by assumption⟩ g4 | exact (Int.add_zero _).trans (cnt_f g1 (fun z => by first | exact absurd z.1 (by omega) | exact absurd z.2.1 (by assumption) | exact absurd z.2.2 (by assumption)) g4)) (by omega)
    exact loop_53 _ 0 0 (by omega) (by omega) (by omega) (cnt_0) (Nat.lt_succ_self _)
