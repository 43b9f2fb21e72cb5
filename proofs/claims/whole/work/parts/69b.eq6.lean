/-! rules on rows that are alike -/
theorem reach_congr {J J' : Int → Int → Prop} {st p : Int} (hs : 0 ≤ st ∧ st ≤ 63) (h : ∀ a b, 0 ≤ a ∧ a ≤ 63 → 0 ≤ b ∧ b ≤ 63 → (J a b ↔ J' a b)) (hr : Reach J st p) : Reach J' st p := by
  obtain ⟨n, hn⟩ := hr
  exact ⟨n, path_congr hs h n p hn⟩
theorem rd_congr {f g : Int → Int} (h : ∀ s, 0 ≤ s → s ≤ 303 → f s = g s) {p : Int} (hp : 0 ≤ p ∧ p ≤ 63) : rdN f p = rdN g p := by
  unfold rdN
  refine cnt_congr (fun d d1 d2 => ?_)
  have hb := besid_in (d := d) hp
  by_cases q : besid p d = -1
  · exact ⟨fun z => absurd q z.1, fun z => absurd q z.1⟩
  · exact ⟨fun z => ⟨z.1, road_congr (fun s s1 s2 => h s (by omega) s2) hp (by omega) z.2⟩, fun z => ⟨z.1, road_congr (fun s s1 s2 => (h s (by omega) s2).symm) hp (by omega) z.2⟩⟩
theorem encl_congr {f g : Int → Int} (h : ∀ s, 0 ≤ s → s ≤ 303 → f s = g s) {a p : Int} (ha : 0 ≤ a ∧ a ≤ 2) (hp : 0 ≤ p ∧ p ≤ 63) (he : Encl f a p) : Encl g a p := fun d d1 d2 d3 => by
  have hb := besid_in (d := d) hp
  rw [← h (64 * a + besid p d) (by omega) (by omega)]
  exact he d d1 d2 d3
theorem rule_imp {k a b : Int} {f g : Int → Int} (hok : RuleOk k a b) (h : ∀ s, 0 ≤ s → s ≤ 303 → f s = g s) (hr : RuleHolds k a b f) : RuleHolds k a b g := by
  unfold RuleOk at hok
  refine ⟨fun p p1 p2 hb => hr.1 p p1 p2 ?_, fun e A a1 a2 p q p1 p2 q1 q2 hp hq => ?_⟩
  · rcases hb with ⟨e, b1, b2⟩ | ⟨e, b1, b2⟩ | ⟨e, b1, b2⟩ | ⟨e, b1, b2⟩
    · exact Or.inl ⟨e, b1, by rw [rd_congr h ⟨p1, p2⟩]; exact b2⟩
    · exact Or.inr (Or.inl ⟨e, by rw [h (64 * a + p) (by omega) (by omega)]; exact b1, encl_congr (fun s s1 s2 => (h s s1 s2).symm) (by omega) ⟨p1, p2⟩ b2⟩)
    · exact Or.inr (Or.inr (Or.inl ⟨e, by rw [h (64 * a + p) (by omega) (by omega)]; exact b1, by rw [h (64 * b + p) (by omega) (by omega)]; exact b2⟩))
    · exact Or.inr (Or.inr (Or.inr ⟨e, by rw [h (64 * a + p) (by omega) (by omega)]; exact b1, by rw [h (64 * b + p) (by omega) (by omega)]; exact b2⟩))
  · have hh := hr.2 e A a1 a2 p q p1 p2 q1 q2 (by rw [h (64 * a + p) (by omega) (by omega)]; exact hp) (by rw [h (64 * a + q) (by omega) (by omega)]; exact hq)
    refine reach_congr ⟨p1, p2⟩ (fun x y hx hy => ?_) hh
    show f (64 * a + x) = f (64 * a + y) ↔ g (64 * a + x) = g (64 * a + y)
    rw [h (64 * a + x) (by omega) (by omega), h (64 * a + y) (by omega) (by omega)]
theorem rule_congr {k a b : Int} {f g : Int → Int} (hok : RuleOk k a b) (h : ∀ s, 0 ≤ s → s ≤ 303 → f s = g s) : RuleHolds k a b f ↔ RuleHolds k a b g := ⟨rule_imp hok h, rule_imp hok (fun s s1 s2 => (h s s1 s2).symm)⟩
theorem rule_low {k a b : Int} {f : Int → Int} (hok : RuleOk k a b) : RuleHolds k a b f ↔ RuleHolds k (lowK k a) (highK k b) f := by
  have hk : k = 99 ∨ k = 120 ∨ k = 103 ∨ k = 119 ∨ k = 109 := by unfold RuleOk at hok; omega
  rcases hk with e | e | e | e | e <;> subst e
  · have e1 : lowK 99 a = a := rfl
    have e2 : highK 99 b = b := rfl
    rw [e1, e2]
  · have e1 : lowK 120 a = a := rfl
    have e2 : highK 120 b = b := rfl
    rw [e1, e2]
  · have e1 : lowK 103 a = a := rfl
    rw [e1]
    unfold RuleHolds
    constructor
    · exact fun z => ⟨fun p p1 p2 q => z.1 p p1 p2 (brk_g.mpr (brk_g.mp q)), fun q => absurd q (by decide)⟩
    · exact fun z => ⟨fun p p1 p2 q => z.1 p p1 p2 (brk_g.mpr (brk_g.mp q)), fun q => absurd q (by decide)⟩
  · have e1 : lowK 119 a = a := rfl
    rw [e1]
    unfold RuleHolds
    constructor
    · exact fun z => ⟨fun p p1 p2 q => brk_w q, z.2⟩
    · exact fun z => ⟨fun p p1 p2 q => brk_w q, z.2⟩
  · unfold RuleHolds
    constructor
    · exact fun z => ⟨fun p p1 p2 q => z.1 p p1 p2 (brk_m.mpr (brk_m.mp q)), fun q => absurd q (by decide)⟩
    · exact fun z => ⟨fun p p1 p2 q => z.1 p p1 p2 (brk_m.mpr (brk_m.mp q)), fun q => absurd q (by decide)⟩
theorem low_in {k a b : Int} (hok : RuleOk k a b) : (0 ≤ lowK k a ∧ lowK k a ≤ 2) ∧ (0 ≤ highK k b ∧ highK k b ≤ 2) ∧ (k = 99 ∨ k = 120 ∨ k = 103 ∨ k = 119 ∨ k = 109) := by
  unfold RuleOk at hok
  unfold lowK highK
  refine ⟨?_, ?_, by omega⟩
  · split <;> omega
  · split <;> omega
theorem first_congr {P Q : Int → Prop} {n r : Int} (h : ∀ i, 0 ≤ i → i < n → (P i ↔ Q i)) (hr : IsFirst P n r) : IsFirst Q n r := by
  rcases hr with ⟨g1, g2, g3, g4⟩ | ⟨g1, g2⟩
  · exact Or.inl ⟨g1, g2, (h r g1 g2).mp g3, fun j j1 j2 z => g4 j j1 j2 ((h j j1 (by omega)).mpr z)⟩
  · exact Or.inr ⟨g1, fun j j1 j2 z => g2 j j1 j2 ((h j j1 j2).mpr z)⟩
theorem RowV.congr {f g : Int → Int} (h : ∀ s, 0 ≤ s → s ≤ 303 → f s = g s) (hf : RowV f) : RowV g := ⟨fun j j1 j2 => by rw [← h j j1 (by omega)]; exact hf.1 j j1 j2, fun j j1 j2 => by rw [← h j (by omega) j2]; exact hf.2 j j1 j2⟩
/-- the rules, as the reference has them, on a row that is alike -/
theorem ru_first {rk ra rb kk ka kb mf f g : Int → Int} {rc r : Int} (hr : RuR rk ra rb kk ka kb mf rc) (h : ∀ s, 0 ≤ s → s ≤ 303 → f s = g s) (hF : IsFirst (fun i => ¬ RuleHolds (rk i) (ra i) (rb i) f) rc r) : IsFirst (fun i => ¬ RuleHolds (kk i) (ka i) (kb i) g) rc r := by
  refine first_congr (fun i i1 i2 => ?_) hF
  obtain ⟨h1, h2, h3, h4, -⟩ := hr i i1 i2
  rw [h2, h3, h4]
  exact not_congr ((rule_congr h1 h).trans (rule_low h1))
theorem ru_in {rk ra rb kk ka kb mf : Int → Int} {rc : Int} (hr : RuR rk ra rb kk ka kb mf rc) : ∀ i, 0 ≤ i → i < rc → (0 ≤ ka i ∧ ka i ≤ 2) ∧ (0 ≤ kb i ∧ kb i ≤ 2) ∧ (kk i = 99 ∨ kk i = 120 ∨ kk i = 103 ∨ kk i = 119 ∨ kk i = 109) := fun i i1 i2 => by
  obtain ⟨h1, h2, h3, h4, -⟩ := hr i i1 i2
  rw [h2, h3, h4]; exact low_in h1
theorem ru_ok {rk ra rb kk ka kb mf : Int → Int} {rc : Int} (hr : RuR rk ra rb kk ka kb mf rc) : ∀ i, 0 ≤ i → i < rc → RuleOk (rk i) (ra i) (rb i) := fun i i1 i2 => (hr i i1 i2).1
theorem first_none {P : Int → Prop} {n r : Int} (h : IsFirst P n r) (hr : r = -1) : ∀ j, 0 ≤ j → j < n → ¬ P j := by
  rcases h with ⟨g1, -⟩ | ⟨-, g2⟩
  · omega
  · exact g2
theorem RuR.mf {rk ra rb kk ka kb mf mf' f : Int → Int} {rc r : Int} (hr : RuR rk ra rb kk ka kb mf rc) (hF : IsFirst (fun i => ¬ RuleHolds (rk i) (ra i) (rb i) f) rc r) (h0 : r = -1) (h : ∀ s, 0 ≤ s → s ≤ 303 → f s = mf' s) : RuR rk ra rb kk ka kb mf' rc := fun i i1 i2 => by
  obtain ⟨h1, h2, h3, h4, -⟩ := hr i i1 i2
  exact ⟨h1, h2, h3, h4, rule_imp h1 h (Classical.byContradiction (first_none hF h0 i i1 i2))⟩
theorem G3.fresh {h : HP} {rc : Int} {mf : Int → Int} {k : Nat} {e : PE} (hk : h k = none) (hk2 : 1000 ≤ k) (g : G3 h rc mf) : G3 (hput h k e) rc mf := by
  obtain ⟨rk, ra, rb, rn, kk, ka, kb, ⟨f, g1, g0⟩, g2, g3, g4, g5⟩ := g
  refine ⟨rk, ra, rb, rn, kk, ka, kb, ⟨f, hput_o (by omega) g1, fun i i1 i2 => ?_⟩, hput_o (by omega) g2, hput_o (by omega) g3, hput_o (by omega) g4, g5⟩
  obtain ⟨z1, z2, z3⟩ := g0 i i1 i2
  exact ⟨z1, z2, hput_o (fun q => by rw [q, hk] at z3; exact absurd z3 (fun w => by cases w)) z3⟩
theorem cR.add {h h' : HP} {rc k a b : Int} {rk ra rb : Int → Int} {rn : Int → Nat} {f : Int → Option Nat} {n0 : Nat} (h0 : ∀ i, 0 ≤ i → i < rc → f i = some (rn i) ∧ 1000 ≤ rn i ∧ h (rn i) = some (oO 4 [vI (rk i), vI (ra i), vI (rb i)])) (hn0 : h n0 = none) (hn1 : 1000 ≤ n0) (e3 : h' 3 = some (oA 4 6 (fput f rc (some n0)))) (en : h' n0 = some (oO 4 [vI k, vI a, vI b])) (eo : ∀ j : Nat, 1000 ≤ j → j ≠ n0 → h' j = h j) : cR h' (rc + 1) (fput rk rc k) (fput ra rc a) (fput rb rc b) (fput rn rc n0) := by
  refine ⟨_, e3, fun i i1 i2 => ?_⟩
  by_cases q : i = rc
  · subst q
    rw [fput_s, fput_s, fput_s, fput_s, fput_s]
    exact ⟨rfl, hn1, en⟩
  · rw [fput_o q, fput_o q, fput_o q, fput_o q, fput_o q]
    obtain ⟨z1, z2, z3⟩ := h0 i i1 (by omega)
    exact ⟨z1, z2, (eo _ z2 (fun w => by rw [w, hn0] at z3; exact absurd z3 (fun w => by cases w))).trans z3⟩
theorem RuR.add {rk ra rb kk ka kb mf : Int → Int} {rc k a b : Int} (hr : RuR rk ra rb kk ka kb mf rc) (hok : RuleOk k a b) (hh : RuleHolds k a b mf) : RuR (fput rk rc k) (fput ra rc a) (fput rb rc b) (fput kk rc k) (fput ka rc (lowK k a)) (fput kb rc (highK k b)) mf (rc + 1) := fun i i1 i2 => by
  by_cases q : i = rc
  · subst q
    rw [fput_s, fput_s, fput_s, fput_s, fput_s, fput_s]
    exact ⟨hok, rfl, rfl, rfl, hh⟩
  · rw [fput_o q, fput_o q, fput_o q, fput_o q, fput_o q, fput_o q]
    exact hr i i1 (by omega)
/-! a version more -/
theorem mc_lo {mm f : Int → Int} {b j : Int} (h : j < b) : mcpy mm f b 304 j = mm j := mcpy_o (Or.inl h)
theorem mc_hi {mm f : Int → Int} {b s : Int} (s1 : 0 ≤ s) (s2 : s ≤ 303) : mcpy mm f b 304 (b + s) = f s := by unfold mcpy; rw [if_pos (by omega), show b + s - b = s by omega]
theorem VMx.add {mm f : Int → Int} {nw : Int} (h : VMx mm nw) (hn : 0 ≤ nw) (hf : RowV f) : VMx (mcpy mm f (304 * (nw + 1)) 304) (nw + 1) := by
  refine ⟨fun v v1 v2 => ?_, fun s s1 s2 => by rw [mc_lo (by omega)]; exact h.2 s s1 s2⟩
  by_cases q : v = nw + 1
  · subst q; exact hf.congr (fun s s1 s2 => (mc_hi s1 s2).symm)
  · exact (h.1 v v1 (by omega)).congr (fun s s1 s2 => (mc_lo (by omega)).symm)
theorem SvR.add {sv : Int → Int → Int} {mm mf f g : Int → Int} {nw : Int} (h : SvR sv mm nw) (hn : 0 ≤ nw) (hm : ∀ s, 0 ≤ s → s ≤ 303 → mf s = mm (304 * nw + s)) (hfg : ∀ s, 0 ≤ s → s ≤ 303 → f s = g s) : SvR (fput sv (nw + 1) (fmix (stpF mf f) (fun _ => 0) 304)) (mcpy mm g (304 * (nw + 1)) 304) (nw + 1) := fun v s v1 v2 s1 s2 => by
  by_cases q : v = nw + 1
  · subst q
    rw [fput_s, fmix_in s1 (by omega), mc_hi s1 s2, mc_lo (by omega), show nw + 1 - 1 = nw by omega, ← hm s s1 s2, ← hfg s s1 s2]
    rfl
  · rw [fput_o q, mc_lo (by omega), mc_lo (by omega)]; exact h v s v1 (by omega) s1 s2
theorem MgR.merge {gf mg mm f : Int → Int} {nw mcn : Int} (h : MgR gf mg mm nw mcn) (hn : 0 ≤ nw) (hc : 0 ≤ mcn) : MgR (fput gf mcn (nw + 1)) (fput mg mcn (nw + 1)) (mcpy mm f (304 * (nw + 1)) 304) (nw + 1) (mcn + 1) := by
  refine ⟨fun j j1 j2 => ?_, fun s s1 s2 _ => ?_, fun j s j1 j2 s1 s2 => ?_⟩
  · by_cases q : j = mcn
    · subst q; rw [fput_s, fput_s]; omega
    · rw [fput_o q, fput_o q]; obtain ⟨z1, z2, z3⟩ := h.1 j j1 (by omega); omega
  · rw [show mcn + 1 - 1 = mcn by omega, fput_s]
  · by_cases q : j = mcn
    · subst q
      have z := h.1 (j - 1) (by omega) (by omega)
      rw [fput_s, fput_o (by omega), mc_lo (by omega), mc_lo (by omega), show nw + 1 - 1 = nw by omega]
      exact h.2.1 s s1 s2 (by omega)
    · have z := h.1 j (by omega) (by omega)
      have z2 := h.1 (j - 1) (by omega) (by omega)
      rw [fput_o q, fput_o (by omega), mc_lo (by omega), mc_lo (by omega)]
      exact h.2.2 j s j1 (by omega) s1 s2
theorem MgR.undo {gf mg mm f : Int → Int} {nw mcn : Int} (h : MgR gf mg mm nw mcn) (hc : 1 ≤ mcn) (hf : ∀ s, 0 ≤ s → s ≤ 303 → f s = mm (304 * (mg (mcn - 1) - 1) + s)) : MgR gf mg (mcpy mm f (304 * (nw + 1)) 304) (nw + 1) (mcn - 1) := by
  refine ⟨fun j j1 j2 => ?_, fun s s1 s2 hc2 => ?_, fun j s j1 j2 s1 s2 => ?_⟩
  · obtain ⟨z1, z2, z3⟩ := h.1 j j1 (by omega); omega
  · have z := h.1 (mcn - 1 - 1) (by omega) (by omega)
    rw [mc_hi s1 s2, mc_lo (by omega), hf s s1 s2]
    exact h.2.2 (mcn - 1) s (by omega) (by omega) s1 s2
  · have z := h.1 j (by omega) (by omega)
    have z2 := h.1 (j - 1) (by omega) (by omega)
    rw [mc_lo (by omega), mc_lo (by omega)]
    exact h.2.2 j s j1 (by omega) s1 s2
theorem cHf.step {h h' : HP} {nw mcn mcn' : Int} {sv : Int → Int → Int} {gf gf' : Int → Int} {stf : Int → Option Nat} {x : Int → Int} (c : cHf h nw mcn sv gf stf) (hn : 0 ≤ nw ∧ nw ≤ 39) (e6 : h' 6 = some (oO 2 [vI (nw + 1), vR 11, vR 12, vI mcn'])) (e11 : h' 11 = some (oA 7 41 (fput stf (nw + 1) (some (stN (nw + 1)))))) (e12 : h' 12 = some (oI 40 gf'))
    (es : h' (stN (nw + 1)) = some (oO 6 [vR (stN (nw + 1) + 1)])) (ex : h' (stN (nw + 1) + 1) = some (oI 304 x)) (eo : ∀ k : Nat, 102 ≤ k → k ≤ 181 → k ≠ stN (nw + 1) → k ≠ stN (nw + 1) + 1 → h' k = h k) : cHf h' (nw + 1) mcn' (fput sv (nw + 1) x) gf' (fput stf (nw + 1) (some (stN (nw + 1)))) := by
  obtain ⟨⟨c1, c2, c3⟩, c4, c5⟩ := c
  refine ⟨⟨e6, e11, fun v v1 v2 => ?_⟩, e12, fun v v1 v2 => ?_⟩
  · by_cases q : v = nw + 1
    · subst q; rw [fput_s, fput_s]; exact ⟨rfl, es, ex⟩
    · rw [fput_o q, fput_o q]
      obtain ⟨z1, z2, z3⟩ := c3 v v1 (by omega)
      have b1 := stN_ge v1
      have b2 := stN_le (v := v) (by omega)
      have b3 : stN v ≠ stN (nw + 1) ∧ stN v ≠ stN (nw + 1) + 1 ∧ stN v + 1 ≠ stN (nw + 1) ∧ stN v + 1 ≠ stN (nw + 1) + 1 := by unfold stN; omega
      exact ⟨z1, (eo _ b1 (by omega) b3.1 b3.2.1).trans z2, (eo _ (by omega) b2 b3.2.2.1 b3.2.2.2).trans z3⟩
  · have b1 := stN_ge (v := v) (by omega)
    have b2 := stN_le (v := v) v2
    have b3 : stN v ≠ stN (nw + 1) ∧ stN v ≠ stN (nw + 1) + 1 ∧ stN v + 1 ≠ stN (nw + 1) ∧ stN v + 1 ≠ stN (nw + 1) + 1 := by unfold stN; omega
    obtain ⟨z1, z2⟩ := c5 v (by omega) v2
    exact ⟨(eo _ b1 (by omega) b3.1 b3.2.1).trans z1, (eo _ (by omega) b2 b3.2.2.1 b3.2.2.2).trans z2⟩
/-! tiles thrown out, in both -/
def Cov (k j : Int) : Prop := j = slV 0 8 (k / 64) (k % 64 % 8 / 1) (k % 64 / 8 / 1) ∨ j = slV 64 4 (k / 64) (k % 64 % 8 / 2) (k % 64 / 8 / 2) ∨ j = slV 80 2 (k / 64) (k % 64 % 8 / 4) (k % 64 / 8 / 4) ∨ j = slV 84 1 (k / 64) (k % 64 % 8 / 8) (k % 64 / 8 / 8)
theorem thr_y {f : Int → Int} {k j : Int} (h : Cov k j) : thr f (k / 64) (k % 64 % 8) (k % 64 / 8) j = -1 := by
  unfold thr fput
  unfold Cov at h
  repeat' split
  all_goals first | rfl | (exfalso; omega)
theorem thr_n {f : Int → Int} {k j : Int} (h : ¬ Cov k j) : thr f (k / 64) (k % 64 % 8) (k % 64 / 8) j = f j := by
  unfold Cov at h
  unfold thr
  rw [fput_o (fun z => h (by omega)), fput_o (fun z => h (by omega)), fput_o (fun z => h (by omega)), fput_o (fun z => h (by omega))]
theorem thU_at {f r1 r2 : Int → Int} : ∀ (n : Nat) (j : Int), (thU f r1 r2 n j = -1 ∨ thU f r1 r2 n j = f j) ∧ ∀ k : Int, 0 ≤ k → k < n → r1 k ≠ r2 k → Cov k j → thU f r1 r2 n j = -1 := by
  intro n
  induction n with
  | zero => intro j; exact ⟨Or.inr rfl, fun k k1 k2 => absurd k2 (by omega)⟩
  | succ n ih =>
    intro j
    obtain ⟨h1, h2⟩ := ih j
    unfold thU
    by_cases q : r1 (n : Int) ≠ r2 (n : Int)
    · rw [if_pos q]
      by_cases c : Cov (n : Int) j
      · rw [thr_y c]; exact ⟨Or.inl rfl, fun _ _ _ _ _ => rfl⟩
      · rw [thr_n c]
        refine ⟨h1, fun k k1 k2 k3 k4 => ?_⟩
        by_cases e : k = n
        · subst e; exact absurd k4 c
        · exact h2 k k1 (by omega) k3 k4
    · rw [if_neg q]
      refine ⟨h1, fun k k1 k2 k3 k4 => ?_⟩
      by_cases e : k = n
      · subst e; exact absurd k3 q
      · exact h2 k k1 (by omega) k3 k4
theorem pin_congr {f g : Int → Int} {l a s x y : Int} (h : ∀ r q, 0 ≤ r → r < s → 0 ≤ q → q < s → f (64 * l + (8 * (y * s + r) + x * s + q)) = g (64 * l + (8 * (y * s + r) + x * s + q))) : pin f l a s x y = pin g l a s x y := by
  unfold pin
  exact sum_congr (fun r r1 r2 => cnt_congr (fun q q1 q2 => by rw [h r q r1 r2 q1 q2]))
theorem mca_congr {f g : Int → Int} {l s x y : Int} (h : ∀ r q, 0 ≤ r → r < s → 0 ≤ q → q < s → f (64 * l + (8 * (y * s + r) + x * s + q)) = g (64 * l + (8 * (y * s + r) + x * s + q))) : mcaV f l s x y = mcaV g l s x y := by
  unfold mcaV
  rw [mcb_congr 10 (fun a _ _ => pin_congr h)]
theorem tr_0 {tl mf f mf' : Int → Int} {l : Int} (hl : 0 ≤ l ∧ l ≤ 2) (h : TR tl mf 0 8 1 l) (hf : ∀ s, 0 ≤ s → s ≤ 303 → mf' s = f s) : TR (thU tl mf f 192) mf' 0 8 1 l := fun x y x1 x2 y1 y2 hz => by
  obtain ⟨k1, k2⟩ := thU_at (f := tl) (r1 := mf) (r2 := f) 192 (slV 0 8 l x y)
  have e := k1.resolve_left hz
  rw [e] at hz ⊢
  rw [h x y x1 x2 y1 y2 hz]
  refine mca_congr (fun r q r1 r2 q1 q2 => ?_)
  rw [hf _ (by omega) (by omega)]
  refine Classical.byContradiction (fun hne => ?_)
  have := k2 (64 * l + (8 * (y * 1 + r) + x * 1 + q)) (by omega) (by omega) hne (Or.inl (by rw [show (64 * l + (8 * (y * 1 + r) + x * 1 + q)) / 64 = l by omega, show (64 * l + (8 * (y * 1 + r) + x * 1 + q)) % 64 % 8 / 1 = x by omega, show (64 * l + (8 * (y * 1 + r) + x * 1 + q)) % 64 / 8 / 1 = y by omega]))
  rw [e] at this
  exact hz this
theorem tr_1 {tl mf f mf' : Int → Int} {l : Int} (hl : 0 ≤ l ∧ l ≤ 2) (h : TR tl mf 64 4 2 l) (hf : ∀ s, 0 ≤ s → s ≤ 303 → mf' s = f s) : TR (thU tl mf f 192) mf' 64 4 2 l := fun x y x1 x2 y1 y2 hz => by
  obtain ⟨k1, k2⟩ := thU_at (f := tl) (r1 := mf) (r2 := f) 192 (slV 64 4 l x y)
  have e := k1.resolve_left hz
  rw [e] at hz ⊢
  rw [h x y x1 x2 y1 y2 hz]
  refine mca_congr (fun r q r1 r2 q1 q2 => ?_)
  rw [hf _ (by omega) (by omega)]
  refine Classical.byContradiction (fun hne => ?_)
  have := k2 (64 * l + (8 * (y * 2 + r) + x * 2 + q)) (by omega) (by omega) hne (Or.inr (Or.inl (by rw [show (64 * l + (8 * (y * 2 + r) + x * 2 + q)) / 64 = l by omega, show (64 * l + (8 * (y * 2 + r) + x * 2 + q)) % 64 % 8 / 2 = x by omega, show (64 * l + (8 * (y * 2 + r) + x * 2 + q)) % 64 / 8 / 2 = y by omega])))
  rw [e] at this
  exact hz this
theorem tr_2 {tl mf f mf' : Int → Int} {l : Int} (hl : 0 ≤ l ∧ l ≤ 2) (h : TR tl mf 80 2 4 l) (hf : ∀ s, 0 ≤ s → s ≤ 303 → mf' s = f s) : TR (thU tl mf f 192) mf' 80 2 4 l := fun x y x1 x2 y1 y2 hz => by
  obtain ⟨k1, k2⟩ := thU_at (f := tl) (r1 := mf) (r2 := f) 192 (slV 80 2 l x y)
  have e := k1.resolve_left hz
  rw [e] at hz ⊢
  rw [h x y x1 x2 y1 y2 hz]
  refine mca_congr (fun r q r1 r2 q1 q2 => ?_)
  rw [hf _ (by omega) (by omega)]
  refine Classical.byContradiction (fun hne => ?_)
  have := k2 (64 * l + (8 * (y * 4 + r) + x * 4 + q)) (by omega) (by omega) hne (Or.inr (Or.inr (Or.inl (by rw [show (64 * l + (8 * (y * 4 + r) + x * 4 + q)) / 64 = l by omega, show (64 * l + (8 * (y * 4 + r) + x * 4 + q)) % 64 % 8 / 4 = x by omega, show (64 * l + (8 * (y * 4 + r) + x * 4 + q)) % 64 / 8 / 4 = y by omega]))))
  rw [e] at this
  exact hz this
theorem tr_3 {tl mf f mf' : Int → Int} {l : Int} (hl : 0 ≤ l ∧ l ≤ 2) (h : TR tl mf 84 1 8 l) (hf : ∀ s, 0 ≤ s → s ≤ 303 → mf' s = f s) : TR (thU tl mf f 192) mf' 84 1 8 l := fun x y x1 x2 y1 y2 hz => by
  obtain ⟨k1, k2⟩ := thU_at (f := tl) (r1 := mf) (r2 := f) 192 (slV 84 1 l x y)
  have e := k1.resolve_left hz
  rw [e] at hz ⊢
  rw [h x y x1 x2 y1 y2 hz]
  refine mca_congr (fun r q r1 r2 q1 q2 => ?_)
  rw [hf _ (by omega) (by omega)]
  refine Classical.byContradiction (fun hne => ?_)
  have := k2 (64 * l + (8 * (y * 8 + r) + x * 8 + q)) (by omega) (by omega) hne (Or.inr (Or.inr (Or.inr (by rw [show (64 * l + (8 * (y * 8 + r) + x * 8 + q)) / 64 = l by omega, show (64 * l + (8 * (y * 8 + r) + x * 8 + q)) % 64 % 8 / 8 = x by omega, show (64 * l + (8 * (y * 8 + r) + x * 8 + q)) % 64 / 8 / 8 = y by omega]))))
  rw [e] at this
  exact hz this
theorem TilR.step {tl mf f mf' : Int → Int} (h : TilR tl mf) (hf : ∀ s, 0 ≤ s → s ≤ 303 → mf' s = f s) : TilR (thU tl mf f 192) mf' := fun l l1 l2 => by
  obtain ⟨h0, h1, h2, h3⟩ := h l l1 l2
  exact ⟨tr_0 ⟨l1, l2⟩ h0 hf, tr_1 ⟨l1, l2⟩ h1 hf, tr_2 ⟨l1, l2⟩ h2 hf, tr_3 ⟨l1, l2⟩ h3 hf⟩
theorem mtix_0 {n : Int} (h : 0 ≤ n ∧ n < 192) : mtix n 0 = 0 + (64 * (n / 64)) + (8 * (n % 64 / 8 / 1)) + n % 64 % 8 / 1 := by unfold mtix msz; simp <;> omega
theorem mtix_1 {n : Int} (h : 0 ≤ n ∧ n < 192) : mtix n 1 = 192 + (64 * (n / 64)) + (8 * (n % 64 / 8 / 2)) + n % 64 % 8 / 2 := by unfold mtix msz; simp <;> omega
theorem mtix_2 {n : Int} (h : 0 ≤ n ∧ n < 192) : mtix n 2 = 384 + (64 * (n / 64)) + (8 * (n % 64 / 8 / 4)) + n % 64 % 8 / 4 := by unfold mtix msz; simp <;> omega
theorem mtix_3 {n : Int} (h : 0 ≤ n ∧ n < 192) : mtix n 3 = 576 + (64 * (n / 64)) + (8 * (n % 64 / 8 / 8)) + n % 64 % 8 / 8 := by unfold mtix msz; simp <;> omega
theorem TlR.thr {tl ml : Int → Int} {n : Int} (h : TlR tl ml) (hn : 0 ≤ n ∧ n < 192) : TlR (thr tl (n / 64) (n % 64 % 8) (n % 64 / 8)) (mth4 ml n 4) := by
  have a0 := tlr_0 (l := n / 64) (x := n % 64 % 8 / 1) (y := n % 64 / 8 / 1) (V := -1) h (by omega) (by omega) (by omega) (by decide)
  have a1 := tlr_1 (l := n / 64) (x := n % 64 % 8 / 2) (y := n % 64 / 8 / 2) (V := -1) a0 (by omega) (by omega) (by omega) (by decide)
  have a2 := tlr_2 (l := n / 64) (x := n % 64 % 8 / 4) (y := n % 64 / 8 / 4) (V := -1) a1 (by omega) (by omega) (by omega) (by decide)
  have a3 := tlr_3 (l := n / 64) (x := n % 64 % 8 / 8) (y := n % 64 / 8 / 8) (V := -1) a2 (by omega) (by omega) (by omega) (by decide)
  have e : mth4 ml n 4 = fput (fput (fput (fput ml (mtix n 0) (-1)) (mtix n 1) (-1)) (mtix n 2) (-1)) (mtix n 3) (-1) := rfl
  rw [e, mtix_0 hn, mtix_1 hn, mtix_2 hn, mtix_3 hn]
  exact a3
theorem TlR.step {tl ml mf f g M : Int → Int} (h : TlR tl ml) (he : ∀ s, 0 ≤ s → s ≤ 303 → (mf s ≠ f s ↔ g s ≠ M s)) : ∀ n : Nat, n ≤ 192 → TlR (thU tl mf f n) (mthU ml g M n) := by
  intro n
  induction n with
  | zero => intro _; exact h
  | succ n ih =>
    intro hn
    unfold thU mthU
    have hq := he n (by omega) (by omega)
    by_cases q : mf (n : Int) ≠ f (n : Int)
    · rw [if_pos q, if_pos (hq.mp q)]; exact (ih (by omega)).thr (by omega)
    · rw [if_neg q, if_neg (fun z => q (hq.mpr z))]; exact ih (by omega)
