def RtG (v : Option PV) (h : HP) (G : Nat) (P : (Int → Int) → Prop) : PR → HP → Prop := fun r h' => ∃ q : Int → Int, r = .inl v ∧ h' = hput h G (oI 64 q) ∧ P q
section KOG
variable {x : Cx} {pc : Nat} {ls : List (Nat × PV)} {st : List PV} {h h0 : HP} {cl sl : Nat}
theorem ko_rg {v : PV} {G : Nat} {P : (Int → Int) → Prop} (k : ∀ (q : Int → Int), P q → T x (pc + 3) ls (v :: st) (hput h0 G (oI 64 q)) cl sl) : ∀ r h', RtG (some v) h0 G P r h' → Ko x pc ls st cl sl r h' := by
  rintro r h' ⟨q, rfl, rfl, hp⟩
  exact k q hp
theorem ko_rgn {G : Nat} {P : (Int → Int) → Prop} (k : ∀ (q : Int → Int), P q → T x (pc + 3) ls st (hput h0 G (oI 64 q)) cl sl) : ∀ r h', RtG none h0 G P r h' → Ko x pc ls st cl sl r h' := by
  rintro r h' ⟨q, rfl, rfl, hp⟩
  exact k q hp
end KOG
/-- the group a put into the group b -/
def jn (g : Int → Int) (a b : Int) : Int → Int := fun k => if g k = a then b else g k
theorem jn_eq {g : Int → Int} {a b p q : Int} (h : g p = g q) : jn g a b p = jn g a b q := by
  unfold jn; rw [h]
theorem jn_ab {g : Int → Int} {p q : Int} : jn g (g p) (g q) p = jn g (g p) (g q) q := by
  unfold jn
  rw [if_pos rfl]
  by_cases e : g q = g p
  · rw [if_pos e]
  · rw [if_neg e]
theorem jn_mix {g : Int → Int} {a b i v : Int} (h : 0 ≤ i) (hv : g i = a) (he : v = b) : fput (fmix (jn g a b) g i) i v = fmix (jn g a b) g (i + 1) := by
  refine fmix_s h ?_
  unfold jn
  rw [if_pos hv]; exact he
theorem jn_mixn {g : Int → Int} {a b i : Int} (h : 0 ≤ i) (hv : g i ≠ a) : fmix (jn g a b) g i = fmix (jn g a b) g (i + 1) := by
  have e := fmix_s (F := jn g a b) (f := g) (i := i) (v := g i) h (by unfold jn; rw [if_neg hv])
  rw [← e]
  funext k
  unfold fput
  by_cases q : k = i
  · subst q; rw [if_pos rfl]; unfold fmix; rw [if_neg (by omega)]
  · rw [if_neg q]
theorem fmix_at {F f : Int → Int} {i k : Int} (h : i ≤ k) : fmix F f i k = f k := by
  unfold fmix; rw [if_neg (by omega)]
/-- places that touch and are alike are in one group, the places below i, and i itself with those below j -/
def GrU (f : Int → Int) (l : Int) (g : Int → Int) (i j : Int) : Prop := ∀ p q, 0 ≤ p → p ≤ 63 → 0 ≤ q → q < p → (p < i ∨ (p = i ∧ q < j)) → Touch p q → f (64 * l + p) = f (64 * l + q) → g p = g q
def GrOk (f : Int → Int) (l : Int) (g : Int → Int) : Prop := ∀ p q, 0 ≤ p → p ≤ 63 → 0 ≤ q → q ≤ 63 → Touch p q → f (64 * l + p) = f (64 * l + q) → g p = g q
theorem gr_jn {f g : Int → Int} {l i j : Int} (hi : i ≤ 63) (h : GrU f l g i j) (hj : 0 ≤ j ∧ j < i) : GrU f l (fmix (jn g (g i) (g j)) g 64) i (j + 1) := by
  intro p q p1 p2 q1 q2 h1 h2 h3
  rw [fmix_in p1 (by omega), fmix_in q1 (by omega)]
  by_cases e : p = i ∧ q = j
  · rw [e.1, e.2]; exact jn_ab
  · exact jn_eq (h p q p1 p2 q1 q2 (by omega) h2 h3)
theorem gr_no {f g : Int → Int} {l i j : Int} (h : GrU f l g i j) (hn : ¬ (Touch i j ∧ f (64 * l + i) = f (64 * l + j))) : GrU f l g i (j + 1) := by
  intro p q p1 p2 q1 q2 h1 h2 h3
  by_cases e : p = i ∧ q = j
  · rw [e.1, e.2] at h2 h3; exact absurd ⟨h2, h3⟩ hn
  · exact h p q p1 p2 q1 q2 (by omega) h2 h3
theorem gr_row {f g : Int → Int} {l i j : Int} (h : GrU f l g i j) (hj : i ≤ j) : GrU f l g (i + 1) 0 := by
  intro p q p1 p2 q1 q2 h1 h2 h3
  exact h p q p1 p2 q1 q2 (by omega) h2 h3
theorem touch_symm {p q : Int} (h : Touch p q) : Touch q p := by unfold Touch at *; omega
theorem gr_end {f g : Int → Int} {l i : Int} (h : GrU f l g i 0) (hi : 64 ≤ i) : GrOk f l g := by
  intro p q p1 p2 q1 q2 h1 h2
  rcases Int.lt_trichotomy p q with e | e | e
  · exact Eq.symm (h q p q1 q2 p1 e (by omega) (touch_symm h1) (Eq.symm h2))
  · rw [e]
  · exact h p q p1 p2 q1 e (by omega) h1 h2
theorem besid_touch {p d q : Int} (hp : 0 ≤ p ∧ p ≤ 63) (hd : 0 ≤ d ∧ d ≤ 3) (h : besid p d = q) (hq : q ≠ -1) : Touch p q := by
  have hd4 : d = 0 ∨ d = 1 ∨ d = 2 ∨ d = 3 := by omega
  unfold Touch
  rcases hd4 with e | e | e | e <;> subst e <;> unfold besid at h <;> simp at h <;> split at h <;> omega
theorem touch_besid {p q : Int} (hp : 0 ≤ p ∧ p ≤ 63) (hq : 0 ≤ q ∧ q ≤ 63) (h : Touch p q) : ∃ d, 0 ≤ d ∧ d ≤ 3 ∧ besid p d = q ∧ q ≠ -1 := by
  unfold Touch at h
  rcases h with e | e | e | e
  · exact ⟨1, by omega, by omega, by unfold besid; simp; omega, by omega⟩
  · exact ⟨3, by omega, by omega, by unfold besid; simp; omega, by omega⟩
  · exact ⟨0, by omega, by omega, by unfold besid; simp; omega, by omega⟩
  · exact ⟨2, by omega, by omega, by unfold besid; simp; omega, by omega⟩
theorem gr_reach {f g : Int → Int} {l p : Int} (h : GrOk f l g) (hp : 0 ≤ p ∧ p ≤ 63) : ∀ q, Reach (LikeJ f l) p q → g p = g q :=
  reach_ind (R := fun q => g p = g q) hp rfl (fun a b ha h1 h2 => by
    obtain ⟨d, d1, d2, d3, d4, d5⟩ := h2
    have hb := besid_in (d := d) ha
    exact Eq.trans h1 (h a b ha.1 ha.2 (by omega) (by omega) (besid_touch ha ⟨d1, d2⟩ d3 d4) d5))
/-- the partners of a place that a look by pairs counts -/
def PartP (k a b : Int) (f g : Int → Int) (p q : Int) : Prop := (k = 109 ∧ RoadB f p q) ∨ (k = 103 ∧ Touch p q ∧ f (64 * a + q) = 0) ∨ (k = 119 ∧ f (64 * a + p) = f (64 * a + q) ∧ g p ≠ g q) ∨ ((k = 99 ∨ k = 120) ∧ p = q ∧ f (64 * b + q) ≠ 0)
theorem road_touch {f : Int → Int} {p q : Int} (h : RoadB f p q) : Touch p q := by unfold RoadB at h; unfold Touch; omega
/-- as many roads to other places as on its sides -/
theorem roads_eq {f : Int → Int} {p : Int} (hp : 0 ≤ p ∧ p ≤ 63) : cnt (fun q => RoadB f p q) 64 = rdN f p := by
  have one : ∀ (A : Prop) (c : Int) (n : Nat), cntN (fun q => q = c ∧ A) n = if 0 ≤ c ∧ c < n then @ite Int A (Classical.propDecidable _) 1 0 else 0 := by
    intro A c n
    induction n with
    | zero => rw [if_neg (by omega)]; rfl
    | succ n ih =>
      unfold cntN
      rw [ih]
      by_cases e : (n : Int) = c
      · have k1 : ¬ (0 ≤ c ∧ c < (n : Int)) := by omega
        have k2 : 0 ≤ c ∧ c < ((n + 1 : Nat) : Int) := by push_cast; omega
        by_cases hA : A
        · rw [if_neg k1, if_pos k2, if_pos hA, if_pos ⟨e, hA⟩]; rfl
        · rw [if_neg k1, if_pos k2, if_neg hA, if_neg (fun z => hA z.2)]; rfl
      · have k3 : ¬ ((n : Int) = c ∧ A) := fun z => e z.1
        by_cases e2 : 0 ≤ c ∧ c < (n : Int)
        · have k2 : 0 ≤ c ∧ c < ((n + 1 : Nat) : Int) := by push_cast; omega
          rw [if_pos e2, if_neg k3, if_pos k2, Int.add_zero]
        · have k2 : ¬ (0 ≤ c ∧ c < ((n + 1 : Nat) : Int)) := by push_cast; omega
          rw [if_neg e2, if_neg k3, if_neg k2]; rfl
  have add : ∀ (P Q : Int → Prop) (n : Nat), (∀ i : Int, 0 ≤ i → i < n → ¬ (P i ∧ Q i)) → cntN (fun q => P q ∨ Q q) n = cntN P n + cntN Q n := by
    intro P Q n
    induction n with
    | zero => intro _; rfl
    | succ n ih =>
      intro h
      unfold cntN
      rw [ih (fun i g1 g2 => h i g1 (by omega))]
      have hn := h n (by omega) (by omega)
      by_cases h1 : P (n : Int)
      · rw [if_pos h1, if_pos (Or.inl h1), if_neg (fun z => hn ⟨h1, z⟩)]; omega
      · by_cases h2 : Q (n : Int)
        · rw [if_neg h1, if_pos h2, if_pos (Or.inr h2)]; omega
        · rw [if_neg h1, if_neg h2, if_neg (fun z => z.elim h1 h2)]; omega
  let S : Int → Int → Prop := fun d q => q = besid p d ∧ (besid p d ≠ -1 ∧ RoadB f p (besid p d))
  have hS : ∀ q, 0 ≤ q → q < 64 → (RoadB f p q ↔ (((S 0 q ∨ S 1 q) ∨ S 2 q) ∨ S 3 q)) := by
    intro q q1 q2
    constructor
    · intro h
      obtain ⟨d, d1, d2, d3, d4⟩ := touch_besid hp ⟨q1, by omega⟩ (road_touch h)
      have hd4 : d = 0 ∨ d = 1 ∨ d = 2 ∨ d = 3 := by omega
      have hs : S d q := ⟨d3.symm, by rw [d3]; exact d4, by rw [d3]; exact h⟩
      rcases hd4 with e | e | e | e <;> subst e
      · exact Or.inl (Or.inl (Or.inl hs))
      · exact Or.inl (Or.inl (Or.inr hs))
      · exact Or.inl (Or.inr hs)
      · exact Or.inr hs
    · rintro (((h | h) | h) | h) <;> (rw [h.1]; exact h.2.2)
  have dis : ∀ d e q, 0 ≤ d → d < e → e ≤ 3 → ¬ (S d q ∧ S e q) := by
    rintro d e q h1 h2 h3 ⟨⟨a1, a2, -⟩, b1, b2, -⟩
    have hde : (d = 0 ∧ e = 1) ∨ (d = 0 ∧ e = 2) ∨ (d = 0 ∧ e = 3) ∨ (d = 1 ∧ e = 2) ∨ (d = 1 ∧ e = 3) ∨ (d = 2 ∧ e = 3) := by omega
    rw [← a1] at a2
    rcases hde with ⟨x1, x2⟩ | ⟨x1, x2⟩ | ⟨x1, x2⟩ | ⟨x1, x2⟩ | ⟨x1, x2⟩ | ⟨x1, x2⟩ <;> subst x1 <;> subst x2 <;> unfold besid at a1 b1 <;> simp at a1 b1 <;> split at a1 <;> split at b1 <;> omega
  rw [cnt_congr (Q := fun q => ((S 0 q ∨ S 1 q) ∨ S 2 q) ∨ S 3 q) hS]
  unfold cnt rdN cnt
  rw [show (64 : Int).toNat = 64 from rfl, show (4 : Int).toNat = 4 from rfl]
  rw [add _ _ 64 (fun i _ _ z => z.1.elim (fun z1 => z1.elim (fun z2 => dis 0 3 i (by omega) (by omega) (by omega) ⟨z2, z.2⟩) (fun z2 => dis 1 3 i (by omega) (by omega) (by omega) ⟨z2, z.2⟩)) (fun z2 => dis 2 3 i (by omega) (by omega) (by omega) ⟨z2, z.2⟩)),
    add _ _ 64 (fun i _ _ z => z.1.elim (fun z2 => dis 0 2 i (by omega) (by omega) (by omega) ⟨z2, z.2⟩) (fun z2 => dis 1 2 i (by omega) (by omega) (by omega) ⟨z2, z.2⟩)),
    add _ _ 64 (fun i _ _ z => dis 0 1 i (by omega) (by omega) (by omega) z)]
  have val : ∀ d, cntN (S d) 64 = @ite Int (besid p d ≠ -1 ∧ RoadB f p (besid p d)) (Classical.propDecidable _) 1 0 := by
    intro d
    have hb := besid_in (d := d) hp
    refine (one (besid p d ≠ -1 ∧ RoadB f p (besid p d)) (besid p d) 64).trans ?_
    by_cases e : besid p d = -1
    · rw [if_neg (by omega), if_neg (fun z => z.1 e)]
    · rw [if_pos (by omega)]
  rw [val, val, val, val]
  show _ = (((0 + _) + _) + _) + _
  rw [Int.zero_add]
  rfl

set_option maxRecDepth 20000 in
set_option maxHeartbeats 4000000 in
theorem k_PairCheck {g : Gx} {h : HP} {c : Nat} {G9 : Nat} (hc : h c = some (oO 3 [vN])) (hG : h G9 = none) (n1 : c ≠ G9) : Ct g yX4_init (.code yX4_init cX4_init 1 none) 1 1 64 [vR c] h (Rt none ((hput (hput h G9 (oI 64 (fun _ => 0))) c (oO 3 [vR G9])))) := by
  refine Ct.of (by decide) (Nat.le_of_ble_eq_true rfl) (fun x hg C F => ?_)
  subst hg
  show T x 0 [(0, vR c)] [] h 0 0
  refine st_aload_n C 0 dX4_init_0 rfl rfl ?_
  refine st_objInit C dX4_init_1 oi_X4_3 oi_2 oi_3 (by decide) (Nat.le_of_ble_eq_true rfl) ?_
  refine st_aload_n C 0 dX4_init_4 rfl rfl ?_
  refine st_bipush C dX4_init_5 (by decide) (by decide) ?_
  refine st_newI C 64 dX4_init_7 G9 rfl (by decide) ac_I hG (by omega) (by omega) ?_
  show T x 9 [(0, vR c)] [vR G9, vR c] (hput h G9 (oI 64 (fun _ => 0))) (0 + 1) (0 + 64)
  refine st_putf C dX4_init_9 fp_X4_9 (fun _ => rfl) (hput_o (by omega) hc) (Nat.le_of_ble_eq_true rfl) fit_arrR ?_
  show T x 12 [(0, vR c)] [] (hput (hput h G9 (oI 64 (fun _ => 0))) c (oO 3 [vR G9])) _ _
  exact st_return C F dX4_init_12 rfl ⟨rfl, rfl⟩ (by omega) (by omega)
set_option maxRecDepth 20000 in
set_option maxHeartbeats 4000000 in
theorem k_isLike_t {g : Gx} {h : HP}  {r : Nat} {rf : Int → Int} {l p9 q9 : Int}  (hr : h r = some (oI 304 rf)) (hl : 0 ≤ l ∧ l ≤ 2) (hp : 0 ≤ p9 ∧ p9 ≤ 63) (hq : 0 ≤ q9 ∧ q9 ≤ 63) (hP : rf (64 * l + p9) = rf (64 * l + q9)) : Ct g yX4_isLike (.code yX4_isLike cX4_isLike 4 (some .boolean)) 2 0 0 [vR r, vI l, vI p9, vI q9] h (Rt (some (vI 1)) h) := by
  refine Ct.of (by decide) (Nat.le_of_ble_eq_true rfl) (fun x hg C F => ?_)
  subst hg
  show T x 0 [(0, vR r), (1, vI l), (2, vI p9), (3, vI q9)] [] h 0 0
  refine st_aload_n C 0 dX4_isLike_0 rfl rfl ?_
  refine st_iload_n C 1 dX4_isLike_1 rfl rfl ?_
  refine st_iload_n C 2 dX4_isLike_2 rfl rfl ?_
  refine st_callS (st := []) C dX4_isLike_3 [vR r, vI l, vI p9] (k_areaAt (f := rf) (l := l) (p := p9) hr (by omega) (by omega)) w_X4_43 rfl (by decide) (by decide) (by omega) (by omega) (Nat.le_of_ble_eq_true rfl) (ko_rt ?_)
  show T x 6 [(0, vR r), (1, vI l), (2, vI p9), (3, vI q9)] [vI (rf (64 * l + p9))] _ _ _
  refine st_aload_n C 0 dX4_isLike_6 rfl rfl ?_
  refine st_iload_n C 1 dX4_isLike_7 rfl rfl ?_
  refine st_iload_n C 3 dX4_isLike_8 rfl rfl ?_
  refine st_callS (st := [vI (rf (64 * l + p9))]) C dX4_isLike_9 [vR r, vI l, vI q9] (k_areaAt (f := rf) (l := l) (p := q9) hr (by omega) (by omega)) w_X4_43 rfl (by decide) (by decide) (by omega) (by omega) (Nat.le_of_ble_eq_true rfl) (ko_rt ?_)
  show T x 12 [(0, vR r), (1, vI l), (2, vI p9), (3, vI q9)] [vI (rf (64 * l + q9)), vI (rf (64 * l + p9))] _ _ _
  refine st_icmp_ne (tgt := 19) C dX4_isLike_12 (by decide) (fun c_12 => ?_) (fun c_12 => ?_)
  · refine st_iconst C dX4_isLike_19 (by decide) ?_
    exact st_zreturn C F dX4_isLike_20 rfl (by omega) (rt_i (by omega) rfl) (by omega) (by omega)
  · refine st_iconst C dX4_isLike_15 (by decide) ?_
    refine st_goto (tgt := 20) C dX4_isLike_16 (by decide) ?_
    exact st_zreturn C F dX4_isLike_20 rfl (by omega) (rt_i (by omega) rfl) (by omega) (by omega)
set_option maxRecDepth 20000 in
set_option maxHeartbeats 4000000 in
theorem k_isLike_f {g : Gx} {h : HP}  {r : Nat} {rf : Int → Int} {l p9 q9 : Int}  (hr : h r = some (oI 304 rf)) (hl : 0 ≤ l ∧ l ≤ 2) (hp : 0 ≤ p9 ∧ p9 ≤ 63) (hq : 0 ≤ q9 ∧ q9 ≤ 63) (hP : ¬ (rf (64 * l + p9) = rf (64 * l + q9))) : Ct g yX4_isLike (.code yX4_isLike cX4_isLike 4 (some .boolean)) 2 0 0 [vR r, vI l, vI p9, vI q9] h (Rt (some (vI 0)) h) := by
  refine Ct.of (by decide) (Nat.le_of_ble_eq_true rfl) (fun x hg C F => ?_)
  subst hg
  show T x 0 [(0, vR r), (1, vI l), (2, vI p9), (3, vI q9)] [] h 0 0
  refine st_aload_n C 0 dX4_isLike_0 rfl rfl ?_
  refine st_iload_n C 1 dX4_isLike_1 rfl rfl ?_
  refine st_iload_n C 2 dX4_isLike_2 rfl rfl ?_
  refine st_callS (st := []) C dX4_isLike_3 [vR r, vI l, vI p9] (k_areaAt (f := rf) (l := l) (p := p9) hr (by omega) (by omega)) w_X4_43 rfl (by decide) (by decide) (by omega) (by omega) (Nat.le_of_ble_eq_true rfl) (ko_rt ?_)
  show T x 6 [(0, vR r), (1, vI l), (2, vI p9), (3, vI q9)] [vI (rf (64 * l + p9))] _ _ _
  refine st_aload_n C 0 dX4_isLike_6 rfl rfl ?_
  refine st_iload_n C 1 dX4_isLike_7 rfl rfl ?_
  refine st_iload_n C 3 dX4_isLike_8 rfl rfl ?_
  refine st_callS (st := [vI (rf (64 * l + p9))]) C dX4_isLike_9 [vR r, vI l, vI q9] (k_areaAt (f := rf) (l := l) (p := q9) hr (by omega) (by omega)) w_X4_43 rfl (by decide) (by decide) (by omega) (by omega) (Nat.le_of_ble_eq_true rfl) (ko_rt ?_)
  show T x 12 [(0, vR r), (1, vI l), (2, vI p9), (3, vI q9)] [vI (rf (64 * l + q9)), vI (rf (64 * l + p9))] _ _ _
  refine st_icmp_ne (tgt := 19) C dX4_isLike_12 (by decide) (fun c_12 => ?_) (fun c_12 => ?_)
  · refine st_iconst C dX4_isLike_19 (by decide) ?_
    exact st_zreturn C F dX4_isLike_20 rfl (by omega) (rt_i (by omega) rfl) (by omega) (by omega)
  · refine st_iconst C dX4_isLike_15 (by decide) ?_
    refine st_goto (tgt := 20) C dX4_isLike_16 (by decide) ?_
    exact st_zreturn C F dX4_isLike_20 rfl (by omega) (rt_i (by omega) rfl) (by omega) (by omega)
theorem jn_self {h : HP} {G : Nat} {gf : Int → Int} {a b : Int} (hG : h G = some (oI 64 gf)) (e : a = b) : h = hput h G (oI 64 (fmix (jn gf a b) gf 64)) := by
  have e1 : fmix (jn gf a b) gf 64 = gf := by
    funext k
    unfold fmix jn
    subst e
    by_cases q : 0 ≤ k ∧ k < 64
    · rw [if_pos q]
      by_cases q2 : gf k = a
      · rw [if_pos q2, q2]
      · rw [if_neg q2]
    · rw [if_neg q]
  rw [e1, hput_self hG]
set_option maxRecDepth 20000 in
set_option maxHeartbeats 4000000 in
theorem k_join {g : Gx} {h : HP} {c G9 : Nat} {gf : Int → Int} {a9 b9 : Int} (hc : h c = some (oO 3 [vR G9])) (hG : h G9 = some (oI 64 gf)) (n1 : c ≠ G9) : Ct g yX4_join (.code yX4_join cX4_join 4 none) 1 0 0 [vR c, vI a9, vI b9] h (Rt none (hput h G9 (oI 64 (fmix (jn gf a9 b9) gf 64)))) := by
  refine Ct.of (by decide) (Nat.le_of_ble_eq_true rfl) (fun x hg C F => ?_)
  subst hg
  show T x 0 [(0, vR c), (1, vI a9), (2, vI b9)] [] h 0 0
  refine st_iload_n C 1 dX4_join_0 rfl rfl ?_
  refine st_iload_n C 2 dX4_join_1 rfl rfl ?_
  refine st_icmp_ne (tgt := 6) C dX4_join_2 (by decide) (fun c_2 => ?_) (fun c_2 => ?_)
  · refine st_iconst C dX4_join_6 (by decide) ?_
    refine st_istore_n C 3 dX4_join_7 rfl (by decide) rfl ?_
    show T x 8 [(0, vR c), (1, vI a9), (2, vI b9), (3, vI 0)] [] _ _ _
    have loop_8 : ∀ (n_8 : Nat) (i : Int) (h1 : HP), (0 ≤ i) → (i ≤ 64) → (h1 = hput h G9 (oI 64 (fmix (jn gf a9 b9) gf i))) → (64 - i).toNat < n_8 → T x 8 [(0, vR c), (1, vI a9), (2, vI b9), (3, vI i)] [] h1 0 0 := by
      intro n_8
      induction n_8 with
      | zero => intro i h1 g1 g2 hh hm_8; exact absurd hm_8 (Nat.not_lt_zero _)
      | succ n_8 ih_8 =>
        intro i h1 g1 g2 hh hm_8
        refine st_iload_n C 3 dX4_join_8 rfl rfl ?_
        refine st_bipush C dX4_join_9 (by decide) (by decide) ?_
        refine st_icmp_ge (tgt := 37) C dX4_join_11 (by decide) (fun c_11 => ?_) (fun c_11 => ?_)
        · exact st_return C F dX4_join_37 rfl (by first | exact rt_n (by rw [hh, show i = 64 by omega]) | exact rt_n (jn_self hG (by assumption))) (by omega) (by omega)
        · refine st_aload_n C 0 dX4_join_14 rfl rfl ?_
          refine st_getf C dX4_join_15 fl_X4_9 (by rw [hh]; exact hput_o n1 hc) rfl ?_
          refine st_iload_n C 3 dX4_join_18 rfl rfl ?_
          refine st_iald C dX4_join_19 (by rw [hh]; exact hput_s) (by omega) (by omega) ?_
          refine st_iload_n C 1 dX4_join_20 rfl rfl ?_
          refine st_icmp_ne (tgt := 31) C dX4_join_21 (by decide) (fun c_21 => ?_) (fun c_21 => ?_)
          · refine st_iinc C dX4_join_31 rfl (by decide) rfl ⟨(by omega), (by omega)⟩ ?_
            show T x 34 [(0, vR c), (1, vI a9), (2, vI b9), (3, vI (i + 1))] [] _ _ _
            refine st_goto (tgt := 8) C dX4_join_34 (by decide) ?_
            exact ih_8 (i + 1) h1 (by omega) (by omega) (by first | rw [hh, hput_hput, jn_mix g1 (by rw [fmix_at (Int.le_refl _)] at *; assumption) rfl] | rw [hh, ← jn_mixn g1 (by rw [fmix_at (Int.le_refl _)] at *; assumption)]) (by omega)
          · refine st_aload_n C 0 dX4_join_24 rfl rfl ?_
            refine st_getf C dX4_join_25 fl_X4_9 (by rw [hh]; exact hput_o n1 hc) rfl ?_
            refine st_iload_n C 3 dX4_join_28 rfl rfl ?_
            refine st_iload_n C 2 dX4_join_29 rfl rfl ?_
            refine st_iast C dX4_join_30 (by rw [hh]; exact hput_s) (by omega) (by omega) ?_
            refine st_iinc C dX4_join_31 rfl (by decide) rfl ⟨(by omega), (by omega)⟩ ?_
            show T x 34 [(0, vR c), (1, vI a9), (2, vI b9), (3, vI (i + 1))] [] _ _ _
            refine st_goto (tgt := 8) C dX4_join_34 (by decide) ?_
            exact ih_8 (i + 1) (hput h1 G9 (oI 64 (fput (fmix (jn gf a9 b9) gf i) i b9))) (by omega) (by omega) (by first | rw [hh, hput_hput, jn_mix g1 (by rw [fmix_at (Int.le_refl _)] at *; assumption) rfl] | rw [hh, ← jn_mixn g1 (by rw [fmix_at (Int.le_refl _)] at *; assumption)]) (by omega)
    exact loop_8 _ 0 h (by omega) (by omega) (by rw [fmix_0]; exact (hput_self hG).symm) (Nat.lt_succ_self _)
  · exact st_return C F dX4_join_5 rfl (by first | exact rt_n (by rw [hh, show i = 64 by omega]) | exact rt_n (jn_self hG (by assumption))) (by omega) (by omega)
set_option maxRecDepth 20000 in
set_option maxHeartbeats 4000000 in
theorem k_gather {g : Gx} {h : HP} {c G9 : Nat} {gf : Int → Int} {r : Nat} {rf : Int → Int} {l : Int} (hc : h c = some (oO 3 [vR G9])) (hG : h G9 = some (oI 64 gf)) (n1 : c ≠ G9) (hr : h r = some (oI 304 rf)) (hl : 0 ≤ l ∧ l ≤ 2) (n2 : r ≠ G9) : Ct g yX4_gatherGroups (.code yX4_gatherGroups cX4_gatherGroups 5 none) 3 0 0 [vR c, vR r, vI l] h (RtG none h G9 (GrOk rf l)) := by
  refine Ct.of (by decide) (Nat.le_of_ble_eq_true rfl) (fun x hg C F => ?_)
  subst hg
  show T x 0 [(0, vR c), (1, vR r), (2, vI l)] [] h 0 0
  refine st_iconst C dX4_gatherGroups_0 (by decide) ?_
  refine st_istore_n C 3 dX4_gatherGroups_1 rfl (by decide) rfl ?_
  show T x 2 [(0, vR c), (1, vR r), (2, vI l), (3, vI 0)] [] _ _ _
  have loop_2 : ∀ (n_2 : Nat) (g0f : Int → Int) (i : Int) (h1 : HP), (0 ≤ i) → (i ≤ 64) → (h1 = hput h G9 (oI 64 g0f)) → (64 - i).toNat < n_2 → T x 2 [(0, vR c), (1, vR r), (2, vI l), (3, vI i)] [] h1 0 0 := by
    intro n_2
    induction n_2 with
    | zero => intro g0f i h1 g1 g2 hh hm_2; exact absurd hm_2 (Nat.not_lt_zero _)
    | succ n_2 ih_2 =>
      intro g0f i h1 g1 g2 hh hm_2
      refine st_iload_n C 3 dX4_gatherGroups_2 rfl rfl ?_
      refine st_bipush C dX4_gatherGroups_3 (by decide) (by decide) ?_
      refine st_icmp_ge (tgt := 21) C dX4_gatherGroups_5 (by decide) (fun c_5 => ?_) (fun c_5 => ?_)
      · refine st_iconst C dX4_gatherGroups_21 (by decide) ?_
        refine st_istore_n C 3 dX4_gatherGroups_22 rfl (by decide) rfl ?_
        show T x 23 [(0, vR c), (1, vR r), (2, vI l), (3, vI 0)] [] _ _ _
        have loop_23 : ∀ (n_23 : Nat) (g1f : Int → Int) (i2 : Int) (h2 : HP), (0 ≤ i2) → (i2 ≤ 64) → (GrU rf l g1f i2 0) → (h2 = hput h G9 (oI 64 g1f)) → (64 - i2).toNat < n_23 → T x 23 [(0, vR c), (1, vR r), (2, vI l), (3, vI i2)] [] h2 0 0 := by
          intro n_23
          induction n_23 with
          | zero => intro g1f i2 h2 g3 g4 g5 hh2 hm_23; exact absurd hm_23 (Nat.not_lt_zero _)
          | succ n_23 ih_23 =>
            intro g1f i2 h2 g3 g4 g5 hh2 hm_23
            refine st_iload_n C 3 dX4_gatherGroups_23 rfl rfl ?_
            refine st_bipush C dX4_gatherGroups_24 (by decide) (by decide) ?_
            refine st_icmp_ge (tgt := 87) C dX4_gatherGroups_26 (by decide) (fun c_26 => ?_) (fun c_26 => ?_)
            · exact st_return C F dX4_gatherGroups_87 rfl ⟨g1f, rfl, hh2, gr_end g5 (by omega)⟩ (by omega) (by omega)
            · refine st_iconst C dX4_gatherGroups_29 (by decide) ?_
              refine st_istore C dX4_gatherGroups_30 (by decide) rfl ?_
              show T x 32 [(0, vR c), (1, vR r), (2, vI l), (3, vI i2), (4, vI 0)] [] _ _ _
              have loop_32 : ∀ (n_32 : Nat) (g2f : Int → Int) (j : Int) (h3 : HP), (0 ≤ j) → (j ≤ i2) → (GrU rf l g2f i2 j) → (h3 = hput h G9 (oI 64 g2f)) → (i2 - j).toNat < n_32 → T x 32 [(0, vR c), (1, vR r), (2, vI l), (3, vI i2), (4, vI j)] [] h3 0 0 := by
                intro n_32
                induction n_32 with
                | zero => intro g2f j h3 g6 g7 g8 hh3 hm_32; exact absurd hm_32 (Nat.not_lt_zero _)
                | succ n_32 ih_32 =>
                  intro g2f j h3 g6 g7 g8 hh3 hm_32
                  refine st_iload C dX4_gatherGroups_32 rfl ?_
                  refine st_iload_n C 3 dX4_gatherGroups_34 rfl rfl ?_
                  refine st_icmp_ge (tgt := 81) C dX4_gatherGroups_35 (by decide) (fun c_35 => ?_) (fun c_35 => ?_)
                  · refine st_iinc C dX4_gatherGroups_81 rfl (by decide) rfl ⟨(by omega), (by omega)⟩ ?_
                    show T x 84 [(0, vR c), (1, vR r), (2, vI l), (3, vI (i2 + 1)), (4, vI j)] [] _ _ _
                    refine st_goto (tgt := 23) C dX4_gatherGroups_84 (by decide) ?_
                    refine st_sub [0, 1, 2, 3] rfl ?_
                    exact ih_23 g2f (i2 + 1) h3 (by omega) (by omega) (gr_row g8 (by omega)) (hh3) (by omega)
                  · refine st_iload_n C 3 dX4_gatherGroups_38 rfl rfl ?_
                    refine st_iload C dX4_gatherGroups_39 rfl ?_
                    by_cases b_41 : Touch i2 j
                    · refine st_callS (st := []) C dX4_gatherGroups_41 [vI i2, vI j] (k_touch_t (p := i2) (q := j) (by omega) (by omega) b_41) w_X4_51 rfl (by decide) (by decide) (by omega) (by omega) (Nat.le_of_ble_eq_true rfl) (ko_rt ?_)
                      show T x 44 [(0, vR c), (1, vR r), (2, vI l), (3, vI i2), (4, vI j)] [vI 1] _ _ _
                      refine st_if_eq (tgt := 75) C dX4_gatherGroups_44 (by decide) (fun c_44 => by omega) (fun c_44 => ?_)
                      refine st_aload_n C 1 dX4_gatherGroups_47 rfl rfl ?_
                      refine st_iload_n C 2 dX4_gatherGroups_48 rfl rfl ?_
                      refine st_iload_n C 3 dX4_gatherGroups_49 rfl rfl ?_
                      refine st_iload C dX4_gatherGroups_50 rfl ?_
                      by_cases b_52 : rf (64 * l + i2) = rf (64 * l + j)
                      · refine st_callS (st := []) C dX4_gatherGroups_52 [vR r, vI l, vI i2, vI j] (k_isLike_t (rf := rf) (l := l) (p9 := i2) (q9 := j) (by rw [hh3]; exact hput_o n2 hr) (by omega) (by omega) (by omega) b_52) w_X4_55 rfl (by decide) (by decide) (by omega) (by omega) (Nat.le_of_ble_eq_true rfl) (ko_rt ?_)
                        show T x 55 [(0, vR c), (1, vR r), (2, vI l), (3, vI i2), (4, vI j)] [vI 1] _ _ _
                        refine st_if_eq (tgt := 75) C dX4_gatherGroups_55 (by decide) (fun c_55 => by omega) (fun c_55 => ?_)
                        refine st_aload_n C 0 dX4_gatherGroups_58 rfl rfl ?_
                        refine st_aload_n C 0 dX4_gatherGroups_59 rfl rfl ?_
                        refine st_getf C dX4_gatherGroups_60 fl_X4_9 (by rw [hh3]; exact hput_o n1 hc) rfl ?_
                        refine st_iload_n C 3 dX4_gatherGroups_63 rfl rfl ?_
                        refine st_iald C dX4_gatherGroups_64 (by rw [hh3]; exact hput_s) (by omega) (by omega) ?_
                        refine st_aload_n C 0 dX4_gatherGroups_65 rfl rfl ?_
                        refine st_getf C dX4_gatherGroups_66 fl_X4_9 (by rw [hh3]; exact hput_o n1 hc) rfl ?_
                        refine st_iload C dX4_gatherGroups_69 rfl ?_
                        refine st_iald C dX4_gatherGroups_71 (by rw [hh3]; exact hput_s) (by omega) (by omega) ?_
                        refine st_callV (st := []) C dX4_gatherGroups_72 [vI (g2f i2), vI (g2f j)] (k_join (gf := g2f) (a9 := (g2f i2)) (b9 := (g2f j)) (by rw [hh3]; exact hput_o n1 hc) (by rw [hh3]; exact hput_s) (by omega)) (by rw [hh3]; exact hput_o n1 hc) w_X4_62 rfl (by decide) (by decide) (by omega) (by omega) (Nat.le_of_ble_eq_true rfl) (ko_rn ?_)
                        show T x 75 [(0, vR c), (1, vR r), (2, vI l), (3, vI i2), (4, vI j)] [] (hput h3 G9 (oI 64 (fmix (jn g2f (g2f i2) (g2f j)) g2f 64))) _ _
                        refine st_iinc C dX4_gatherGroups_75 rfl (by decide) rfl ⟨(by omega), (by omega)⟩ ?_
                        show T x 78 [(0, vR c), (1, vR r), (2, vI l), (3, vI i2), (4, vI (j + 1))] [] _ _ _
                        refine st_goto (tgt := 32) C dX4_gatherGroups_78 (by decide) ?_
                        exact ih_32 (fmix (jn g2f (g2f i2) (g2f j)) g2f 64) (j + 1) (hput h3 G9 (oI 64 (fmix (jn g2f (g2f i2) (g2f j)) g2f 64))) (by omega) (by omega) (by first | exact gr_jn (by omega) g8 (by omega) | exact gr_no g8 (fun z9 => by first | exact absurd z9.1 (by assumption) | exact absurd z9.2 (by assumption))) (by first | exact hh3 | (rw [hh3, hput_hput])) (by omega)
                      · refine st_callS (st := []) C dX4_gatherGroups_52 [vR r, vI l, vI i2, vI j] (k_isLike_f (rf := rf) (l := l) (p9 := i2) (q9 := j) (by rw [hh3]; exact hput_o n2 hr) (by omega) (by omega) (by omega) b_52) w_X4_55 rfl (by decide) (by decide) (by omega) (by omega) (Nat.le_of_ble_eq_true rfl) (ko_rt ?_)
                        show T x 55 [(0, vR c), (1, vR r), (2, vI l), (3, vI i2), (4, vI j)] [vI 0] _ _ _
                        refine st_if_eq (tgt := 75) C dX4_gatherGroups_55 (by decide) (fun c_55 => ?_) (fun c_55 => by omega)
                        refine st_iinc C dX4_gatherGroups_75 rfl (by decide) rfl ⟨(by omega), (by omega)⟩ ?_
                        show T x 78 [(0, vR c), (1, vR r), (2, vI l), (3, vI i2), (4, vI (j + 1))] [] _ _ _
                        refine st_goto (tgt := 32) C dX4_gatherGroups_78 (by decide) ?_
                        exact ih_32 g2f (j + 1) h3 (by omega) (by omega) (by first | exact gr_jn (by omega) g8 (by omega) | exact gr_no g8 (fun z9 => by first | exact absurd z9.1 (by assumption) | exact absurd z9.2 (by assumption))) (by first | exact hh3 | (rw [hh3, hput_hput])) (by omega)
                    · refine st_callS (st := []) C dX4_gatherGroups_41 [vI i2, vI j] (k_touch_f (p := i2) (q := j) (by omega) (by omega) b_41) w_X4_51 rfl (by decide) (by decide) (by omega) (by omega) (Nat.le_of_ble_eq_true rfl) (ko_rt ?_)
                      show T x 44 [(0, vR c), (1, vR r), (2, vI l), (3, vI i2), (4, vI j)] [vI 0] _ _ _
                      refine st_if_eq (tgt := 75) C dX4_gatherGroups_44 (by decide) (fun c_44 => ?_) (fun c_44 => by omega)
                      refine st_iinc C dX4_gatherGroups_75 rfl (by decide) rfl ⟨(by omega), (by omega)⟩ ?_
                      show T x 78 [(0, vR c), (1, vR r), (2, vI l), (3, vI i2), (4, vI (j + 1))] [] _ _ _
                      refine st_goto (tgt := 32) C dX4_gatherGroups_78 (by decide) ?_
                      exact ih_32 g2f (j + 1) h3 (by omega) (by omega) (by first | exact gr_jn (by omega) g8 (by omega) | exact gr_no g8 (fun z9 => by first | exact absurd z9.1 (by assumption) | exact absurd z9.2 (by assumption))) (by first | exact hh3 | (rw [hh3, hput_hput])) (by omega)
              exact loop_32 _ g1f 0 h2 (by omega) (by omega) (g5) (hh2) (Nat.lt_succ_self _)
        exact loop_23 _ g0f 0 h1 (by omega) (by omega) (fun p q q1 q2 q3 q4 q5 => absurd q5 (by omega)) (hh) (Nat.lt_succ_self _)
      · refine st_aload_n C 0 dX4_gatherGroups_8 rfl rfl ?_
        refine st_getf C dX4_gatherGroups_9 fl_X4_9 (by rw [hh]; exact hput_o n1 hc) rfl ?_
        refine st_iload_n C 3 dX4_gatherGroups_12 rfl rfl ?_
        refine st_iload_n C 3 dX4_gatherGroups_13 rfl rfl ?_
        refine st_iast C dX4_gatherGroups_14 (by rw [hh]; exact hput_s) (by omega) (by omega) ?_
        refine st_iinc C dX4_gatherGroups_15 rfl (by decide) rfl ⟨(by omega), (by omega)⟩ ?_
        show T x 18 [(0, vR c), (1, vR r), (2, vI l), (3, vI (i + 1))] [] _ _ _
        refine st_goto (tgt := 2) C dX4_gatherGroups_18 (by decide) ?_
        exact ih_2 (fput g0f i i) (i + 1) (hput h1 G9 (oI 64 (fput g0f i i))) (by omega) (by omega) (by rw [hh, hput_hput]) (by omega)
  exact loop_2 _ gf 0 h (by omega) (by omega) ((hput_self hG).symm) (Nat.lt_succ_self _)
set_option maxRecDepth 20000 in
set_option maxHeartbeats 4000000 in
theorem k_partm_t {g : Gx} {h : HP} {c G9 : Nat} {gf : Int → Int} {k : Nat} {a9 b9 : Int} {r : Nat} {rf : Int → Int} {p9 q9 : Int} (hc : h c = some (oO 3 [vR G9])) (hG : h G9 = some (oI 64 gf)) (n1 : c ≠ G9) (hk : h k = some (oO 4 [vI 109, vI a9, vI b9])) (hr : h r = some (oI 304 rf)) (hp : 0 ≤ p9 ∧ p9 ≤ 63) (hq : 0 ≤ q9 ∧ q9 ≤ 63) (hP : RoadB rf p9 q9) : Ct g yX4_isPartner (.code yX4_isPartner cX4_isPartner 5 (some .boolean)) 3 0 0 [vR c, vR k, vR r, vI p9, vI q9] h (Rt (some (vI 1)) h) := by
  refine Ct.of (by decide) (Nat.le_of_ble_eq_true rfl) (fun x hg C F => ?_)
  subst hg
  show T x 0 [(0, vR c), (1, vR k), (2, vR r), (3, vI p9), (4, vI q9)] [] h 0 0
  refine st_aload_n C 1 dX4_isPartner_0 rfl rfl ?_
  refine st_getf C dX4_isPartner_1 fl_X4_15 hk rfl ?_
  refine st_bipush C dX4_isPartner_4 (by decide) (by decide) ?_
  refine st_icmp_ne (tgt := 17) C dX4_isPartner_6 (by decide) (fun c_6 => by omega) (fun c_6 => ?_)
  refine st_aload_n C 2 dX4_isPartner_9 rfl rfl ?_
  refine st_iload_n C 3 dX4_isPartner_10 rfl rfl ?_
  refine st_iload C dX4_isPartner_11 rfl ?_
  by_cases b_13 : RoadB rf p9 q9
  · refine st_callS (st := []) C dX4_isPartner_13 [vR r, vI p9, vI q9] (k_isRoadBetween_t (f := rf) (p := p9) (q := q9) hr (by omega) (by omega) b_13) w_X4_47 rfl (by decide) (by decide) (by omega) (by omega) (Nat.le_of_ble_eq_true rfl) (ko_rt ?_)
    show T x 16 [(0, vR c), (1, vR k), (2, vR r), (3, vI p9), (4, vI q9)] [vI 1] _ _ _
    exact st_zreturn C F dX4_isPartner_16 rfl (by omega) (rt_i (by first | rfl | omega | exact absurd (by assumption) hP | exact absurd hP (by assumption) | exact absurd hP.1 (by assumption) | exact absurd hP.2 (by assumption) | exact absurd ⟨by assumption, by assumption⟩ hP | exact absurd (by assumption) hP.2) rfl) (by omega) (by omega)
  · refine st_callS (st := []) C dX4_isPartner_13 [vR r, vI p9, vI q9] (k_isRoadBetween_f (f := rf) (p := p9) (q := q9) hr (by omega) (by omega) b_13) w_X4_47 rfl (by decide) (by decide) (by omega) (by omega) (Nat.le_of_ble_eq_true rfl) (ko_rt ?_)
    show T x 16 [(0, vR c), (1, vR k), (2, vR r), (3, vI p9), (4, vI q9)] [vI 0] _ _ _
    exact st_zreturn C F dX4_isPartner_16 rfl (by omega) (rt_i (by first | rfl | omega | exact absurd (by assumption) hP | exact absurd hP (by assumption) | exact absurd hP.1 (by assumption) | exact absurd hP.2 (by assumption) | exact absurd ⟨by assumption, by assumption⟩ hP | exact absurd (by assumption) hP.2) rfl) (by omega) (by omega)
set_option maxRecDepth 20000 in
set_option maxHeartbeats 4000000 in
theorem k_partm_f {g : Gx} {h : HP} {c G9 : Nat} {gf : Int → Int} {k : Nat} {a9 b9 : Int} {r : Nat} {rf : Int → Int} {p9 q9 : Int} (hc : h c = some (oO 3 [vR G9])) (hG : h G9 = some (oI 64 gf)) (n1 : c ≠ G9) (hk : h k = some (oO 4 [vI 109, vI a9, vI b9])) (hr : h r = some (oI 304 rf)) (hp : 0 ≤ p9 ∧ p9 ≤ 63) (hq : 0 ≤ q9 ∧ q9 ≤ 63) (hP : ¬ RoadB rf p9 q9) : Ct g yX4_isPartner (.code yX4_isPartner cX4_isPartner 5 (some .boolean)) 3 0 0 [vR c, vR k, vR r, vI p9, vI q9] h (Rt (some (vI 0)) h) := by
  refine Ct.of (by decide) (Nat.le_of_ble_eq_true rfl) (fun x hg C F => ?_)
  subst hg
  show T x 0 [(0, vR c), (1, vR k), (2, vR r), (3, vI p9), (4, vI q9)] [] h 0 0
  refine st_aload_n C 1 dX4_isPartner_0 rfl rfl ?_
  refine st_getf C dX4_isPartner_1 fl_X4_15 hk rfl ?_
  refine st_bipush C dX4_isPartner_4 (by decide) (by decide) ?_
  refine st_icmp_ne (tgt := 17) C dX4_isPartner_6 (by decide) (fun c_6 => by omega) (fun c_6 => ?_)
  refine st_aload_n C 2 dX4_isPartner_9 rfl rfl ?_
  refine st_iload_n C 3 dX4_isPartner_10 rfl rfl ?_
  refine st_iload C dX4_isPartner_11 rfl ?_
  by_cases b_13 : RoadB rf p9 q9
  · refine st_callS (st := []) C dX4_isPartner_13 [vR r, vI p9, vI q9] (k_isRoadBetween_t (f := rf) (p := p9) (q := q9) hr (by omega) (by omega) b_13) w_X4_47 rfl (by decide) (by decide) (by omega) (by omega) (Nat.le_of_ble_eq_true rfl) (ko_rt ?_)
    show T x 16 [(0, vR c), (1, vR k), (2, vR r), (3, vI p9), (4, vI q9)] [vI 1] _ _ _
    exact st_zreturn C F dX4_isPartner_16 rfl (by omega) (rt_i (by first | rfl | omega | exact absurd (by assumption) hP | exact absurd hP (by assumption) | exact absurd hP.1 (by assumption) | exact absurd hP.2 (by assumption) | exact absurd ⟨by assumption, by assumption⟩ hP | exact absurd (by assumption) hP.2) rfl) (by omega) (by omega)
  · refine st_callS (st := []) C dX4_isPartner_13 [vR r, vI p9, vI q9] (k_isRoadBetween_f (f := rf) (p := p9) (q := q9) hr (by omega) (by omega) b_13) w_X4_47 rfl (by decide) (by decide) (by omega) (by omega) (Nat.le_of_ble_eq_true rfl) (ko_rt ?_)
    show T x 16 [(0, vR c), (1, vR k), (2, vR r), (3, vI p9), (4, vI q9)] [vI 0] _ _ _
    exact st_zreturn C F dX4_isPartner_16 rfl (by omega) (rt_i (by first | rfl | omega | exact absurd (by assumption) hP | exact absurd hP (by assumption) | exact absurd hP.1 (by assumption) | exact absurd hP.2 (by assumption) | exact absurd ⟨by assumption, by assumption⟩ hP | exact absurd (by assumption) hP.2) rfl) (by omega) (by omega)
set_option maxRecDepth 20000 in
set_option maxHeartbeats 4000000 in
theorem k_pBrokenm {g : Gx} {h : HP} {c G9 : Nat} {gf : Int → Int} {k : Nat} {a9 b9 : Int} {r : Nat} {rf : Int → Int} {p9 : Int} (hc : h c = some (oO 3 [vR G9])) (hG : h G9 = some (oI 64 gf)) (n1 : c ≠ G9) (hk : h k = some (oO 4 [vI 109, vI a9, vI b9])) (hr : h r = some (oI 304 rf)) (hp : 0 ≤ p9 ∧ p9 ≤ 63) (hP : ¬ (¬ EdgeP p9 ∧ cnt (fun q9 => RoadB rf p9 q9) 64 = 1)) : Ct g yX4_isBrokenAt (.code yX4_isBrokenAt cX4_isBrokenAt 6 (some .boolean)) 4 0 0 [vR c, vR k, vR r, vI p9] h (Rt (some (vI 0)) h) := by
  refine Ct.of (by decide) (Nat.le_of_ble_eq_true rfl) (fun x hg C F => ?_)
  subst hg
  show T x 0 [(0, vR c), (1, vR k), (2, vR r), (3, vI p9)] [] h 0 0
  refine st_iconst C dX4_isBrokenAt_0 (by decide) ?_
  refine st_istore C dX4_isBrokenAt_1 (by decide) rfl ?_
  show T x 3 [(0, vR c), (1, vR k), (2, vR r), (3, vI p9), (4, vI 0)] [] _ _ _
  refine st_iconst C dX4_isBrokenAt_3 (by decide) ?_
  refine st_istore C dX4_isBrokenAt_4 (by decide) rfl ?_
  show T x 6 [(0, vR c), (1, vR k), (2, vR r), (3, vI p9), (4, vI 0), (5, vI 0)] [] _ _ _
  have loop_6 : ∀ (n_6 : Nat) (c1 : Int) (i : Int), (0 ≤ i) → (i ≤ 64) → (0 ≤ c1 ∧ c1 ≤ i) → (c1 = cnt (fun q9 => RoadB rf p9 q9) i) → (64 - i).toNat < n_6 → T x 6 [(0, vR c), (1, vR k), (2, vR r), (3, vI p9), (4, vI c1), (5, vI i)] [] h 0 0 := by
    intro n_6
    induction n_6 with
    | zero => intro c1 i g1 g2 g3 g4 hm_6; exact absurd hm_6 (Nat.not_lt_zero _)
    | succ n_6 ih_6 =>
      intro c1 i g1 g2 g3 g4 hm_6
      refine st_iload C dX4_isBrokenAt_6 rfl ?_
      refine st_bipush C dX4_isBrokenAt_8 (by decide) (by decide) ?_
      refine st_icmp_ge (tgt := 34) C dX4_isBrokenAt_10 (by decide) (fun c_10 => ?_) (fun c_10 => ?_)
      · refine st_aload_n C 1 dX4_isBrokenAt_34 rfl rfl ?_
        refine st_getf C dX4_isBrokenAt_35 fl_X4_15 hk rfl ?_
        refine st_bipush C dX4_isBrokenAt_38 (by decide) (by decide) ?_
        refine st_icmp_ne (tgt := 62) C dX4_isBrokenAt_40 (by decide) (fun c_40 => by omega) (fun c_40 => ?_)
        refine st_iload_n C 3 dX4_isBrokenAt_43 rfl rfl ?_
        by_cases b_44 : p9 % 8 = 0 ∨ p9 % 8 = 7 ∨ p9 / 8 = 0 ∨ p9 / 8 = 7
        · refine st_callS (st := []) C dX4_isBrokenAt_44 [vI p9] (k_isAtEdge_t (p := p9) (by omega) b_44) w_X4_37 rfl (by decide) (by decide) (by omega) (by omega) (Nat.le_of_ble_eq_true rfl) (ko_rt ?_)
          show T x 47 [(0, vR c), (1, vR k), (2, vR r), (3, vI p9), (4, vI c1), (5, vI i)] [vI 1] _ _ _
          refine st_if_ne (tgt := 60) C dX4_isBrokenAt_47 (by decide) (fun c_47 => ?_) (fun c_47 => by omega)
          refine st_iconst C dX4_isBrokenAt_60 (by decide) ?_
          exact st_zreturn C F dX4_isBrokenAt_61 rfl (by omega) (rt_i (by first | rfl | (exfalso; rw [← cntE g4 (show i = 64 by omega)] at hP; first | exact hP ⟨by assumption, by omega⟩ | omega)) rfl) (by omega) (by omega)
        · refine st_callS (st := []) C dX4_isBrokenAt_44 [vI p9] (k_isAtEdge_f (p := p9) (by omega) b_44) w_X4_37 rfl (by decide) (by decide) (by omega) (by omega) (Nat.le_of_ble_eq_true rfl) (ko_rt ?_)
          show T x 47 [(0, vR c), (1, vR k), (2, vR r), (3, vI p9), (4, vI c1), (5, vI i)] [vI 0] _ _ _
          refine st_if_ne (tgt := 60) C dX4_isBrokenAt_47 (by decide) (fun c_47 => by omega) (fun c_47 => ?_)
          refine st_iload C dX4_isBrokenAt_50 rfl ?_
          refine st_iconst C dX4_isBrokenAt_52 (by decide) ?_
          refine st_icmp_ne (tgt := 60) C dX4_isBrokenAt_53 (by decide) (fun c_53 => ?_) (fun c_53 => ?_)
          · refine st_iconst C dX4_isBrokenAt_60 (by decide) ?_
            exact st_zreturn C F dX4_isBrokenAt_61 rfl (by omega) (rt_i (by first | rfl | (exfalso; rw [← cntE g4 (show i = 64 by omega)] at hP; first | exact hP ⟨by assumption, by omega⟩ | omega)) rfl) (by omega) (by omega)
          · refine st_iconst C dX4_isBrokenAt_56 (by decide) ?_
            refine st_goto (tgt := 61) C dX4_isBrokenAt_57 (by decide) ?_
            exact st_zreturn C F dX4_isBrokenAt_61 rfl (by omega) (rt_i (by first | rfl | (exfalso; rw [← cntE g4 (show i = 64 by omega)] at hP; first | exact hP ⟨by assumption, by omega⟩ | omega)) rfl) (by omega) (by omega)
      · refine st_aload_n C 0 dX4_isBrokenAt_13 rfl rfl ?_
        refine st_aload_n C 1 dX4_isBrokenAt_14 rfl rfl ?_
        refine st_aload_n C 2 dX4_isBrokenAt_15 rfl rfl ?_
        refine st_iload_n C 3 dX4_isBrokenAt_16 rfl rfl ?_
        refine st_iload C dX4_isBrokenAt_17 rfl ?_
        by_cases b_19 : RoadB rf p9 i
        · refine st_callV (st := []) C dX4_isBrokenAt_19 [vR k, vR r, vI p9, vI i] (k_partm_t (gf := gf) (a9 := a9) (b9 := b9) (rf := rf) (p9 := p9) (q9 := i) hc hG n1 hk hr (by omega) (by omega) b_19) hc w_X4_33 rfl (by decide) (by decide) (by omega) (by omega) (Nat.le_of_ble_eq_true rfl) (ko_rt ?_)
          show T x 22 [(0, vR c), (1, vR k), (2, vR r), (3, vI p9), (4, vI c1), (5, vI i)] [vI 1] _ _ _
          refine st_if_eq (tgt := 28) C dX4_isBrokenAt_22 (by decide) (fun c_22 => by omega) (fun c_22 => ?_)
          refine st_iinc C dX4_isBrokenAt_25 rfl (by decide) rfl ⟨(by omega), (by omega)⟩ ?_
          show T x 28 [(0, vR c), (1, vR k), (2, vR r), (3, vI p9), (4, vI (c1 + 1)), (5, vI i)] [] _ _ _
          refine st_iinc C dX4_isBrokenAt_28 rfl (by decide) rfl ⟨(by omega), (by omega)⟩ ?_
          show T x 31 [(0, vR c), (1, vR k), (2, vR r), (3, vI p9), (4, vI (c1 + 1)), (5, vI (i + 1))] [] _ _ _
          refine st_goto (tgt := 6) C dX4_isBrokenAt_31 (by decide) ?_
          exact ih_6 (c1 + 1) (i + 1) (by omega) (by omega) (by omega) (by first | exact cnt_t g1 (by assumption) g4 | exact cnt_f g1 (by assumption) g4) (by omega)
        · refine st_callV (st := []) C dX4_isBrokenAt_19 [vR k, vR r, vI p9, vI i] (k_partm_f (gf := gf) (a9 := a9) (b9 := b9) (rf := rf) (p9 := p9) (q9 := i) hc hG n1 hk hr (by omega) (by omega) b_19) hc w_X4_33 rfl (by decide) (by decide) (by omega) (by omega) (Nat.le_of_ble_eq_true rfl) (ko_rt ?_)
          show T x 22 [(0, vR c), (1, vR k), (2, vR r), (3, vI p9), (4, vI c1), (5, vI i)] [vI 0] _ _ _
          refine st_if_eq (tgt := 28) C dX4_isBrokenAt_22 (by decide) (fun c_22 => ?_) (fun c_22 => by omega)
          refine st_iinc C dX4_isBrokenAt_28 rfl (by decide) rfl ⟨(by omega), (by omega)⟩ ?_
          show T x 31 [(0, vR c), (1, vR k), (2, vR r), (3, vI p9), (4, vI c1), (5, vI (i + 1))] [] _ _ _
          refine st_goto (tgt := 6) C dX4_isBrokenAt_31 (by decide) ?_
          exact ih_6 c1 (i + 1) (by omega) (by omega) (by omega) (by first | exact cnt_t g1 (by assumption) g4 | exact cnt_f g1 (by assumption) g4) (by omega)
  exact loop_6 _ 0 0 (by omega) (by omega) (by omega) (cnt_0) (Nat.lt_succ_self _)
theorem nb_m {rf : Int → Int} {a9 b9 p9 : Int} (hp : 0 ≤ p9 ∧ p9 ≤ 63) (hR : RuleHolds 109 a9 b9 rf) : ¬ (¬ EdgeP p9 ∧ cnt (fun q9 => RoadB rf p9 q9) 64 = 1) := by
  rw [roads_eq hp]
  exact fun z => hR.1 p9 hp.1 hp.2 (Or.inl ⟨rfl, z⟩)
set_option maxRecDepth 20000 in
set_option maxHeartbeats 4000000 in
theorem k_pHoldsm {g : Gx} {h : HP} {c G9 : Nat} {gf : Int → Int} {k : Nat} {a9 b9 : Int} {r : Nat} {rf : Int → Int} (hc : h c = some (oO 3 [vR G9])) (hG : h G9 = some (oI 64 gf)) (n1 : c ≠ G9) (hk : h k = some (oO 4 [vI 109, vI a9, vI b9])) (hr : h r = some (oI 304 rf)) (n2 : r ≠ G9) (n3 : k ≠ G9) (hv : ∀ s, 0 ≤ s → s < 192 → 0 ≤ rf s ∧ rf s ≤ 9) (hR : RuleHolds 109 a9 b9 rf) : Ct g yX4_holds (.code yX4_holds cX4_holds 4 (some .boolean)) 5 0 0 [vR c, vR k, vR r] h (RtG (some (vI 1)) h G9 (fun _ => True)) := by
  refine Ct.of (by decide) (Nat.le_of_ble_eq_true rfl) (fun x hg C F => ?_)
  subst hg
  show T x 0 [(0, vR c), (1, vR k), (2, vR r)] [] h 0 0
  refine st_aload_n C 1 dX4_holds_0 rfl rfl ?_
  refine st_getf C dX4_holds_1 fl_X4_15 hk rfl ?_
  refine st_bipush C dX4_holds_4 (by decide) (by decide) ?_
  refine st_icmp_ne (tgt := 18) C dX4_holds_6 (by decide) (fun c_6 => ?_) (fun c_6 => by omega)
  refine st_iconst C dX4_holds_18 (by decide) ?_
  refine st_istore_n C 3 dX4_holds_19 rfl (by decide) rfl ?_
  show T x 20 [(0, vR c), (1, vR k), (2, vR r), (3, vI 0)] [] _ _ _
  have loop_20 : ∀ (n_20 : Nat) (i : Int), (0 ≤ i) → (i ≤ 64) → (64 - i).toNat < n_20 → T x 20 [(0, vR c), (1, vR k), (2, vR r), (3, vI i)] [] h 0 0 := by
    intro n_20
    induction n_20 with
    | zero => intro i g1 g2 hm_20; exact absurd hm_20 (Nat.not_lt_zero _)
    | succ n_20 ih_20 =>
      intro i g1 g2 hm_20
      refine st_iload_n C 3 dX4_holds_20 rfl rfl ?_
      refine st_bipush C dX4_holds_21 (by decide) (by decide) ?_
      refine st_icmp_ge (tgt := 44) C dX4_holds_23 (by decide) (fun c_23 => ?_) (fun c_23 => ?_)
      · refine st_iconst C dX4_holds_44 (by decide) ?_
        exact st_zreturn C F dX4_holds_45 rfl (by omega) ⟨_, rfl, (hput_self hG).symm, trivial⟩ (by omega) (by omega)
      · refine st_aload_n C 0 dX4_holds_26 rfl rfl ?_
        refine st_aload_n C 1 dX4_holds_27 rfl rfl ?_
        refine st_aload_n C 2 dX4_holds_28 rfl rfl ?_
        refine st_iload_n C 3 dX4_holds_29 rfl rfl ?_
        refine st_callV (st := []) C dX4_holds_30 [vR k, vR r, vI i] (k_pBrokenm (a9 := a9) (b9 := b9) (rf := rf) (gf := gf) (p9 := i) hc hG n1 hk hr (by omega) (nb_m (by omega) hR)) hc w_X4_29 rfl (by decide) (by decide) (by omega) (by omega) (Nat.le_of_ble_eq_true rfl) (ko_rt ?_)
        show T x 33 [(0, vR c), (1, vR k), (2, vR r), (3, vI i)] [vI 0] _ _ _
        refine st_if_eq (tgt := 38) C dX4_holds_33 (by decide) (fun c_33 => ?_) (fun c_33 => by omega)
        refine st_iinc C dX4_holds_38 rfl (by decide) rfl ⟨(by omega), (by omega)⟩ ?_
        show T x 41 [(0, vR c), (1, vR k), (2, vR r), (3, vI (i + 1))] [] _ _ _
        refine st_goto (tgt := 20) C dX4_holds_41 (by decide) ?_
        exact ih_20 (i + 1) (by omega) (by omega) (by omega)
  exact loop_20 _ 0 (by omega) (by omega) (Nat.lt_succ_self _)
set_option maxRecDepth 20000 in
set_option maxHeartbeats 4000000 in
theorem k_partg_t {g : Gx} {h : HP} {c G9 : Nat} {gf : Int → Int} {k : Nat} {a9 b9 : Int} {r : Nat} {rf : Int → Int} {p9 q9 : Int} (hc : h c = some (oO 3 [vR G9])) (hG : h G9 = some (oI 64 gf)) (n1 : c ≠ G9) (hk : h k = some (oO 4 [vI 103, vI a9, vI b9])) (hr : h r = some (oI 304 rf)) (hp : 0 ≤ p9 ∧ p9 ≤ 63) (hq : 0 ≤ q9 ∧ q9 ≤ 63) (ha : 0 ≤ a9 ∧ a9 ≤ 2) (hP : (Touch p9 q9 ∧ rf (64 * a9 + q9) = 0)) : Ct g yX4_isPartner (.code yX4_isPartner cX4_isPartner 5 (some .boolean)) 3 0 0 [vR c, vR k, vR r, vI p9, vI q9] h (Rt (some (vI 1)) h) := by
  refine Ct.of (by decide) (Nat.le_of_ble_eq_true rfl) (fun x hg C F => ?_)
  subst hg
  show T x 0 [(0, vR c), (1, vR k), (2, vR r), (3, vI p9), (4, vI q9)] [] h 0 0
  refine st_aload_n C 1 dX4_isPartner_0 rfl rfl ?_
  refine st_getf C dX4_isPartner_1 fl_X4_15 hk rfl ?_
  refine st_bipush C dX4_isPartner_4 (by decide) (by decide) ?_
  refine st_icmp_ne (tgt := 17) C dX4_isPartner_6 (by decide) (fun c_6 => ?_) (fun c_6 => by omega)
  refine st_aload_n C 1 dX4_isPartner_17 rfl rfl ?_
  refine st_getf C dX4_isPartner_18 fl_X4_15 hk rfl ?_
  refine st_bipush C dX4_isPartner_21 (by decide) (by decide) ?_
  refine st_icmp_ne (tgt := 54) C dX4_isPartner_23 (by decide) (fun c_23 => by omega) (fun c_23 => ?_)
  refine st_iload_n C 3 dX4_isPartner_26 rfl rfl ?_
  refine st_iload C dX4_isPartner_27 rfl ?_
  by_cases b_29 : Touch p9 q9
  · refine st_callS (st := []) C dX4_isPartner_29 [vI p9, vI q9] (k_touch_t (p := p9) (q := q9) (by omega) (by omega) b_29) w_X4_51 rfl (by decide) (by decide) (by omega) (by omega) (Nat.le_of_ble_eq_true rfl) (ko_rt ?_)
    show T x 32 [(0, vR c), (1, vR k), (2, vR r), (3, vI p9), (4, vI q9)] [vI 1] _ _ _
    refine st_if_eq (tgt := 52) C dX4_isPartner_32 (by decide) (fun c_32 => by omega) (fun c_32 => ?_)
    refine st_aload_n C 2 dX4_isPartner_35 rfl rfl ?_
    refine st_aload_n C 1 dX4_isPartner_36 rfl rfl ?_
    refine st_getf C dX4_isPartner_37 fl_X4_21 hk rfl ?_
    refine st_iload C dX4_isPartner_40 rfl ?_
    refine st_callS (st := []) C dX4_isPartner_42 [vR r, vI a9, vI q9] (k_areaAt (f := rf) (l := a9) (p := q9) hr (by omega) (by omega)) w_X4_43 rfl (by decide) (by decide) (by omega) (by omega) (Nat.le_of_ble_eq_true rfl) (ko_rt ?_)
    show T x 45 [(0, vR c), (1, vR k), (2, vR r), (3, vI p9), (4, vI q9)] [vI (rf (64 * a9 + q9))] _ _ _
    refine st_if_ne (tgt := 52) C dX4_isPartner_45 (by decide) (fun c_45 => ?_) (fun c_45 => ?_)
    · refine st_iconst C dX4_isPartner_52 (by decide) ?_
      exact st_zreturn C F dX4_isPartner_53 rfl (by omega) (rt_i (by first | rfl | omega | exact absurd (by assumption) hP | exact absurd hP (by assumption) | exact absurd hP.1 (by assumption) | exact absurd hP.2 (by assumption) | exact absurd ⟨by assumption, by assumption⟩ hP | exact absurd (by assumption) hP.2) rfl) (by omega) (by omega)
    · refine st_iconst C dX4_isPartner_48 (by decide) ?_
      refine st_goto (tgt := 53) C dX4_isPartner_49 (by decide) ?_
      exact st_zreturn C F dX4_isPartner_53 rfl (by omega) (rt_i (by first | rfl | omega | exact absurd (by assumption) hP | exact absurd hP (by assumption) | exact absurd hP.1 (by assumption) | exact absurd hP.2 (by assumption) | exact absurd ⟨by assumption, by assumption⟩ hP | exact absurd (by assumption) hP.2) rfl) (by omega) (by omega)
  · refine st_callS (st := []) C dX4_isPartner_29 [vI p9, vI q9] (k_touch_f (p := p9) (q := q9) (by omega) (by omega) b_29) w_X4_51 rfl (by decide) (by decide) (by omega) (by omega) (Nat.le_of_ble_eq_true rfl) (ko_rt ?_)
    show T x 32 [(0, vR c), (1, vR k), (2, vR r), (3, vI p9), (4, vI q9)] [vI 0] _ _ _
    refine st_if_eq (tgt := 52) C dX4_isPartner_32 (by decide) (fun c_32 => ?_) (fun c_32 => by omega)
    refine st_iconst C dX4_isPartner_52 (by decide) ?_
    exact st_zreturn C F dX4_isPartner_53 rfl (by omega) (rt_i (by first | rfl | omega | exact absurd (by assumption) hP | exact absurd hP (by assumption) | exact absurd hP.1 (by assumption) | exact absurd hP.2 (by assumption) | exact absurd ⟨by assumption, by assumption⟩ hP | exact absurd (by assumption) hP.2) rfl) (by omega) (by omega)
set_option maxRecDepth 20000 in
set_option maxHeartbeats 4000000 in
theorem k_partg_f {g : Gx} {h : HP} {c G9 : Nat} {gf : Int → Int} {k : Nat} {a9 b9 : Int} {r : Nat} {rf : Int → Int} {p9 q9 : Int} (hc : h c = some (oO 3 [vR G9])) (hG : h G9 = some (oI 64 gf)) (n1 : c ≠ G9) (hk : h k = some (oO 4 [vI 103, vI a9, vI b9])) (hr : h r = some (oI 304 rf)) (hp : 0 ≤ p9 ∧ p9 ≤ 63) (hq : 0 ≤ q9 ∧ q9 ≤ 63) (ha : 0 ≤ a9 ∧ a9 ≤ 2) (hP : ¬ (Touch p9 q9 ∧ rf (64 * a9 + q9) = 0)) : Ct g yX4_isPartner (.code yX4_isPartner cX4_isPartner 5 (some .boolean)) 3 0 0 [vR c, vR k, vR r, vI p9, vI q9] h (Rt (some (vI 0)) h) := by
  refine Ct.of (by decide) (Nat.le_of_ble_eq_true rfl) (fun x hg C F => ?_)
  subst hg
  show T x 0 [(0, vR c), (1, vR k), (2, vR r), (3, vI p9), (4, vI q9)] [] h 0 0
  refine st_aload_n C 1 dX4_isPartner_0 rfl rfl ?_
  refine st_getf C dX4_isPartner_1 fl_X4_15 hk rfl ?_
  refine st_bipush C dX4_isPartner_4 (by decide) (by decide) ?_
  refine st_icmp_ne (tgt := 17) C dX4_isPartner_6 (by decide) (fun c_6 => ?_) (fun c_6 => by omega)
  refine st_aload_n C 1 dX4_isPartner_17 rfl rfl ?_
  refine st_getf C dX4_isPartner_18 fl_X4_15 hk rfl ?_
  refine st_bipush C dX4_isPartner_21 (by decide) (by decide) ?_
  refine st_icmp_ne (tgt := 54) C dX4_isPartner_23 (by decide) (fun c_23 => by omega) (fun c_23 => ?_)
  refine st_iload_n C 3 dX4_isPartner_26 rfl rfl ?_
  refine st_iload C dX4_isPartner_27 rfl ?_
  by_cases b_29 : Touch p9 q9
  · refine st_callS (st := []) C dX4_isPartner_29 [vI p9, vI q9] (k_touch_t (p := p9) (q := q9) (by omega) (by omega) b_29) w_X4_51 rfl (by decide) (by decide) (by omega) (by omega) (Nat.le_of_ble_eq_true rfl) (ko_rt ?_)
    show T x 32 [(0, vR c), (1, vR k), (2, vR r), (3, vI p9), (4, vI q9)] [vI 1] _ _ _
    refine st_if_eq (tgt := 52) C dX4_isPartner_32 (by decide) (fun c_32 => by omega) (fun c_32 => ?_)
    refine st_aload_n C 2 dX4_isPartner_35 rfl rfl ?_
    refine st_aload_n C 1 dX4_isPartner_36 rfl rfl ?_
    refine st_getf C dX4_isPartner_37 fl_X4_21 hk rfl ?_
    refine st_iload C dX4_isPartner_40 rfl ?_
    refine st_callS (st := []) C dX4_isPartner_42 [vR r, vI a9, vI q9] (k_areaAt (f := rf) (l := a9) (p := q9) hr (by omega) (by omega)) w_X4_43 rfl (by decide) (by decide) (by omega) (by omega) (Nat.le_of_ble_eq_true rfl) (ko_rt ?_)
    show T x 45 [(0, vR c), (1, vR k), (2, vR r), (3, vI p9), (4, vI q9)] [vI (rf (64 * a9 + q9))] _ _ _
    refine st_if_ne (tgt := 52) C dX4_isPartner_45 (by decide) (fun c_45 => ?_) (fun c_45 => ?_)
    · refine st_iconst C dX4_isPartner_52 (by decide) ?_
      exact st_zreturn C F dX4_isPartner_53 rfl (by omega) (rt_i (by first | rfl | omega | exact absurd (by assumption) hP | exact absurd hP (by assumption) | exact absurd hP.1 (by assumption) | exact absurd hP.2 (by assumption) | exact absurd ⟨by assumption, by assumption⟩ hP | exact absurd (by assumption) hP.2) rfl) (by omega) (by omega)
    · refine st_iconst C dX4_isPartner_48 (by decide) ?_
      refine st_goto (tgt := 53) C dX4_isPartner_49 (by decide) ?_
      exact st_zreturn C F dX4_isPartner_53 rfl (by omega) (rt_i (by first | rfl | omega | exact absurd (by assumption) hP | exact absurd hP (by assumption) | exact absurd hP.1 (by assumption) | exact absurd hP.2 (by assumption) | exact absurd ⟨by assumption, by assumption⟩ hP | exact absurd (by assumption) hP.2) rfl) (by omega) (by omega)
  · refine st_callS (st := []) C dX4_isPartner_29 [vI p9, vI q9] (k_touch_f (p := p9) (q := q9) (by omega) (by omega) b_29) w_X4_51 rfl (by decide) (by decide) (by omega) (by omega) (Nat.le_of_ble_eq_true rfl) (ko_rt ?_)
    show T x 32 [(0, vR c), (1, vR k), (2, vR r), (3, vI p9), (4, vI q9)] [vI 0] _ _ _
    refine st_if_eq (tgt := 52) C dX4_isPartner_32 (by decide) (fun c_32 => ?_) (fun c_32 => by omega)
    refine st_iconst C dX4_isPartner_52 (by decide) ?_
    exact st_zreturn C F dX4_isPartner_53 rfl (by omega) (rt_i (by first | rfl | omega | exact absurd (by assumption) hP | exact absurd hP (by assumption) | exact absurd hP.1 (by assumption) | exact absurd hP.2 (by assumption) | exact absurd ⟨by assumption, by assumption⟩ hP | exact absurd (by assumption) hP.2) rfl) (by omega) (by omega)
set_option maxRecDepth 20000 in
set_option maxHeartbeats 4000000 in
theorem k_pBrokeng {g : Gx} {h : HP} {c G9 : Nat} {gf : Int → Int} {k : Nat} {a9 b9 : Int} {r : Nat} {rf : Int → Int} {p9 : Int} (hc : h c = some (oO 3 [vR G9])) (hG : h G9 = some (oI 64 gf)) (n1 : c ≠ G9) (hk : h k = some (oO 4 [vI 103, vI a9, vI b9])) (hr : h r = some (oI 304 rf)) (hp : 0 ≤ p9 ∧ p9 ≤ 63) (ha : 0 ≤ a9 ∧ a9 ≤ 2) (hP : ¬ (rf (64 * a9 + p9) = 0 ∧ cnt (fun q9 => (Touch p9 q9 ∧ rf (64 * a9 + q9) = 0)) 64 = 0)) : Ct g yX4_isBrokenAt (.code yX4_isBrokenAt cX4_isBrokenAt 6 (some .boolean)) 4 0 0 [vR c, vR k, vR r, vI p9] h (Rt (some (vI 0)) h) := by
  refine Ct.of (by decide) (Nat.le_of_ble_eq_true rfl) (fun x hg C F => ?_)
  subst hg
  show T x 0 [(0, vR c), (1, vR k), (2, vR r), (3, vI p9)] [] h 0 0
  refine st_iconst C dX4_isBrokenAt_0 (by decide) ?_
  refine st_istore C dX4_isBrokenAt_1 (by decide) rfl ?_
  show T x 3 [(0, vR c), (1, vR k), (2, vR r), (3, vI p9), (4, vI 0)] [] _ _ _
  refine st_iconst C dX4_isBrokenAt_3 (by decide) ?_
  refine st_istore C dX4_isBrokenAt_4 (by decide) rfl ?_
  show T x 6 [(0, vR c), (1, vR k), (2, vR r), (3, vI p9), (4, vI 0), (5, vI 0)] [] _ _ _
  have loop_6 : ∀ (n_6 : Nat) (c1 : Int) (i : Int), (0 ≤ i) → (i ≤ 64) → (0 ≤ c1 ∧ c1 ≤ i) → (c1 = cnt (fun q9 => (Touch p9 q9 ∧ rf (64 * a9 + q9) = 0)) i) → (64 - i).toNat < n_6 → T x 6 [(0, vR c), (1, vR k), (2, vR r), (3, vI p9), (4, vI c1), (5, vI i)] [] h 0 0 := by
    intro n_6
    induction n_6 with
    | zero => intro c1 i g1 g2 g3 g4 hm_6; exact absurd hm_6 (Nat.not_lt_zero _)
    | succ n_6 ih_6 =>
      intro c1 i g1 g2 g3 g4 hm_6
      refine st_iload C dX4_isBrokenAt_6 rfl ?_
      refine st_bipush C dX4_isBrokenAt_8 (by decide) (by decide) ?_
      refine st_icmp_ge (tgt := 34) C dX4_isBrokenAt_10 (by decide) (fun c_10 => ?_) (fun c_10 => ?_)
      · refine st_aload_n C 1 dX4_isBrokenAt_34 rfl rfl ?_
        refine st_getf C dX4_isBrokenAt_35 fl_X4_15 hk rfl ?_
        refine st_bipush C dX4_isBrokenAt_38 (by decide) (by decide) ?_
        refine st_icmp_ne (tgt := 62) C dX4_isBrokenAt_40 (by decide) (fun c_40 => ?_) (fun c_40 => by omega)
        refine st_aload_n C 2 dX4_isBrokenAt_62 rfl rfl ?_
        refine st_aload_n C 1 dX4_isBrokenAt_63 rfl rfl ?_
        refine st_getf C dX4_isBrokenAt_64 fl_X4_21 hk rfl ?_
        refine st_iload_n C 3 dX4_isBrokenAt_67 rfl rfl ?_
        refine st_callS (st := []) C dX4_isBrokenAt_68 [vR r, vI a9, vI p9] (k_areaAt (f := rf) (l := a9) (p := p9) hr (by omega) (by omega)) w_X4_43 rfl (by decide) (by decide) (by omega) (by omega) (Nat.le_of_ble_eq_true rfl) (ko_rt ?_)
        show T x 71 [(0, vR c), (1, vR k), (2, vR r), (3, vI p9), (4, vI c1), (5, vI i)] [vI (rf (64 * a9 + p9))] _ _ _
        refine st_if_eq (tgt := 78) C dX4_isBrokenAt_71 (by decide) (fun c_71 => ?_) (fun c_71 => ?_)
        · refine st_iconst C dX4_isBrokenAt_78 (by decide) ?_
          refine st_istore C dX4_isBrokenAt_79 (by decide) rfl ?_
          show T x 81 [(0, vR c), (1, vR k), (2, vR r), (3, vI p9), (4, vI c1), (5, vI 0)] [] _ _ _
          refine st_aload_n C 1 dX4_isBrokenAt_81 rfl rfl ?_
          refine st_getf C dX4_isBrokenAt_82 fl_X4_15 hk rfl ?_
          refine st_bipush C dX4_isBrokenAt_85 (by decide) (by decide) ?_
          refine st_icmp_ne (tgt := 106) C dX4_isBrokenAt_87 (by decide) (fun c_87 => by omega) (fun c_87 => ?_)
          refine st_iload C dX4_isBrokenAt_90 rfl ?_
          refine st_if_ne (tgt := 104) C dX4_isBrokenAt_92 (by decide) (fun c_92 => by omega) (fun c_92 => ?_)
          refine st_iload C dX4_isBrokenAt_95 rfl ?_
          refine st_if_ne (tgt := 104) C dX4_isBrokenAt_97 (by decide) (fun c_97 => ?_) (fun c_97 => ?_)
          · refine st_iconst C dX4_isBrokenAt_104 (by decide) ?_
            exact st_zreturn C F dX4_isBrokenAt_105 rfl (by omega) (rt_i (by first | rfl | (exfalso; rw [← cntE g4 (show i = 64 by omega)] at hP; first | exact hP ⟨by assumption, by omega⟩ | omega)) rfl) (by omega) (by omega)
          · refine st_iconst C dX4_isBrokenAt_100 (by decide) ?_
            refine st_goto (tgt := 105) C dX4_isBrokenAt_101 (by decide) ?_
            exact st_zreturn C F dX4_isBrokenAt_105 rfl (by omega) (rt_i (by first | rfl | (exfalso; rw [← cntE g4 (show i = 64 by omega)] at hP; first | exact hP ⟨by assumption, by omega⟩ | omega)) rfl) (by omega) (by omega)
        · refine st_iconst C dX4_isBrokenAt_74 (by decide) ?_
          refine st_goto (tgt := 79) C dX4_isBrokenAt_75 (by decide) ?_
          refine st_istore C dX4_isBrokenAt_79 (by decide) rfl ?_
          show T x 81 [(0, vR c), (1, vR k), (2, vR r), (3, vI p9), (4, vI c1), (5, vI 1)] [] _ _ _
          refine st_aload_n C 1 dX4_isBrokenAt_81 rfl rfl ?_
          refine st_getf C dX4_isBrokenAt_82 fl_X4_15 hk rfl ?_
          refine st_bipush C dX4_isBrokenAt_85 (by decide) (by decide) ?_
          refine st_icmp_ne (tgt := 106) C dX4_isBrokenAt_87 (by decide) (fun c_87 => by omega) (fun c_87 => ?_)
          refine st_iload C dX4_isBrokenAt_90 rfl ?_
          refine st_if_ne (tgt := 104) C dX4_isBrokenAt_92 (by decide) (fun c_92 => ?_) (fun c_92 => by omega)
          refine st_iconst C dX4_isBrokenAt_104 (by decide) ?_
          exact st_zreturn C F dX4_isBrokenAt_105 rfl (by omega) (rt_i (by first | rfl | (exfalso; rw [← cntE g4 (show i = 64 by omega)] at hP; first | exact hP ⟨by assumption, by omega⟩ | omega)) rfl) (by omega) (by omega)
      · refine st_aload_n C 0 dX4_isBrokenAt_13 rfl rfl ?_
        refine st_aload_n C 1 dX4_isBrokenAt_14 rfl rfl ?_
        refine st_aload_n C 2 dX4_isBrokenAt_15 rfl rfl ?_
        refine st_iload_n C 3 dX4_isBrokenAt_16 rfl rfl ?_
        refine st_iload C dX4_isBrokenAt_17 rfl ?_
        by_cases b_19 : (Touch p9 i ∧ rf (64 * a9 + i) = 0)
        · refine st_callV (st := []) C dX4_isBrokenAt_19 [vR k, vR r, vI p9, vI i] (k_partg_t (gf := gf) (a9 := a9) (b9 := b9) (rf := rf) (p9 := p9) (q9 := i) hc hG n1 hk hr (by omega) (by omega) (by omega) b_19) hc w_X4_33 rfl (by decide) (by decide) (by omega) (by omega) (Nat.le_of_ble_eq_true rfl) (ko_rt ?_)
          show T x 22 [(0, vR c), (1, vR k), (2, vR r), (3, vI p9), (4, vI c1), (5, vI i)] [vI 1] _ _ _
          refine st_if_eq (tgt := 28) C dX4_isBrokenAt_22 (by decide) (fun c_22 => by omega) (fun c_22 => ?_)
          refine st_iinc C dX4_isBrokenAt_25 rfl (by decide) rfl ⟨(by omega), (by omega)⟩ ?_
          show T x 28 [(0, vR c), (1, vR k), (2, vR r), (3, vI p9), (4, vI (c1 + 1)), (5, vI i)] [] _ _ _
          refine st_iinc C dX4_isBrokenAt_28 rfl (by decide) rfl ⟨(by omega), (by omega)⟩ ?_
          show T x 31 [(0, vR c), (1, vR k), (2, vR r), (3, vI p9), (4, vI (c1 + 1)), (5, vI (i + 1))] [] _ _ _
          refine st_goto (tgt := 6) C dX4_isBrokenAt_31 (by decide) ?_
          exact ih_6 (c1 + 1) (i + 1) (by omega) (by omega) (by omega) (by first | exact cnt_t g1 (by assumption) g4 | exact cnt_f g1 (by assumption) g4) (by omega)
        · refine st_callV (st := []) C dX4_isBrokenAt_19 [vR k, vR r, vI p9, vI i] (k_partg_f (gf := gf) (a9 := a9) (b9 := b9) (rf := rf) (p9 := p9) (q9 := i) hc hG n1 hk hr (by omega) (by omega) (by omega) b_19) hc w_X4_33 rfl (by decide) (by decide) (by omega) (by omega) (Nat.le_of_ble_eq_true rfl) (ko_rt ?_)
          show T x 22 [(0, vR c), (1, vR k), (2, vR r), (3, vI p9), (4, vI c1), (5, vI i)] [vI 0] _ _ _
          refine st_if_eq (tgt := 28) C dX4_isBrokenAt_22 (by decide) (fun c_22 => ?_) (fun c_22 => by omega)
          refine st_iinc C dX4_isBrokenAt_28 rfl (by decide) rfl ⟨(by omega), (by omega)⟩ ?_
          show T x 31 [(0, vR c), (1, vR k), (2, vR r), (3, vI p9), (4, vI c1), (5, vI (i + 1))] [] _ _ _
          refine st_goto (tgt := 6) C dX4_isBrokenAt_31 (by decide) ?_
          exact ih_6 c1 (i + 1) (by omega) (by omega) (by omega) (by first | exact cnt_t g1 (by assumption) g4 | exact cnt_f g1 (by assumption) g4) (by omega)
  exact loop_6 _ 0 0 (by omega) (by omega) (by omega) (cnt_0) (Nat.lt_succ_self _)
theorem nb_g {rf : Int → Int} {a9 b9 p9 : Int} (hp : 0 ≤ p9 ∧ p9 ≤ 63) (hR : RuleHolds 103 a9 b9 rf) : ¬ (rf (64 * a9 + p9) = 0 ∧ cnt (fun q9 => (Touch p9 q9 ∧ rf (64 * a9 + q9) = 0)) 64 = 0) := by
  intro z
  refine hR.1 p9 hp.1 hp.2 (Or.inr (Or.inl ⟨rfl, z.1, fun d d1 d2 d3 d4 => ?_⟩))
  have hb := besid_in (d := d) hp
  have := cnt_pos (P := (fun q9 => (Touch p9 q9 ∧ rf (64 * a9 + q9) = 0))) (n := 64) (i := besid p9 d) (by omega) (by omega) ⟨besid_touch hp ⟨d1, by omega⟩ rfl d3, d4⟩
  omega
set_option maxRecDepth 20000 in
set_option maxHeartbeats 4000000 in
theorem k_pHoldsg {g : Gx} {h : HP} {c G9 : Nat} {gf : Int → Int} {k : Nat} {a9 b9 : Int} {r : Nat} {rf : Int → Int} (hc : h c = some (oO 3 [vR G9])) (hG : h G9 = some (oI 64 gf)) (n1 : c ≠ G9) (hk : h k = some (oO 4 [vI 103, vI a9, vI b9])) (hr : h r = some (oI 304 rf)) (ha : 0 ≤ a9 ∧ a9 ≤ 2) (n2 : r ≠ G9) (n3 : k ≠ G9) (hv : ∀ s, 0 ≤ s → s < 192 → 0 ≤ rf s ∧ rf s ≤ 9) (hR : RuleHolds 103 a9 b9 rf) : Ct g yX4_holds (.code yX4_holds cX4_holds 4 (some .boolean)) 5 0 0 [vR c, vR k, vR r] h (RtG (some (vI 1)) h G9 (fun _ => True)) := by
  refine Ct.of (by decide) (Nat.le_of_ble_eq_true rfl) (fun x hg C F => ?_)
  subst hg
  show T x 0 [(0, vR c), (1, vR k), (2, vR r)] [] h 0 0
  refine st_aload_n C 1 dX4_holds_0 rfl rfl ?_
  refine st_getf C dX4_holds_1 fl_X4_15 hk rfl ?_
  refine st_bipush C dX4_holds_4 (by decide) (by decide) ?_
  refine st_icmp_ne (tgt := 18) C dX4_holds_6 (by decide) (fun c_6 => ?_) (fun c_6 => by omega)
  refine st_iconst C dX4_holds_18 (by decide) ?_
  refine st_istore_n C 3 dX4_holds_19 rfl (by decide) rfl ?_
  show T x 20 [(0, vR c), (1, vR k), (2, vR r), (3, vI 0)] [] _ _ _
  have loop_20 : ∀ (n_20 : Nat) (i : Int), (0 ≤ i) → (i ≤ 64) → (64 - i).toNat < n_20 → T x 20 [(0, vR c), (1, vR k), (2, vR r), (3, vI i)] [] h 0 0 := by
    intro n_20
    induction n_20 with
    | zero => intro i g1 g2 hm_20; exact absurd hm_20 (Nat.not_lt_zero _)
    | succ n_20 ih_20 =>
      intro i g1 g2 hm_20
      refine st_iload_n C 3 dX4_holds_20 rfl rfl ?_
      refine st_bipush C dX4_holds_21 (by decide) (by decide) ?_
      refine st_icmp_ge (tgt := 44) C dX4_holds_23 (by decide) (fun c_23 => ?_) (fun c_23 => ?_)
      · refine st_iconst C dX4_holds_44 (by decide) ?_
        exact st_zreturn C F dX4_holds_45 rfl (by omega) ⟨_, rfl, (hput_self hG).symm, trivial⟩ (by omega) (by omega)
      · refine st_aload_n C 0 dX4_holds_26 rfl rfl ?_
        refine st_aload_n C 1 dX4_holds_27 rfl rfl ?_
        refine st_aload_n C 2 dX4_holds_28 rfl rfl ?_
        refine st_iload_n C 3 dX4_holds_29 rfl rfl ?_
        refine st_callV (st := []) C dX4_holds_30 [vR k, vR r, vI i] (k_pBrokeng (a9 := a9) (b9 := b9) (rf := rf) (gf := gf) (p9 := i) hc hG n1 hk hr (by omega) (by omega) (nb_g (by omega) hR)) hc w_X4_29 rfl (by decide) (by decide) (by omega) (by omega) (Nat.le_of_ble_eq_true rfl) (ko_rt ?_)
        show T x 33 [(0, vR c), (1, vR k), (2, vR r), (3, vI i)] [vI 0] _ _ _
        refine st_if_eq (tgt := 38) C dX4_holds_33 (by decide) (fun c_33 => ?_) (fun c_33 => by omega)
        refine st_iinc C dX4_holds_38 rfl (by decide) rfl ⟨(by omega), (by omega)⟩ ?_
        show T x 41 [(0, vR c), (1, vR k), (2, vR r), (3, vI (i + 1))] [] _ _ _
        refine st_goto (tgt := 20) C dX4_holds_41 (by decide) ?_
        exact ih_20 (i + 1) (by omega) (by omega) (by omega)
  exact loop_20 _ 0 (by omega) (by omega) (Nat.lt_succ_self _)
set_option maxRecDepth 20000 in
set_option maxHeartbeats 4000000 in
theorem k_partw_t {g : Gx} {h : HP} {c G9 : Nat} {gf : Int → Int} {k : Nat} {a9 b9 : Int} {r : Nat} {rf : Int → Int} {p9 q9 : Int} (hc : h c = some (oO 3 [vR G9])) (hG : h G9 = some (oI 64 gf)) (n1 : c ≠ G9) (hk : h k = some (oO 4 [vI 119, vI a9, vI b9])) (hr : h r = some (oI 304 rf)) (hp : 0 ≤ p9 ∧ p9 ≤ 63) (hq : 0 ≤ q9 ∧ q9 ≤ 63) (ha : 0 ≤ a9 ∧ a9 ≤ 2) (hP : (rf (64 * a9 + p9) = rf (64 * a9 + q9) ∧ gf p9 ≠ gf q9)) : Ct g yX4_isPartner (.code yX4_isPartner cX4_isPartner 5 (some .boolean)) 3 0 0 [vR c, vR k, vR r, vI p9, vI q9] h (Rt (some (vI 1)) h) := by
  refine Ct.of (by decide) (Nat.le_of_ble_eq_true rfl) (fun x hg C F => ?_)
  subst hg
  show T x 0 [(0, vR c), (1, vR k), (2, vR r), (3, vI p9), (4, vI q9)] [] h 0 0
  refine st_aload_n C 1 dX4_isPartner_0 rfl rfl ?_
  refine st_getf C dX4_isPartner_1 fl_X4_15 hk rfl ?_
  refine st_bipush C dX4_isPartner_4 (by decide) (by decide) ?_
  refine st_icmp_ne (tgt := 17) C dX4_isPartner_6 (by decide) (fun c_6 => ?_) (fun c_6 => by omega)
  refine st_aload_n C 1 dX4_isPartner_17 rfl rfl ?_
  refine st_getf C dX4_isPartner_18 fl_X4_15 hk rfl ?_
  refine st_bipush C dX4_isPartner_21 (by decide) (by decide) ?_
  refine st_icmp_ne (tgt := 54) C dX4_isPartner_23 (by decide) (fun c_23 => ?_) (fun c_23 => by omega)
  refine st_aload_n C 1 dX4_isPartner_54 rfl rfl ?_
  refine st_getf C dX4_isPartner_55 fl_X4_15 hk rfl ?_
  refine st_bipush C dX4_isPartner_58 (by decide) (by decide) ?_
  refine st_icmp_ne (tgt := 99) C dX4_isPartner_60 (by decide) (fun c_60 => by omega) (fun c_60 => ?_)
  refine st_aload_n C 2 dX4_isPartner_63 rfl rfl ?_
  refine st_aload_n C 1 dX4_isPartner_64 rfl rfl ?_
  refine st_getf C dX4_isPartner_65 fl_X4_21 hk rfl ?_
  refine st_iload_n C 3 dX4_isPartner_68 rfl rfl ?_
  refine st_iload C dX4_isPartner_69 rfl ?_
  by_cases b_71 : rf (64 * a9 + p9) = rf (64 * a9 + q9)
  · refine st_callS (st := []) C dX4_isPartner_71 [vR r, vI a9, vI p9, vI q9] (k_isLike_t (rf := rf) (l := a9) (p9 := p9) (q9 := q9) hr (by omega) (by omega) (by omega) b_71) w_X4_55 rfl (by decide) (by decide) (by omega) (by omega) (Nat.le_of_ble_eq_true rfl) (ko_rt ?_)
    show T x 74 [(0, vR c), (1, vR k), (2, vR r), (3, vI p9), (4, vI q9)] [vI 1] _ _ _
    refine st_if_eq (tgt := 97) C dX4_isPartner_74 (by decide) (fun c_74 => by omega) (fun c_74 => ?_)
    refine st_aload_n C 0 dX4_isPartner_77 rfl rfl ?_
    refine st_getf C dX4_isPartner_78 fl_X4_9 hc rfl ?_
    refine st_iload_n C 3 dX4_isPartner_81 rfl rfl ?_
    refine st_iald C dX4_isPartner_82 hG (by omega) (by omega) ?_
    refine st_aload_n C 0 dX4_isPartner_83 rfl rfl ?_
    refine st_getf C dX4_isPartner_84 fl_X4_9 hc rfl ?_
    refine st_iload C dX4_isPartner_87 rfl ?_
    refine st_iald C dX4_isPartner_89 hG (by omega) (by omega) ?_
    refine st_icmp_eq (tgt := 97) C dX4_isPartner_90 (by decide) (fun c_90 => ?_) (fun c_90 => ?_)
    · refine st_iconst C dX4_isPartner_97 (by decide) ?_
      exact st_zreturn C F dX4_isPartner_98 rfl (by omega) (rt_i (by first | rfl | omega | exact absurd (by assumption) hP | exact absurd hP (by assumption) | exact absurd hP.1 (by assumption) | exact absurd hP.2 (by assumption) | exact absurd ⟨by assumption, by assumption⟩ hP | exact absurd (by assumption) hP.2) rfl) (by omega) (by omega)
    · refine st_iconst C dX4_isPartner_93 (by decide) ?_
      refine st_goto (tgt := 98) C dX4_isPartner_94 (by decide) ?_
      exact st_zreturn C F dX4_isPartner_98 rfl (by omega) (rt_i (by first | rfl | omega | exact absurd (by assumption) hP | exact absurd hP (by assumption) | exact absurd hP.1 (by assumption) | exact absurd hP.2 (by assumption) | exact absurd ⟨by assumption, by assumption⟩ hP | exact absurd (by assumption) hP.2) rfl) (by omega) (by omega)
  · refine st_callS (st := []) C dX4_isPartner_71 [vR r, vI a9, vI p9, vI q9] (k_isLike_f (rf := rf) (l := a9) (p9 := p9) (q9 := q9) hr (by omega) (by omega) (by omega) b_71) w_X4_55 rfl (by decide) (by decide) (by omega) (by omega) (Nat.le_of_ble_eq_true rfl) (ko_rt ?_)
    show T x 74 [(0, vR c), (1, vR k), (2, vR r), (3, vI p9), (4, vI q9)] [vI 0] _ _ _
    refine st_if_eq (tgt := 97) C dX4_isPartner_74 (by decide) (fun c_74 => ?_) (fun c_74 => by omega)
    refine st_iconst C dX4_isPartner_97 (by decide) ?_
    exact st_zreturn C F dX4_isPartner_98 rfl (by omega) (rt_i (by first | rfl | omega | exact absurd (by assumption) hP | exact absurd hP (by assumption) | exact absurd hP.1 (by assumption) | exact absurd hP.2 (by assumption) | exact absurd ⟨by assumption, by assumption⟩ hP | exact absurd (by assumption) hP.2) rfl) (by omega) (by omega)
set_option maxRecDepth 20000 in
set_option maxHeartbeats 4000000 in
theorem k_partw_f {g : Gx} {h : HP} {c G9 : Nat} {gf : Int → Int} {k : Nat} {a9 b9 : Int} {r : Nat} {rf : Int → Int} {p9 q9 : Int} (hc : h c = some (oO 3 [vR G9])) (hG : h G9 = some (oI 64 gf)) (n1 : c ≠ G9) (hk : h k = some (oO 4 [vI 119, vI a9, vI b9])) (hr : h r = some (oI 304 rf)) (hp : 0 ≤ p9 ∧ p9 ≤ 63) (hq : 0 ≤ q9 ∧ q9 ≤ 63) (ha : 0 ≤ a9 ∧ a9 ≤ 2) (hP : ¬ (rf (64 * a9 + p9) = rf (64 * a9 + q9) ∧ gf p9 ≠ gf q9)) : Ct g yX4_isPartner (.code yX4_isPartner cX4_isPartner 5 (some .boolean)) 3 0 0 [vR c, vR k, vR r, vI p9, vI q9] h (Rt (some (vI 0)) h) := by
  refine Ct.of (by decide) (Nat.le_of_ble_eq_true rfl) (fun x hg C F => ?_)
  subst hg
  show T x 0 [(0, vR c), (1, vR k), (2, vR r), (3, vI p9), (4, vI q9)] [] h 0 0
  refine st_aload_n C 1 dX4_isPartner_0 rfl rfl ?_
  refine st_getf C dX4_isPartner_1 fl_X4_15 hk rfl ?_
  refine st_bipush C dX4_isPartner_4 (by decide) (by decide) ?_
  refine st_icmp_ne (tgt := 17) C dX4_isPartner_6 (by decide) (fun c_6 => ?_) (fun c_6 => by omega)
  refine st_aload_n C 1 dX4_isPartner_17 rfl rfl ?_
  refine st_getf C dX4_isPartner_18 fl_X4_15 hk rfl ?_
  refine st_bipush C dX4_isPartner_21 (by decide) (by decide) ?_
  refine st_icmp_ne (tgt := 54) C dX4_isPartner_23 (by decide) (fun c_23 => ?_) (fun c_23 => by omega)
  refine st_aload_n C 1 dX4_isPartner_54 rfl rfl ?_
  refine st_getf C dX4_isPartner_55 fl_X4_15 hk rfl ?_
  refine st_bipush C dX4_isPartner_58 (by decide) (by decide) ?_
  refine st_icmp_ne (tgt := 99) C dX4_isPartner_60 (by decide) (fun c_60 => by omega) (fun c_60 => ?_)
  refine st_aload_n C 2 dX4_isPartner_63 rfl rfl ?_
  refine st_aload_n C 1 dX4_isPartner_64 rfl rfl ?_
  refine st_getf C dX4_isPartner_65 fl_X4_21 hk rfl ?_
  refine st_iload_n C 3 dX4_isPartner_68 rfl rfl ?_
  refine st_iload C dX4_isPartner_69 rfl ?_
  by_cases b_71 : rf (64 * a9 + p9) = rf (64 * a9 + q9)
  · refine st_callS (st := []) C dX4_isPartner_71 [vR r, vI a9, vI p9, vI q9] (k_isLike_t (rf := rf) (l := a9) (p9 := p9) (q9 := q9) hr (by omega) (by omega) (by omega) b_71) w_X4_55 rfl (by decide) (by decide) (by omega) (by omega) (Nat.le_of_ble_eq_true rfl) (ko_rt ?_)
    show T x 74 [(0, vR c), (1, vR k), (2, vR r), (3, vI p9), (4, vI q9)] [vI 1] _ _ _
    refine st_if_eq (tgt := 97) C dX4_isPartner_74 (by decide) (fun c_74 => by omega) (fun c_74 => ?_)
    refine st_aload_n C 0 dX4_isPartner_77 rfl rfl ?_
    refine st_getf C dX4_isPartner_78 fl_X4_9 hc rfl ?_
    refine st_iload_n C 3 dX4_isPartner_81 rfl rfl ?_
    refine st_iald C dX4_isPartner_82 hG (by omega) (by omega) ?_
    refine st_aload_n C 0 dX4_isPartner_83 rfl rfl ?_
    refine st_getf C dX4_isPartner_84 fl_X4_9 hc rfl ?_
    refine st_iload C dX4_isPartner_87 rfl ?_
    refine st_iald C dX4_isPartner_89 hG (by omega) (by omega) ?_
    refine st_icmp_eq (tgt := 97) C dX4_isPartner_90 (by decide) (fun c_90 => ?_) (fun c_90 => ?_)
    · refine st_iconst C dX4_isPartner_97 (by decide) ?_
      exact st_zreturn C F dX4_isPartner_98 rfl (by omega) (rt_i (by first | rfl | omega | exact absurd (by assumption) hP | exact absurd hP (by assumption) | exact absurd hP.1 (by assumption) | exact absurd hP.2 (by assumption) | exact absurd ⟨by assumption, by assumption⟩ hP | exact absurd (by assumption) hP.2) rfl) (by omega) (by omega)
    · refine st_iconst C dX4_isPartner_93 (by decide) ?_
      refine st_goto (tgt := 98) C dX4_isPartner_94 (by decide) ?_
      exact st_zreturn C F dX4_isPartner_98 rfl (by omega) (rt_i (by first | rfl | omega | exact absurd (by assumption) hP | exact absurd hP (by assumption) | exact absurd hP.1 (by assumption) | exact absurd hP.2 (by assumption) | exact absurd ⟨by assumption, by assumption⟩ hP | exact absurd (by assumption) hP.2) rfl) (by omega) (by omega)
  · refine st_callS (st := []) C dX4_isPartner_71 [vR r, vI a9, vI p9, vI q9] (k_isLike_f (rf := rf) (l := a9) (p9 := p9) (q9 := q9) hr (by omega) (by omega) (by omega) b_71) w_X4_55 rfl (by decide) (by decide) (by omega) (by omega) (Nat.le_of_ble_eq_true rfl) (ko_rt ?_)
    show T x 74 [(0, vR c), (1, vR k), (2, vR r), (3, vI p9), (4, vI q9)] [vI 0] _ _ _
    refine st_if_eq (tgt := 97) C dX4_isPartner_74 (by decide) (fun c_74 => ?_) (fun c_74 => by omega)
    refine st_iconst C dX4_isPartner_97 (by decide) ?_
    exact st_zreturn C F dX4_isPartner_98 rfl (by omega) (rt_i (by first | rfl | omega | exact absurd (by assumption) hP | exact absurd hP (by assumption) | exact absurd hP.1 (by assumption) | exact absurd hP.2 (by assumption) | exact absurd ⟨by assumption, by assumption⟩ hP | exact absurd (by assumption) hP.2) rfl) (by omega) (by omega)
set_option maxRecDepth 20000 in
set_option maxHeartbeats 4000000 in
theorem k_pBrokenw {g : Gx} {h : HP} {c G9 : Nat} {gf : Int → Int} {k : Nat} {a9 b9 : Int} {r : Nat} {rf : Int → Int} {p9 : Int} (hc : h c = some (oO 3 [vR G9])) (hG : h G9 = some (oI 64 gf)) (n1 : c ≠ G9) (hk : h k = some (oO 4 [vI 119, vI a9, vI b9])) (hr : h r = some (oI 304 rf)) (hp : 0 ≤ p9 ∧ p9 ≤ 63) (ha : 0 ≤ a9 ∧ a9 ≤ 2) (hP : ¬ (rf (64 * a9 + p9) ≠ 0 ∧ 0 < cnt (fun q9 => (rf (64 * a9 + p9) = rf (64 * a9 + q9) ∧ gf p9 ≠ gf q9)) 64)) : Ct g yX4_isBrokenAt (.code yX4_isBrokenAt cX4_isBrokenAt 6 (some .boolean)) 4 0 0 [vR c, vR k, vR r, vI p9] h (Rt (some (vI 0)) h) := by
  refine Ct.of (by decide) (Nat.le_of_ble_eq_true rfl) (fun x hg C F => ?_)
  subst hg
  show T x 0 [(0, vR c), (1, vR k), (2, vR r), (3, vI p9)] [] h 0 0
  refine st_iconst C dX4_isBrokenAt_0 (by decide) ?_
  refine st_istore C dX4_isBrokenAt_1 (by decide) rfl ?_
  show T x 3 [(0, vR c), (1, vR k), (2, vR r), (3, vI p9), (4, vI 0)] [] _ _ _
  refine st_iconst C dX4_isBrokenAt_3 (by decide) ?_
  refine st_istore C dX4_isBrokenAt_4 (by decide) rfl ?_
  show T x 6 [(0, vR c), (1, vR k), (2, vR r), (3, vI p9), (4, vI 0), (5, vI 0)] [] _ _ _
  have loop_6 : ∀ (n_6 : Nat) (c1 : Int) (i : Int), (0 ≤ i) → (i ≤ 64) → (0 ≤ c1 ∧ c1 ≤ i) → (c1 = cnt (fun q9 => (rf (64 * a9 + p9) = rf (64 * a9 + q9) ∧ gf p9 ≠ gf q9)) i) → (64 - i).toNat < n_6 → T x 6 [(0, vR c), (1, vR k), (2, vR r), (3, vI p9), (4, vI c1), (5, vI i)] [] h 0 0 := by
    intro n_6
    induction n_6 with
    | zero => intro c1 i g1 g2 g3 g4 hm_6; exact absurd hm_6 (Nat.not_lt_zero _)
    | succ n_6 ih_6 =>
      intro c1 i g1 g2 g3 g4 hm_6
      refine st_iload C dX4_isBrokenAt_6 rfl ?_
      refine st_bipush C dX4_isBrokenAt_8 (by decide) (by decide) ?_
      refine st_icmp_ge (tgt := 34) C dX4_isBrokenAt_10 (by decide) (fun c_10 => ?_) (fun c_10 => ?_)
      · refine st_aload_n C 1 dX4_isBrokenAt_34 rfl rfl ?_
        refine st_getf C dX4_isBrokenAt_35 fl_X4_15 hk rfl ?_
        refine st_bipush C dX4_isBrokenAt_38 (by decide) (by decide) ?_
        refine st_icmp_ne (tgt := 62) C dX4_isBrokenAt_40 (by decide) (fun c_40 => ?_) (fun c_40 => by omega)
        refine st_aload_n C 2 dX4_isBrokenAt_62 rfl rfl ?_
        refine st_aload_n C 1 dX4_isBrokenAt_63 rfl rfl ?_
        refine st_getf C dX4_isBrokenAt_64 fl_X4_21 hk rfl ?_
        refine st_iload_n C 3 dX4_isBrokenAt_67 rfl rfl ?_
        refine st_callS (st := []) C dX4_isBrokenAt_68 [vR r, vI a9, vI p9] (k_areaAt (f := rf) (l := a9) (p := p9) hr (by omega) (by omega)) w_X4_43 rfl (by decide) (by decide) (by omega) (by omega) (Nat.le_of_ble_eq_true rfl) (ko_rt ?_)
        show T x 71 [(0, vR c), (1, vR k), (2, vR r), (3, vI p9), (4, vI c1), (5, vI i)] [vI (rf (64 * a9 + p9))] _ _ _
        refine st_if_eq (tgt := 78) C dX4_isBrokenAt_71 (by decide) (fun c_71 => ?_) (fun c_71 => ?_)
        · refine st_iconst C dX4_isBrokenAt_78 (by decide) ?_
          refine st_istore C dX4_isBrokenAt_79 (by decide) rfl ?_
          show T x 81 [(0, vR c), (1, vR k), (2, vR r), (3, vI p9), (4, vI c1), (5, vI 0)] [] _ _ _
          refine st_aload_n C 1 dX4_isBrokenAt_81 rfl rfl ?_
          refine st_getf C dX4_isBrokenAt_82 fl_X4_15 hk rfl ?_
          refine st_bipush C dX4_isBrokenAt_85 (by decide) (by decide) ?_
          refine st_icmp_ne (tgt := 106) C dX4_isBrokenAt_87 (by decide) (fun c_87 => ?_) (fun c_87 => by omega)
          refine st_iload C dX4_isBrokenAt_106 rfl ?_
          refine st_if_eq (tgt := 137) C dX4_isBrokenAt_108 (by decide) (fun c_108 => ?_) (fun c_108 => by omega)
          refine st_iconst C dX4_isBrokenAt_137 (by decide) ?_
          exact st_zreturn C F dX4_isBrokenAt_138 rfl (by omega) (rt_i (by first | rfl | (exfalso; rw [← cntE g4 (show i = 64 by omega)] at hP; first | exact hP ⟨by assumption, by omega⟩ | omega)) rfl) (by omega) (by omega)
        · refine st_iconst C dX4_isBrokenAt_74 (by decide) ?_
          refine st_goto (tgt := 79) C dX4_isBrokenAt_75 (by decide) ?_
          refine st_istore C dX4_isBrokenAt_79 (by decide) rfl ?_
          show T x 81 [(0, vR c), (1, vR k), (2, vR r), (3, vI p9), (4, vI c1), (5, vI 1)] [] _ _ _
          refine st_aload_n C 1 dX4_isBrokenAt_81 rfl rfl ?_
          refine st_getf C dX4_isBrokenAt_82 fl_X4_15 hk rfl ?_
          refine st_bipush C dX4_isBrokenAt_85 (by decide) (by decide) ?_
          refine st_icmp_ne (tgt := 106) C dX4_isBrokenAt_87 (by decide) (fun c_87 => ?_) (fun c_87 => by omega)
          refine st_iload C dX4_isBrokenAt_106 rfl ?_
          refine st_if_eq (tgt := 137) C dX4_isBrokenAt_108 (by decide) (fun c_108 => by omega) (fun c_108 => ?_)
          refine st_aload_n C 1 dX4_isBrokenAt_111 rfl rfl ?_
          refine st_getf C dX4_isBrokenAt_112 fl_X4_15 hk rfl ?_
          refine st_bipush C dX4_isBrokenAt_115 (by decide) (by decide) ?_
          refine st_icmp_ne (tgt := 128) C dX4_isBrokenAt_117 (by decide) (fun c_117 => ?_) (fun c_117 => by omega)
          refine st_iload C dX4_isBrokenAt_128 rfl ?_
          refine st_if_le (tgt := 137) C dX4_isBrokenAt_130 (by decide) (fun c_130 => ?_) (fun c_130 => ?_)
          · refine st_iconst C dX4_isBrokenAt_137 (by decide) ?_
            exact st_zreturn C F dX4_isBrokenAt_138 rfl (by omega) (rt_i (by first | rfl | (exfalso; rw [← cntE g4 (show i = 64 by omega)] at hP; first | exact hP ⟨by assumption, by omega⟩ | omega)) rfl) (by omega) (by omega)
          · refine st_iconst C dX4_isBrokenAt_133 (by decide) ?_
            refine st_goto (tgt := 138) C dX4_isBrokenAt_134 (by decide) ?_
            exact st_zreturn C F dX4_isBrokenAt_138 rfl (by omega) (rt_i (by first | rfl | (exfalso; rw [← cntE g4 (show i = 64 by omega)] at hP; first | exact hP ⟨by assumption, by omega⟩ | omega)) rfl) (by omega) (by omega)
      · refine st_aload_n C 0 dX4_isBrokenAt_13 rfl rfl ?_
        refine st_aload_n C 1 dX4_isBrokenAt_14 rfl rfl ?_
        refine st_aload_n C 2 dX4_isBrokenAt_15 rfl rfl ?_
        refine st_iload_n C 3 dX4_isBrokenAt_16 rfl rfl ?_
        refine st_iload C dX4_isBrokenAt_17 rfl ?_
        by_cases b_19 : (rf (64 * a9 + p9) = rf (64 * a9 + i) ∧ gf p9 ≠ gf i)
        · refine st_callV (st := []) C dX4_isBrokenAt_19 [vR k, vR r, vI p9, vI i] (k_partw_t (gf := gf) (a9 := a9) (b9 := b9) (rf := rf) (p9 := p9) (q9 := i) hc hG n1 hk hr (by omega) (by omega) (by omega) b_19) hc w_X4_33 rfl (by decide) (by decide) (by omega) (by omega) (Nat.le_of_ble_eq_true rfl) (ko_rt ?_)
          show T x 22 [(0, vR c), (1, vR k), (2, vR r), (3, vI p9), (4, vI c1), (5, vI i)] [vI 1] _ _ _
          refine st_if_eq (tgt := 28) C dX4_isBrokenAt_22 (by decide) (fun c_22 => by omega) (fun c_22 => ?_)
          refine st_iinc C dX4_isBrokenAt_25 rfl (by decide) rfl ⟨(by omega), (by omega)⟩ ?_
          show T x 28 [(0, vR c), (1, vR k), (2, vR r), (3, vI p9), (4, vI (c1 + 1)), (5, vI i)] [] _ _ _
          refine st_iinc C dX4_isBrokenAt_28 rfl (by decide) rfl ⟨(by omega), (by omega)⟩ ?_
          show T x 31 [(0, vR c), (1, vR k), (2, vR r), (3, vI p9), (4, vI (c1 + 1)), (5, vI (i + 1))] [] _ _ _
          refine st_goto (tgt := 6) C dX4_isBrokenAt_31 (by decide) ?_
          exact ih_6 (c1 + 1) (i + 1) (by omega) (by omega) (by omega) (by first | exact cnt_t g1 (by assumption) g4 | exact cnt_f g1 (by assumption) g4) (by omega)
        · refine st_callV (st := []) C dX4_isBrokenAt_19 [vR k, vR r, vI p9, vI i] (k_partw_f (gf := gf) (a9 := a9) (b9 := b9) (rf := rf) (p9 := p9) (q9 := i) hc hG n1 hk hr (by omega) (by omega) (by omega) b_19) hc w_X4_33 rfl (by decide) (by decide) (by omega) (by omega) (Nat.le_of_ble_eq_true rfl) (ko_rt ?_)
          show T x 22 [(0, vR c), (1, vR k), (2, vR r), (3, vI p9), (4, vI c1), (5, vI i)] [vI 0] _ _ _
          refine st_if_eq (tgt := 28) C dX4_isBrokenAt_22 (by decide) (fun c_22 => ?_) (fun c_22 => by omega)
          refine st_iinc C dX4_isBrokenAt_28 rfl (by decide) rfl ⟨(by omega), (by omega)⟩ ?_
          show T x 31 [(0, vR c), (1, vR k), (2, vR r), (3, vI p9), (4, vI c1), (5, vI (i + 1))] [] _ _ _
          refine st_goto (tgt := 6) C dX4_isBrokenAt_31 (by decide) ?_
          exact ih_6 c1 (i + 1) (by omega) (by omega) (by omega) (by first | exact cnt_t g1 (by assumption) g4 | exact cnt_f g1 (by assumption) g4) (by omega)
  exact loop_6 _ 0 0 (by omega) (by omega) (by omega) (cnt_0) (Nat.lt_succ_self _)
theorem nb_w {rf gf : Int → Int} {a9 b9 p9 : Int} (hp : 0 ≤ p9 ∧ p9 ≤ 63) (hR : RuleHolds 119 a9 b9 rf) (hG9 : GrOk rf a9 gf) (hv : 0 ≤ rf (64 * a9 + p9) ∧ rf (64 * a9 + p9) ≤ 9) : ¬ (rf (64 * a9 + p9) ≠ 0 ∧ 0 < cnt (fun q9 => (rf (64 * a9 + p9) = rf (64 * a9 + q9) ∧ gf p9 ≠ gf q9)) 64) := by
  intro z
  obtain ⟨q, q1, q2, q3, q4⟩ := cnt_ex z.2
  exact q4 (gr_reach hG9 hp q (hR.2 rfl _ (by omega) hv.2 p9 q hp.1 hp.2 q1 (by omega) rfl (Eq.symm q3)))
set_option maxRecDepth 20000 in
set_option maxHeartbeats 4000000 in
theorem k_pHoldsw {g : Gx} {h : HP} {c G9 : Nat} {gf : Int → Int} {k : Nat} {a9 b9 : Int} {r : Nat} {rf : Int → Int} (hc : h c = some (oO 3 [vR G9])) (hG : h G9 = some (oI 64 gf)) (n1 : c ≠ G9) (hk : h k = some (oO 4 [vI 119, vI a9, vI b9])) (hr : h r = some (oI 304 rf)) (ha : 0 ≤ a9 ∧ a9 ≤ 2) (n2 : r ≠ G9) (n3 : k ≠ G9) (hv : ∀ s, 0 ≤ s → s < 192 → 0 ≤ rf s ∧ rf s ≤ 9) (hR : RuleHolds 119 a9 b9 rf) : Ct g yX4_holds (.code yX4_holds cX4_holds 4 (some .boolean)) 5 0 0 [vR c, vR k, vR r] h (RtG (some (vI 1)) h G9 (fun _ => True)) := by
  refine Ct.of (by decide) (Nat.le_of_ble_eq_true rfl) (fun x hg C F => ?_)
  subst hg
  show T x 0 [(0, vR c), (1, vR k), (2, vR r)] [] h 0 0
  refine st_aload_n C 1 dX4_holds_0 rfl rfl ?_
  refine st_getf C dX4_holds_1 fl_X4_15 hk rfl ?_
  refine st_bipush C dX4_holds_4 (by decide) (by decide) ?_
  refine st_icmp_ne (tgt := 18) C dX4_holds_6 (by decide) (fun c_6 => by omega) (fun c_6 => ?_)
  refine st_aload_n C 0 dX4_holds_9 rfl rfl ?_
  refine st_aload_n C 2 dX4_holds_10 rfl rfl ?_
  refine st_aload_n C 1 dX4_holds_11 rfl rfl ?_
  refine st_getf C dX4_holds_12 fl_X4_21 hk rfl ?_
  refine st_callV (st := []) C dX4_holds_15 [vR r, vI a9] (k_gather (rf := rf) (l := a9) hc hG n1 hr (by omega) n2) hc w_X4_25 rfl (by decide) (by decide) (by omega) (by omega) (Nat.le_of_ble_eq_true rfl) (ko_rgn (fun gz hG9 => ?_))
  show T x 18 [(0, vR c), (1, vR k), (2, vR r)] [] _ _ _
  refine st_iconst C dX4_holds_18 (by decide) ?_
  refine st_istore_n C 3 dX4_holds_19 rfl (by decide) rfl ?_
  show T x 20 [(0, vR c), (1, vR k), (2, vR r), (3, vI 0)] [] _ _ _
  have loop_20 : ∀ (n_20 : Nat) (i : Int), (0 ≤ i) → (i ≤ 64) → (64 - i).toNat < n_20 → T x 20 [(0, vR c), (1, vR k), (2, vR r), (3, vI i)] [] (hput h G9 (oI 64 gz)) 0 0 := by
    intro n_20
    induction n_20 with
    | zero => intro i g1 g2 hm_20; exact absurd hm_20 (Nat.not_lt_zero _)
    | succ n_20 ih_20 =>
      intro i g1 g2 hm_20
      refine st_iload_n C 3 dX4_holds_20 rfl rfl ?_
      refine st_bipush C dX4_holds_21 (by decide) (by decide) ?_
      refine st_icmp_ge (tgt := 44) C dX4_holds_23 (by decide) (fun c_23 => ?_) (fun c_23 => ?_)
      · refine st_iconst C dX4_holds_44 (by decide) ?_
        exact st_zreturn C F dX4_holds_45 rfl (by omega) ⟨_, rfl, rfl, trivial⟩ (by omega) (by omega)
      · refine st_aload_n C 0 dX4_holds_26 rfl rfl ?_
        refine st_aload_n C 1 dX4_holds_27 rfl rfl ?_
        refine st_aload_n C 2 dX4_holds_28 rfl rfl ?_
        refine st_iload_n C 3 dX4_holds_29 rfl rfl ?_
        refine st_callV (st := []) C dX4_holds_30 [vR k, vR r, vI i] (k_pBrokenw (a9 := a9) (b9 := b9) (rf := rf) (gf := gz) (p9 := i) (hput_o n1 hc) hput_s n1 (hput_o n3 hk) (hput_o n2 hr) (by omega) (by omega) (nb_w (by omega) hR hG9 (hv _ (by omega) (by omega)))) (hput_o n1 hc) w_X4_29 rfl (by decide) (by decide) (by omega) (by omega) (Nat.le_of_ble_eq_true rfl) (ko_rt ?_)
        show T x 33 [(0, vR c), (1, vR k), (2, vR r), (3, vI i)] [vI 0] _ _ _
        refine st_if_eq (tgt := 38) C dX4_holds_33 (by decide) (fun c_33 => ?_) (fun c_33 => by omega)
        refine st_iinc C dX4_holds_38 rfl (by decide) rfl ⟨(by omega), (by omega)⟩ ?_
        show T x 41 [(0, vR c), (1, vR k), (2, vR r), (3, vI (i + 1))] [] _ _ _
        refine st_goto (tgt := 20) C dX4_holds_41 (by decide) ?_
        exact ih_20 (i + 1) (by omega) (by omega) (by omega)
  exact loop_20 _ 0 (by omega) (by omega) (Nat.lt_succ_self _)
set_option maxRecDepth 20000 in
set_option maxHeartbeats 4000000 in
theorem k_partc_t {g : Gx} {h : HP} {c G9 : Nat} {gf : Int → Int} {k : Nat} {a9 b9 : Int} {r : Nat} {rf : Int → Int} {p9 q9 : Int} (hc : h c = some (oO 3 [vR G9])) (hG : h G9 = some (oI 64 gf)) (n1 : c ≠ G9) (hk : h k = some (oO 4 [vI 99, vI a9, vI b9])) (hr : h r = some (oI 304 rf)) (hp : 0 ≤ p9 ∧ p9 ≤ 63) (hq : 0 ≤ q9 ∧ q9 ≤ 63) (ha : 0 ≤ a9 ∧ a9 ≤ 2) (hb : 0 ≤ b9 ∧ b9 ≤ 2) (hP : (p9 = q9 ∧ rf (64 * b9 + q9) ≠ 0)) : Ct g yX4_isPartner (.code yX4_isPartner cX4_isPartner 5 (some .boolean)) 3 0 0 [vR c, vR k, vR r, vI p9, vI q9] h (Rt (some (vI 1)) h) := by
  refine Ct.of (by decide) (Nat.le_of_ble_eq_true rfl) (fun x hg C F => ?_)
  subst hg
  show T x 0 [(0, vR c), (1, vR k), (2, vR r), (3, vI p9), (4, vI q9)] [] h 0 0
  refine st_aload_n C 1 dX4_isPartner_0 rfl rfl ?_
  refine st_getf C dX4_isPartner_1 fl_X4_15 hk rfl ?_
  refine st_bipush C dX4_isPartner_4 (by decide) (by decide) ?_
  refine st_icmp_ne (tgt := 17) C dX4_isPartner_6 (by decide) (fun c_6 => ?_) (fun c_6 => by omega)
  refine st_aload_n C 1 dX4_isPartner_17 rfl rfl ?_
  refine st_getf C dX4_isPartner_18 fl_X4_15 hk rfl ?_
  refine st_bipush C dX4_isPartner_21 (by decide) (by decide) ?_
  refine st_icmp_ne (tgt := 54) C dX4_isPartner_23 (by decide) (fun c_23 => ?_) (fun c_23 => by omega)
  refine st_aload_n C 1 dX4_isPartner_54 rfl rfl ?_
  refine st_getf C dX4_isPartner_55 fl_X4_15 hk rfl ?_
  refine st_bipush C dX4_isPartner_58 (by decide) (by decide) ?_
  refine st_icmp_ne (tgt := 99) C dX4_isPartner_60 (by decide) (fun c_60 => ?_) (fun c_60 => by omega)
  refine st_iload_n C 3 dX4_isPartner_99 rfl rfl ?_
  refine st_iload C dX4_isPartner_100 rfl ?_
  refine st_icmp_ne (tgt := 122) C dX4_isPartner_102 (by decide) (fun c_102 => ?_) (fun c_102 => ?_)
  · refine st_iconst C dX4_isPartner_122 (by decide) ?_
    exact st_zreturn C F dX4_isPartner_123 rfl (by omega) (rt_i (by first | rfl | omega | exact absurd (by assumption) hP | exact absurd hP (by assumption) | exact absurd hP.1 (by assumption) | exact absurd hP.2 (by assumption) | exact absurd ⟨by assumption, by assumption⟩ hP | exact absurd (by assumption) hP.2) rfl) (by omega) (by omega)
  · refine st_aload_n C 2 dX4_isPartner_105 rfl rfl ?_
    refine st_aload_n C 1 dX4_isPartner_106 rfl rfl ?_
    refine st_getf C dX4_isPartner_107 fl_X4_59 hk rfl ?_
    refine st_iload C dX4_isPartner_110 rfl ?_
    refine st_callS (st := []) C dX4_isPartner_112 [vR r, vI b9, vI q9] (k_areaAt (f := rf) (l := b9) (p := q9) hr (by omega) (by omega)) w_X4_43 rfl (by decide) (by decide) (by omega) (by omega) (Nat.le_of_ble_eq_true rfl) (ko_rt ?_)
    show T x 115 [(0, vR c), (1, vR k), (2, vR r), (3, vI p9), (4, vI q9)] [vI (rf (64 * b9 + q9))] _ _ _
    refine st_if_eq (tgt := 122) C dX4_isPartner_115 (by decide) (fun c_115 => ?_) (fun c_115 => ?_)
    · refine st_iconst C dX4_isPartner_122 (by decide) ?_
      exact st_zreturn C F dX4_isPartner_123 rfl (by omega) (rt_i (by first | rfl | omega | exact absurd (by assumption) hP | exact absurd hP (by assumption) | exact absurd hP.1 (by assumption) | exact absurd hP.2 (by assumption) | exact absurd ⟨by assumption, by assumption⟩ hP | exact absurd (by assumption) hP.2) rfl) (by omega) (by omega)
    · refine st_iconst C dX4_isPartner_118 (by decide) ?_
      refine st_goto (tgt := 123) C dX4_isPartner_119 (by decide) ?_
      exact st_zreturn C F dX4_isPartner_123 rfl (by omega) (rt_i (by first | rfl | omega | exact absurd (by assumption) hP | exact absurd hP (by assumption) | exact absurd hP.1 (by assumption) | exact absurd hP.2 (by assumption) | exact absurd ⟨by assumption, by assumption⟩ hP | exact absurd (by assumption) hP.2) rfl) (by omega) (by omega)
set_option maxRecDepth 20000 in
set_option maxHeartbeats 4000000 in
theorem k_partc_f {g : Gx} {h : HP} {c G9 : Nat} {gf : Int → Int} {k : Nat} {a9 b9 : Int} {r : Nat} {rf : Int → Int} {p9 q9 : Int} (hc : h c = some (oO 3 [vR G9])) (hG : h G9 = some (oI 64 gf)) (n1 : c ≠ G9) (hk : h k = some (oO 4 [vI 99, vI a9, vI b9])) (hr : h r = some (oI 304 rf)) (hp : 0 ≤ p9 ∧ p9 ≤ 63) (hq : 0 ≤ q9 ∧ q9 ≤ 63) (ha : 0 ≤ a9 ∧ a9 ≤ 2) (hb : 0 ≤ b9 ∧ b9 ≤ 2) (hP : ¬ (p9 = q9 ∧ rf (64 * b9 + q9) ≠ 0)) : Ct g yX4_isPartner (.code yX4_isPartner cX4_isPartner 5 (some .boolean)) 3 0 0 [vR c, vR k, vR r, vI p9, vI q9] h (Rt (some (vI 0)) h) := by
  refine Ct.of (by decide) (Nat.le_of_ble_eq_true rfl) (fun x hg C F => ?_)
  subst hg
  show T x 0 [(0, vR c), (1, vR k), (2, vR r), (3, vI p9), (4, vI q9)] [] h 0 0
  refine st_aload_n C 1 dX4_isPartner_0 rfl rfl ?_
  refine st_getf C dX4_isPartner_1 fl_X4_15 hk rfl ?_
  refine st_bipush C dX4_isPartner_4 (by decide) (by decide) ?_
  refine st_icmp_ne (tgt := 17) C dX4_isPartner_6 (by decide) (fun c_6 => ?_) (fun c_6 => by omega)
  refine st_aload_n C 1 dX4_isPartner_17 rfl rfl ?_
  refine st_getf C dX4_isPartner_18 fl_X4_15 hk rfl ?_
  refine st_bipush C dX4_isPartner_21 (by decide) (by decide) ?_
  refine st_icmp_ne (tgt := 54) C dX4_isPartner_23 (by decide) (fun c_23 => ?_) (fun c_23 => by omega)
  refine st_aload_n C 1 dX4_isPartner_54 rfl rfl ?_
  refine st_getf C dX4_isPartner_55 fl_X4_15 hk rfl ?_
  refine st_bipush C dX4_isPartner_58 (by decide) (by decide) ?_
  refine st_icmp_ne (tgt := 99) C dX4_isPartner_60 (by decide) (fun c_60 => ?_) (fun c_60 => by omega)
  refine st_iload_n C 3 dX4_isPartner_99 rfl rfl ?_
  refine st_iload C dX4_isPartner_100 rfl ?_
  refine st_icmp_ne (tgt := 122) C dX4_isPartner_102 (by decide) (fun c_102 => ?_) (fun c_102 => ?_)
  · refine st_iconst C dX4_isPartner_122 (by decide) ?_
    exact st_zreturn C F dX4_isPartner_123 rfl (by omega) (rt_i (by first | rfl | omega | exact absurd (by assumption) hP | exact absurd hP (by assumption) | exact absurd hP.1 (by assumption) | exact absurd hP.2 (by assumption) | exact absurd ⟨by assumption, by assumption⟩ hP | exact absurd (by assumption) hP.2) rfl) (by omega) (by omega)
  · refine st_aload_n C 2 dX4_isPartner_105 rfl rfl ?_
    refine st_aload_n C 1 dX4_isPartner_106 rfl rfl ?_
    refine st_getf C dX4_isPartner_107 fl_X4_59 hk rfl ?_
    refine st_iload C dX4_isPartner_110 rfl ?_
    refine st_callS (st := []) C dX4_isPartner_112 [vR r, vI b9, vI q9] (k_areaAt (f := rf) (l := b9) (p := q9) hr (by omega) (by omega)) w_X4_43 rfl (by decide) (by decide) (by omega) (by omega) (Nat.le_of_ble_eq_true rfl) (ko_rt ?_)
    show T x 115 [(0, vR c), (1, vR k), (2, vR r), (3, vI p9), (4, vI q9)] [vI (rf (64 * b9 + q9))] _ _ _
    refine st_if_eq (tgt := 122) C dX4_isPartner_115 (by decide) (fun c_115 => ?_) (fun c_115 => ?_)
    · refine st_iconst C dX4_isPartner_122 (by decide) ?_
      exact st_zreturn C F dX4_isPartner_123 rfl (by omega) (rt_i (by first | rfl | omega | exact absurd (by assumption) hP | exact absurd hP (by assumption) | exact absurd hP.1 (by assumption) | exact absurd hP.2 (by assumption) | exact absurd ⟨by assumption, by assumption⟩ hP | exact absurd (by assumption) hP.2) rfl) (by omega) (by omega)
    · refine st_iconst C dX4_isPartner_118 (by decide) ?_
      refine st_goto (tgt := 123) C dX4_isPartner_119 (by decide) ?_
      exact st_zreturn C F dX4_isPartner_123 rfl (by omega) (rt_i (by first | rfl | omega | exact absurd (by assumption) hP | exact absurd hP (by assumption) | exact absurd hP.1 (by assumption) | exact absurd hP.2 (by assumption) | exact absurd ⟨by assumption, by assumption⟩ hP | exact absurd (by assumption) hP.2) rfl) (by omega) (by omega)
set_option maxRecDepth 20000 in
set_option maxHeartbeats 4000000 in
theorem k_pBrokenc {g : Gx} {h : HP} {c G9 : Nat} {gf : Int → Int} {k : Nat} {a9 b9 : Int} {r : Nat} {rf : Int → Int} {p9 : Int} (hc : h c = some (oO 3 [vR G9])) (hG : h G9 = some (oI 64 gf)) (n1 : c ≠ G9) (hk : h k = some (oO 4 [vI 99, vI a9, vI b9])) (hr : h r = some (oI 304 rf)) (hp : 0 ≤ p9 ∧ p9 ≤ 63) (ha : 0 ≤ a9 ∧ a9 ≤ 2) (hb : 0 ≤ b9 ∧ b9 ≤ 2) (hP : ¬ (rf (64 * a9 + p9) ≠ 0 ∧ cnt (fun q9 => (p9 = q9 ∧ rf (64 * b9 + q9) ≠ 0)) 64 = 0)) : Ct g yX4_isBrokenAt (.code yX4_isBrokenAt cX4_isBrokenAt 6 (some .boolean)) 4 0 0 [vR c, vR k, vR r, vI p9] h (Rt (some (vI 0)) h) := by
  refine Ct.of (by decide) (Nat.le_of_ble_eq_true rfl) (fun x hg C F => ?_)
  subst hg
  show T x 0 [(0, vR c), (1, vR k), (2, vR r), (3, vI p9)] [] h 0 0
  refine st_iconst C dX4_isBrokenAt_0 (by decide) ?_
  refine st_istore C dX4_isBrokenAt_1 (by decide) rfl ?_
  show T x 3 [(0, vR c), (1, vR k), (2, vR r), (3, vI p9), (4, vI 0)] [] _ _ _
  refine st_iconst C dX4_isBrokenAt_3 (by decide) ?_
  refine st_istore C dX4_isBrokenAt_4 (by decide) rfl ?_
  show T x 6 [(0, vR c), (1, vR k), (2, vR r), (3, vI p9), (4, vI 0), (5, vI 0)] [] _ _ _
  have loop_6 : ∀ (n_6 : Nat) (c1 : Int) (i : Int), (0 ≤ i) → (i ≤ 64) → (0 ≤ c1 ∧ c1 ≤ i) → (c1 = cnt (fun q9 => (p9 = q9 ∧ rf (64 * b9 + q9) ≠ 0)) i) → (64 - i).toNat < n_6 → T x 6 [(0, vR c), (1, vR k), (2, vR r), (3, vI p9), (4, vI c1), (5, vI i)] [] h 0 0 := by
    intro n_6
    induction n_6 with
    | zero => intro c1 i g1 g2 g3 g4 hm_6; exact absurd hm_6 (Nat.not_lt_zero _)
    | succ n_6 ih_6 =>
      intro c1 i g1 g2 g3 g4 hm_6
      refine st_iload C dX4_isBrokenAt_6 rfl ?_
      refine st_bipush C dX4_isBrokenAt_8 (by decide) (by decide) ?_
      refine st_icmp_ge (tgt := 34) C dX4_isBrokenAt_10 (by decide) (fun c_10 => ?_) (fun c_10 => ?_)
      · refine st_aload_n C 1 dX4_isBrokenAt_34 rfl rfl ?_
        refine st_getf C dX4_isBrokenAt_35 fl_X4_15 hk rfl ?_
        refine st_bipush C dX4_isBrokenAt_38 (by decide) (by decide) ?_
        refine st_icmp_ne (tgt := 62) C dX4_isBrokenAt_40 (by decide) (fun c_40 => ?_) (fun c_40 => by omega)
        refine st_aload_n C 2 dX4_isBrokenAt_62 rfl rfl ?_
        refine st_aload_n C 1 dX4_isBrokenAt_63 rfl rfl ?_
        refine st_getf C dX4_isBrokenAt_64 fl_X4_21 hk rfl ?_
        refine st_iload_n C 3 dX4_isBrokenAt_67 rfl rfl ?_
        refine st_callS (st := []) C dX4_isBrokenAt_68 [vR r, vI a9, vI p9] (k_areaAt (f := rf) (l := a9) (p := p9) hr (by omega) (by omega)) w_X4_43 rfl (by decide) (by decide) (by omega) (by omega) (Nat.le_of_ble_eq_true rfl) (ko_rt ?_)
        show T x 71 [(0, vR c), (1, vR k), (2, vR r), (3, vI p9), (4, vI c1), (5, vI i)] [vI (rf (64 * a9 + p9))] _ _ _
        refine st_if_eq (tgt := 78) C dX4_isBrokenAt_71 (by decide) (fun c_71 => ?_) (fun c_71 => ?_)
        · refine st_iconst C dX4_isBrokenAt_78 (by decide) ?_
          refine st_istore C dX4_isBrokenAt_79 (by decide) rfl ?_
          show T x 81 [(0, vR c), (1, vR k), (2, vR r), (3, vI p9), (4, vI c1), (5, vI 0)] [] _ _ _
          refine st_aload_n C 1 dX4_isBrokenAt_81 rfl rfl ?_
          refine st_getf C dX4_isBrokenAt_82 fl_X4_15 hk rfl ?_
          refine st_bipush C dX4_isBrokenAt_85 (by decide) (by decide) ?_
          refine st_icmp_ne (tgt := 106) C dX4_isBrokenAt_87 (by decide) (fun c_87 => ?_) (fun c_87 => by omega)
          refine st_iload C dX4_isBrokenAt_106 rfl ?_
          refine st_if_eq (tgt := 137) C dX4_isBrokenAt_108 (by decide) (fun c_108 => ?_) (fun c_108 => by omega)
          refine st_iconst C dX4_isBrokenAt_137 (by decide) ?_
          exact st_zreturn C F dX4_isBrokenAt_138 rfl (by omega) (rt_i (by first | rfl | (exfalso; rw [← cntE g4 (show i = 64 by omega)] at hP; first | exact hP ⟨by assumption, by omega⟩ | omega)) rfl) (by omega) (by omega)
        · refine st_iconst C dX4_isBrokenAt_74 (by decide) ?_
          refine st_goto (tgt := 79) C dX4_isBrokenAt_75 (by decide) ?_
          refine st_istore C dX4_isBrokenAt_79 (by decide) rfl ?_
          show T x 81 [(0, vR c), (1, vR k), (2, vR r), (3, vI p9), (4, vI c1), (5, vI 1)] [] _ _ _
          refine st_aload_n C 1 dX4_isBrokenAt_81 rfl rfl ?_
          refine st_getf C dX4_isBrokenAt_82 fl_X4_15 hk rfl ?_
          refine st_bipush C dX4_isBrokenAt_85 (by decide) (by decide) ?_
          refine st_icmp_ne (tgt := 106) C dX4_isBrokenAt_87 (by decide) (fun c_87 => ?_) (fun c_87 => by omega)
          refine st_iload C dX4_isBrokenAt_106 rfl ?_
          refine st_if_eq (tgt := 137) C dX4_isBrokenAt_108 (by decide) (fun c_108 => by omega) (fun c_108 => ?_)
          refine st_aload_n C 1 dX4_isBrokenAt_111 rfl rfl ?_
          refine st_getf C dX4_isBrokenAt_112 fl_X4_15 hk rfl ?_
          refine st_bipush C dX4_isBrokenAt_115 (by decide) (by decide) ?_
          refine st_icmp_ne (tgt := 128) C dX4_isBrokenAt_117 (by decide) (fun c_117 => by omega) (fun c_117 => ?_)
          refine st_iload C dX4_isBrokenAt_120 rfl ?_
          refine st_if_ne (tgt := 137) C dX4_isBrokenAt_122 (by decide) (fun c_122 => ?_) (fun c_122 => ?_)
          · refine st_iconst C dX4_isBrokenAt_137 (by decide) ?_
            exact st_zreturn C F dX4_isBrokenAt_138 rfl (by omega) (rt_i (by first | rfl | (exfalso; rw [← cntE g4 (show i = 64 by omega)] at hP; first | exact hP ⟨by assumption, by omega⟩ | omega)) rfl) (by omega) (by omega)
          · refine st_goto (tgt := 133) C dX4_isBrokenAt_125 (by decide) ?_
            refine st_iconst C dX4_isBrokenAt_133 (by decide) ?_
            refine st_goto (tgt := 138) C dX4_isBrokenAt_134 (by decide) ?_
            exact st_zreturn C F dX4_isBrokenAt_138 rfl (by omega) (rt_i (by first | rfl | (exfalso; rw [← cntE g4 (show i = 64 by omega)] at hP; first | exact hP ⟨by assumption, by omega⟩ | omega)) rfl) (by omega) (by omega)
      · refine st_aload_n C 0 dX4_isBrokenAt_13 rfl rfl ?_
        refine st_aload_n C 1 dX4_isBrokenAt_14 rfl rfl ?_
        refine st_aload_n C 2 dX4_isBrokenAt_15 rfl rfl ?_
        refine st_iload_n C 3 dX4_isBrokenAt_16 rfl rfl ?_
        refine st_iload C dX4_isBrokenAt_17 rfl ?_
        by_cases b_19 : (p9 = i ∧ rf (64 * b9 + i) ≠ 0)
        · refine st_callV (st := []) C dX4_isBrokenAt_19 [vR k, vR r, vI p9, vI i] (k_partc_t (gf := gf) (a9 := a9) (b9 := b9) (rf := rf) (p9 := p9) (q9 := i) hc hG n1 hk hr (by omega) (by omega) (by omega) (by omega) b_19) hc w_X4_33 rfl (by decide) (by decide) (by omega) (by omega) (Nat.le_of_ble_eq_true rfl) (ko_rt ?_)
          show T x 22 [(0, vR c), (1, vR k), (2, vR r), (3, vI p9), (4, vI c1), (5, vI i)] [vI 1] _ _ _
          refine st_if_eq (tgt := 28) C dX4_isBrokenAt_22 (by decide) (fun c_22 => by omega) (fun c_22 => ?_)
          refine st_iinc C dX4_isBrokenAt_25 rfl (by decide) rfl ⟨(by omega), (by omega)⟩ ?_
          show T x 28 [(0, vR c), (1, vR k), (2, vR r), (3, vI p9), (4, vI (c1 + 1)), (5, vI i)] [] _ _ _
          refine st_iinc C dX4_isBrokenAt_28 rfl (by decide) rfl ⟨(by omega), (by omega)⟩ ?_
          show T x 31 [(0, vR c), (1, vR k), (2, vR r), (3, vI p9), (4, vI (c1 + 1)), (5, vI (i + 1))] [] _ _ _
          refine st_goto (tgt := 6) C dX4_isBrokenAt_31 (by decide) ?_
          exact ih_6 (c1 + 1) (i + 1) (by omega) (by omega) (by omega) (by first | exact cnt_t g1 (by assumption) g4 | exact cnt_f g1 (by assumption) g4) (by omega)
        · refine st_callV (st := []) C dX4_isBrokenAt_19 [vR k, vR r, vI p9, vI i] (k_partc_f (gf := gf) (a9 := a9) (b9 := b9) (rf := rf) (p9 := p9) (q9 := i) hc hG n1 hk hr (by omega) (by omega) (by omega) (by omega) b_19) hc w_X4_33 rfl (by decide) (by decide) (by omega) (by omega) (Nat.le_of_ble_eq_true rfl) (ko_rt ?_)
          show T x 22 [(0, vR c), (1, vR k), (2, vR r), (3, vI p9), (4, vI c1), (5, vI i)] [vI 0] _ _ _
          refine st_if_eq (tgt := 28) C dX4_isBrokenAt_22 (by decide) (fun c_22 => ?_) (fun c_22 => by omega)
          refine st_iinc C dX4_isBrokenAt_28 rfl (by decide) rfl ⟨(by omega), (by omega)⟩ ?_
          show T x 31 [(0, vR c), (1, vR k), (2, vR r), (3, vI p9), (4, vI c1), (5, vI (i + 1))] [] _ _ _
          refine st_goto (tgt := 6) C dX4_isBrokenAt_31 (by decide) ?_
          exact ih_6 c1 (i + 1) (by omega) (by omega) (by omega) (by first | exact cnt_t g1 (by assumption) g4 | exact cnt_f g1 (by assumption) g4) (by omega)
  exact loop_6 _ 0 0 (by omega) (by omega) (by omega) (cnt_0) (Nat.lt_succ_self _)
theorem nb_c {rf : Int → Int} {a9 b9 p9 : Int} (hp : 0 ≤ p9 ∧ p9 ≤ 63) (hR : RuleHolds 99 a9 b9 rf) : ¬ (rf (64 * a9 + p9) ≠ 0 ∧ cnt (fun q9 => (p9 = q9 ∧ rf (64 * b9 + q9) ≠ 0)) 64 = 0) := by
  intro z
  refine hR.1 p9 hp.1 hp.2 (Or.inr (Or.inr (Or.inl ⟨rfl, z.1, Classical.byContradiction fun z2 => ?_⟩)))
  have := cnt_pos (P := (fun q9 => (p9 = q9 ∧ rf (64 * b9 + q9) ≠ 0))) (n := 64) (i := p9) (by omega) (by omega) ⟨rfl, z2⟩
  omega
set_option maxRecDepth 20000 in
set_option maxHeartbeats 4000000 in
theorem k_pHoldsc {g : Gx} {h : HP} {c G9 : Nat} {gf : Int → Int} {k : Nat} {a9 b9 : Int} {r : Nat} {rf : Int → Int} (hc : h c = some (oO 3 [vR G9])) (hG : h G9 = some (oI 64 gf)) (n1 : c ≠ G9) (hk : h k = some (oO 4 [vI 99, vI a9, vI b9])) (hr : h r = some (oI 304 rf)) (ha : 0 ≤ a9 ∧ a9 ≤ 2) (hb : 0 ≤ b9 ∧ b9 ≤ 2) (n2 : r ≠ G9) (n3 : k ≠ G9) (hv : ∀ s, 0 ≤ s → s < 192 → 0 ≤ rf s ∧ rf s ≤ 9) (hR : RuleHolds 99 a9 b9 rf) : Ct g yX4_holds (.code yX4_holds cX4_holds 4 (some .boolean)) 5 0 0 [vR c, vR k, vR r] h (RtG (some (vI 1)) h G9 (fun _ => True)) := by
  refine Ct.of (by decide) (Nat.le_of_ble_eq_true rfl) (fun x hg C F => ?_)
  subst hg
  show T x 0 [(0, vR c), (1, vR k), (2, vR r)] [] h 0 0
  refine st_aload_n C 1 dX4_holds_0 rfl rfl ?_
  refine st_getf C dX4_holds_1 fl_X4_15 hk rfl ?_
  refine st_bipush C dX4_holds_4 (by decide) (by decide) ?_
  refine st_icmp_ne (tgt := 18) C dX4_holds_6 (by decide) (fun c_6 => ?_) (fun c_6 => by omega)
  refine st_iconst C dX4_holds_18 (by decide) ?_
  refine st_istore_n C 3 dX4_holds_19 rfl (by decide) rfl ?_
  show T x 20 [(0, vR c), (1, vR k), (2, vR r), (3, vI 0)] [] _ _ _
  have loop_20 : ∀ (n_20 : Nat) (i : Int), (0 ≤ i) → (i ≤ 64) → (64 - i).toNat < n_20 → T x 20 [(0, vR c), (1, vR k), (2, vR r), (3, vI i)] [] h 0 0 := by
    intro n_20
    induction n_20 with
    | zero => intro i g1 g2 hm_20; exact absurd hm_20 (Nat.not_lt_zero _)
    | succ n_20 ih_20 =>
      intro i g1 g2 hm_20
      refine st_iload_n C 3 dX4_holds_20 rfl rfl ?_
      refine st_bipush C dX4_holds_21 (by decide) (by decide) ?_
      refine st_icmp_ge (tgt := 44) C dX4_holds_23 (by decide) (fun c_23 => ?_) (fun c_23 => ?_)
      · refine st_iconst C dX4_holds_44 (by decide) ?_
        exact st_zreturn C F dX4_holds_45 rfl (by omega) ⟨_, rfl, (hput_self hG).symm, trivial⟩ (by omega) (by omega)
      · refine st_aload_n C 0 dX4_holds_26 rfl rfl ?_
        refine st_aload_n C 1 dX4_holds_27 rfl rfl ?_
        refine st_aload_n C 2 dX4_holds_28 rfl rfl ?_
        refine st_iload_n C 3 dX4_holds_29 rfl rfl ?_
        refine st_callV (st := []) C dX4_holds_30 [vR k, vR r, vI i] (k_pBrokenc (a9 := a9) (b9 := b9) (rf := rf) (gf := gf) (p9 := i) hc hG n1 hk hr (by omega) (by omega) (by omega) (nb_c (by omega) hR)) hc w_X4_29 rfl (by decide) (by decide) (by omega) (by omega) (Nat.le_of_ble_eq_true rfl) (ko_rt ?_)
        show T x 33 [(0, vR c), (1, vR k), (2, vR r), (3, vI i)] [vI 0] _ _ _
        refine st_if_eq (tgt := 38) C dX4_holds_33 (by decide) (fun c_33 => ?_) (fun c_33 => by omega)
        refine st_iinc C dX4_holds_38 rfl (by decide) rfl ⟨(by omega), (by omega)⟩ ?_
        show T x 41 [(0, vR c), (1, vR k), (2, vR r), (3, vI (i + 1))] [] _ _ _
        refine st_goto (tgt := 20) C dX4_holds_41 (by decide) ?_
        exact ih_20 (i + 1) (by omega) (by omega) (by omega)
  exact loop_20 _ 0 (by omega) (by omega) (Nat.lt_succ_self _)
set_option maxRecDepth 20000 in
set_option maxHeartbeats 4000000 in
theorem k_partx_t {g : Gx} {h : HP} {c G9 : Nat} {gf : Int → Int} {k : Nat} {a9 b9 : Int} {r : Nat} {rf : Int → Int} {p9 q9 : Int} (hc : h c = some (oO 3 [vR G9])) (hG : h G9 = some (oI 64 gf)) (n1 : c ≠ G9) (hk : h k = some (oO 4 [vI 120, vI a9, vI b9])) (hr : h r = some (oI 304 rf)) (hp : 0 ≤ p9 ∧ p9 ≤ 63) (hq : 0 ≤ q9 ∧ q9 ≤ 63) (ha : 0 ≤ a9 ∧ a9 ≤ 2) (hb : 0 ≤ b9 ∧ b9 ≤ 2) (hP : (p9 = q9 ∧ rf (64 * b9 + q9) ≠ 0)) : Ct g yX4_isPartner (.code yX4_isPartner cX4_isPartner 5 (some .boolean)) 3 0 0 [vR c, vR k, vR r, vI p9, vI q9] h (Rt (some (vI 1)) h) := by
  refine Ct.of (by decide) (Nat.le_of_ble_eq_true rfl) (fun x hg C F => ?_)
  subst hg
  show T x 0 [(0, vR c), (1, vR k), (2, vR r), (3, vI p9), (4, vI q9)] [] h 0 0
  refine st_aload_n C 1 dX4_isPartner_0 rfl rfl ?_
  refine st_getf C dX4_isPartner_1 fl_X4_15 hk rfl ?_
  refine st_bipush C dX4_isPartner_4 (by decide) (by decide) ?_
  refine st_icmp_ne (tgt := 17) C dX4_isPartner_6 (by decide) (fun c_6 => ?_) (fun c_6 => by omega)
  refine st_aload_n C 1 dX4_isPartner_17 rfl rfl ?_
  refine st_getf C dX4_isPartner_18 fl_X4_15 hk rfl ?_
  refine st_bipush C dX4_isPartner_21 (by decide) (by decide) ?_
  refine st_icmp_ne (tgt := 54) C dX4_isPartner_23 (by decide) (fun c_23 => ?_) (fun c_23 => by omega)
  refine st_aload_n C 1 dX4_isPartner_54 rfl rfl ?_
  refine st_getf C dX4_isPartner_55 fl_X4_15 hk rfl ?_
  refine st_bipush C dX4_isPartner_58 (by decide) (by decide) ?_
  refine st_icmp_ne (tgt := 99) C dX4_isPartner_60 (by decide) (fun c_60 => ?_) (fun c_60 => by omega)
  refine st_iload_n C 3 dX4_isPartner_99 rfl rfl ?_
  refine st_iload C dX4_isPartner_100 rfl ?_
  refine st_icmp_ne (tgt := 122) C dX4_isPartner_102 (by decide) (fun c_102 => ?_) (fun c_102 => ?_)
  · refine st_iconst C dX4_isPartner_122 (by decide) ?_
    exact st_zreturn C F dX4_isPartner_123 rfl (by omega) (rt_i (by first | rfl | omega | exact absurd (by assumption) hP | exact absurd hP (by assumption) | exact absurd hP.1 (by assumption) | exact absurd hP.2 (by assumption) | exact absurd ⟨by assumption, by assumption⟩ hP | exact absurd (by assumption) hP.2) rfl) (by omega) (by omega)
  · refine st_aload_n C 2 dX4_isPartner_105 rfl rfl ?_
    refine st_aload_n C 1 dX4_isPartner_106 rfl rfl ?_
    refine st_getf C dX4_isPartner_107 fl_X4_59 hk rfl ?_
    refine st_iload C dX4_isPartner_110 rfl ?_
    refine st_callS (st := []) C dX4_isPartner_112 [vR r, vI b9, vI q9] (k_areaAt (f := rf) (l := b9) (p := q9) hr (by omega) (by omega)) w_X4_43 rfl (by decide) (by decide) (by omega) (by omega) (Nat.le_of_ble_eq_true rfl) (ko_rt ?_)
    show T x 115 [(0, vR c), (1, vR k), (2, vR r), (3, vI p9), (4, vI q9)] [vI (rf (64 * b9 + q9))] _ _ _
    refine st_if_eq (tgt := 122) C dX4_isPartner_115 (by decide) (fun c_115 => ?_) (fun c_115 => ?_)
    · refine st_iconst C dX4_isPartner_122 (by decide) ?_
      exact st_zreturn C F dX4_isPartner_123 rfl (by omega) (rt_i (by first | rfl | omega | exact absurd (by assumption) hP | exact absurd hP (by assumption) | exact absurd hP.1 (by assumption) | exact absurd hP.2 (by assumption) | exact absurd ⟨by assumption, by assumption⟩ hP | exact absurd (by assumption) hP.2) rfl) (by omega) (by omega)
    · refine st_iconst C dX4_isPartner_118 (by decide) ?_
      refine st_goto (tgt := 123) C dX4_isPartner_119 (by decide) ?_
      exact st_zreturn C F dX4_isPartner_123 rfl (by omega) (rt_i (by first | rfl | omega | exact absurd (by assumption) hP | exact absurd hP (by assumption) | exact absurd hP.1 (by assumption) | exact absurd hP.2 (by assumption) | exact absurd ⟨by assumption, by assumption⟩ hP | exact absurd (by assumption) hP.2) rfl) (by omega) (by omega)
set_option maxRecDepth 20000 in
set_option maxHeartbeats 4000000 in
theorem k_partx_f {g : Gx} {h : HP} {c G9 : Nat} {gf : Int → Int} {k : Nat} {a9 b9 : Int} {r : Nat} {rf : Int → Int} {p9 q9 : Int} (hc : h c = some (oO 3 [vR G9])) (hG : h G9 = some (oI 64 gf)) (n1 : c ≠ G9) (hk : h k = some (oO 4 [vI 120, vI a9, vI b9])) (hr : h r = some (oI 304 rf)) (hp : 0 ≤ p9 ∧ p9 ≤ 63) (hq : 0 ≤ q9 ∧ q9 ≤ 63) (ha : 0 ≤ a9 ∧ a9 ≤ 2) (hb : 0 ≤ b9 ∧ b9 ≤ 2) (hP : ¬ (p9 = q9 ∧ rf (64 * b9 + q9) ≠ 0)) : Ct g yX4_isPartner (.code yX4_isPartner cX4_isPartner 5 (some .boolean)) 3 0 0 [vR c, vR k, vR r, vI p9, vI q9] h (Rt (some (vI 0)) h) := by
  refine Ct.of (by decide) (Nat.le_of_ble_eq_true rfl) (fun x hg C F => ?_)
  subst hg
  show T x 0 [(0, vR c), (1, vR k), (2, vR r), (3, vI p9), (4, vI q9)] [] h 0 0
  refine st_aload_n C 1 dX4_isPartner_0 rfl rfl ?_
  refine st_getf C dX4_isPartner_1 fl_X4_15 hk rfl ?_
  refine st_bipush C dX4_isPartner_4 (by decide) (by decide) ?_
  refine st_icmp_ne (tgt := 17) C dX4_isPartner_6 (by decide) (fun c_6 => ?_) (fun c_6 => by omega)
  refine st_aload_n C 1 dX4_isPartner_17 rfl rfl ?_
  refine st_getf C dX4_isPartner_18 fl_X4_15 hk rfl ?_
  refine st_bipush C dX4_isPartner_21 (by decide) (by decide) ?_
  refine st_icmp_ne (tgt := 54) C dX4_isPartner_23 (by decide) (fun c_23 => ?_) (fun c_23 => by omega)
  refine st_aload_n C 1 dX4_isPartner_54 rfl rfl ?_
  refine st_getf C dX4_isPartner_55 fl_X4_15 hk rfl ?_
  refine st_bipush C dX4_isPartner_58 (by decide) (by decide) ?_
  refine st_icmp_ne (tgt := 99) C dX4_isPartner_60 (by decide) (fun c_60 => ?_) (fun c_60 => by omega)
  refine st_iload_n C 3 dX4_isPartner_99 rfl rfl ?_
  refine st_iload C dX4_isPartner_100 rfl ?_
  refine st_icmp_ne (tgt := 122) C dX4_isPartner_102 (by decide) (fun c_102 => ?_) (fun c_102 => ?_)
  · refine st_iconst C dX4_isPartner_122 (by decide) ?_
    exact st_zreturn C F dX4_isPartner_123 rfl (by omega) (rt_i (by first | rfl | omega | exact absurd (by assumption) hP | exact absurd hP (by assumption) | exact absurd hP.1 (by assumption) | exact absurd hP.2 (by assumption) | exact absurd ⟨by assumption, by assumption⟩ hP | exact absurd (by assumption) hP.2) rfl) (by omega) (by omega)
  · refine st_aload_n C 2 dX4_isPartner_105 rfl rfl ?_
    refine st_aload_n C 1 dX4_isPartner_106 rfl rfl ?_
    refine st_getf C dX4_isPartner_107 fl_X4_59 hk rfl ?_
    refine st_iload C dX4_isPartner_110 rfl ?_
    refine st_callS (st := []) C dX4_isPartner_112 [vR r, vI b9, vI q9] (k_areaAt (f := rf) (l := b9) (p := q9) hr (by omega) (by omega)) w_X4_43 rfl (by decide) (by decide) (by omega) (by omega) (Nat.le_of_ble_eq_true rfl) (ko_rt ?_)
    show T x 115 [(0, vR c), (1, vR k), (2, vR r), (3, vI p9), (4, vI q9)] [vI (rf (64 * b9 + q9))] _ _ _
    refine st_if_eq (tgt := 122) C dX4_isPartner_115 (by decide) (fun c_115 => ?_) (fun c_115 => ?_)
    · refine st_iconst C dX4_isPartner_122 (by decide) ?_
      exact st_zreturn C F dX4_isPartner_123 rfl (by omega) (rt_i (by first | rfl | omega | exact absurd (by assumption) hP | exact absurd hP (by assumption) | exact absurd hP.1 (by assumption) | exact absurd hP.2 (by assumption) | exact absurd ⟨by assumption, by assumption⟩ hP | exact absurd (by assumption) hP.2) rfl) (by omega) (by omega)
    · refine st_iconst C dX4_isPartner_118 (by decide) ?_
      refine st_goto (tgt := 123) C dX4_isPartner_119 (by decide) ?_
      exact st_zreturn C F dX4_isPartner_123 rfl (by omega) (rt_i (by first | rfl | omega | exact absurd (by assumption) hP | exact absurd hP (by assumption) | exact absurd hP.1 (by assumption) | exact absurd hP.2 (by assumption) | exact absurd ⟨by assumption, by assumption⟩ hP | exact absurd (by assumption) hP.2) rfl) (by omega) (by omega)
set_option maxRecDepth 20000 in
set_option maxHeartbeats 4000000 in
theorem k_pBrokenx {g : Gx} {h : HP} {c G9 : Nat} {gf : Int → Int} {k : Nat} {a9 b9 : Int} {r : Nat} {rf : Int → Int} {p9 : Int} (hc : h c = some (oO 3 [vR G9])) (hG : h G9 = some (oI 64 gf)) (n1 : c ≠ G9) (hk : h k = some (oO 4 [vI 120, vI a9, vI b9])) (hr : h r = some (oI 304 rf)) (hp : 0 ≤ p9 ∧ p9 ≤ 63) (ha : 0 ≤ a9 ∧ a9 ≤ 2) (hb : 0 ≤ b9 ∧ b9 ≤ 2) (hP : ¬ (rf (64 * a9 + p9) ≠ 0 ∧ 0 < cnt (fun q9 => (p9 = q9 ∧ rf (64 * b9 + q9) ≠ 0)) 64)) : Ct g yX4_isBrokenAt (.code yX4_isBrokenAt cX4_isBrokenAt 6 (some .boolean)) 4 0 0 [vR c, vR k, vR r, vI p9] h (Rt (some (vI 0)) h) := by
  refine Ct.of (by decide) (Nat.le_of_ble_eq_true rfl) (fun x hg C F => ?_)
  subst hg
  show T x 0 [(0, vR c), (1, vR k), (2, vR r), (3, vI p9)] [] h 0 0
  refine st_iconst C dX4_isBrokenAt_0 (by decide) ?_
  refine st_istore C dX4_isBrokenAt_1 (by decide) rfl ?_
  show T x 3 [(0, vR c), (1, vR k), (2, vR r), (3, vI p9), (4, vI 0)] [] _ _ _
  refine st_iconst C dX4_isBrokenAt_3 (by decide) ?_
  refine st_istore C dX4_isBrokenAt_4 (by decide) rfl ?_
  show T x 6 [(0, vR c), (1, vR k), (2, vR r), (3, vI p9), (4, vI 0), (5, vI 0)] [] _ _ _
  have loop_6 : ∀ (n_6 : Nat) (c1 : Int) (i : Int), (0 ≤ i) → (i ≤ 64) → (0 ≤ c1 ∧ c1 ≤ i) → (c1 = cnt (fun q9 => (p9 = q9 ∧ rf (64 * b9 + q9) ≠ 0)) i) → (64 - i).toNat < n_6 → T x 6 [(0, vR c), (1, vR k), (2, vR r), (3, vI p9), (4, vI c1), (5, vI i)] [] h 0 0 := by
    intro n_6
    induction n_6 with
    | zero => intro c1 i g1 g2 g3 g4 hm_6; exact absurd hm_6 (Nat.not_lt_zero _)
    | succ n_6 ih_6 =>
      intro c1 i g1 g2 g3 g4 hm_6
      refine st_iload C dX4_isBrokenAt_6 rfl ?_
      refine st_bipush C dX4_isBrokenAt_8 (by decide) (by decide) ?_
      refine st_icmp_ge (tgt := 34) C dX4_isBrokenAt_10 (by decide) (fun c_10 => ?_) (fun c_10 => ?_)
      · refine st_aload_n C 1 dX4_isBrokenAt_34 rfl rfl ?_
        refine st_getf C dX4_isBrokenAt_35 fl_X4_15 hk rfl ?_
        refine st_bipush C dX4_isBrokenAt_38 (by decide) (by decide) ?_
        refine st_icmp_ne (tgt := 62) C dX4_isBrokenAt_40 (by decide) (fun c_40 => ?_) (fun c_40 => by omega)
        refine st_aload_n C 2 dX4_isBrokenAt_62 rfl rfl ?_
        refine st_aload_n C 1 dX4_isBrokenAt_63 rfl rfl ?_
        refine st_getf C dX4_isBrokenAt_64 fl_X4_21 hk rfl ?_
        refine st_iload_n C 3 dX4_isBrokenAt_67 rfl rfl ?_
        refine st_callS (st := []) C dX4_isBrokenAt_68 [vR r, vI a9, vI p9] (k_areaAt (f := rf) (l := a9) (p := p9) hr (by omega) (by omega)) w_X4_43 rfl (by decide) (by decide) (by omega) (by omega) (Nat.le_of_ble_eq_true rfl) (ko_rt ?_)
        show T x 71 [(0, vR c), (1, vR k), (2, vR r), (3, vI p9), (4, vI c1), (5, vI i)] [vI (rf (64 * a9 + p9))] _ _ _
        refine st_if_eq (tgt := 78) C dX4_isBrokenAt_71 (by decide) (fun c_71 => ?_) (fun c_71 => ?_)
        · refine st_iconst C dX4_isBrokenAt_78 (by decide) ?_
          refine st_istore C dX4_isBrokenAt_79 (by decide) rfl ?_
          show T x 81 [(0, vR c), (1, vR k), (2, vR r), (3, vI p9), (4, vI c1), (5, vI 0)] [] _ _ _
          refine st_aload_n C 1 dX4_isBrokenAt_81 rfl rfl ?_
          refine st_getf C dX4_isBrokenAt_82 fl_X4_15 hk rfl ?_
          refine st_bipush C dX4_isBrokenAt_85 (by decide) (by decide) ?_
          refine st_icmp_ne (tgt := 106) C dX4_isBrokenAt_87 (by decide) (fun c_87 => ?_) (fun c_87 => by omega)
          refine st_iload C dX4_isBrokenAt_106 rfl ?_
          refine st_if_eq (tgt := 137) C dX4_isBrokenAt_108 (by decide) (fun c_108 => ?_) (fun c_108 => by omega)
          refine st_iconst C dX4_isBrokenAt_137 (by decide) ?_
          exact st_zreturn C F dX4_isBrokenAt_138 rfl (by omega) (rt_i (by first | rfl | (exfalso; rw [← cntE g4 (show i = 64 by omega)] at hP; first | exact hP ⟨by assumption, by omega⟩ | omega)) rfl) (by omega) (by omega)
        · refine st_iconst C dX4_isBrokenAt_74 (by decide) ?_
          refine st_goto (tgt := 79) C dX4_isBrokenAt_75 (by decide) ?_
          refine st_istore C dX4_isBrokenAt_79 (by decide) rfl ?_
          show T x 81 [(0, vR c), (1, vR k), (2, vR r), (3, vI p9), (4, vI c1), (5, vI 1)] [] _ _ _
          refine st_aload_n C 1 dX4_isBrokenAt_81 rfl rfl ?_
          refine st_getf C dX4_isBrokenAt_82 fl_X4_15 hk rfl ?_
          refine st_bipush C dX4_isBrokenAt_85 (by decide) (by decide) ?_
          refine st_icmp_ne (tgt := 106) C dX4_isBrokenAt_87 (by decide) (fun c_87 => ?_) (fun c_87 => by omega)
          refine st_iload C dX4_isBrokenAt_106 rfl ?_
          refine st_if_eq (tgt := 137) C dX4_isBrokenAt_108 (by decide) (fun c_108 => by omega) (fun c_108 => ?_)
          refine st_aload_n C 1 dX4_isBrokenAt_111 rfl rfl ?_
          refine st_getf C dX4_isBrokenAt_112 fl_X4_15 hk rfl ?_
          refine st_bipush C dX4_isBrokenAt_115 (by decide) (by decide) ?_
          refine st_icmp_ne (tgt := 128) C dX4_isBrokenAt_117 (by decide) (fun c_117 => ?_) (fun c_117 => by omega)
          refine st_iload C dX4_isBrokenAt_128 rfl ?_
          refine st_if_le (tgt := 137) C dX4_isBrokenAt_130 (by decide) (fun c_130 => ?_) (fun c_130 => ?_)
          · refine st_iconst C dX4_isBrokenAt_137 (by decide) ?_
            exact st_zreturn C F dX4_isBrokenAt_138 rfl (by omega) (rt_i (by first | rfl | (exfalso; rw [← cntE g4 (show i = 64 by omega)] at hP; first | exact hP ⟨by assumption, by omega⟩ | omega)) rfl) (by omega) (by omega)
          · refine st_iconst C dX4_isBrokenAt_133 (by decide) ?_
            refine st_goto (tgt := 138) C dX4_isBrokenAt_134 (by decide) ?_
            exact st_zreturn C F dX4_isBrokenAt_138 rfl (by omega) (rt_i (by first | rfl | (exfalso; rw [← cntE g4 (show i = 64 by omega)] at hP; first | exact hP ⟨by assumption, by omega⟩ | omega)) rfl) (by omega) (by omega)
      · refine st_aload_n C 0 dX4_isBrokenAt_13 rfl rfl ?_
        refine st_aload_n C 1 dX4_isBrokenAt_14 rfl rfl ?_
        refine st_aload_n C 2 dX4_isBrokenAt_15 rfl rfl ?_
        refine st_iload_n C 3 dX4_isBrokenAt_16 rfl rfl ?_
        refine st_iload C dX4_isBrokenAt_17 rfl ?_
        by_cases b_19 : (p9 = i ∧ rf (64 * b9 + i) ≠ 0)
        · refine st_callV (st := []) C dX4_isBrokenAt_19 [vR k, vR r, vI p9, vI i] (k_partx_t (gf := gf) (a9 := a9) (b9 := b9) (rf := rf) (p9 := p9) (q9 := i) hc hG n1 hk hr (by omega) (by omega) (by omega) (by omega) b_19) hc w_X4_33 rfl (by decide) (by decide) (by omega) (by omega) (Nat.le_of_ble_eq_true rfl) (ko_rt ?_)
          show T x 22 [(0, vR c), (1, vR k), (2, vR r), (3, vI p9), (4, vI c1), (5, vI i)] [vI 1] _ _ _
          refine st_if_eq (tgt := 28) C dX4_isBrokenAt_22 (by decide) (fun c_22 => by omega) (fun c_22 => ?_)
          refine st_iinc C dX4_isBrokenAt_25 rfl (by decide) rfl ⟨(by omega), (by omega)⟩ ?_
          show T x 28 [(0, vR c), (1, vR k), (2, vR r), (3, vI p9), (4, vI (c1 + 1)), (5, vI i)] [] _ _ _
          refine st_iinc C dX4_isBrokenAt_28 rfl (by decide) rfl ⟨(by omega), (by omega)⟩ ?_
          show T x 31 [(0, vR c), (1, vR k), (2, vR r), (3, vI p9), (4, vI (c1 + 1)), (5, vI (i + 1))] [] _ _ _
          refine st_goto (tgt := 6) C dX4_isBrokenAt_31 (by decide) ?_
          exact ih_6 (c1 + 1) (i + 1) (by omega) (by omega) (by omega) (by first | exact cnt_t g1 (by assumption) g4 | exact cnt_f g1 (by assumption) g4) (by omega)
        · refine st_callV (st := []) C dX4_isBrokenAt_19 [vR k, vR r, vI p9, vI i] (k_partx_f (gf := gf) (a9 := a9) (b9 := b9) (rf := rf) (p9 := p9) (q9 := i) hc hG n1 hk hr (by omega) (by omega) (by omega) (by omega) b_19) hc w_X4_33 rfl (by decide) (by decide) (by omega) (by omega) (Nat.le_of_ble_eq_true rfl) (ko_rt ?_)
          show T x 22 [(0, vR c), (1, vR k), (2, vR r), (3, vI p9), (4, vI c1), (5, vI i)] [vI 0] _ _ _
          refine st_if_eq (tgt := 28) C dX4_isBrokenAt_22 (by decide) (fun c_22 => ?_) (fun c_22 => by omega)
          refine st_iinc C dX4_isBrokenAt_28 rfl (by decide) rfl ⟨(by omega), (by omega)⟩ ?_
          show T x 31 [(0, vR c), (1, vR k), (2, vR r), (3, vI p9), (4, vI c1), (5, vI (i + 1))] [] _ _ _
          refine st_goto (tgt := 6) C dX4_isBrokenAt_31 (by decide) ?_
          exact ih_6 c1 (i + 1) (by omega) (by omega) (by omega) (by first | exact cnt_t g1 (by assumption) g4 | exact cnt_f g1 (by assumption) g4) (by omega)
  exact loop_6 _ 0 0 (by omega) (by omega) (by omega) (cnt_0) (Nat.lt_succ_self _)
theorem nb_x {rf : Int → Int} {a9 b9 p9 : Int} (hp : 0 ≤ p9 ∧ p9 ≤ 63) (hR : RuleHolds 120 a9 b9 rf) : ¬ (rf (64 * a9 + p9) ≠ 0 ∧ 0 < cnt (fun q9 => (p9 = q9 ∧ rf (64 * b9 + q9) ≠ 0)) 64) := by
  intro z
  obtain ⟨q, q1, q2, q3, q4⟩ := cnt_ex z.2
  rw [← q3] at q4
  exact hR.1 p9 hp.1 hp.2 (Or.inr (Or.inr (Or.inr ⟨rfl, z.1, q4⟩)))
set_option maxRecDepth 20000 in
set_option maxHeartbeats 4000000 in
theorem k_pHoldsx {g : Gx} {h : HP} {c G9 : Nat} {gf : Int → Int} {k : Nat} {a9 b9 : Int} {r : Nat} {rf : Int → Int} (hc : h c = some (oO 3 [vR G9])) (hG : h G9 = some (oI 64 gf)) (n1 : c ≠ G9) (hk : h k = some (oO 4 [vI 120, vI a9, vI b9])) (hr : h r = some (oI 304 rf)) (ha : 0 ≤ a9 ∧ a9 ≤ 2) (hb : 0 ≤ b9 ∧ b9 ≤ 2) (n2 : r ≠ G9) (n3 : k ≠ G9) (hv : ∀ s, 0 ≤ s → s < 192 → 0 ≤ rf s ∧ rf s ≤ 9) (hR : RuleHolds 120 a9 b9 rf) : Ct g yX4_holds (.code yX4_holds cX4_holds 4 (some .boolean)) 5 0 0 [vR c, vR k, vR r] h (RtG (some (vI 1)) h G9 (fun _ => True)) := by
  refine Ct.of (by decide) (Nat.le_of_ble_eq_true rfl) (fun x hg C F => ?_)
  subst hg
  show T x 0 [(0, vR c), (1, vR k), (2, vR r)] [] h 0 0
  refine st_aload_n C 1 dX4_holds_0 rfl rfl ?_
  refine st_getf C dX4_holds_1 fl_X4_15 hk rfl ?_
  refine st_bipush C dX4_holds_4 (by decide) (by decide) ?_
  refine st_icmp_ne (tgt := 18) C dX4_holds_6 (by decide) (fun c_6 => ?_) (fun c_6 => by omega)
  refine st_iconst C dX4_holds_18 (by decide) ?_
  refine st_istore_n C 3 dX4_holds_19 rfl (by decide) rfl ?_
  show T x 20 [(0, vR c), (1, vR k), (2, vR r), (3, vI 0)] [] _ _ _
  have loop_20 : ∀ (n_20 : Nat) (i : Int), (0 ≤ i) → (i ≤ 64) → (64 - i).toNat < n_20 → T x 20 [(0, vR c), (1, vR k), (2, vR r), (3, vI i)] [] h 0 0 := by
    intro n_20
    induction n_20 with
    | zero => intro i g1 g2 hm_20; exact absurd hm_20 (Nat.not_lt_zero _)
    | succ n_20 ih_20 =>
      intro i g1 g2 hm_20
      refine st_iload_n C 3 dX4_holds_20 rfl rfl ?_
      refine st_bipush C dX4_holds_21 (by decide) (by decide) ?_
      refine st_icmp_ge (tgt := 44) C dX4_holds_23 (by decide) (fun c_23 => ?_) (fun c_23 => ?_)
      · refine st_iconst C dX4_holds_44 (by decide) ?_
        exact st_zreturn C F dX4_holds_45 rfl (by omega) ⟨_, rfl, (hput_self hG).symm, trivial⟩ (by omega) (by omega)
      · refine st_aload_n C 0 dX4_holds_26 rfl rfl ?_
        refine st_aload_n C 1 dX4_holds_27 rfl rfl ?_
        refine st_aload_n C 2 dX4_holds_28 rfl rfl ?_
        refine st_iload_n C 3 dX4_holds_29 rfl rfl ?_
        refine st_callV (st := []) C dX4_holds_30 [vR k, vR r, vI i] (k_pBrokenx (a9 := a9) (b9 := b9) (rf := rf) (gf := gf) (p9 := i) hc hG n1 hk hr (by omega) (by omega) (by omega) (nb_x (by omega) hR)) hc w_X4_29 rfl (by decide) (by decide) (by omega) (by omega) (Nat.le_of_ble_eq_true rfl) (ko_rt ?_)
        show T x 33 [(0, vR c), (1, vR k), (2, vR r), (3, vI i)] [vI 0] _ _ _
        refine st_if_eq (tgt := 38) C dX4_holds_33 (by decide) (fun c_33 => ?_) (fun c_33 => by omega)
        refine st_iinc C dX4_holds_38 rfl (by decide) rfl ⟨(by omega), (by omega)⟩ ?_
        show T x 41 [(0, vR c), (1, vR k), (2, vR r), (3, vI (i + 1))] [] _ _ _
        refine st_goto (tgt := 20) C dX4_holds_41 (by decide) ?_
        exact ih_20 (i + 1) (by omega) (by omega) (by omega)
  exact loop_20 _ 0 (by omega) (by omega) (Nat.lt_succ_self _)
theorem k_pHolds {g : Gx} {h : HP} {c G9 : Nat} {gf : Int → Int} {k : Nat} {a9 b9 : Int} {r : Nat} {rf : Int → Int} {k9 : Int} (hc : h c = some (oO 3 [vR G9])) (hG : h G9 = some (oI 64 gf)) (n1 : c ≠ G9) (hk : h k = some (oO 4 [vI k9, vI a9, vI b9])) (hr : h r = some (oI 304 rf)) (n2 : r ≠ G9) (n3 : k ≠ G9) (hv : ∀ s, 0 ≤ s → s < 192 → 0 ≤ rf s ∧ rf s ≤ 9) (hok : RuleOk k9 a9 b9) (hR : RuleHolds k9 a9 b9 rf) : Ct g yX4_holds (.code yX4_holds cX4_holds 4 (some .boolean)) 5 0 0 [vR c, vR k, vR r] h (RtG (some (vI 1)) h G9 (fun _ => True)) := by
  have hok2 := hok
  unfold RuleOk at hok2
  by_cases c1 : k9 = 119
  · subst c1; exact k_pHoldsw hc hG n1 hk hr (by omega) n2 n3 hv hR
  by_cases c2 : k9 = 109
  · subst c2; exact k_pHoldsm hc hG n1 hk hr n2 n3 hv hR
  by_cases c3 : k9 = 103
  · subst c3; exact k_pHoldsg hc hG n1 hk hr (by omega) n2 n3 hv hR
  by_cases c4 : k9 = 99
  · subst c4; exact k_pHoldsc hc hG n1 hk hr (by omega) (by omega) n2 n3 hv hR
  have c5 : k9 = 120 := by omega
  subst c5; exact k_pHoldsx hc hG n1 hk hr (by omega) (by omega) n2 n3 hv hR
